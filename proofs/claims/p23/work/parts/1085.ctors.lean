set_option maxHeartbeats 8000000 in
set_option maxRecDepth 20000 in
theorem ci_7_1 (l : Launch) (G : dkG) (hGd : dk_Gd G) (hGn : dk_Gn G) : dk_Ct l G dk_T0 yX7_init cX7_init 1 none 1 2 3 (fun av σ => av = [(4, 1)] ∧ dk_fsh σ 1) (fun _ σ r_ σ' => r_ = none ∧ dk_cp 1 2 3 σ σ') := by
  refine dk_enter hGd (by decide) (fun av σ hpre hok => ?_)
  obtain ⟨rfl, hF⟩ := hpre
  refine ⟨Nat.le_of_ble_eq_true rfl, fun E hE hR hI => ?_⟩
  have hi := hI rfl
  show dk_PJ E 0 [(4, 1)] [] 2 σ
  refine dk_aload_n (pc' := 1) hE dX7_init_0 rfl rfl rfl ?_
  refine dk_obj (pc' := 4) hE wd_135 wd_128 wc_obj dX7_init_1 (by decide) (by decide) rfl ?_
  refine dk_aload_n (pc' := 5) hE dX7_init_4 rfl rfl rfl ?_
  refine dk_sipush (pc' := 8) hE dX7_init_5 (by decide) rfl ?_
  refine dk_newa (ay := .byte) (pc' := 10) (n' := 3) (S := 20) (tc := 1) (len := 1400) hE wa_byte rfl (by decide) dX7_init_8 rfl rfl (by decide) rfl (by decide) ⟨by decide, by rw [tt_2, tt_3] <;> decide, by rw [tt_2] <;> decide, by rw [tt_3, tt_2]⟩ (by decide) rfl (fun σ1 eσ1 => ?_)
  refine dk_putF (pc' := 13) hE fl_X7_11 dX7_init_10 hi ⟨_, rfl, rfl⟩ ⟨by decide, by decide, by decide⟩ rfl (fun _ => trivial) trivial rfl ?_
  obtain ⟨σ2, eσ2⟩ : ∃ q : dkS, q = dk_up σ1 1 0 2 := ⟨_, rfl⟩
  show dk_PJ E 13 [(4, 1)] [] 3 (dk_up σ1 1 0 2)
  rw [← eσ2]
  refine dk_aload_n (pc' := 14) hE dX7_init_13 rfl rfl rfl ?_
  refine dk_iconst (pc' := 15) hE dX7_init_14 (by decide) rfl ?_
  refine dk_putf (pc' := 18) hE fl_X7_15 dX7_init_15 ⟨by decide, by decide, by decide⟩ rfl (fun h => h.1 rfl) trivial rfl ?_
  obtain ⟨σ3, eσ3⟩ : ∃ q : dkS, q = dk_up σ2 1 1 0 := ⟨_, rfl⟩
  show dk_PJ E 18 [(4, 1)] [] 3 (dk_up σ2 1 1 0)
  rw [← eσ3]
  have hT1 : ∀ j : Nat, j < dk_len (dk_site 1) → dk_Ty 1 j (σ3 1 j) := fun j hj => by
    have hj : j < 2 := hj
    rcases (show j = 0 ∨ j = 1 by omega) with rfl | rfl
    · exact (ty_7_0 is_1).mpr (by rw [show σ3 1 ((0 : Nat) : Int) = 2 from (show σ3 1 0 = 2 by rw [eσ3, dk_up_n (by decide), eσ2, dk_up_s])] <;> decide)
    · exact (ty_7_1 is_1).mpr (by rw [show σ3 1 ((1 : Nat) : Int) = 0 from (show σ3 1 1 = 0 by rw [eσ3, dk_up_s])] <;> decide)
  have hS2 : ∀ j : Nat, j < dk_len (dk_site 2) → dk_Ty 2 j (σ3 2 j) := fun j hj => by
    exact (ta_20 is_2).mpr trivial
  refine dk_vret (st := []) hE hR dX7_init_18 ⟨rfl, ⟨fun a j h1 h2 => by rw [eσ3, dk_up_k (show a ≠ 1 by omega), eσ2, dk_up_k (show a ≠ 1 by omega), eσ1, dk_nw_n (show a ≠ 2 by omega)], fun a ha j hj => ?_⟩⟩
  by_cases q1 : a = 1
  · subst q1; exact hT1 j hj
  by_cases q2 : a = 2
  · subst q2; exact hS2 j hj
  exfalso; omega
set_option maxHeartbeats 8000000 in
set_option maxRecDepth 20000 in
theorem ci_9_6 (l : Launch) (G : dkG) (hGd : dk_Gd G) (hGn : dk_Gn G) : dk_Ct l G dk_T0 yX9_init cX9_init 5 none 5 7 8 (fun av σ => av = [(4, 6), (4, 1)] ∧ dk_fsh σ 6) (fun _ σ r_ σ' => r_ = none ∧ dk_cp 6 7 8 σ σ') := by
  refine dk_enter hGd (by decide) (fun av σ hpre hok => ?_)
  obtain ⟨rfl, hF⟩ := hpre
  refine ⟨Nat.le_of_ble_eq_true rfl, fun E hE hR hI => ?_⟩
  have hi := hI rfl
  show dk_PJ E 0 [(4, 6), (4, 1), (9, 0), (9, 0), (9, 0)] [] 7 σ
  refine dk_aload_n (pc' := 1) hE dX9_init_0 rfl rfl rfl ?_
  refine dk_obj (pc' := 4) hE wd_153 wd_128 wc_obj dX9_init_1 (by decide) (by decide) rfl ?_
  refine dk_aload_n (pc' := 5) hE dX9_init_4 rfl rfl rfl ?_
  refine dk_aload_n (pc' := 6) hE dX9_init_5 rfl rfl rfl ?_
  refine dk_putF (pc' := 9) hE fl_X9_7 dX9_init_6 hi ⟨_, rfl, rfl⟩ ⟨by decide, by decide, by decide⟩ rfl (fun _ => trivial) trivial rfl ?_
  obtain ⟨σ1, eσ1⟩ : ∃ q : dkS, q = dk_up σ 6 0 1 := ⟨_, rfl⟩
  show dk_PJ E 9 [(4, 6), (4, 1), (9, 0), (9, 0), (9, 0)] [] 7 (dk_up σ 6 0 1)
  rw [← eσ1]
  refine dk_aload_n (pc' := 10) hE dX9_init_9 rfl rfl rfl ?_
  refine dk_bipush (pc' := 12) hE dX9_init_10 (by decide) rfl ?_
  refine dk_newa (ay := .long) (pc' := 14) (n' := 8) (S := 23) (tc := 3) (len := 21) hE wa_long rfl (by decide) dX9_init_12 rfl rfl (by decide) rfl (by decide) ⟨by decide, by rw [tt_7, tt_8] <;> decide, by rw [tt_7] <;> decide, by rw [tt_8, tt_7]⟩ (by decide) rfl (fun σ2 eσ2 => ?_)
  refine dk_putF (pc' := 17) hE fl_X9_13 dX9_init_14 hi ⟨_, rfl, rfl⟩ ⟨by decide, by decide, by decide⟩ rfl (fun _ => trivial) trivial rfl ?_
  obtain ⟨σ3, eσ3⟩ : ∃ q : dkS, q = dk_up σ2 6 1 7 := ⟨_, rfl⟩
  show dk_PJ E 17 [(4, 6), (4, 1), (9, 0), (9, 0), (9, 0)] [] 8 (dk_up σ2 6 1 7)
  rw [← eσ3]
  refine dk_iconst (pc' := 18) hE dX9_init_17 (by decide) rfl ?_
  refine dk_istore_n (pc' := 19) (ls' := [(4, 6), (4, 1), (0, 0), (9, 0), (9, 0)]) hE dX9_init_18 rfl rfl (by decide) rfl ?_
  refine dk_iconst (pc' := 20) hE dX9_init_19 (by decide) rfl ?_
  refine dk_istore_n (pc' := 21) (ls' := [(4, 6), (4, 1), (0, 0), (0, 0), (9, 0)]) hE dX9_init_20 rfl rfl (by decide) rfl ?_
  have lp : ∀ (N_ : Nat) (w i : Int) (σc : dkS), (103 - i).toNat < N_ → (∀ k j : Int, k ≠ 7 → σc k j = σ3 k j) → 0 ≤ w → w ≤ i → 0 ≤ i → i ≤ 102 → dk_PJ E 21 [(4, 6), (4, 1), (0, w), (0, i), (9, 0)] [] 8 σc := by
    intro N_
    induction N_ with
    | zero => intro w i σc hm; exact absurd hm (Nat.not_lt_zero _)
    | succ N_ ih =>
      intro w i σc hm hFr hw hwi hi0 hi2
      have e67 : σc 6 1 = 7 := by rw [hFr 6 1 (by decide), eσ3, dk_up_s]
      refine dk_iload_n (pc' := 22) hE dX9_init_21 rfl rfl rfl ?_
      refine dk_strT17 (pc' := 24) hE rfl dX9_init_22 rfl ?_
      refine dk_invW (pc' := 27) (as := []) hE lk_X9_19 (c0_J0_length_8abf5 l G hGd (-10)) dX9_init_24 rfl (by omega) rfl (by decide) (Nat.le_of_ble_eq_true rfl) ⟨by decide, by rw [tt_8, tt_7]; decide⟩ (fun _ => by decide) ⟨by rw [tt_8, tt_7]; decide, Nat.le_refl _⟩ ⟨rfl, (by omega)⟩ rfl (fun r1 s1 hr1 _ => ?_)
      obtain ⟨v1, rfl, hf1, hp1⟩ := hr1
      have hs1 : σc = s1 := (funext (fun k => funext (fun j => hf1 k j not_false))).symm
      subst hs1
      have hv1 : v1 = 102 := hp1
      subst hv1
      refine dk_icmp_ge (tgt := 80) (pc' := 30) hE dX9_init_27 (by decide) rfl (fun hc1 => ?_) (fun hc1 => ?_)
      · skip
        have hT6 : ∀ j : Nat, j < dk_len (dk_site 6) → dk_Ty 6 j (σc 6 j) := fun j hj => by
          have hj : j < 8 := hj
          rcases (show j = 0 ∨ j = 1 ∨ j = 2 ∨ j = 3 ∨ j = 4 ∨ j = 5 ∨ j = 6 ∨ j = 7 by omega) with rfl | rfl | rfl | rfl | rfl | rfl | rfl | rfl
          · exact (ty_9_0 is_6).mpr (by rw [show σc 6 ((0 : Nat) : Int) = 1 from (show σc 6 0 = 1 by rw [hFr 6 0 (by decide), eσ3, dk_up_n (by decide), eσ2, dk_nw_n (by decide), eσ1, dk_up_s])] <;> decide)
          · exact (ty_9_1 is_6).mpr (by rw [show σc 6 ((1 : Nat) : Int) = 7 from (show σc 6 1 = 7 by rw [hFr 6 1 (by decide), eσ3, dk_up_s])] <;> decide)
          · exact (ty_9_2 is_6).mpr (by rw [show σc 6 ((2 : Nat) : Int) = 0 from (show σc 6 2 = 0 by rw [hFr 6 2 (by decide), eσ3, dk_up_n (by decide), eσ2, dk_nw_n (by decide), eσ1, dk_up_n (by decide), hF, show dk_dz (dk_stc (dk_site 6) (2 : Int).toNat) = 0 from rfl])] <;> decide)
          · exact (ty_9_3 is_6).mpr (by rw [show σc 6 ((3 : Nat) : Int) = 0 from (show σc 6 3 = 0 by rw [hFr 6 3 (by decide), eσ3, dk_up_n (by decide), eσ2, dk_nw_n (by decide), eσ1, dk_up_n (by decide), hF, show dk_dz (dk_stc (dk_site 6) (3 : Int).toNat) = 0 from rfl])] <;> decide)
          · exact (ty_9_4 is_6).mpr (by rw [show σc 6 ((4 : Nat) : Int) = 0 from (show σc 6 4 = 0 by rw [hFr 6 4 (by decide), eσ3, dk_up_n (by decide), eσ2, dk_nw_n (by decide), eσ1, dk_up_n (by decide), hF, show dk_dz (dk_stc (dk_site 6) (4 : Int).toNat) = 0 from rfl])] <;> decide)
          · exact (ty_9_5 is_6).mpr (by rw [show σc 6 ((5 : Nat) : Int) = 0 from (show σc 6 5 = 0 by rw [hFr 6 5 (by decide), eσ3, dk_up_n (by decide), eσ2, dk_nw_n (by decide), eσ1, dk_up_n (by decide), hF, show dk_dz (dk_stc (dk_site 6) (5 : Int).toNat) = 0 from rfl])] <;> decide)
          · exact (ty_9_6 is_6).mpr (by rw [show σc 6 ((6 : Nat) : Int) = 0 from (show σc 6 6 = 0 by rw [hFr 6 6 (by decide), eσ3, dk_up_n (by decide), eσ2, dk_nw_n (by decide), eσ1, dk_up_n (by decide), hF, show dk_dz (dk_stc (dk_site 6) (6 : Int).toNat) = 0 from rfl])] <;> decide)
          · exact (ty_9_7 is_6).mpr trivial
        refine dk_vret (st := []) hE hR dX9_init_80 ⟨rfl, ⟨fun a j h1 h2 => by rw [hFr a j (by omega), eσ3, dk_up_k (show a ≠ 6 by omega), eσ2, dk_nw_n (show a ≠ 7 by omega), eσ1, dk_up_k (show a ≠ 6 by omega)], fun a ha j hj => ?_⟩⟩
        by_cases q6 : a = 6
        · subst q6; exact hT6 j hj
        have q7 : a = 7 := by omega
        subst q7
        exact (ta_23 is_7).mpr trivial
      · skip
        refine dk_strT17 (pc' := 32) hE rfl dX9_init_30 rfl ?_
        refine dk_iload_n (pc' := 33) hE dX9_init_32 rfl rfl rfl ?_
        refine dk_invW (pc' := 36) (as := [(0, i)]) hE lk_X9_25 (c0_J0_charAt_5068e l G hGd (-10) i) dX9_init_33 rfl (by omega) rfl (by decide) (Nat.le_of_ble_eq_true rfl) ⟨by decide, by rw [tt_8, tt_7]; decide⟩ (fun _ => by decide) ⟨by rw [tt_8, tt_7]; decide, Nat.le_refl _⟩ ⟨rfl, (by omega), (show 0 ≤ i ∧ i < 102 by omega)⟩ rfl (fun r2 s2 hr2 _ => ?_)
        obtain ⟨v2, rfl, hf2, hp2⟩ := hr2
        have hs2 : σc = s2 := (funext (fun k => funext (fun j => hf2 k j not_false))).symm
        subst hs2
        refine dk_istore (pc' := 38) (ls' := [(4, 6), (4, 1), (0, w), (0, i), (0, v2)]) hE dX9_init_36 rfl (by decide) rfl ?_
        refine dk_iload (pc' := 40) hE dX9_init_38 rfl rfl ?_
        refine dk_bipush (pc' := 42) hE dX9_init_40 (by decide) rfl ?_
        have go : ∀ (w2 : Int) (σd : dkS), (∀ k j : Int, k ≠ 7 → σd k j = σ3 k j) → 0 ≤ w2 → w2 ≤ i + 1 → dk_PJ E 74 [(4, 6), (4, 1), (0, w2), (0, i), (0, v2)] [] 8 σd := by
          intro w2 σd hFd hw2 hw3
          refine dk_iinc (pc' := 77) (ls' := [(4, 6), (4, 1), (0, w2), (0, (i + 1)), (0, v2)]) hE dX9_init_74 rfl rfl (by omega) rfl (by decide) rfl ?_
          refine dk_goto (tgt := 21) hE dX9_init_77 (by decide) ?_
          refine dk_drop (ls' := [(4, 6), (4, 1), (0, w2), (0, (i + 1)), (9, 0)]) [true, true, true, true, false] rfl ?_
          exact ih w2 (i + 1) σd (by omega) hFd hw2 (by omega) (by omega) (by omega)
        refine dk_icmp_ne (tgt := 51) (pc' := 45) hE dX9_init_42 (by decide) rfl (fun hc2 => ?_) (fun hc2 => ?_)
        · skip
          refine dk_iload_n (pc' := 52) hE dX9_init_51 rfl rfl rfl ?_
          refine dk_bipush (pc' := 54) hE dX9_init_52 (by decide) rfl ?_
          refine dk_icmp_ge (tgt := 74) (pc' := 57) hE dX9_init_54 (by decide) rfl (fun hc3 => ?_) (fun hc3 => ?_)
          · exact go w σc hFr hw (by omega)
          · skip
            refine dk_aload_n (pc' := 58) hE dX9_init_57 rfl rfl rfl ?_
            refine dk_getf (pc' := 61) hE fl_X9_13 dX9_init_58 ⟨by decide, by decide, by decide⟩ rfl rfl (fun _ _ => ?_)
            rw [show σc 6 ((1 : Nat) : Int) = 7 from e67]
            refine dk_iload_n (pc' := 62) hE dX9_init_61 rfl rfl rfl ?_
            refine dk_aload_n (pc' := 63) hE dX9_init_62 rfl rfl rfl ?_
            refine dk_getf (pc' := 66) hE fl_X9_13 dX9_init_63 ⟨by decide, by decide, by decide⟩ rfl rfl (fun _ _ => ?_)
            rw [show σc 6 ((1 : Nat) : Int) = 7 from e67]
            refine dk_iload_n (pc' := 67) hE dX9_init_66 rfl rfl rfl ?_
            refine dk_lald (pc' := 68) (S := 23) (len := 21) hE dX9_init_67 ⟨by decide, by decide, by decide⟩ rfl ⟨by omega, by omega⟩ rfl (fun _ _ => ?_)
            refine dk_iload (pc' := 70) hE dX9_init_68 rfl rfl ?_
            refine dk_invS (pc' := 73) (as := [(3, σc 7 w), (0, v2)]) hE lk_X9_29 (c0_X9_withLetter l G hGd (σc 7 w) v2) dX9_init_70 rfl rfl (by decide) (Nat.le_of_ble_eq_true rfl) ⟨by decide, by rw [tt_8, tt_7]; decide⟩ (fun _ => by decide) ⟨by rw [tt_8, tt_7]; decide, Nat.le_refl _⟩ rfl rfl (fun r3 s3 hr3 ho3 => ?_)
            obtain ⟨v3, rfl, hf3, hp3⟩ := hr3
            have hs3 : σc = s3 := (funext (fun k => funext (fun j => hf3 k j not_false))).symm
            subst hs3
            refine dk_last (pc' := 74) (S := 23) (len := 21) hE dX9_init_73 ⟨by decide, by decide, by decide⟩ rfl ⟨by omega, by omega⟩ (fun h => h.2 rfl) trivial rfl ?_
            exact go w _ (fun k j h => by rw [dk_up_k h]; exact hFr k j h) hw (by omega)
        · skip
          refine dk_iinc (pc' := 48) (ls' := [(4, 6), (4, 1), (0, (w + 1)), (0, i), (0, v2)]) hE dX9_init_45 rfl rfl (by omega) rfl (by decide) rfl ?_
          refine dk_goto (tgt := 74) hE dX9_init_48 (by decide) ?_
          exact go (w + 1) σc hFr (by omega) (by omega)
  exact lp _ 0 0 σ3 (Nat.lt_succ_self _) (fun _ _ _ => rfl) (by decide) (by decide) (by decide) (by decide)
set_option maxHeartbeats 8000000 in
set_option maxRecDepth 20000 in
theorem ci_5_8 (l : Launch) (G : dkG) (hGd : dk_Gd G) (hGn : dk_Gn G) : dk_Ct l G dk_T0 yX5_init cX5_init 2 none 1 9 10 (fun av σ => av = [(4, 8), (4, 6)] ∧ dk_fsh σ 8) (fun _ σ r_ σ' => r_ = none ∧ dk_cp 8 9 10 σ σ') := by
  refine dk_enter hGd (by decide) (fun av σ hpre hok => ?_)
  obtain ⟨rfl, hF⟩ := hpre
  refine ⟨Nat.le_of_ble_eq_true rfl, fun E hE hR hI => ?_⟩
  have hi := hI rfl
  show dk_PJ E 0 [(4, 8), (4, 6)] [] 9 σ
  refine dk_aload_n (pc' := 1) hE dX5_init_0 rfl rfl rfl ?_
  refine dk_obj (pc' := 4) hE wd_246 wd_128 wc_obj dX5_init_1 (by decide) (by decide) rfl ?_
  refine dk_aload_n (pc' := 5) hE dX5_init_4 rfl rfl rfl ?_
  refine dk_bipush (pc' := 7) hE dX5_init_5 (by decide) rfl ?_
  refine dk_newa (ay := .long) (pc' := 9) (n' := 10) (S := 24) (tc := 3) (len := 16) hE wa_long rfl (by decide) dX5_init_7 rfl rfl (by decide) rfl (by decide) ⟨by decide, by rw [tt_9, tt_10] <;> decide, by rw [tt_9] <;> decide, by rw [tt_10, tt_9]⟩ (by decide) rfl (fun σ1 eσ1 => ?_)
  refine dk_putF (pc' := 12) hE fl_X5_11 dX5_init_9 hi ⟨_, rfl, rfl⟩ ⟨by decide, by decide, by decide⟩ rfl (fun _ => trivial) trivial rfl ?_
  obtain ⟨σ2, eσ2⟩ : ∃ q : dkS, q = dk_up σ1 8 1 9 := ⟨_, rfl⟩
  show dk_PJ E 12 [(4, 8), (4, 6)] [] 10 (dk_up σ1 8 1 9)
  rw [← eσ2]
  refine dk_aload_n (pc' := 13) hE dX5_init_12 rfl rfl rfl ?_
  refine dk_aload_n (pc' := 14) hE dX5_init_13 rfl rfl rfl ?_
  refine dk_putF (pc' := 17) hE fl_X5_17 dX5_init_14 hi ⟨_, rfl, rfl⟩ ⟨by decide, by decide, by decide⟩ rfl (fun _ => trivial) trivial rfl ?_
  obtain ⟨σ3, eσ3⟩ : ∃ q : dkS, q = dk_up σ2 8 0 6 := ⟨_, rfl⟩
  show dk_PJ E 17 [(4, 8), (4, 6)] [] 10 (dk_up σ2 8 0 6)
  rw [← eσ3]
  have hT8 : ∀ j : Nat, j < dk_len (dk_site 8) → dk_Ty 8 j (σ3 8 j) := fun j hj => by
    have hj : j < 7 := hj
    rcases (show j = 0 ∨ j = 1 ∨ j = 2 ∨ j = 3 ∨ j = 4 ∨ j = 5 ∨ j = 6 by omega) with rfl | rfl | rfl | rfl | rfl | rfl | rfl
    · exact (ty_5_0 is_8).mpr (by rw [show σ3 8 ((0 : Nat) : Int) = 6 from (show σ3 8 0 = 6 by rw [eσ3, dk_up_s])] <;> decide)
    · exact (ty_5_1 is_8).mpr (by rw [show σ3 8 ((1 : Nat) : Int) = 9 from (show σ3 8 1 = 9 by rw [eσ3, dk_up_n (by decide), eσ2, dk_up_s])] <;> decide)
    · exact (ty_5_2 is_8).mpr (by rw [show σ3 8 ((2 : Nat) : Int) = 0 from (show σ3 8 2 = 0 by rw [eσ3, dk_up_n (by decide), eσ2, dk_up_n (by decide), eσ1, dk_nw_n (by decide), hF, show dk_dz (dk_stc (dk_site 8) (2 : Int).toNat) = 0 from rfl])] <;> decide)
    · exact (ty_5_3 is_8).mpr trivial
    · exact (ty_5_4 is_8).mpr (by rw [show σ3 8 ((4 : Nat) : Int) = (-1) from (show σ3 8 4 = (-1) by rw [eσ3, dk_up_n (by decide), eσ2, dk_up_n (by decide), eσ1, dk_nw_n (by decide), hF, show dk_dz (dk_stc (dk_site 8) (4 : Int).toNat) = (-1) from rfl])] <;> decide)
    · exact (ty_5_5 is_8).mpr trivial
    · exact (ty_5_6 is_8).mpr trivial
  have hS9 : ∀ j : Nat, j < dk_len (dk_site 9) → dk_Ty 9 j (σ3 9 j) := fun j hj => by
    exact (ta_24 is_9).mpr trivial
  refine dk_vret (st := []) hE hR dX5_init_17 ⟨rfl, ⟨fun a j h1 h2 => by rw [eσ3, dk_up_k (show a ≠ 8 by omega), eσ2, dk_up_k (show a ≠ 8 by omega), eσ1, dk_nw_n (show a ≠ 9 by omega)], fun a ha j hj => ?_⟩⟩
  by_cases q8 : a = 8
  · subst q8; exact hT8 j hj
  by_cases q9 : a = 9
  · subst q9; exact hS9 j hj
  exfalso; omega
set_option maxHeartbeats 8000000 in
set_option maxRecDepth 20000 in
theorem ci_2_10 (l : Launch) (G : dkG) (hGd : dk_Gd G) (hGn : dk_Gn G) : dk_Ct l G dk_T0 yX2_init cX2_init 2 none 1 11 12 (fun av σ => av = [(4, 10), (4, 6)] ∧ dk_fsh σ 10) (fun _ σ r_ σ' => r_ = none ∧ dk_cp 10 11 12 σ σ') := by
  refine dk_enter hGd (by decide) (fun av σ hpre hok => ?_)
  obtain ⟨rfl, hF⟩ := hpre
  refine ⟨Nat.le_of_ble_eq_true rfl, fun E hE hR hI => ?_⟩
  have hi := hI rfl
  show dk_PJ E 0 [(4, 10), (4, 6)] [] 11 σ
  refine dk_aload_n (pc' := 1) hE dX2_init_0 rfl rfl rfl ?_
  refine dk_obj (pc' := 4) hE wd_276 wd_128 wc_obj dX2_init_1 (by decide) (by decide) rfl ?_
  refine dk_aload_n (pc' := 5) hE dX2_init_4 rfl rfl rfl ?_
  refine dk_bipush (pc' := 7) hE dX2_init_5 (by decide) rfl ?_
  refine dk_newa (ay := .int) (pc' := 9) (n' := 12) (S := 25) (tc := 0) (len := 48) hE wa_int rfl (by decide) dX2_init_7 rfl rfl (by decide) rfl (by decide) ⟨by decide, by rw [tt_11, tt_12] <;> decide, by rw [tt_11] <;> decide, by rw [tt_12, tt_11]⟩ (by decide) rfl (fun σ1 eσ1 => ?_)
  refine dk_putF (pc' := 12) hE fl_X2_11 dX2_init_9 hi ⟨_, rfl, rfl⟩ ⟨by decide, by decide, by decide⟩ rfl (fun _ => trivial) trivial rfl ?_
  obtain ⟨σ2, eσ2⟩ : ∃ q : dkS, q = dk_up σ1 10 1 11 := ⟨_, rfl⟩
  show dk_PJ E 12 [(4, 10), (4, 6)] [] 12 (dk_up σ1 10 1 11)
  rw [← eσ2]
  refine dk_aload_n (pc' := 13) hE dX2_init_12 rfl rfl rfl ?_
  refine dk_aload_n (pc' := 14) hE dX2_init_13 rfl rfl rfl ?_
  refine dk_putF (pc' := 17) hE fl_X2_15 dX2_init_14 hi ⟨_, rfl, rfl⟩ ⟨by decide, by decide, by decide⟩ rfl (fun _ => trivial) trivial rfl ?_
  obtain ⟨σ3, eσ3⟩ : ∃ q : dkS, q = dk_up σ2 10 0 6 := ⟨_, rfl⟩
  show dk_PJ E 17 [(4, 10), (4, 6)] [] 12 (dk_up σ2 10 0 6)
  rw [← eσ3]
  have hT10 : ∀ j : Nat, j < dk_len (dk_site 10) → dk_Ty 10 j (σ3 10 j) := fun j hj => by
    have hj : j < 8 := hj
    rcases (show j = 0 ∨ j = 1 ∨ j = 2 ∨ j = 3 ∨ j = 4 ∨ j = 5 ∨ j = 6 ∨ j = 7 by omega) with rfl | rfl | rfl | rfl | rfl | rfl | rfl | rfl
    · exact (ty_2_0 is_10).mpr (by rw [show σ3 10 ((0 : Nat) : Int) = 6 from (show σ3 10 0 = 6 by rw [eσ3, dk_up_s])] <;> decide)
    · exact (ty_2_1 is_10).mpr (by rw [show σ3 10 ((1 : Nat) : Int) = 11 from (show σ3 10 1 = 11 by rw [eσ3, dk_up_n (by decide), eσ2, dk_up_s])] <;> decide)
    · exact (ty_2_2 is_10).mpr (by rw [show σ3 10 ((2 : Nat) : Int) = 0 from (show σ3 10 2 = 0 by rw [eσ3, dk_up_n (by decide), eσ2, dk_up_n (by decide), eσ1, dk_nw_n (by decide), hF, show dk_dz (dk_stc (dk_site 10) (2 : Int).toNat) = 0 from rfl])] <;> decide)
    · exact (ty_2_3 is_10).mpr trivial
    · exact (ty_2_4 is_10).mpr (by rw [show σ3 10 ((4 : Nat) : Int) = 0 from (show σ3 10 4 = 0 by rw [eσ3, dk_up_n (by decide), eσ2, dk_up_n (by decide), eσ1, dk_nw_n (by decide), hF, show dk_dz (dk_stc (dk_site 10) (4 : Int).toNat) = 0 from rfl])] <;> decide)
    · exact (ty_2_5 is_10).mpr (by rw [show σ3 10 ((5 : Nat) : Int) = (-1) from (show σ3 10 5 = (-1) by rw [eσ3, dk_up_n (by decide), eσ2, dk_up_n (by decide), eσ1, dk_nw_n (by decide), hF, show dk_dz (dk_stc (dk_site 10) (5 : Int).toNat) = (-1) from rfl])] <;> decide)
    · exact (ty_2_6 is_10).mpr trivial
    · exact (ty_2_7 is_10).mpr trivial
  have hS11 : ∀ j : Nat, j < dk_len (dk_site 11) → dk_Ty 11 j (σ3 11 j) := fun j hj => by
    have e_ : σ3 11 (j : Int) = 0 := by rw [eσ3, dk_up_k (show 11 ≠ 10 by decide), eσ2, dk_up_k (show 11 ≠ 10 by decide), eσ1, dk_nw_s, show ∀ q : Nat, dk_dz (dk_stc (dk_site 11) q) = 0 from fun q => rfl]
    exact (ta_25 is_11).mpr (by rw [e_] <;> decide)
  refine dk_vret (st := []) hE hR dX2_init_17 ⟨rfl, ⟨fun a j h1 h2 => by rw [eσ3, dk_up_k (show a ≠ 10 by omega), eσ2, dk_up_k (show a ≠ 10 by omega), eσ1, dk_nw_n (show a ≠ 11 by omega)], fun a ha j hj => ?_⟩⟩
  by_cases q10 : a = 10
  · subst q10; exact hT10 j hj
  by_cases q11 : a = 11
  · subst q11; exact hS11 j hj
  exfalso; omega
set_option maxHeartbeats 8000000 in
set_option maxRecDepth 20000 in
theorem ci_3_13 (l : Launch) (G : dkG) (hGd : dk_Gd G) (hGn : dk_Gn G) : dk_Ct l G dk_T0 yX3_init cX3_init 1 none 1 14 17 (fun av σ => av = [(4, 13)] ∧ dk_fsh σ 13) (fun _ σ r_ σ' => r_ = none ∧ dk_cp 13 14 17 σ σ') := by
  refine dk_enter hGd (by decide) (fun av σ hpre hok => ?_)
  obtain ⟨rfl, hF⟩ := hpre
  refine ⟨Nat.le_of_ble_eq_true rfl, fun E hE hR hI => ?_⟩
  have hi := hI rfl
  show dk_PJ E 0 [(4, 13)] [] 14 σ
  refine dk_aload_n (pc' := 1) hE dX3_init_0 rfl rfl rfl ?_
  refine dk_obj (pc' := 4) hE wd_310 wd_128 wc_obj dX3_init_1 (by decide) (by decide) rfl ?_
  refine dk_aload_n (pc' := 5) hE dX3_init_4 rfl rfl rfl ?_
  refine dk_sipush (pc' := 8) hE dX3_init_5 (by decide) rfl ?_
  refine dk_newa (ay := .int) (pc' := 10) (n' := 15) (S := 27) (tc := 0) (len := 320) hE wa_int rfl (by decide) dX3_init_8 rfl rfl (by decide) rfl (by decide) ⟨by decide, by rw [tt_14, tt_17] <;> decide, by rw [tt_14] <;> decide, by rw [tt_15, tt_14]⟩ (by decide) rfl (fun σ1 eσ1 => ?_)
  refine dk_putF (pc' := 13) hE fl_X3_11 dX3_init_10 hi ⟨_, rfl, rfl⟩ ⟨by decide, by decide, by decide⟩ rfl (fun _ => trivial) trivial rfl ?_
  obtain ⟨σ2, eσ2⟩ : ∃ q : dkS, q = dk_up σ1 13 0 14 := ⟨_, rfl⟩
  show dk_PJ E 13 [(4, 13)] [] 15 (dk_up σ1 13 0 14)
  rw [← eσ2]
  refine dk_aload_n (pc' := 14) hE dX3_init_13 rfl rfl rfl ?_
  refine dk_iconst (pc' := 15) hE dX3_init_14 (by decide) rfl ?_
  refine dk_newa (ay := .int) (pc' := 17) (n' := 16) (S := 28) (tc := 0) (len := 3) hE wa_int rfl (by decide) dX3_init_15 rfl rfl (by decide) rfl (by decide) ⟨by decide, by rw [tt_15, tt_14, tt_17] <;> decide, by rw [tt_14, tt_15] <;> decide, by rw [tt_16, tt_15]⟩ (by decide) rfl (fun σ3 eσ3 => ?_)
  refine dk_putF (pc' := 20) hE fl_X3_15 dX3_init_17 hi ⟨_, rfl, rfl⟩ ⟨by decide, by decide, by decide⟩ rfl (fun _ => trivial) trivial rfl ?_
  obtain ⟨σ4, eσ4⟩ : ∃ q : dkS, q = dk_up σ3 13 1 15 := ⟨_, rfl⟩
  show dk_PJ E 20 [(4, 13)] [] 16 (dk_up σ3 13 1 15)
  rw [← eσ4]
  refine dk_aload_n (pc' := 21) hE dX3_init_20 rfl rfl rfl ?_
  refine dk_iconst (pc' := 22) hE dX3_init_21 (by decide) rfl ?_
  refine dk_newa (ay := .int) (pc' := 24) (n' := 17) (S := 29) (tc := 0) (len := 3) hE wa_int rfl (by decide) dX3_init_22 rfl rfl (by decide) rfl (by decide) ⟨by decide, by rw [tt_16, tt_14, tt_17] <;> decide, by rw [tt_14, tt_16] <;> decide, by rw [tt_17, tt_16]⟩ (by decide) rfl (fun σ5 eσ5 => ?_)
  refine dk_putF (pc' := 27) hE fl_X3_18 dX3_init_24 hi ⟨_, rfl, rfl⟩ ⟨by decide, by decide, by decide⟩ rfl (fun _ => trivial) trivial rfl ?_
  obtain ⟨σ6, eσ6⟩ : ∃ q : dkS, q = dk_up σ5 13 2 16 := ⟨_, rfl⟩
  show dk_PJ E 27 [(4, 13)] [] 17 (dk_up σ5 13 2 16)
  rw [← eσ6]
  have hT13 : ∀ j : Nat, j < dk_len (dk_site 13) → dk_Ty 13 j (σ6 13 j) := fun j hj => by
    have hj : j < 5 := hj
    rcases (show j = 0 ∨ j = 1 ∨ j = 2 ∨ j = 3 ∨ j = 4 by omega) with rfl | rfl | rfl | rfl | rfl
    · exact (ty_3_0 is_13).mpr (by rw [show σ6 13 ((0 : Nat) : Int) = 14 from (show σ6 13 0 = 14 by rw [eσ6, dk_up_n (by decide), eσ5, dk_nw_n (by decide), eσ4, dk_up_n (by decide), eσ3, dk_nw_n (by decide), eσ2, dk_up_s])] <;> decide)
    · exact (ty_3_1 is_13).mpr (by rw [show σ6 13 ((1 : Nat) : Int) = 15 from (show σ6 13 1 = 15 by rw [eσ6, dk_up_n (by decide), eσ5, dk_nw_n (by decide), eσ4, dk_up_s])] <;> decide)
    · exact (ty_3_2 is_13).mpr (by rw [show σ6 13 ((2 : Nat) : Int) = 16 from (show σ6 13 2 = 16 by rw [eσ6, dk_up_s])] <;> decide)
    · exact (ty_3_3 is_13).mpr (by rw [show σ6 13 ((3 : Nat) : Int) = 0 from (show σ6 13 3 = 0 by rw [eσ6, dk_up_n (by decide), eσ5, dk_nw_n (by decide), eσ4, dk_up_n (by decide), eσ3, dk_nw_n (by decide), eσ2, dk_up_n (by decide), eσ1, dk_nw_n (by decide), hF, show dk_dz (dk_stc (dk_site 13) (3 : Int).toNat) = 0 from rfl])] <;> decide)
    · exact (ty_3_4 is_13).mpr trivial
  have hS14 : ∀ j : Nat, j < dk_len (dk_site 14) → dk_Ty 14 j (σ6 14 j) := fun j hj => by
    have e_ : σ6 14 (j : Int) = 0 := by rw [eσ6, dk_up_k (show 14 ≠ 13 by decide), eσ5, dk_nw_n (show 14 ≠ 16 by decide), eσ4, dk_up_k (show 14 ≠ 13 by decide), eσ3, dk_nw_n (show 14 ≠ 15 by decide), eσ2, dk_up_k (show 14 ≠ 13 by decide), eσ1, dk_nw_s, show ∀ q : Nat, dk_dz (dk_stc (dk_site 14) q) = 0 from fun q => rfl]
    exact (ta_27 is_14).mpr (by rw [e_] <;> decide)
  have hS15 : ∀ j : Nat, j < dk_len (dk_site 15) → dk_Ty 15 j (σ6 15 j) := fun j hj => by
    have e_ : σ6 15 (j : Int) = 0 := by rw [eσ6, dk_up_k (show 15 ≠ 13 by decide), eσ5, dk_nw_n (show 15 ≠ 16 by decide), eσ4, dk_up_k (show 15 ≠ 13 by decide), eσ3, dk_nw_s, show ∀ q : Nat, dk_dz (dk_stc (dk_site 15) q) = 0 from fun q => rfl]
    exact (ta_28 is_15).mpr (by rw [e_] <;> decide)
  have hS16 : ∀ j : Nat, j < dk_len (dk_site 16) → dk_Ty 16 j (σ6 16 j) := fun j hj => by
    have e_ : σ6 16 (j : Int) = 0 := by rw [eσ6, dk_up_k (show 16 ≠ 13 by decide), eσ5, dk_nw_s, show ∀ q : Nat, dk_dz (dk_stc (dk_site 16) q) = 0 from fun q => rfl]
    exact (ta_29 is_16).mpr (by rw [e_] <;> decide)
  refine dk_vret (st := []) hE hR dX3_init_27 ⟨rfl, ⟨fun a j h1 h2 => by rw [eσ6, dk_up_k (show a ≠ 13 by omega), eσ5, dk_nw_n (show a ≠ 16 by omega), eσ4, dk_up_k (show a ≠ 13 by omega), eσ3, dk_nw_n (show a ≠ 15 by omega), eσ2, dk_up_k (show a ≠ 13 by omega), eσ1, dk_nw_n (show a ≠ 14 by omega)], fun a ha j hj => ?_⟩⟩
  by_cases q13 : a = 13
  · subst q13; exact hT13 j hj
  by_cases q14 : a = 14
  · subst q14; exact hS14 j hj
  by_cases q15 : a = 15
  · subst q15; exact hS15 j hj
  by_cases q16 : a = 16
  · subst q16; exact hS16 j hj
  exfalso; omega
set_option maxHeartbeats 8000000 in
set_option maxRecDepth 20000 in
theorem ci_3_17 (l : Launch) (G : dkG) (hGd : dk_Gd G) (hGn : dk_Gn G) : dk_Ct l G dk_T0 yX3_init cX3_init 1 none 1 18 21 (fun av σ => av = [(4, 17)] ∧ dk_fsh σ 17) (fun _ σ r_ σ' => r_ = none ∧ dk_cp 17 18 21 σ σ') := by
  refine dk_enter hGd (by decide) (fun av σ hpre hok => ?_)
  obtain ⟨rfl, hF⟩ := hpre
  refine ⟨Nat.le_of_ble_eq_true rfl, fun E hE hR hI => ?_⟩
  have hi := hI rfl
  show dk_PJ E 0 [(4, 17)] [] 18 σ
  refine dk_aload_n (pc' := 1) hE dX3_init_0 rfl rfl rfl ?_
  refine dk_obj (pc' := 4) hE wd_310 wd_128 wc_obj dX3_init_1 (by decide) (by decide) rfl ?_
  refine dk_aload_n (pc' := 5) hE dX3_init_4 rfl rfl rfl ?_
  refine dk_sipush (pc' := 8) hE dX3_init_5 (by decide) rfl ?_
  refine dk_newa (ay := .int) (pc' := 10) (n' := 19) (S := 27) (tc := 0) (len := 320) hE wa_int rfl (by decide) dX3_init_8 rfl rfl (by decide) rfl (by decide) ⟨by decide, by rw [tt_18, tt_21] <;> decide, by rw [tt_18] <;> decide, by rw [tt_19, tt_18]⟩ (by decide) rfl (fun σ1 eσ1 => ?_)
  refine dk_putF (pc' := 13) hE fl_X3_11 dX3_init_10 hi ⟨_, rfl, rfl⟩ ⟨by decide, by decide, by decide⟩ rfl (fun _ => trivial) trivial rfl ?_
  obtain ⟨σ2, eσ2⟩ : ∃ q : dkS, q = dk_up σ1 17 0 18 := ⟨_, rfl⟩
  show dk_PJ E 13 [(4, 17)] [] 19 (dk_up σ1 17 0 18)
  rw [← eσ2]
  refine dk_aload_n (pc' := 14) hE dX3_init_13 rfl rfl rfl ?_
  refine dk_iconst (pc' := 15) hE dX3_init_14 (by decide) rfl ?_
  refine dk_newa (ay := .int) (pc' := 17) (n' := 20) (S := 28) (tc := 0) (len := 3) hE wa_int rfl (by decide) dX3_init_15 rfl rfl (by decide) rfl (by decide) ⟨by decide, by rw [tt_19, tt_18, tt_21] <;> decide, by rw [tt_18, tt_19] <;> decide, by rw [tt_20, tt_19]⟩ (by decide) rfl (fun σ3 eσ3 => ?_)
  refine dk_putF (pc' := 20) hE fl_X3_15 dX3_init_17 hi ⟨_, rfl, rfl⟩ ⟨by decide, by decide, by decide⟩ rfl (fun _ => trivial) trivial rfl ?_
  obtain ⟨σ4, eσ4⟩ : ∃ q : dkS, q = dk_up σ3 17 1 19 := ⟨_, rfl⟩
  show dk_PJ E 20 [(4, 17)] [] 20 (dk_up σ3 17 1 19)
  rw [← eσ4]
  refine dk_aload_n (pc' := 21) hE dX3_init_20 rfl rfl rfl ?_
  refine dk_iconst (pc' := 22) hE dX3_init_21 (by decide) rfl ?_
  refine dk_newa (ay := .int) (pc' := 24) (n' := 21) (S := 29) (tc := 0) (len := 3) hE wa_int rfl (by decide) dX3_init_22 rfl rfl (by decide) rfl (by decide) ⟨by decide, by rw [tt_20, tt_18, tt_21] <;> decide, by rw [tt_18, tt_20] <;> decide, by rw [tt_21, tt_20]⟩ (by decide) rfl (fun σ5 eσ5 => ?_)
  refine dk_putF (pc' := 27) hE fl_X3_18 dX3_init_24 hi ⟨_, rfl, rfl⟩ ⟨by decide, by decide, by decide⟩ rfl (fun _ => trivial) trivial rfl ?_
  obtain ⟨σ6, eσ6⟩ : ∃ q : dkS, q = dk_up σ5 17 2 20 := ⟨_, rfl⟩
  show dk_PJ E 27 [(4, 17)] [] 21 (dk_up σ5 17 2 20)
  rw [← eσ6]
  have hT17 : ∀ j : Nat, j < dk_len (dk_site 17) → dk_Ty 17 j (σ6 17 j) := fun j hj => by
    have hj : j < 5 := hj
    rcases (show j = 0 ∨ j = 1 ∨ j = 2 ∨ j = 3 ∨ j = 4 by omega) with rfl | rfl | rfl | rfl | rfl
    · exact (ty_3_0 is_17).mpr (by rw [show σ6 17 ((0 : Nat) : Int) = 18 from (show σ6 17 0 = 18 by rw [eσ6, dk_up_n (by decide), eσ5, dk_nw_n (by decide), eσ4, dk_up_n (by decide), eσ3, dk_nw_n (by decide), eσ2, dk_up_s])] <;> decide)
    · exact (ty_3_1 is_17).mpr (by rw [show σ6 17 ((1 : Nat) : Int) = 19 from (show σ6 17 1 = 19 by rw [eσ6, dk_up_n (by decide), eσ5, dk_nw_n (by decide), eσ4, dk_up_s])] <;> decide)
    · exact (ty_3_2 is_17).mpr (by rw [show σ6 17 ((2 : Nat) : Int) = 20 from (show σ6 17 2 = 20 by rw [eσ6, dk_up_s])] <;> decide)
    · exact (ty_3_3 is_17).mpr (by rw [show σ6 17 ((3 : Nat) : Int) = 0 from (show σ6 17 3 = 0 by rw [eσ6, dk_up_n (by decide), eσ5, dk_nw_n (by decide), eσ4, dk_up_n (by decide), eσ3, dk_nw_n (by decide), eσ2, dk_up_n (by decide), eσ1, dk_nw_n (by decide), hF, show dk_dz (dk_stc (dk_site 17) (3 : Int).toNat) = 0 from rfl])] <;> decide)
    · exact (ty_3_4 is_17).mpr trivial
  have hS18 : ∀ j : Nat, j < dk_len (dk_site 18) → dk_Ty 18 j (σ6 18 j) := fun j hj => by
    have e_ : σ6 18 (j : Int) = 0 := by rw [eσ6, dk_up_k (show 18 ≠ 17 by decide), eσ5, dk_nw_n (show 18 ≠ 20 by decide), eσ4, dk_up_k (show 18 ≠ 17 by decide), eσ3, dk_nw_n (show 18 ≠ 19 by decide), eσ2, dk_up_k (show 18 ≠ 17 by decide), eσ1, dk_nw_s, show ∀ q : Nat, dk_dz (dk_stc (dk_site 18) q) = 0 from fun q => rfl]
    exact (ta_27 is_18).mpr (by rw [e_] <;> decide)
  have hS19 : ∀ j : Nat, j < dk_len (dk_site 19) → dk_Ty 19 j (σ6 19 j) := fun j hj => by
    have e_ : σ6 19 (j : Int) = 0 := by rw [eσ6, dk_up_k (show 19 ≠ 17 by decide), eσ5, dk_nw_n (show 19 ≠ 20 by decide), eσ4, dk_up_k (show 19 ≠ 17 by decide), eσ3, dk_nw_s, show ∀ q : Nat, dk_dz (dk_stc (dk_site 19) q) = 0 from fun q => rfl]
    exact (ta_28 is_19).mpr (by rw [e_] <;> decide)
  have hS20 : ∀ j : Nat, j < dk_len (dk_site 20) → dk_Ty 20 j (σ6 20 j) := fun j hj => by
    have e_ : σ6 20 (j : Int) = 0 := by rw [eσ6, dk_up_k (show 20 ≠ 17 by decide), eσ5, dk_nw_s, show ∀ q : Nat, dk_dz (dk_stc (dk_site 20) q) = 0 from fun q => rfl]
    exact (ta_29 is_20).mpr (by rw [e_] <;> decide)
  refine dk_vret (st := []) hE hR dX3_init_27 ⟨rfl, ⟨fun a j h1 h2 => by rw [eσ6, dk_up_k (show a ≠ 17 by omega), eσ5, dk_nw_n (show a ≠ 20 by omega), eσ4, dk_up_k (show a ≠ 17 by omega), eσ3, dk_nw_n (show a ≠ 19 by omega), eσ2, dk_up_k (show a ≠ 17 by omega), eσ1, dk_nw_n (show a ≠ 18 by omega)], fun a ha j hj => ?_⟩⟩
  by_cases q17 : a = 17
  · subst q17; exact hT17 j hj
  by_cases q18 : a = 18
  · subst q18; exact hS18 j hj
  by_cases q19 : a = 19
  · subst q19; exact hS19 j hj
  by_cases q20 : a = 20
  · subst q20; exact hS20 j hj
  exfalso; omega
set_option maxHeartbeats 8000000 in
set_option maxRecDepth 20000 in
theorem ci_3_21 (l : Launch) (G : dkG) (hGd : dk_Gd G) (hGn : dk_Gn G) : dk_Ct l G dk_T0 yX3_init cX3_init 1 none 1 22 25 (fun av σ => av = [(4, 21)] ∧ dk_fsh σ 21) (fun _ σ r_ σ' => r_ = none ∧ dk_cp 21 22 25 σ σ') := by
  refine dk_enter hGd (by decide) (fun av σ hpre hok => ?_)
  obtain ⟨rfl, hF⟩ := hpre
  refine ⟨Nat.le_of_ble_eq_true rfl, fun E hE hR hI => ?_⟩
  have hi := hI rfl
  show dk_PJ E 0 [(4, 21)] [] 22 σ
  refine dk_aload_n (pc' := 1) hE dX3_init_0 rfl rfl rfl ?_
  refine dk_obj (pc' := 4) hE wd_310 wd_128 wc_obj dX3_init_1 (by decide) (by decide) rfl ?_
  refine dk_aload_n (pc' := 5) hE dX3_init_4 rfl rfl rfl ?_
  refine dk_sipush (pc' := 8) hE dX3_init_5 (by decide) rfl ?_
  refine dk_newa (ay := .int) (pc' := 10) (n' := 23) (S := 27) (tc := 0) (len := 320) hE wa_int rfl (by decide) dX3_init_8 rfl rfl (by decide) rfl (by decide) ⟨by decide, by rw [tt_22, tt_25] <;> decide, by rw [tt_22] <;> decide, by rw [tt_23, tt_22]⟩ (by decide) rfl (fun σ1 eσ1 => ?_)
  refine dk_putF (pc' := 13) hE fl_X3_11 dX3_init_10 hi ⟨_, rfl, rfl⟩ ⟨by decide, by decide, by decide⟩ rfl (fun _ => trivial) trivial rfl ?_
  obtain ⟨σ2, eσ2⟩ : ∃ q : dkS, q = dk_up σ1 21 0 22 := ⟨_, rfl⟩
  show dk_PJ E 13 [(4, 21)] [] 23 (dk_up σ1 21 0 22)
  rw [← eσ2]
  refine dk_aload_n (pc' := 14) hE dX3_init_13 rfl rfl rfl ?_
  refine dk_iconst (pc' := 15) hE dX3_init_14 (by decide) rfl ?_
  refine dk_newa (ay := .int) (pc' := 17) (n' := 24) (S := 28) (tc := 0) (len := 3) hE wa_int rfl (by decide) dX3_init_15 rfl rfl (by decide) rfl (by decide) ⟨by decide, by rw [tt_23, tt_22, tt_25] <;> decide, by rw [tt_22, tt_23] <;> decide, by rw [tt_24, tt_23]⟩ (by decide) rfl (fun σ3 eσ3 => ?_)
  refine dk_putF (pc' := 20) hE fl_X3_15 dX3_init_17 hi ⟨_, rfl, rfl⟩ ⟨by decide, by decide, by decide⟩ rfl (fun _ => trivial) trivial rfl ?_
  obtain ⟨σ4, eσ4⟩ : ∃ q : dkS, q = dk_up σ3 21 1 23 := ⟨_, rfl⟩
  show dk_PJ E 20 [(4, 21)] [] 24 (dk_up σ3 21 1 23)
  rw [← eσ4]
  refine dk_aload_n (pc' := 21) hE dX3_init_20 rfl rfl rfl ?_
  refine dk_iconst (pc' := 22) hE dX3_init_21 (by decide) rfl ?_
  refine dk_newa (ay := .int) (pc' := 24) (n' := 25) (S := 29) (tc := 0) (len := 3) hE wa_int rfl (by decide) dX3_init_22 rfl rfl (by decide) rfl (by decide) ⟨by decide, by rw [tt_24, tt_22, tt_25] <;> decide, by rw [tt_22, tt_24] <;> decide, by rw [tt_25, tt_24]⟩ (by decide) rfl (fun σ5 eσ5 => ?_)
  refine dk_putF (pc' := 27) hE fl_X3_18 dX3_init_24 hi ⟨_, rfl, rfl⟩ ⟨by decide, by decide, by decide⟩ rfl (fun _ => trivial) trivial rfl ?_
  obtain ⟨σ6, eσ6⟩ : ∃ q : dkS, q = dk_up σ5 21 2 24 := ⟨_, rfl⟩
  show dk_PJ E 27 [(4, 21)] [] 25 (dk_up σ5 21 2 24)
  rw [← eσ6]
  have hT21 : ∀ j : Nat, j < dk_len (dk_site 21) → dk_Ty 21 j (σ6 21 j) := fun j hj => by
    have hj : j < 5 := hj
    rcases (show j = 0 ∨ j = 1 ∨ j = 2 ∨ j = 3 ∨ j = 4 by omega) with rfl | rfl | rfl | rfl | rfl
    · exact (ty_3_0 is_21).mpr (by rw [show σ6 21 ((0 : Nat) : Int) = 22 from (show σ6 21 0 = 22 by rw [eσ6, dk_up_n (by decide), eσ5, dk_nw_n (by decide), eσ4, dk_up_n (by decide), eσ3, dk_nw_n (by decide), eσ2, dk_up_s])] <;> decide)
    · exact (ty_3_1 is_21).mpr (by rw [show σ6 21 ((1 : Nat) : Int) = 23 from (show σ6 21 1 = 23 by rw [eσ6, dk_up_n (by decide), eσ5, dk_nw_n (by decide), eσ4, dk_up_s])] <;> decide)
    · exact (ty_3_2 is_21).mpr (by rw [show σ6 21 ((2 : Nat) : Int) = 24 from (show σ6 21 2 = 24 by rw [eσ6, dk_up_s])] <;> decide)
    · exact (ty_3_3 is_21).mpr (by rw [show σ6 21 ((3 : Nat) : Int) = 0 from (show σ6 21 3 = 0 by rw [eσ6, dk_up_n (by decide), eσ5, dk_nw_n (by decide), eσ4, dk_up_n (by decide), eσ3, dk_nw_n (by decide), eσ2, dk_up_n (by decide), eσ1, dk_nw_n (by decide), hF, show dk_dz (dk_stc (dk_site 21) (3 : Int).toNat) = 0 from rfl])] <;> decide)
    · exact (ty_3_4 is_21).mpr trivial
  have hS22 : ∀ j : Nat, j < dk_len (dk_site 22) → dk_Ty 22 j (σ6 22 j) := fun j hj => by
    have e_ : σ6 22 (j : Int) = 0 := by rw [eσ6, dk_up_k (show 22 ≠ 21 by decide), eσ5, dk_nw_n (show 22 ≠ 24 by decide), eσ4, dk_up_k (show 22 ≠ 21 by decide), eσ3, dk_nw_n (show 22 ≠ 23 by decide), eσ2, dk_up_k (show 22 ≠ 21 by decide), eσ1, dk_nw_s, show ∀ q : Nat, dk_dz (dk_stc (dk_site 22) q) = 0 from fun q => rfl]
    exact (ta_27 is_22).mpr (by rw [e_] <;> decide)
  have hS23 : ∀ j : Nat, j < dk_len (dk_site 23) → dk_Ty 23 j (σ6 23 j) := fun j hj => by
    have e_ : σ6 23 (j : Int) = 0 := by rw [eσ6, dk_up_k (show 23 ≠ 21 by decide), eσ5, dk_nw_n (show 23 ≠ 24 by decide), eσ4, dk_up_k (show 23 ≠ 21 by decide), eσ3, dk_nw_s, show ∀ q : Nat, dk_dz (dk_stc (dk_site 23) q) = 0 from fun q => rfl]
    exact (ta_28 is_23).mpr (by rw [e_] <;> decide)
  have hS24 : ∀ j : Nat, j < dk_len (dk_site 24) → dk_Ty 24 j (σ6 24 j) := fun j hj => by
    have e_ : σ6 24 (j : Int) = 0 := by rw [eσ6, dk_up_k (show 24 ≠ 21 by decide), eσ5, dk_nw_s, show ∀ q : Nat, dk_dz (dk_stc (dk_site 24) q) = 0 from fun q => rfl]
    exact (ta_29 is_24).mpr (by rw [e_] <;> decide)
  refine dk_vret (st := []) hE hR dX3_init_27 ⟨rfl, ⟨fun a j h1 h2 => by rw [eσ6, dk_up_k (show a ≠ 21 by omega), eσ5, dk_nw_n (show a ≠ 24 by omega), eσ4, dk_up_k (show a ≠ 21 by omega), eσ3, dk_nw_n (show a ≠ 23 by omega), eσ2, dk_up_k (show a ≠ 21 by omega), eσ1, dk_nw_n (show a ≠ 22 by omega)], fun a ha j hj => ?_⟩⟩
  by_cases q21 : a = 21
  · subst q21; exact hT21 j hj
  by_cases q22 : a = 22
  · subst q22; exact hS22 j hj
  by_cases q23 : a = 23
  · subst q23; exact hS23 j hj
  by_cases q24 : a = 24
  · subst q24; exact hS24 j hj
  exfalso; omega
set_option maxHeartbeats 8000000 in
set_option maxRecDepth 20000 in
theorem ci_3_25 (l : Launch) (G : dkG) (hGd : dk_Gd G) (hGn : dk_Gn G) : dk_Ct l G dk_T0 yX3_init cX3_init 1 none 1 26 29 (fun av σ => av = [(4, 25)] ∧ dk_fsh σ 25) (fun _ σ r_ σ' => r_ = none ∧ dk_cp 25 26 29 σ σ') := by
  refine dk_enter hGd (by decide) (fun av σ hpre hok => ?_)
  obtain ⟨rfl, hF⟩ := hpre
  refine ⟨Nat.le_of_ble_eq_true rfl, fun E hE hR hI => ?_⟩
  have hi := hI rfl
  show dk_PJ E 0 [(4, 25)] [] 26 σ
  refine dk_aload_n (pc' := 1) hE dX3_init_0 rfl rfl rfl ?_
  refine dk_obj (pc' := 4) hE wd_310 wd_128 wc_obj dX3_init_1 (by decide) (by decide) rfl ?_
  refine dk_aload_n (pc' := 5) hE dX3_init_4 rfl rfl rfl ?_
  refine dk_sipush (pc' := 8) hE dX3_init_5 (by decide) rfl ?_
  refine dk_newa (ay := .int) (pc' := 10) (n' := 27) (S := 27) (tc := 0) (len := 320) hE wa_int rfl (by decide) dX3_init_8 rfl rfl (by decide) rfl (by decide) ⟨by decide, by rw [tt_26, tt_29] <;> decide, by rw [tt_26] <;> decide, by rw [tt_27, tt_26]⟩ (by decide) rfl (fun σ1 eσ1 => ?_)
  refine dk_putF (pc' := 13) hE fl_X3_11 dX3_init_10 hi ⟨_, rfl, rfl⟩ ⟨by decide, by decide, by decide⟩ rfl (fun _ => trivial) trivial rfl ?_
  obtain ⟨σ2, eσ2⟩ : ∃ q : dkS, q = dk_up σ1 25 0 26 := ⟨_, rfl⟩
  show dk_PJ E 13 [(4, 25)] [] 27 (dk_up σ1 25 0 26)
  rw [← eσ2]
  refine dk_aload_n (pc' := 14) hE dX3_init_13 rfl rfl rfl ?_
  refine dk_iconst (pc' := 15) hE dX3_init_14 (by decide) rfl ?_
  refine dk_newa (ay := .int) (pc' := 17) (n' := 28) (S := 28) (tc := 0) (len := 3) hE wa_int rfl (by decide) dX3_init_15 rfl rfl (by decide) rfl (by decide) ⟨by decide, by rw [tt_27, tt_26, tt_29] <;> decide, by rw [tt_26, tt_27] <;> decide, by rw [tt_28, tt_27]⟩ (by decide) rfl (fun σ3 eσ3 => ?_)
  refine dk_putF (pc' := 20) hE fl_X3_15 dX3_init_17 hi ⟨_, rfl, rfl⟩ ⟨by decide, by decide, by decide⟩ rfl (fun _ => trivial) trivial rfl ?_
  obtain ⟨σ4, eσ4⟩ : ∃ q : dkS, q = dk_up σ3 25 1 27 := ⟨_, rfl⟩
  show dk_PJ E 20 [(4, 25)] [] 28 (dk_up σ3 25 1 27)
  rw [← eσ4]
  refine dk_aload_n (pc' := 21) hE dX3_init_20 rfl rfl rfl ?_
  refine dk_iconst (pc' := 22) hE dX3_init_21 (by decide) rfl ?_
  refine dk_newa (ay := .int) (pc' := 24) (n' := 29) (S := 29) (tc := 0) (len := 3) hE wa_int rfl (by decide) dX3_init_22 rfl rfl (by decide) rfl (by decide) ⟨by decide, by rw [tt_28, tt_26, tt_29] <;> decide, by rw [tt_26, tt_28] <;> decide, by rw [tt_29, tt_28]⟩ (by decide) rfl (fun σ5 eσ5 => ?_)
  refine dk_putF (pc' := 27) hE fl_X3_18 dX3_init_24 hi ⟨_, rfl, rfl⟩ ⟨by decide, by decide, by decide⟩ rfl (fun _ => trivial) trivial rfl ?_
  obtain ⟨σ6, eσ6⟩ : ∃ q : dkS, q = dk_up σ5 25 2 28 := ⟨_, rfl⟩
  show dk_PJ E 27 [(4, 25)] [] 29 (dk_up σ5 25 2 28)
  rw [← eσ6]
  have hT25 : ∀ j : Nat, j < dk_len (dk_site 25) → dk_Ty 25 j (σ6 25 j) := fun j hj => by
    have hj : j < 5 := hj
    rcases (show j = 0 ∨ j = 1 ∨ j = 2 ∨ j = 3 ∨ j = 4 by omega) with rfl | rfl | rfl | rfl | rfl
    · exact (ty_3_0 is_25).mpr (by rw [show σ6 25 ((0 : Nat) : Int) = 26 from (show σ6 25 0 = 26 by rw [eσ6, dk_up_n (by decide), eσ5, dk_nw_n (by decide), eσ4, dk_up_n (by decide), eσ3, dk_nw_n (by decide), eσ2, dk_up_s])] <;> decide)
    · exact (ty_3_1 is_25).mpr (by rw [show σ6 25 ((1 : Nat) : Int) = 27 from (show σ6 25 1 = 27 by rw [eσ6, dk_up_n (by decide), eσ5, dk_nw_n (by decide), eσ4, dk_up_s])] <;> decide)
    · exact (ty_3_2 is_25).mpr (by rw [show σ6 25 ((2 : Nat) : Int) = 28 from (show σ6 25 2 = 28 by rw [eσ6, dk_up_s])] <;> decide)
    · exact (ty_3_3 is_25).mpr (by rw [show σ6 25 ((3 : Nat) : Int) = 0 from (show σ6 25 3 = 0 by rw [eσ6, dk_up_n (by decide), eσ5, dk_nw_n (by decide), eσ4, dk_up_n (by decide), eσ3, dk_nw_n (by decide), eσ2, dk_up_n (by decide), eσ1, dk_nw_n (by decide), hF, show dk_dz (dk_stc (dk_site 25) (3 : Int).toNat) = 0 from rfl])] <;> decide)
    · exact (ty_3_4 is_25).mpr trivial
  have hS26 : ∀ j : Nat, j < dk_len (dk_site 26) → dk_Ty 26 j (σ6 26 j) := fun j hj => by
    have e_ : σ6 26 (j : Int) = 0 := by rw [eσ6, dk_up_k (show 26 ≠ 25 by decide), eσ5, dk_nw_n (show 26 ≠ 28 by decide), eσ4, dk_up_k (show 26 ≠ 25 by decide), eσ3, dk_nw_n (show 26 ≠ 27 by decide), eσ2, dk_up_k (show 26 ≠ 25 by decide), eσ1, dk_nw_s, show ∀ q : Nat, dk_dz (dk_stc (dk_site 26) q) = 0 from fun q => rfl]
    exact (ta_27 is_26).mpr (by rw [e_] <;> decide)
  have hS27 : ∀ j : Nat, j < dk_len (dk_site 27) → dk_Ty 27 j (σ6 27 j) := fun j hj => by
    have e_ : σ6 27 (j : Int) = 0 := by rw [eσ6, dk_up_k (show 27 ≠ 25 by decide), eσ5, dk_nw_n (show 27 ≠ 28 by decide), eσ4, dk_up_k (show 27 ≠ 25 by decide), eσ3, dk_nw_s, show ∀ q : Nat, dk_dz (dk_stc (dk_site 27) q) = 0 from fun q => rfl]
    exact (ta_28 is_27).mpr (by rw [e_] <;> decide)
  have hS28 : ∀ j : Nat, j < dk_len (dk_site 28) → dk_Ty 28 j (σ6 28 j) := fun j hj => by
    have e_ : σ6 28 (j : Int) = 0 := by rw [eσ6, dk_up_k (show 28 ≠ 25 by decide), eσ5, dk_nw_s, show ∀ q : Nat, dk_dz (dk_stc (dk_site 28) q) = 0 from fun q => rfl]
    exact (ta_29 is_28).mpr (by rw [e_] <;> decide)
  refine dk_vret (st := []) hE hR dX3_init_27 ⟨rfl, ⟨fun a j h1 h2 => by rw [eσ6, dk_up_k (show a ≠ 25 by omega), eσ5, dk_nw_n (show a ≠ 28 by omega), eσ4, dk_up_k (show a ≠ 25 by omega), eσ3, dk_nw_n (show a ≠ 27 by omega), eσ2, dk_up_k (show a ≠ 25 by omega), eσ1, dk_nw_n (show a ≠ 26 by omega)], fun a ha j hj => ?_⟩⟩
  by_cases q25 : a = 25
  · subst q25; exact hT25 j hj
  by_cases q26 : a = 26
  · subst q26; exact hS26 j hj
  by_cases q27 : a = 27
  · subst q27; exact hS27 j hj
  by_cases q28 : a = 28
  · subst q28; exact hS28 j hj
  exfalso; omega
set_option maxHeartbeats 8000000 in
set_option maxRecDepth 20000 in
theorem ci_3_29 (l : Launch) (G : dkG) (hGd : dk_Gd G) (hGn : dk_Gn G) : dk_Ct l G dk_T0 yX3_init cX3_init 1 none 1 30 33 (fun av σ => av = [(4, 29)] ∧ dk_fsh σ 29) (fun _ σ r_ σ' => r_ = none ∧ dk_cp 29 30 33 σ σ') := by
  refine dk_enter hGd (by decide) (fun av σ hpre hok => ?_)
  obtain ⟨rfl, hF⟩ := hpre
  refine ⟨Nat.le_of_ble_eq_true rfl, fun E hE hR hI => ?_⟩
  have hi := hI rfl
  show dk_PJ E 0 [(4, 29)] [] 30 σ
  refine dk_aload_n (pc' := 1) hE dX3_init_0 rfl rfl rfl ?_
  refine dk_obj (pc' := 4) hE wd_310 wd_128 wc_obj dX3_init_1 (by decide) (by decide) rfl ?_
  refine dk_aload_n (pc' := 5) hE dX3_init_4 rfl rfl rfl ?_
  refine dk_sipush (pc' := 8) hE dX3_init_5 (by decide) rfl ?_
  refine dk_newa (ay := .int) (pc' := 10) (n' := 31) (S := 27) (tc := 0) (len := 320) hE wa_int rfl (by decide) dX3_init_8 rfl rfl (by decide) rfl (by decide) ⟨by decide, by rw [tt_30, tt_33] <;> decide, by rw [tt_30] <;> decide, by rw [tt_31, tt_30]⟩ (by decide) rfl (fun σ1 eσ1 => ?_)
  refine dk_putF (pc' := 13) hE fl_X3_11 dX3_init_10 hi ⟨_, rfl, rfl⟩ ⟨by decide, by decide, by decide⟩ rfl (fun _ => trivial) trivial rfl ?_
  obtain ⟨σ2, eσ2⟩ : ∃ q : dkS, q = dk_up σ1 29 0 30 := ⟨_, rfl⟩
  show dk_PJ E 13 [(4, 29)] [] 31 (dk_up σ1 29 0 30)
  rw [← eσ2]
  refine dk_aload_n (pc' := 14) hE dX3_init_13 rfl rfl rfl ?_
  refine dk_iconst (pc' := 15) hE dX3_init_14 (by decide) rfl ?_
  refine dk_newa (ay := .int) (pc' := 17) (n' := 32) (S := 28) (tc := 0) (len := 3) hE wa_int rfl (by decide) dX3_init_15 rfl rfl (by decide) rfl (by decide) ⟨by decide, by rw [tt_31, tt_30, tt_33] <;> decide, by rw [tt_30, tt_31] <;> decide, by rw [tt_32, tt_31]⟩ (by decide) rfl (fun σ3 eσ3 => ?_)
  refine dk_putF (pc' := 20) hE fl_X3_15 dX3_init_17 hi ⟨_, rfl, rfl⟩ ⟨by decide, by decide, by decide⟩ rfl (fun _ => trivial) trivial rfl ?_
  obtain ⟨σ4, eσ4⟩ : ∃ q : dkS, q = dk_up σ3 29 1 31 := ⟨_, rfl⟩
  show dk_PJ E 20 [(4, 29)] [] 32 (dk_up σ3 29 1 31)
  rw [← eσ4]
  refine dk_aload_n (pc' := 21) hE dX3_init_20 rfl rfl rfl ?_
  refine dk_iconst (pc' := 22) hE dX3_init_21 (by decide) rfl ?_
  refine dk_newa (ay := .int) (pc' := 24) (n' := 33) (S := 29) (tc := 0) (len := 3) hE wa_int rfl (by decide) dX3_init_22 rfl rfl (by decide) rfl (by decide) ⟨by decide, by rw [tt_32, tt_30, tt_33] <;> decide, by rw [tt_30, tt_32] <;> decide, by rw [tt_33, tt_32]⟩ (by decide) rfl (fun σ5 eσ5 => ?_)
  refine dk_putF (pc' := 27) hE fl_X3_18 dX3_init_24 hi ⟨_, rfl, rfl⟩ ⟨by decide, by decide, by decide⟩ rfl (fun _ => trivial) trivial rfl ?_
  obtain ⟨σ6, eσ6⟩ : ∃ q : dkS, q = dk_up σ5 29 2 32 := ⟨_, rfl⟩
  show dk_PJ E 27 [(4, 29)] [] 33 (dk_up σ5 29 2 32)
  rw [← eσ6]
  have hT29 : ∀ j : Nat, j < dk_len (dk_site 29) → dk_Ty 29 j (σ6 29 j) := fun j hj => by
    have hj : j < 5 := hj
    rcases (show j = 0 ∨ j = 1 ∨ j = 2 ∨ j = 3 ∨ j = 4 by omega) with rfl | rfl | rfl | rfl | rfl
    · exact (ty_3_0 is_29).mpr (by rw [show σ6 29 ((0 : Nat) : Int) = 30 from (show σ6 29 0 = 30 by rw [eσ6, dk_up_n (by decide), eσ5, dk_nw_n (by decide), eσ4, dk_up_n (by decide), eσ3, dk_nw_n (by decide), eσ2, dk_up_s])] <;> decide)
    · exact (ty_3_1 is_29).mpr (by rw [show σ6 29 ((1 : Nat) : Int) = 31 from (show σ6 29 1 = 31 by rw [eσ6, dk_up_n (by decide), eσ5, dk_nw_n (by decide), eσ4, dk_up_s])] <;> decide)
    · exact (ty_3_2 is_29).mpr (by rw [show σ6 29 ((2 : Nat) : Int) = 32 from (show σ6 29 2 = 32 by rw [eσ6, dk_up_s])] <;> decide)
    · exact (ty_3_3 is_29).mpr (by rw [show σ6 29 ((3 : Nat) : Int) = 0 from (show σ6 29 3 = 0 by rw [eσ6, dk_up_n (by decide), eσ5, dk_nw_n (by decide), eσ4, dk_up_n (by decide), eσ3, dk_nw_n (by decide), eσ2, dk_up_n (by decide), eσ1, dk_nw_n (by decide), hF, show dk_dz (dk_stc (dk_site 29) (3 : Int).toNat) = 0 from rfl])] <;> decide)
    · exact (ty_3_4 is_29).mpr trivial
  have hS30 : ∀ j : Nat, j < dk_len (dk_site 30) → dk_Ty 30 j (σ6 30 j) := fun j hj => by
    have e_ : σ6 30 (j : Int) = 0 := by rw [eσ6, dk_up_k (show 30 ≠ 29 by decide), eσ5, dk_nw_n (show 30 ≠ 32 by decide), eσ4, dk_up_k (show 30 ≠ 29 by decide), eσ3, dk_nw_n (show 30 ≠ 31 by decide), eσ2, dk_up_k (show 30 ≠ 29 by decide), eσ1, dk_nw_s, show ∀ q : Nat, dk_dz (dk_stc (dk_site 30) q) = 0 from fun q => rfl]
    exact (ta_27 is_30).mpr (by rw [e_] <;> decide)
  have hS31 : ∀ j : Nat, j < dk_len (dk_site 31) → dk_Ty 31 j (σ6 31 j) := fun j hj => by
    have e_ : σ6 31 (j : Int) = 0 := by rw [eσ6, dk_up_k (show 31 ≠ 29 by decide), eσ5, dk_nw_n (show 31 ≠ 32 by decide), eσ4, dk_up_k (show 31 ≠ 29 by decide), eσ3, dk_nw_s, show ∀ q : Nat, dk_dz (dk_stc (dk_site 31) q) = 0 from fun q => rfl]
    exact (ta_28 is_31).mpr (by rw [e_] <;> decide)
  have hS32 : ∀ j : Nat, j < dk_len (dk_site 32) → dk_Ty 32 j (σ6 32 j) := fun j hj => by
    have e_ : σ6 32 (j : Int) = 0 := by rw [eσ6, dk_up_k (show 32 ≠ 29 by decide), eσ5, dk_nw_s, show ∀ q : Nat, dk_dz (dk_stc (dk_site 32) q) = 0 from fun q => rfl]
    exact (ta_29 is_32).mpr (by rw [e_] <;> decide)
  refine dk_vret (st := []) hE hR dX3_init_27 ⟨rfl, ⟨fun a j h1 h2 => by rw [eσ6, dk_up_k (show a ≠ 29 by omega), eσ5, dk_nw_n (show a ≠ 32 by omega), eσ4, dk_up_k (show a ≠ 29 by omega), eσ3, dk_nw_n (show a ≠ 31 by omega), eσ2, dk_up_k (show a ≠ 29 by omega), eσ1, dk_nw_n (show a ≠ 30 by omega)], fun a ha j hj => ?_⟩⟩
  by_cases q29 : a = 29
  · subst q29; exact hT29 j hj
  by_cases q30 : a = 30
  · subst q30; exact hS30 j hj
  by_cases q31 : a = 31
  · subst q31; exact hS31 j hj
  by_cases q32 : a = 32
  · subst q32; exact hS32 j hj
  exfalso; omega
set_option maxHeartbeats 8000000 in
set_option maxRecDepth 20000 in
theorem ci_3_33 (l : Launch) (G : dkG) (hGd : dk_Gd G) (hGn : dk_Gn G) : dk_Ct l G dk_T0 yX3_init cX3_init 1 none 1 34 37 (fun av σ => av = [(4, 33)] ∧ dk_fsh σ 33) (fun _ σ r_ σ' => r_ = none ∧ dk_cp 33 34 37 σ σ') := by
  refine dk_enter hGd (by decide) (fun av σ hpre hok => ?_)
  obtain ⟨rfl, hF⟩ := hpre
  refine ⟨Nat.le_of_ble_eq_true rfl, fun E hE hR hI => ?_⟩
  have hi := hI rfl
  show dk_PJ E 0 [(4, 33)] [] 34 σ
  refine dk_aload_n (pc' := 1) hE dX3_init_0 rfl rfl rfl ?_
  refine dk_obj (pc' := 4) hE wd_310 wd_128 wc_obj dX3_init_1 (by decide) (by decide) rfl ?_
  refine dk_aload_n (pc' := 5) hE dX3_init_4 rfl rfl rfl ?_
  refine dk_sipush (pc' := 8) hE dX3_init_5 (by decide) rfl ?_
  refine dk_newa (ay := .int) (pc' := 10) (n' := 35) (S := 27) (tc := 0) (len := 320) hE wa_int rfl (by decide) dX3_init_8 rfl rfl (by decide) rfl (by decide) ⟨by decide, by rw [tt_34, tt_37] <;> decide, by rw [tt_34] <;> decide, by rw [tt_35, tt_34]⟩ (by decide) rfl (fun σ1 eσ1 => ?_)
  refine dk_putF (pc' := 13) hE fl_X3_11 dX3_init_10 hi ⟨_, rfl, rfl⟩ ⟨by decide, by decide, by decide⟩ rfl (fun _ => trivial) trivial rfl ?_
  obtain ⟨σ2, eσ2⟩ : ∃ q : dkS, q = dk_up σ1 33 0 34 := ⟨_, rfl⟩
  show dk_PJ E 13 [(4, 33)] [] 35 (dk_up σ1 33 0 34)
  rw [← eσ2]
  refine dk_aload_n (pc' := 14) hE dX3_init_13 rfl rfl rfl ?_
  refine dk_iconst (pc' := 15) hE dX3_init_14 (by decide) rfl ?_
  refine dk_newa (ay := .int) (pc' := 17) (n' := 36) (S := 28) (tc := 0) (len := 3) hE wa_int rfl (by decide) dX3_init_15 rfl rfl (by decide) rfl (by decide) ⟨by decide, by rw [tt_35, tt_34, tt_37] <;> decide, by rw [tt_34, tt_35] <;> decide, by rw [tt_36, tt_35]⟩ (by decide) rfl (fun σ3 eσ3 => ?_)
  refine dk_putF (pc' := 20) hE fl_X3_15 dX3_init_17 hi ⟨_, rfl, rfl⟩ ⟨by decide, by decide, by decide⟩ rfl (fun _ => trivial) trivial rfl ?_
  obtain ⟨σ4, eσ4⟩ : ∃ q : dkS, q = dk_up σ3 33 1 35 := ⟨_, rfl⟩
  show dk_PJ E 20 [(4, 33)] [] 36 (dk_up σ3 33 1 35)
  rw [← eσ4]
  refine dk_aload_n (pc' := 21) hE dX3_init_20 rfl rfl rfl ?_
  refine dk_iconst (pc' := 22) hE dX3_init_21 (by decide) rfl ?_
  refine dk_newa (ay := .int) (pc' := 24) (n' := 37) (S := 29) (tc := 0) (len := 3) hE wa_int rfl (by decide) dX3_init_22 rfl rfl (by decide) rfl (by decide) ⟨by decide, by rw [tt_36, tt_34, tt_37] <;> decide, by rw [tt_34, tt_36] <;> decide, by rw [tt_37, tt_36]⟩ (by decide) rfl (fun σ5 eσ5 => ?_)
  refine dk_putF (pc' := 27) hE fl_X3_18 dX3_init_24 hi ⟨_, rfl, rfl⟩ ⟨by decide, by decide, by decide⟩ rfl (fun _ => trivial) trivial rfl ?_
  obtain ⟨σ6, eσ6⟩ : ∃ q : dkS, q = dk_up σ5 33 2 36 := ⟨_, rfl⟩
  show dk_PJ E 27 [(4, 33)] [] 37 (dk_up σ5 33 2 36)
  rw [← eσ6]
  have hT33 : ∀ j : Nat, j < dk_len (dk_site 33) → dk_Ty 33 j (σ6 33 j) := fun j hj => by
    have hj : j < 5 := hj
    rcases (show j = 0 ∨ j = 1 ∨ j = 2 ∨ j = 3 ∨ j = 4 by omega) with rfl | rfl | rfl | rfl | rfl
    · exact (ty_3_0 is_33).mpr (by rw [show σ6 33 ((0 : Nat) : Int) = 34 from (show σ6 33 0 = 34 by rw [eσ6, dk_up_n (by decide), eσ5, dk_nw_n (by decide), eσ4, dk_up_n (by decide), eσ3, dk_nw_n (by decide), eσ2, dk_up_s])] <;> decide)
    · exact (ty_3_1 is_33).mpr (by rw [show σ6 33 ((1 : Nat) : Int) = 35 from (show σ6 33 1 = 35 by rw [eσ6, dk_up_n (by decide), eσ5, dk_nw_n (by decide), eσ4, dk_up_s])] <;> decide)
    · exact (ty_3_2 is_33).mpr (by rw [show σ6 33 ((2 : Nat) : Int) = 36 from (show σ6 33 2 = 36 by rw [eσ6, dk_up_s])] <;> decide)
    · exact (ty_3_3 is_33).mpr (by rw [show σ6 33 ((3 : Nat) : Int) = 0 from (show σ6 33 3 = 0 by rw [eσ6, dk_up_n (by decide), eσ5, dk_nw_n (by decide), eσ4, dk_up_n (by decide), eσ3, dk_nw_n (by decide), eσ2, dk_up_n (by decide), eσ1, dk_nw_n (by decide), hF, show dk_dz (dk_stc (dk_site 33) (3 : Int).toNat) = 0 from rfl])] <;> decide)
    · exact (ty_3_4 is_33).mpr trivial
  have hS34 : ∀ j : Nat, j < dk_len (dk_site 34) → dk_Ty 34 j (σ6 34 j) := fun j hj => by
    have e_ : σ6 34 (j : Int) = 0 := by rw [eσ6, dk_up_k (show 34 ≠ 33 by decide), eσ5, dk_nw_n (show 34 ≠ 36 by decide), eσ4, dk_up_k (show 34 ≠ 33 by decide), eσ3, dk_nw_n (show 34 ≠ 35 by decide), eσ2, dk_up_k (show 34 ≠ 33 by decide), eσ1, dk_nw_s, show ∀ q : Nat, dk_dz (dk_stc (dk_site 34) q) = 0 from fun q => rfl]
    exact (ta_27 is_34).mpr (by rw [e_] <;> decide)
  have hS35 : ∀ j : Nat, j < dk_len (dk_site 35) → dk_Ty 35 j (σ6 35 j) := fun j hj => by
    have e_ : σ6 35 (j : Int) = 0 := by rw [eσ6, dk_up_k (show 35 ≠ 33 by decide), eσ5, dk_nw_n (show 35 ≠ 36 by decide), eσ4, dk_up_k (show 35 ≠ 33 by decide), eσ3, dk_nw_s, show ∀ q : Nat, dk_dz (dk_stc (dk_site 35) q) = 0 from fun q => rfl]
    exact (ta_28 is_35).mpr (by rw [e_] <;> decide)
  have hS36 : ∀ j : Nat, j < dk_len (dk_site 36) → dk_Ty 36 j (σ6 36 j) := fun j hj => by
    have e_ : σ6 36 (j : Int) = 0 := by rw [eσ6, dk_up_k (show 36 ≠ 33 by decide), eσ5, dk_nw_s, show ∀ q : Nat, dk_dz (dk_stc (dk_site 36) q) = 0 from fun q => rfl]
    exact (ta_29 is_36).mpr (by rw [e_] <;> decide)
  refine dk_vret (st := []) hE hR dX3_init_27 ⟨rfl, ⟨fun a j h1 h2 => by rw [eσ6, dk_up_k (show a ≠ 33 by omega), eσ5, dk_nw_n (show a ≠ 36 by omega), eσ4, dk_up_k (show a ≠ 33 by omega), eσ3, dk_nw_n (show a ≠ 35 by omega), eσ2, dk_up_k (show a ≠ 33 by omega), eσ1, dk_nw_n (show a ≠ 34 by omega)], fun a ha j hj => ?_⟩⟩
  by_cases q33 : a = 33
  · subst q33; exact hT33 j hj
  by_cases q34 : a = 34
  · subst q34; exact hS34 j hj
  by_cases q35 : a = 35
  · subst q35; exact hS35 j hj
  by_cases q36 : a = 36
  · subst q36; exact hS36 j hj
  exfalso; omega
set_option maxHeartbeats 8000000 in
set_option maxRecDepth 20000 in
theorem ci_1_37 (l : Launch) (G : dkG) (hGd : dk_Gd G) (hGn : dk_Gn G) : dk_Ct l G dk_T0 yX1_init cX1_init 1 none 1 38 45 (fun av σ => av = [(4, 37)] ∧ dk_fsh σ 37) (fun _ σ r_ σ' => r_ = none ∧ dk_cp 37 38 45 σ σ' ∧ σ' 37 8 = 0) := by
  refine dk_enter hGd (by decide) (fun av σ hpre hok => ?_)
  obtain ⟨rfl, hF⟩ := hpre
  refine ⟨Nat.le_of_ble_eq_true rfl, fun E hE hR hI => ?_⟩
  have hi := hI rfl
  show dk_PJ E 0 [(4, 37)] [] 38 σ
  refine dk_aload_n (pc' := 1) hE dX1_init_0 rfl rfl rfl ?_
  refine dk_obj (pc' := 4) hE wd_332 wd_128 wc_obj dX1_init_1 (by decide) (by decide) rfl ?_
  refine dk_aload_n (pc' := 5) hE dX1_init_4 rfl rfl rfl ?_
  refine dk_sipush (pc' := 8) hE dX1_init_5 (by decide) rfl ?_
  refine dk_newa (ay := .int) (pc' := 10) (n' := 39) (S := 30) (tc := 0) (len := 200) hE wa_int rfl (by decide) dX1_init_8 rfl rfl (by decide) rfl (by decide) ⟨by decide, by rw [tt_38, tt_45] <;> decide, by rw [tt_38] <;> decide, by rw [tt_39, tt_38]⟩ (by decide) rfl (fun σ1 eσ1 => ?_)
  refine dk_putF (pc' := 13) hE fl_X1_11 dX1_init_10 hi ⟨_, rfl, rfl⟩ ⟨by decide, by decide, by decide⟩ rfl (fun _ => trivial) trivial rfl ?_
  obtain ⟨σ2, eσ2⟩ : ∃ q : dkS, q = dk_up σ1 37 0 38 := ⟨_, rfl⟩
  show dk_PJ E 13 [(4, 37)] [] 39 (dk_up σ1 37 0 38)
  rw [← eσ2]
  refine dk_aload_n (pc' := 14) hE dX1_init_13 rfl rfl rfl ?_
  refine dk_sipush (pc' := 17) hE dX1_init_14 (by decide) rfl ?_
  refine dk_newa (ay := .int) (pc' := 19) (n' := 40) (S := 31) (tc := 0) (len := 200) hE wa_int rfl (by decide) dX1_init_17 rfl rfl (by decide) rfl (by decide) ⟨by decide, by rw [tt_39, tt_38, tt_45] <;> decide, by rw [tt_38, tt_39] <;> decide, by rw [tt_40, tt_39]⟩ (by decide) rfl (fun σ3 eσ3 => ?_)
  refine dk_putF (pc' := 22) hE fl_X1_15 dX1_init_19 hi ⟨_, rfl, rfl⟩ ⟨by decide, by decide, by decide⟩ rfl (fun _ => trivial) trivial rfl ?_
  obtain ⟨σ4, eσ4⟩ : ∃ q : dkS, q = dk_up σ3 37 1 39 := ⟨_, rfl⟩
  show dk_PJ E 22 [(4, 37)] [] 40 (dk_up σ3 37 1 39)
  rw [← eσ4]
  refine dk_aload_n (pc' := 23) hE dX1_init_22 rfl rfl rfl ?_
  refine dk_sipush (pc' := 26) hE dX1_init_23 (by decide) rfl ?_
  refine dk_newa (ay := .int) (pc' := 28) (n' := 41) (S := 32) (tc := 0) (len := 200) hE wa_int rfl (by decide) dX1_init_26 rfl rfl (by decide) rfl (by decide) ⟨by decide, by rw [tt_40, tt_38, tt_45] <;> decide, by rw [tt_38, tt_40] <;> decide, by rw [tt_41, tt_40]⟩ (by decide) rfl (fun σ5 eσ5 => ?_)
  refine dk_putF (pc' := 31) hE fl_X1_18 dX1_init_28 hi ⟨_, rfl, rfl⟩ ⟨by decide, by decide, by decide⟩ rfl (fun _ => trivial) trivial rfl ?_
  obtain ⟨σ6, eσ6⟩ : ∃ q : dkS, q = dk_up σ5 37 2 40 := ⟨_, rfl⟩
  show dk_PJ E 31 [(4, 37)] [] 41 (dk_up σ5 37 2 40)
  rw [← eσ6]
  refine dk_aload_n (pc' := 32) hE dX1_init_31 rfl rfl rfl ?_
  refine dk_sipush (pc' := 35) hE dX1_init_32 (by decide) rfl ?_
  refine dk_newa (ay := .int) (pc' := 37) (n' := 42) (S := 33) (tc := 0) (len := 200) hE wa_int rfl (by decide) dX1_init_35 rfl rfl (by decide) rfl (by decide) ⟨by decide, by rw [tt_41, tt_38, tt_45] <;> decide, by rw [tt_38, tt_41] <;> decide, by rw [tt_42, tt_41]⟩ (by decide) rfl (fun σ7 eσ7 => ?_)
  refine dk_putF (pc' := 40) hE fl_X1_21 dX1_init_37 hi ⟨_, rfl, rfl⟩ ⟨by decide, by decide, by decide⟩ rfl (fun _ => trivial) trivial rfl ?_
  obtain ⟨σ8, eσ8⟩ : ∃ q : dkS, q = dk_up σ7 37 3 41 := ⟨_, rfl⟩
  show dk_PJ E 40 [(4, 37)] [] 42 (dk_up σ7 37 3 41)
  rw [← eσ8]
  refine dk_aload_n (pc' := 41) hE dX1_init_40 rfl rfl rfl ?_
  refine dk_sipush (pc' := 44) hE dX1_init_41 (by decide) rfl ?_
  refine dk_newa (ay := .int) (pc' := 46) (n' := 43) (S := 34) (tc := 0) (len := 200) hE wa_int rfl (by decide) dX1_init_44 rfl rfl (by decide) rfl (by decide) ⟨by decide, by rw [tt_42, tt_38, tt_45] <;> decide, by rw [tt_38, tt_42] <;> decide, by rw [tt_43, tt_42]⟩ (by decide) rfl (fun σ9 eσ9 => ?_)
  refine dk_putF (pc' := 49) hE fl_X1_24 dX1_init_46 hi ⟨_, rfl, rfl⟩ ⟨by decide, by decide, by decide⟩ rfl (fun _ => trivial) trivial rfl ?_
  obtain ⟨σ10, eσ10⟩ : ∃ q : dkS, q = dk_up σ9 37 4 42 := ⟨_, rfl⟩
  show dk_PJ E 49 [(4, 37)] [] 43 (dk_up σ9 37 4 42)
  rw [← eσ10]
  refine dk_aload_n (pc' := 50) hE dX1_init_49 rfl rfl rfl ?_
  refine dk_sipush (pc' := 53) hE dX1_init_50 (by decide) rfl ?_
  refine dk_newa (ay := .int) (pc' := 55) (n' := 44) (S := 35) (tc := 0) (len := 200) hE wa_int rfl (by decide) dX1_init_53 rfl rfl (by decide) rfl (by decide) ⟨by decide, by rw [tt_43, tt_38, tt_45] <;> decide, by rw [tt_38, tt_43] <;> decide, by rw [tt_44, tt_43]⟩ (by decide) rfl (fun σ11 eσ11 => ?_)
  refine dk_putF (pc' := 58) hE fl_X1_27 dX1_init_55 hi ⟨_, rfl, rfl⟩ ⟨by decide, by decide, by decide⟩ rfl (fun _ => trivial) trivial rfl ?_
  obtain ⟨σ12, eσ12⟩ : ∃ q : dkS, q = dk_up σ11 37 5 43 := ⟨_, rfl⟩
  show dk_PJ E 58 [(4, 37)] [] 44 (dk_up σ11 37 5 43)
  rw [← eσ12]
  refine dk_aload_n (pc' := 59) hE dX1_init_58 rfl rfl rfl ?_
  refine dk_sipush (pc' := 62) hE dX1_init_59 (by decide) rfl ?_
  refine dk_newa (ay := .int) (pc' := 64) (n' := 45) (S := 36) (tc := 0) (len := 200) hE wa_int rfl (by decide) dX1_init_62 rfl rfl (by decide) rfl (by decide) ⟨by decide, by rw [tt_44, tt_38, tt_45] <;> decide, by rw [tt_38, tt_44] <;> decide, by rw [tt_45, tt_44]⟩ (by decide) rfl (fun σ13 eσ13 => ?_)
  refine dk_putF (pc' := 67) hE fl_X1_30 dX1_init_64 hi ⟨_, rfl, rfl⟩ ⟨by decide, by decide, by decide⟩ rfl (fun _ => trivial) trivial rfl ?_
  obtain ⟨σ14, eσ14⟩ : ∃ q : dkS, q = dk_up σ13 37 6 44 := ⟨_, rfl⟩
  show dk_PJ E 67 [(4, 37)] [] 45 (dk_up σ13 37 6 44)
  rw [← eσ14]
  have hT37 : ∀ j : Nat, j < dk_len (dk_site 37) → dk_Ty 37 j (σ14 37 j) := fun j hj => by
    have hj : j < 9 := hj
    rcases (show j = 0 ∨ j = 1 ∨ j = 2 ∨ j = 3 ∨ j = 4 ∨ j = 5 ∨ j = 6 ∨ j = 7 ∨ j = 8 by omega) with rfl | rfl | rfl | rfl | rfl | rfl | rfl | rfl | rfl
    · exact (ty_1_0 is_37).mpr (by rw [show σ14 37 ((0 : Nat) : Int) = 38 from (show σ14 37 0 = 38 by rw [eσ14, dk_up_n (by decide), eσ13, dk_nw_n (by decide), eσ12, dk_up_n (by decide), eσ11, dk_nw_n (by decide), eσ10, dk_up_n (by decide), eσ9, dk_nw_n (by decide), eσ8, dk_up_n (by decide), eσ7, dk_nw_n (by decide), eσ6, dk_up_n (by decide), eσ5, dk_nw_n (by decide), eσ4, dk_up_n (by decide), eσ3, dk_nw_n (by decide), eσ2, dk_up_s])] <;> decide)
    · exact (ty_1_1 is_37).mpr (by rw [show σ14 37 ((1 : Nat) : Int) = 39 from (show σ14 37 1 = 39 by rw [eσ14, dk_up_n (by decide), eσ13, dk_nw_n (by decide), eσ12, dk_up_n (by decide), eσ11, dk_nw_n (by decide), eσ10, dk_up_n (by decide), eσ9, dk_nw_n (by decide), eσ8, dk_up_n (by decide), eσ7, dk_nw_n (by decide), eσ6, dk_up_n (by decide), eσ5, dk_nw_n (by decide), eσ4, dk_up_s])] <;> decide)
    · exact (ty_1_2 is_37).mpr (by rw [show σ14 37 ((2 : Nat) : Int) = 40 from (show σ14 37 2 = 40 by rw [eσ14, dk_up_n (by decide), eσ13, dk_nw_n (by decide), eσ12, dk_up_n (by decide), eσ11, dk_nw_n (by decide), eσ10, dk_up_n (by decide), eσ9, dk_nw_n (by decide), eσ8, dk_up_n (by decide), eσ7, dk_nw_n (by decide), eσ6, dk_up_s])] <;> decide)
    · exact (ty_1_3 is_37).mpr (by rw [show σ14 37 ((3 : Nat) : Int) = 41 from (show σ14 37 3 = 41 by rw [eσ14, dk_up_n (by decide), eσ13, dk_nw_n (by decide), eσ12, dk_up_n (by decide), eσ11, dk_nw_n (by decide), eσ10, dk_up_n (by decide), eσ9, dk_nw_n (by decide), eσ8, dk_up_s])] <;> decide)
    · exact (ty_1_4 is_37).mpr (by rw [show σ14 37 ((4 : Nat) : Int) = 42 from (show σ14 37 4 = 42 by rw [eσ14, dk_up_n (by decide), eσ13, dk_nw_n (by decide), eσ12, dk_up_n (by decide), eσ11, dk_nw_n (by decide), eσ10, dk_up_s])] <;> decide)
    · exact (ty_1_5 is_37).mpr (by rw [show σ14 37 ((5 : Nat) : Int) = 43 from (show σ14 37 5 = 43 by rw [eσ14, dk_up_n (by decide), eσ13, dk_nw_n (by decide), eσ12, dk_up_s])] <;> decide)
    · exact (ty_1_6 is_37).mpr (by rw [show σ14 37 ((6 : Nat) : Int) = 44 from (show σ14 37 6 = 44 by rw [eσ14, dk_up_s])] <;> decide)
    · exact (ty_1_7 is_37).mpr (by rw [show σ14 37 ((7 : Nat) : Int) = 0 from (show σ14 37 7 = 0 by rw [eσ14, dk_up_n (by decide), eσ13, dk_nw_n (by decide), eσ12, dk_up_n (by decide), eσ11, dk_nw_n (by decide), eσ10, dk_up_n (by decide), eσ9, dk_nw_n (by decide), eσ8, dk_up_n (by decide), eσ7, dk_nw_n (by decide), eσ6, dk_up_n (by decide), eσ5, dk_nw_n (by decide), eσ4, dk_up_n (by decide), eσ3, dk_nw_n (by decide), eσ2, dk_up_n (by decide), eσ1, dk_nw_n (by decide), hF, show dk_dz (dk_stc (dk_site 37) (7 : Int).toNat) = 0 from rfl])] <;> decide)
    · exact (ty_1_8 is_37).mpr (by rw [show σ14 37 ((8 : Nat) : Int) = 0 from (show σ14 37 8 = 0 by rw [eσ14, dk_up_n (by decide), eσ13, dk_nw_n (by decide), eσ12, dk_up_n (by decide), eσ11, dk_nw_n (by decide), eσ10, dk_up_n (by decide), eσ9, dk_nw_n (by decide), eσ8, dk_up_n (by decide), eσ7, dk_nw_n (by decide), eσ6, dk_up_n (by decide), eσ5, dk_nw_n (by decide), eσ4, dk_up_n (by decide), eσ3, dk_nw_n (by decide), eσ2, dk_up_n (by decide), eσ1, dk_nw_n (by decide), hF, show dk_dz (dk_stc (dk_site 37) (8 : Int).toNat) = 0 from rfl])] <;> decide)
  have hS38 : ∀ j : Nat, j < dk_len (dk_site 38) → dk_Ty 38 j (σ14 38 j) := fun j hj => by
    have e_ : σ14 38 (j : Int) = 0 := by rw [eσ14, dk_up_k (show 38 ≠ 37 by decide), eσ13, dk_nw_n (show 38 ≠ 44 by decide), eσ12, dk_up_k (show 38 ≠ 37 by decide), eσ11, dk_nw_n (show 38 ≠ 43 by decide), eσ10, dk_up_k (show 38 ≠ 37 by decide), eσ9, dk_nw_n (show 38 ≠ 42 by decide), eσ8, dk_up_k (show 38 ≠ 37 by decide), eσ7, dk_nw_n (show 38 ≠ 41 by decide), eσ6, dk_up_k (show 38 ≠ 37 by decide), eσ5, dk_nw_n (show 38 ≠ 40 by decide), eσ4, dk_up_k (show 38 ≠ 37 by decide), eσ3, dk_nw_n (show 38 ≠ 39 by decide), eσ2, dk_up_k (show 38 ≠ 37 by decide), eσ1, dk_nw_s, show ∀ q : Nat, dk_dz (dk_stc (dk_site 38) q) = 0 from fun q => rfl]
    exact (ta_30 is_38).mpr (by rw [e_] <;> decide)
  have hS39 : ∀ j : Nat, j < dk_len (dk_site 39) → dk_Ty 39 j (σ14 39 j) := fun j hj => by
    have e_ : σ14 39 (j : Int) = 0 := by rw [eσ14, dk_up_k (show 39 ≠ 37 by decide), eσ13, dk_nw_n (show 39 ≠ 44 by decide), eσ12, dk_up_k (show 39 ≠ 37 by decide), eσ11, dk_nw_n (show 39 ≠ 43 by decide), eσ10, dk_up_k (show 39 ≠ 37 by decide), eσ9, dk_nw_n (show 39 ≠ 42 by decide), eσ8, dk_up_k (show 39 ≠ 37 by decide), eσ7, dk_nw_n (show 39 ≠ 41 by decide), eσ6, dk_up_k (show 39 ≠ 37 by decide), eσ5, dk_nw_n (show 39 ≠ 40 by decide), eσ4, dk_up_k (show 39 ≠ 37 by decide), eσ3, dk_nw_s, show ∀ q : Nat, dk_dz (dk_stc (dk_site 39) q) = 0 from fun q => rfl]
    exact (ta_31 is_39).mpr (by rw [e_] <;> decide)
  have hS40 : ∀ j : Nat, j < dk_len (dk_site 40) → dk_Ty 40 j (σ14 40 j) := fun j hj => by
    have e_ : σ14 40 (j : Int) = 0 := by rw [eσ14, dk_up_k (show 40 ≠ 37 by decide), eσ13, dk_nw_n (show 40 ≠ 44 by decide), eσ12, dk_up_k (show 40 ≠ 37 by decide), eσ11, dk_nw_n (show 40 ≠ 43 by decide), eσ10, dk_up_k (show 40 ≠ 37 by decide), eσ9, dk_nw_n (show 40 ≠ 42 by decide), eσ8, dk_up_k (show 40 ≠ 37 by decide), eσ7, dk_nw_n (show 40 ≠ 41 by decide), eσ6, dk_up_k (show 40 ≠ 37 by decide), eσ5, dk_nw_s, show ∀ q : Nat, dk_dz (dk_stc (dk_site 40) q) = 0 from fun q => rfl]
    exact (ta_32 is_40).mpr (by rw [e_] <;> decide)
  have hS41 : ∀ j : Nat, j < dk_len (dk_site 41) → dk_Ty 41 j (σ14 41 j) := fun j hj => by
    have e_ : σ14 41 (j : Int) = 0 := by rw [eσ14, dk_up_k (show 41 ≠ 37 by decide), eσ13, dk_nw_n (show 41 ≠ 44 by decide), eσ12, dk_up_k (show 41 ≠ 37 by decide), eσ11, dk_nw_n (show 41 ≠ 43 by decide), eσ10, dk_up_k (show 41 ≠ 37 by decide), eσ9, dk_nw_n (show 41 ≠ 42 by decide), eσ8, dk_up_k (show 41 ≠ 37 by decide), eσ7, dk_nw_s, show ∀ q : Nat, dk_dz (dk_stc (dk_site 41) q) = 0 from fun q => rfl]
    exact (ta_33 is_41).mpr (by rw [e_] <;> decide)
  have hS42 : ∀ j : Nat, j < dk_len (dk_site 42) → dk_Ty 42 j (σ14 42 j) := fun j hj => by
    have e_ : σ14 42 (j : Int) = 0 := by rw [eσ14, dk_up_k (show 42 ≠ 37 by decide), eσ13, dk_nw_n (show 42 ≠ 44 by decide), eσ12, dk_up_k (show 42 ≠ 37 by decide), eσ11, dk_nw_n (show 42 ≠ 43 by decide), eσ10, dk_up_k (show 42 ≠ 37 by decide), eσ9, dk_nw_s, show ∀ q : Nat, dk_dz (dk_stc (dk_site 42) q) = 0 from fun q => rfl]
    exact (ta_34 is_42).mpr (by rw [e_] <;> decide)
  have hS43 : ∀ j : Nat, j < dk_len (dk_site 43) → dk_Ty 43 j (σ14 43 j) := fun j hj => by
    exact (ta_35 is_43).mpr trivial
  have hS44 : ∀ j : Nat, j < dk_len (dk_site 44) → dk_Ty 44 j (σ14 44 j) := fun j hj => by
    exact (ta_36 is_44).mpr trivial
  refine dk_vret (st := []) hE hR dX1_init_67 ⟨rfl, ⟨fun a j h1 h2 => by rw [eσ14, dk_up_k (show a ≠ 37 by omega), eσ13, dk_nw_n (show a ≠ 44 by omega), eσ12, dk_up_k (show a ≠ 37 by omega), eσ11, dk_nw_n (show a ≠ 43 by omega), eσ10, dk_up_k (show a ≠ 37 by omega), eσ9, dk_nw_n (show a ≠ 42 by omega), eσ8, dk_up_k (show a ≠ 37 by omega), eσ7, dk_nw_n (show a ≠ 41 by omega), eσ6, dk_up_k (show a ≠ 37 by omega), eσ5, dk_nw_n (show a ≠ 40 by omega), eσ4, dk_up_k (show a ≠ 37 by omega), eσ3, dk_nw_n (show a ≠ 39 by omega), eσ2, dk_up_k (show a ≠ 37 by omega), eσ1, dk_nw_n (show a ≠ 38 by omega)], fun a ha j hj => ?_⟩, ?_⟩
  · skip
    by_cases q37 : a = 37
    · subst q37; exact hT37 j hj
    by_cases q38 : a = 38
    · subst q38; exact hS38 j hj
    by_cases q39 : a = 39
    · subst q39; exact hS39 j hj
    by_cases q40 : a = 40
    · subst q40; exact hS40 j hj
    by_cases q41 : a = 41
    · subst q41; exact hS41 j hj
    by_cases q42 : a = 42
    · subst q42; exact hS42 j hj
    by_cases q43 : a = 43
    · subst q43; exact hS43 j hj
    by_cases q44 : a = 44
    · subst q44; exact hS44 j hj
    exfalso; omega
  · exact (show σ14 37 8 = 0 by rw [eσ14, dk_up_n (by decide), eσ13, dk_nw_n (by decide), eσ12, dk_up_n (by decide), eσ11, dk_nw_n (by decide), eσ10, dk_up_n (by decide), eσ9, dk_nw_n (by decide), eσ8, dk_up_n (by decide), eσ7, dk_nw_n (by decide), eσ6, dk_up_n (by decide), eσ5, dk_nw_n (by decide), eσ4, dk_up_n (by decide), eσ3, dk_nw_n (by decide), eσ2, dk_up_n (by decide), eσ1, dk_nw_n (by decide), hF, show dk_dz (dk_stc (dk_site 37) (8 : Int).toNat) = 0 from rfl])
set_option maxHeartbeats 8000000 in
set_option maxRecDepth 20000 in
theorem ci_6_45 (l : Launch) (G : dkG) (hGd : dk_Gd G) (hGn : dk_Gn G) : dk_Ct l G dk_T0 yX6_init cX6_init 1 none 1 46 75 (fun av σ => av = [(4, 45)] ∧ dk_fsh σ 45) (fun _ σ r_ σ' => r_ = none ∧ dk_cp 45 46 75 σ σ') := by
  refine dk_enter hGd (by decide) (fun av σ hpre hok => ?_)
  obtain ⟨rfl, hF⟩ := hpre
  refine ⟨Nat.le_of_ble_eq_true rfl, fun E hE hR hI => ?_⟩
  have hi := hI rfl
  show dk_PJ E 0 [(4, 45)] [] 46 σ
  refine dk_aload_n (pc' := 1) hE dX6_init_0 rfl rfl rfl ?_
  refine dk_obj (pc' := 4) hE wd_378 wd_128 wc_obj dX6_init_1 (by decide) (by decide) rfl ?_
  refine dk_aload_n (pc' := 5) hE dX6_init_4 rfl rfl rfl ?_
  refine dk_bipush (pc' := 7) hE dX6_init_5 (by decide) rfl ?_
  refine dk_bipush (pc' := 9) hE dX6_init_7 (by decide) rfl ?_
  refine dk_multi (pc' := 13) (n' := 57) (S := 37) (SI := 38) (N := 10) (M := 12) (tc := 5) (ti := 0) (ty := .int) hE wd_379 ⟨hGn, Or.inl rfl⟩ wa_int rfl rfl (by decide) dX6_init_9 rfl rfl (fun k h1_ h2_ => ?_) rfl (by decide) (by decide) rfl rfl (by decide) ⟨by decide, by rw [tt_46, tt_75] <;> decide, by rw [tt_46] <;> decide, by rw [tt_57, tt_46]⟩ (by decide) rfl (fun σ1 g2_1 g2_2 g2_3 => ?_)
  · rcases (show k = 47 ∨ k = 48 ∨ k = 49 ∨ k = 50 ∨ k = 51 ∨ k = 52 ∨ k = 53 ∨ k = 54 ∨ k = 55 ∨ k = 56 by omega) with rfl | rfl | rfl | rfl | rfl | rfl | rfl | rfl | rfl | rfl <;> rfl
  refine dk_putF (pc' := 16) hE fl_X6_13 dX6_init_13 hi ⟨_, rfl, rfl⟩ ⟨by decide, by decide, by decide⟩ rfl (fun _ => trivial) trivial rfl ?_
  obtain ⟨σ3, eσ3⟩ : ∃ q : dkS, q = dk_up σ1 45 0 46 := ⟨_, rfl⟩
  show dk_PJ E 16 [(4, 45)] [] 57 (dk_up σ1 45 0 46)
  rw [← eσ3]
  refine dk_aload_n (pc' := 17) hE dX6_init_16 rfl rfl rfl ?_
  refine dk_bipush (pc' := 19) hE dX6_init_17 (by decide) rfl ?_
  refine dk_bipush (pc' := 21) hE dX6_init_19 (by decide) rfl ?_
  refine dk_multi (pc' := 25) (n' := 68) (S := 39) (SI := 40) (N := 10) (M := 12) (tc := 5) (ti := 0) (ty := .int) hE wd_379 ⟨hGn, Or.inl rfl⟩ wa_int rfl rfl (by decide) dX6_init_21 rfl rfl (fun k h1_ h2_ => ?_) rfl (by decide) (by decide) rfl rfl (by decide) ⟨by decide, by rw [tt_57, tt_46, tt_75] <;> decide, by rw [tt_46, tt_57] <;> decide, by rw [tt_68, tt_57]⟩ (by decide) rfl (fun σ4 g5_1 g5_2 g5_3 => ?_)
  · rcases (show k = 58 ∨ k = 59 ∨ k = 60 ∨ k = 61 ∨ k = 62 ∨ k = 63 ∨ k = 64 ∨ k = 65 ∨ k = 66 ∨ k = 67 by omega) with rfl | rfl | rfl | rfl | rfl | rfl | rfl | rfl | rfl | rfl <;> rfl
  refine dk_putF (pc' := 28) hE fl_X6_18 dX6_init_25 hi ⟨_, rfl, rfl⟩ ⟨by decide, by decide, by decide⟩ rfl (fun _ => trivial) trivial rfl ?_
  obtain ⟨σ6, eσ6⟩ : ∃ q : dkS, q = dk_up σ4 45 1 57 := ⟨_, rfl⟩
  show dk_PJ E 28 [(4, 45)] [] 68 (dk_up σ4 45 1 57)
  rw [← eσ6]
  refine dk_aload_n (pc' := 29) hE dX6_init_28 rfl rfl rfl ?_
  refine dk_bipush (pc' := 31) hE dX6_init_29 (by decide) rfl ?_
  refine dk_newa (ay := .int) (pc' := 33) (n' := 69) (S := 41) (tc := 0) (len := 10) hE wa_int rfl (by decide) dX6_init_31 rfl rfl (by decide) rfl (by decide) ⟨by decide, by rw [tt_68, tt_46, tt_75] <;> decide, by rw [tt_46, tt_68] <;> decide, by rw [tt_69, tt_68]⟩ (by decide) rfl (fun σ7 eσ7 => ?_)
  refine dk_putF (pc' := 36) hE fl_X6_21 dX6_init_33 hi ⟨_, rfl, rfl⟩ ⟨by decide, by decide, by decide⟩ rfl (fun _ => trivial) trivial rfl ?_
  obtain ⟨σ8, eσ8⟩ : ∃ q : dkS, q = dk_up σ7 45 2 68 := ⟨_, rfl⟩
  show dk_PJ E 36 [(4, 45)] [] 69 (dk_up σ7 45 2 68)
  rw [← eσ8]
  refine dk_aload_n (pc' := 37) hE dX6_init_36 rfl rfl rfl ?_
  refine dk_bipush (pc' := 39) hE dX6_init_37 (by decide) rfl ?_
  refine dk_newa (ay := .boolean) (pc' := 41) (n' := 70) (S := 42) (tc := 2) (len := 10) hE wa_boolean rfl (by decide) dX6_init_39 rfl rfl (by decide) rfl (by decide) ⟨by decide, by rw [tt_69, tt_46, tt_75] <;> decide, by rw [tt_46, tt_69] <;> decide, by rw [tt_70, tt_69]⟩ (by decide) rfl (fun σ9 eσ9 => ?_)
  refine dk_putF (pc' := 44) hE fl_X6_25 dX6_init_41 hi ⟨_, rfl, rfl⟩ ⟨by decide, by decide, by decide⟩ rfl (fun _ => trivial) trivial rfl ?_
  obtain ⟨σ10, eσ10⟩ : ∃ q : dkS, q = dk_up σ9 45 3 69 := ⟨_, rfl⟩
  show dk_PJ E 44 [(4, 45)] [] 70 (dk_up σ9 45 3 69)
  rw [← eσ10]
  refine dk_aload_n (pc' := 45) hE dX6_init_44 rfl rfl rfl ?_
  refine dk_bipush (pc' := 47) hE dX6_init_45 (by decide) rfl ?_
  refine dk_newa (ay := .boolean) (pc' := 49) (n' := 71) (S := 43) (tc := 2) (len := 10) hE wa_boolean rfl (by decide) dX6_init_47 rfl rfl (by decide) rfl (by decide) ⟨by decide, by rw [tt_70, tt_46, tt_75] <;> decide, by rw [tt_46, tt_70] <;> decide, by rw [tt_71, tt_70]⟩ (by decide) rfl (fun σ11 eσ11 => ?_)
  refine dk_putF (pc' := 52) hE fl_X6_29 dX6_init_49 hi ⟨_, rfl, rfl⟩ ⟨by decide, by decide, by decide⟩ rfl (fun _ => trivial) trivial rfl ?_
  obtain ⟨σ12, eσ12⟩ : ∃ q : dkS, q = dk_up σ11 45 4 70 := ⟨_, rfl⟩
  show dk_PJ E 52 [(4, 45)] [] 71 (dk_up σ11 45 4 70)
  rw [← eσ12]
  refine dk_aload_n (pc' := 53) hE dX6_init_52 rfl rfl rfl ?_
  refine dk_bipush (pc' := 55) hE dX6_init_53 (by decide) rfl ?_
  refine dk_newa (ay := .int) (pc' := 57) (n' := 72) (S := 44) (tc := 0) (len := 12) hE wa_int rfl (by decide) dX6_init_55 rfl rfl (by decide) rfl (by decide) ⟨by decide, by rw [tt_71, tt_46, tt_75] <;> decide, by rw [tt_46, tt_71] <;> decide, by rw [tt_72, tt_71]⟩ (by decide) rfl (fun σ13 eσ13 => ?_)
  refine dk_putF (pc' := 60) hE fl_X6_32 dX6_init_57 hi ⟨_, rfl, rfl⟩ ⟨by decide, by decide, by decide⟩ rfl (fun _ => trivial) trivial rfl ?_
  obtain ⟨σ14, eσ14⟩ : ∃ q : dkS, q = dk_up σ13 45 5 71 := ⟨_, rfl⟩
  show dk_PJ E 60 [(4, 45)] [] 72 (dk_up σ13 45 5 71)
  rw [← eσ14]
  refine dk_aload_n (pc' := 61) hE dX6_init_60 rfl rfl rfl ?_
  refine dk_bipush (pc' := 63) hE dX6_init_61 (by decide) rfl ?_
  refine dk_newa (ay := .int) (pc' := 65) (n' := 73) (S := 45) (tc := 0) (len := 10) hE wa_int rfl (by decide) dX6_init_63 rfl rfl (by decide) rfl (by decide) ⟨by decide, by rw [tt_72, tt_46, tt_75] <;> decide, by rw [tt_46, tt_72] <;> decide, by rw [tt_73, tt_72]⟩ (by decide) rfl (fun σ15 eσ15 => ?_)
  refine dk_putF (pc' := 68) hE fl_X6_35 dX6_init_65 hi ⟨_, rfl, rfl⟩ ⟨by decide, by decide, by decide⟩ rfl (fun _ => trivial) trivial rfl ?_
  obtain ⟨σ16, eσ16⟩ : ∃ q : dkS, q = dk_up σ15 45 6 72 := ⟨_, rfl⟩
  show dk_PJ E 68 [(4, 45)] [] 73 (dk_up σ15 45 6 72)
  rw [← eσ16]
  refine dk_aload_n (pc' := 69) hE dX6_init_68 rfl rfl rfl ?_
  refine dk_bipush (pc' := 71) hE dX6_init_69 (by decide) rfl ?_
  refine dk_newa (ay := .int) (pc' := 73) (n' := 74) (S := 46) (tc := 0) (len := 60) hE wa_int rfl (by decide) dX6_init_71 rfl rfl (by decide) rfl (by decide) ⟨by decide, by rw [tt_73, tt_46, tt_75] <;> decide, by rw [tt_46, tt_73] <;> decide, by rw [tt_74, tt_73]⟩ (by decide) rfl (fun σ17 eσ17 => ?_)
  refine dk_putF (pc' := 76) hE fl_X6_40 dX6_init_73 hi ⟨_, rfl, rfl⟩ ⟨by decide, by decide, by decide⟩ rfl (fun _ => trivial) trivial rfl ?_
  obtain ⟨σ18, eσ18⟩ : ∃ q : dkS, q = dk_up σ17 45 7 73 := ⟨_, rfl⟩
  show dk_PJ E 76 [(4, 45)] [] 74 (dk_up σ17 45 7 73)
  rw [← eσ18]
  refine dk_aload_n (pc' := 77) hE dX6_init_76 rfl rfl rfl ?_
  refine dk_bipush (pc' := 79) hE dX6_init_77 (by decide) rfl ?_
  refine dk_newa (ay := .int) (pc' := 81) (n' := 75) (S := 47) (tc := 0) (len := 10) hE wa_int rfl (by decide) dX6_init_79 rfl rfl (by decide) rfl (by decide) ⟨by decide, by rw [tt_74, tt_46, tt_75] <;> decide, by rw [tt_46, tt_74] <;> decide, by rw [tt_75, tt_74]⟩ (by decide) rfl (fun σ19 eσ19 => ?_)
  refine dk_putF (pc' := 84) hE fl_X6_43 dX6_init_81 hi ⟨_, rfl, rfl⟩ ⟨by decide, by decide, by decide⟩ rfl (fun _ => trivial) trivial rfl ?_
  obtain ⟨σ20, eσ20⟩ : ∃ q : dkS, q = dk_up σ19 45 8 74 := ⟨_, rfl⟩
  show dk_PJ E 84 [(4, 45)] [] 75 (dk_up σ19 45 8 74)
  rw [← eσ20]
  have hT45 : ∀ j : Nat, j < dk_len (dk_site 45) → dk_Ty 45 j (σ20 45 j) := fun j hj => by
    have hj : j < 13 := hj
    rcases (show j = 0 ∨ j = 1 ∨ j = 2 ∨ j = 3 ∨ j = 4 ∨ j = 5 ∨ j = 6 ∨ j = 7 ∨ j = 8 ∨ j = 9 ∨ j = 10 ∨ j = 11 ∨ j = 12 by omega) with rfl | rfl | rfl | rfl | rfl | rfl | rfl | rfl | rfl | rfl | rfl | rfl | rfl
    · exact (ty_6_0 is_45).mpr (by rw [show σ20 45 ((0 : Nat) : Int) = 46 from (show σ20 45 0 = 46 by rw [eσ20, dk_up_n (by decide), eσ19, dk_nw_n (by decide), eσ18, dk_up_n (by decide), eσ17, dk_nw_n (by decide), eσ16, dk_up_n (by decide), eσ15, dk_nw_n (by decide), eσ14, dk_up_n (by decide), eσ13, dk_nw_n (by decide), eσ12, dk_up_n (by decide), eσ11, dk_nw_n (by decide), eσ10, dk_up_n (by decide), eσ9, dk_nw_n (by decide), eσ8, dk_up_n (by decide), eσ7, dk_nw_n (by decide), eσ6, dk_up_n (by decide), g5_1 45 0 (by decide), eσ3, dk_up_s])] <;> decide)
    · exact (ty_6_1 is_45).mpr (by rw [show σ20 45 ((1 : Nat) : Int) = 57 from (show σ20 45 1 = 57 by rw [eσ20, dk_up_n (by decide), eσ19, dk_nw_n (by decide), eσ18, dk_up_n (by decide), eσ17, dk_nw_n (by decide), eσ16, dk_up_n (by decide), eσ15, dk_nw_n (by decide), eσ14, dk_up_n (by decide), eσ13, dk_nw_n (by decide), eσ12, dk_up_n (by decide), eσ11, dk_nw_n (by decide), eσ10, dk_up_n (by decide), eσ9, dk_nw_n (by decide), eσ8, dk_up_n (by decide), eσ7, dk_nw_n (by decide), eσ6, dk_up_s])] <;> decide)
    · exact (ty_6_2 is_45).mpr (by rw [show σ20 45 ((2 : Nat) : Int) = 68 from (show σ20 45 2 = 68 by rw [eσ20, dk_up_n (by decide), eσ19, dk_nw_n (by decide), eσ18, dk_up_n (by decide), eσ17, dk_nw_n (by decide), eσ16, dk_up_n (by decide), eσ15, dk_nw_n (by decide), eσ14, dk_up_n (by decide), eσ13, dk_nw_n (by decide), eσ12, dk_up_n (by decide), eσ11, dk_nw_n (by decide), eσ10, dk_up_n (by decide), eσ9, dk_nw_n (by decide), eσ8, dk_up_s])] <;> decide)
    · exact (ty_6_3 is_45).mpr (by rw [show σ20 45 ((3 : Nat) : Int) = 69 from (show σ20 45 3 = 69 by rw [eσ20, dk_up_n (by decide), eσ19, dk_nw_n (by decide), eσ18, dk_up_n (by decide), eσ17, dk_nw_n (by decide), eσ16, dk_up_n (by decide), eσ15, dk_nw_n (by decide), eσ14, dk_up_n (by decide), eσ13, dk_nw_n (by decide), eσ12, dk_up_n (by decide), eσ11, dk_nw_n (by decide), eσ10, dk_up_s])] <;> decide)
    · exact (ty_6_4 is_45).mpr (by rw [show σ20 45 ((4 : Nat) : Int) = 70 from (show σ20 45 4 = 70 by rw [eσ20, dk_up_n (by decide), eσ19, dk_nw_n (by decide), eσ18, dk_up_n (by decide), eσ17, dk_nw_n (by decide), eσ16, dk_up_n (by decide), eσ15, dk_nw_n (by decide), eσ14, dk_up_n (by decide), eσ13, dk_nw_n (by decide), eσ12, dk_up_s])] <;> decide)
    · exact (ty_6_5 is_45).mpr (by rw [show σ20 45 ((5 : Nat) : Int) = 71 from (show σ20 45 5 = 71 by rw [eσ20, dk_up_n (by decide), eσ19, dk_nw_n (by decide), eσ18, dk_up_n (by decide), eσ17, dk_nw_n (by decide), eσ16, dk_up_n (by decide), eσ15, dk_nw_n (by decide), eσ14, dk_up_s])] <;> decide)
    · exact (ty_6_6 is_45).mpr (by rw [show σ20 45 ((6 : Nat) : Int) = 72 from (show σ20 45 6 = 72 by rw [eσ20, dk_up_n (by decide), eσ19, dk_nw_n (by decide), eσ18, dk_up_n (by decide), eσ17, dk_nw_n (by decide), eσ16, dk_up_s])] <;> decide)
    · exact (ty_6_7 is_45).mpr (by rw [show σ20 45 ((7 : Nat) : Int) = 73 from (show σ20 45 7 = 73 by rw [eσ20, dk_up_n (by decide), eσ19, dk_nw_n (by decide), eσ18, dk_up_s])] <;> decide)
    · exact (ty_6_8 is_45).mpr (by rw [show σ20 45 ((8 : Nat) : Int) = 74 from (show σ20 45 8 = 74 by rw [eσ20, dk_up_s])] <;> decide)
    · exact (ty_6_9 is_45).mpr (by rw [show σ20 45 ((9 : Nat) : Int) = (-1) from (show σ20 45 9 = (-1) by rw [eσ20, dk_up_n (by decide), eσ19, dk_nw_n (by decide), eσ18, dk_up_n (by decide), eσ17, dk_nw_n (by decide), eσ16, dk_up_n (by decide), eσ15, dk_nw_n (by decide), eσ14, dk_up_n (by decide), eσ13, dk_nw_n (by decide), eσ12, dk_up_n (by decide), eσ11, dk_nw_n (by decide), eσ10, dk_up_n (by decide), eσ9, dk_nw_n (by decide), eσ8, dk_up_n (by decide), eσ7, dk_nw_n (by decide), eσ6, dk_up_n (by decide), g5_1 45 9 (by decide), eσ3, dk_up_n (by decide), g2_1 45 9 (by decide), hF, show dk_dz (dk_stc (dk_site 45) (9 : Int).toNat) = (-1) from rfl])] <;> decide)
    · exact (ty_6_10 is_45).mpr (by rw [show σ20 45 ((10 : Nat) : Int) = (-1) from (show σ20 45 10 = (-1) by rw [eσ20, dk_up_n (by decide), eσ19, dk_nw_n (by decide), eσ18, dk_up_n (by decide), eσ17, dk_nw_n (by decide), eσ16, dk_up_n (by decide), eσ15, dk_nw_n (by decide), eσ14, dk_up_n (by decide), eσ13, dk_nw_n (by decide), eσ12, dk_up_n (by decide), eσ11, dk_nw_n (by decide), eσ10, dk_up_n (by decide), eσ9, dk_nw_n (by decide), eσ8, dk_up_n (by decide), eσ7, dk_nw_n (by decide), eσ6, dk_up_n (by decide), g5_1 45 10 (by decide), eσ3, dk_up_n (by decide), g2_1 45 10 (by decide), hF, show dk_dz (dk_stc (dk_site 45) (10 : Int).toNat) = (-1) from rfl])] <;> decide)
    · exact (ty_6_11 is_45).mpr (by rw [show σ20 45 ((11 : Nat) : Int) = 0 from (show σ20 45 11 = 0 by rw [eσ20, dk_up_n (by decide), eσ19, dk_nw_n (by decide), eσ18, dk_up_n (by decide), eσ17, dk_nw_n (by decide), eσ16, dk_up_n (by decide), eσ15, dk_nw_n (by decide), eσ14, dk_up_n (by decide), eσ13, dk_nw_n (by decide), eσ12, dk_up_n (by decide), eσ11, dk_nw_n (by decide), eσ10, dk_up_n (by decide), eσ9, dk_nw_n (by decide), eσ8, dk_up_n (by decide), eσ7, dk_nw_n (by decide), eσ6, dk_up_n (by decide), g5_1 45 11 (by decide), eσ3, dk_up_n (by decide), g2_1 45 11 (by decide), hF, show dk_dz (dk_stc (dk_site 45) (11 : Int).toNat) = 0 from rfl])] <;> decide)
    · exact (ty_6_12 is_45).mpr (by rw [show σ20 45 ((12 : Nat) : Int) = 0 from (show σ20 45 12 = 0 by rw [eσ20, dk_up_n (by decide), eσ19, dk_nw_n (by decide), eσ18, dk_up_n (by decide), eσ17, dk_nw_n (by decide), eσ16, dk_up_n (by decide), eσ15, dk_nw_n (by decide), eσ14, dk_up_n (by decide), eσ13, dk_nw_n (by decide), eσ12, dk_up_n (by decide), eσ11, dk_nw_n (by decide), eσ10, dk_up_n (by decide), eσ9, dk_nw_n (by decide), eσ8, dk_up_n (by decide), eσ7, dk_nw_n (by decide), eσ6, dk_up_n (by decide), g5_1 45 12 (by decide), eσ3, dk_up_n (by decide), g2_1 45 12 (by decide), hF, show dk_dz (dk_stc (dk_site 45) (12 : Int).toNat) = 0 from rfl])] <;> decide)
  have hS46 : ∀ j : Nat, j < dk_len (dk_site 46) → dk_Ty 46 j (σ20 46 j) := fun j hj => by
    have hj : j < 10 := hj
    rcases (show j = 0 ∨ j = 1 ∨ j = 2 ∨ j = 3 ∨ j = 4 ∨ j = 5 ∨ j = 6 ∨ j = 7 ∨ j = 8 ∨ j = 9 by omega) with rfl | rfl | rfl | rfl | rfl | rfl | rfl | rfl | rfl | rfl
    · exact (ta_37 is_46).mpr (by rw [show σ20 46 ((0 : Nat) : Int) = 47 from (show σ20 46 0 = 47 by rw [eσ20, dk_up_n (by decide), eσ19, dk_nw_n (by decide), eσ18, dk_up_n (by decide), eσ17, dk_nw_n (by decide), eσ16, dk_up_n (by decide), eσ15, dk_nw_n (by decide), eσ14, dk_up_n (by decide), eσ13, dk_nw_n (by decide), eσ12, dk_up_n (by decide), eσ11, dk_nw_n (by decide), eσ10, dk_up_n (by decide), eσ9, dk_nw_n (by decide), eσ8, dk_up_n (by decide), eσ7, dk_nw_n (by decide), eσ6, dk_up_n (by decide), g5_1 46 0 (by decide), eσ3, dk_up_n (by decide), g2_2 0, show (46 : Int) + 1 + 0 = 47 from rfl])] <;> decide)
    · exact (ta_37 is_46).mpr (by rw [show σ20 46 ((1 : Nat) : Int) = 48 from (show σ20 46 1 = 48 by rw [eσ20, dk_up_n (by decide), eσ19, dk_nw_n (by decide), eσ18, dk_up_n (by decide), eσ17, dk_nw_n (by decide), eσ16, dk_up_n (by decide), eσ15, dk_nw_n (by decide), eσ14, dk_up_n (by decide), eσ13, dk_nw_n (by decide), eσ12, dk_up_n (by decide), eσ11, dk_nw_n (by decide), eσ10, dk_up_n (by decide), eσ9, dk_nw_n (by decide), eσ8, dk_up_n (by decide), eσ7, dk_nw_n (by decide), eσ6, dk_up_n (by decide), g5_1 46 1 (by decide), eσ3, dk_up_n (by decide), g2_2 1, show (46 : Int) + 1 + 1 = 48 from rfl])] <;> decide)
    · exact (ta_37 is_46).mpr (by rw [show σ20 46 ((2 : Nat) : Int) = 49 from (show σ20 46 2 = 49 by rw [eσ20, dk_up_n (by decide), eσ19, dk_nw_n (by decide), eσ18, dk_up_n (by decide), eσ17, dk_nw_n (by decide), eσ16, dk_up_n (by decide), eσ15, dk_nw_n (by decide), eσ14, dk_up_n (by decide), eσ13, dk_nw_n (by decide), eσ12, dk_up_n (by decide), eσ11, dk_nw_n (by decide), eσ10, dk_up_n (by decide), eσ9, dk_nw_n (by decide), eσ8, dk_up_n (by decide), eσ7, dk_nw_n (by decide), eσ6, dk_up_n (by decide), g5_1 46 2 (by decide), eσ3, dk_up_n (by decide), g2_2 2, show (46 : Int) + 1 + 2 = 49 from rfl])] <;> decide)
    · exact (ta_37 is_46).mpr (by rw [show σ20 46 ((3 : Nat) : Int) = 50 from (show σ20 46 3 = 50 by rw [eσ20, dk_up_n (by decide), eσ19, dk_nw_n (by decide), eσ18, dk_up_n (by decide), eσ17, dk_nw_n (by decide), eσ16, dk_up_n (by decide), eσ15, dk_nw_n (by decide), eσ14, dk_up_n (by decide), eσ13, dk_nw_n (by decide), eσ12, dk_up_n (by decide), eσ11, dk_nw_n (by decide), eσ10, dk_up_n (by decide), eσ9, dk_nw_n (by decide), eσ8, dk_up_n (by decide), eσ7, dk_nw_n (by decide), eσ6, dk_up_n (by decide), g5_1 46 3 (by decide), eσ3, dk_up_n (by decide), g2_2 3, show (46 : Int) + 1 + 3 = 50 from rfl])] <;> decide)
    · exact (ta_37 is_46).mpr (by rw [show σ20 46 ((4 : Nat) : Int) = 51 from (show σ20 46 4 = 51 by rw [eσ20, dk_up_n (by decide), eσ19, dk_nw_n (by decide), eσ18, dk_up_n (by decide), eσ17, dk_nw_n (by decide), eσ16, dk_up_n (by decide), eσ15, dk_nw_n (by decide), eσ14, dk_up_n (by decide), eσ13, dk_nw_n (by decide), eσ12, dk_up_n (by decide), eσ11, dk_nw_n (by decide), eσ10, dk_up_n (by decide), eσ9, dk_nw_n (by decide), eσ8, dk_up_n (by decide), eσ7, dk_nw_n (by decide), eσ6, dk_up_n (by decide), g5_1 46 4 (by decide), eσ3, dk_up_n (by decide), g2_2 4, show (46 : Int) + 1 + 4 = 51 from rfl])] <;> decide)
    · exact (ta_37 is_46).mpr (by rw [show σ20 46 ((5 : Nat) : Int) = 52 from (show σ20 46 5 = 52 by rw [eσ20, dk_up_n (by decide), eσ19, dk_nw_n (by decide), eσ18, dk_up_n (by decide), eσ17, dk_nw_n (by decide), eσ16, dk_up_n (by decide), eσ15, dk_nw_n (by decide), eσ14, dk_up_n (by decide), eσ13, dk_nw_n (by decide), eσ12, dk_up_n (by decide), eσ11, dk_nw_n (by decide), eσ10, dk_up_n (by decide), eσ9, dk_nw_n (by decide), eσ8, dk_up_n (by decide), eσ7, dk_nw_n (by decide), eσ6, dk_up_n (by decide), g5_1 46 5 (by decide), eσ3, dk_up_n (by decide), g2_2 5, show (46 : Int) + 1 + 5 = 52 from rfl])] <;> decide)
    · exact (ta_37 is_46).mpr (by rw [show σ20 46 ((6 : Nat) : Int) = 53 from (show σ20 46 6 = 53 by rw [eσ20, dk_up_n (by decide), eσ19, dk_nw_n (by decide), eσ18, dk_up_n (by decide), eσ17, dk_nw_n (by decide), eσ16, dk_up_n (by decide), eσ15, dk_nw_n (by decide), eσ14, dk_up_n (by decide), eσ13, dk_nw_n (by decide), eσ12, dk_up_n (by decide), eσ11, dk_nw_n (by decide), eσ10, dk_up_n (by decide), eσ9, dk_nw_n (by decide), eσ8, dk_up_n (by decide), eσ7, dk_nw_n (by decide), eσ6, dk_up_n (by decide), g5_1 46 6 (by decide), eσ3, dk_up_n (by decide), g2_2 6, show (46 : Int) + 1 + 6 = 53 from rfl])] <;> decide)
    · exact (ta_37 is_46).mpr (by rw [show σ20 46 ((7 : Nat) : Int) = 54 from (show σ20 46 7 = 54 by rw [eσ20, dk_up_n (by decide), eσ19, dk_nw_n (by decide), eσ18, dk_up_n (by decide), eσ17, dk_nw_n (by decide), eσ16, dk_up_n (by decide), eσ15, dk_nw_n (by decide), eσ14, dk_up_n (by decide), eσ13, dk_nw_n (by decide), eσ12, dk_up_n (by decide), eσ11, dk_nw_n (by decide), eσ10, dk_up_n (by decide), eσ9, dk_nw_n (by decide), eσ8, dk_up_n (by decide), eσ7, dk_nw_n (by decide), eσ6, dk_up_n (by decide), g5_1 46 7 (by decide), eσ3, dk_up_n (by decide), g2_2 7, show (46 : Int) + 1 + 7 = 54 from rfl])] <;> decide)
    · exact (ta_37 is_46).mpr (by rw [show σ20 46 ((8 : Nat) : Int) = 55 from (show σ20 46 8 = 55 by rw [eσ20, dk_up_n (by decide), eσ19, dk_nw_n (by decide), eσ18, dk_up_n (by decide), eσ17, dk_nw_n (by decide), eσ16, dk_up_n (by decide), eσ15, dk_nw_n (by decide), eσ14, dk_up_n (by decide), eσ13, dk_nw_n (by decide), eσ12, dk_up_n (by decide), eσ11, dk_nw_n (by decide), eσ10, dk_up_n (by decide), eσ9, dk_nw_n (by decide), eσ8, dk_up_n (by decide), eσ7, dk_nw_n (by decide), eσ6, dk_up_n (by decide), g5_1 46 8 (by decide), eσ3, dk_up_n (by decide), g2_2 8, show (46 : Int) + 1 + 8 = 55 from rfl])] <;> decide)
    · exact (ta_37 is_46).mpr (by rw [show σ20 46 ((9 : Nat) : Int) = 56 from (show σ20 46 9 = 56 by rw [eσ20, dk_up_n (by decide), eσ19, dk_nw_n (by decide), eσ18, dk_up_n (by decide), eσ17, dk_nw_n (by decide), eσ16, dk_up_n (by decide), eσ15, dk_nw_n (by decide), eσ14, dk_up_n (by decide), eσ13, dk_nw_n (by decide), eσ12, dk_up_n (by decide), eσ11, dk_nw_n (by decide), eσ10, dk_up_n (by decide), eσ9, dk_nw_n (by decide), eσ8, dk_up_n (by decide), eσ7, dk_nw_n (by decide), eσ6, dk_up_n (by decide), g5_1 46 9 (by decide), eσ3, dk_up_n (by decide), g2_2 9, show (46 : Int) + 1 + 9 = 56 from rfl])] <;> decide)
  have hS47 : ∀ j : Nat, j < dk_len (dk_site 47) → dk_Ty 47 j (σ20 47 j) := fun j hj => by
    exact (ta_38 is_47).mpr trivial
  have hS48 : ∀ j : Nat, j < dk_len (dk_site 48) → dk_Ty 48 j (σ20 48 j) := fun j hj => by
    exact (ta_38 is_48).mpr trivial
  have hS49 : ∀ j : Nat, j < dk_len (dk_site 49) → dk_Ty 49 j (σ20 49 j) := fun j hj => by
    exact (ta_38 is_49).mpr trivial
  have hS50 : ∀ j : Nat, j < dk_len (dk_site 50) → dk_Ty 50 j (σ20 50 j) := fun j hj => by
    exact (ta_38 is_50).mpr trivial
  have hS51 : ∀ j : Nat, j < dk_len (dk_site 51) → dk_Ty 51 j (σ20 51 j) := fun j hj => by
    exact (ta_38 is_51).mpr trivial
  have hS52 : ∀ j : Nat, j < dk_len (dk_site 52) → dk_Ty 52 j (σ20 52 j) := fun j hj => by
    exact (ta_38 is_52).mpr trivial
  have hS53 : ∀ j : Nat, j < dk_len (dk_site 53) → dk_Ty 53 j (σ20 53 j) := fun j hj => by
    exact (ta_38 is_53).mpr trivial
  have hS54 : ∀ j : Nat, j < dk_len (dk_site 54) → dk_Ty 54 j (σ20 54 j) := fun j hj => by
    exact (ta_38 is_54).mpr trivial
  have hS55 : ∀ j : Nat, j < dk_len (dk_site 55) → dk_Ty 55 j (σ20 55 j) := fun j hj => by
    exact (ta_38 is_55).mpr trivial
  have hS56 : ∀ j : Nat, j < dk_len (dk_site 56) → dk_Ty 56 j (σ20 56 j) := fun j hj => by
    exact (ta_38 is_56).mpr trivial
  have hS57 : ∀ j : Nat, j < dk_len (dk_site 57) → dk_Ty 57 j (σ20 57 j) := fun j hj => by
    have hj : j < 10 := hj
    rcases (show j = 0 ∨ j = 1 ∨ j = 2 ∨ j = 3 ∨ j = 4 ∨ j = 5 ∨ j = 6 ∨ j = 7 ∨ j = 8 ∨ j = 9 by omega) with rfl | rfl | rfl | rfl | rfl | rfl | rfl | rfl | rfl | rfl
    · exact (ta_39 is_57).mpr (by rw [show σ20 57 ((0 : Nat) : Int) = 58 from (show σ20 57 0 = 58 by rw [eσ20, dk_up_n (by decide), eσ19, dk_nw_n (by decide), eσ18, dk_up_n (by decide), eσ17, dk_nw_n (by decide), eσ16, dk_up_n (by decide), eσ15, dk_nw_n (by decide), eσ14, dk_up_n (by decide), eσ13, dk_nw_n (by decide), eσ12, dk_up_n (by decide), eσ11, dk_nw_n (by decide), eσ10, dk_up_n (by decide), eσ9, dk_nw_n (by decide), eσ8, dk_up_n (by decide), eσ7, dk_nw_n (by decide), eσ6, dk_up_n (by decide), g5_2 0, show (57 : Int) + 1 + 0 = 58 from rfl])] <;> decide)
    · exact (ta_39 is_57).mpr (by rw [show σ20 57 ((1 : Nat) : Int) = 59 from (show σ20 57 1 = 59 by rw [eσ20, dk_up_n (by decide), eσ19, dk_nw_n (by decide), eσ18, dk_up_n (by decide), eσ17, dk_nw_n (by decide), eσ16, dk_up_n (by decide), eσ15, dk_nw_n (by decide), eσ14, dk_up_n (by decide), eσ13, dk_nw_n (by decide), eσ12, dk_up_n (by decide), eσ11, dk_nw_n (by decide), eσ10, dk_up_n (by decide), eσ9, dk_nw_n (by decide), eσ8, dk_up_n (by decide), eσ7, dk_nw_n (by decide), eσ6, dk_up_n (by decide), g5_2 1, show (57 : Int) + 1 + 1 = 59 from rfl])] <;> decide)
    · exact (ta_39 is_57).mpr (by rw [show σ20 57 ((2 : Nat) : Int) = 60 from (show σ20 57 2 = 60 by rw [eσ20, dk_up_n (by decide), eσ19, dk_nw_n (by decide), eσ18, dk_up_n (by decide), eσ17, dk_nw_n (by decide), eσ16, dk_up_n (by decide), eσ15, dk_nw_n (by decide), eσ14, dk_up_n (by decide), eσ13, dk_nw_n (by decide), eσ12, dk_up_n (by decide), eσ11, dk_nw_n (by decide), eσ10, dk_up_n (by decide), eσ9, dk_nw_n (by decide), eσ8, dk_up_n (by decide), eσ7, dk_nw_n (by decide), eσ6, dk_up_n (by decide), g5_2 2, show (57 : Int) + 1 + 2 = 60 from rfl])] <;> decide)
    · exact (ta_39 is_57).mpr (by rw [show σ20 57 ((3 : Nat) : Int) = 61 from (show σ20 57 3 = 61 by rw [eσ20, dk_up_n (by decide), eσ19, dk_nw_n (by decide), eσ18, dk_up_n (by decide), eσ17, dk_nw_n (by decide), eσ16, dk_up_n (by decide), eσ15, dk_nw_n (by decide), eσ14, dk_up_n (by decide), eσ13, dk_nw_n (by decide), eσ12, dk_up_n (by decide), eσ11, dk_nw_n (by decide), eσ10, dk_up_n (by decide), eσ9, dk_nw_n (by decide), eσ8, dk_up_n (by decide), eσ7, dk_nw_n (by decide), eσ6, dk_up_n (by decide), g5_2 3, show (57 : Int) + 1 + 3 = 61 from rfl])] <;> decide)
    · exact (ta_39 is_57).mpr (by rw [show σ20 57 ((4 : Nat) : Int) = 62 from (show σ20 57 4 = 62 by rw [eσ20, dk_up_n (by decide), eσ19, dk_nw_n (by decide), eσ18, dk_up_n (by decide), eσ17, dk_nw_n (by decide), eσ16, dk_up_n (by decide), eσ15, dk_nw_n (by decide), eσ14, dk_up_n (by decide), eσ13, dk_nw_n (by decide), eσ12, dk_up_n (by decide), eσ11, dk_nw_n (by decide), eσ10, dk_up_n (by decide), eσ9, dk_nw_n (by decide), eσ8, dk_up_n (by decide), eσ7, dk_nw_n (by decide), eσ6, dk_up_n (by decide), g5_2 4, show (57 : Int) + 1 + 4 = 62 from rfl])] <;> decide)
    · exact (ta_39 is_57).mpr (by rw [show σ20 57 ((5 : Nat) : Int) = 63 from (show σ20 57 5 = 63 by rw [eσ20, dk_up_n (by decide), eσ19, dk_nw_n (by decide), eσ18, dk_up_n (by decide), eσ17, dk_nw_n (by decide), eσ16, dk_up_n (by decide), eσ15, dk_nw_n (by decide), eσ14, dk_up_n (by decide), eσ13, dk_nw_n (by decide), eσ12, dk_up_n (by decide), eσ11, dk_nw_n (by decide), eσ10, dk_up_n (by decide), eσ9, dk_nw_n (by decide), eσ8, dk_up_n (by decide), eσ7, dk_nw_n (by decide), eσ6, dk_up_n (by decide), g5_2 5, show (57 : Int) + 1 + 5 = 63 from rfl])] <;> decide)
    · exact (ta_39 is_57).mpr (by rw [show σ20 57 ((6 : Nat) : Int) = 64 from (show σ20 57 6 = 64 by rw [eσ20, dk_up_n (by decide), eσ19, dk_nw_n (by decide), eσ18, dk_up_n (by decide), eσ17, dk_nw_n (by decide), eσ16, dk_up_n (by decide), eσ15, dk_nw_n (by decide), eσ14, dk_up_n (by decide), eσ13, dk_nw_n (by decide), eσ12, dk_up_n (by decide), eσ11, dk_nw_n (by decide), eσ10, dk_up_n (by decide), eσ9, dk_nw_n (by decide), eσ8, dk_up_n (by decide), eσ7, dk_nw_n (by decide), eσ6, dk_up_n (by decide), g5_2 6, show (57 : Int) + 1 + 6 = 64 from rfl])] <;> decide)
    · exact (ta_39 is_57).mpr (by rw [show σ20 57 ((7 : Nat) : Int) = 65 from (show σ20 57 7 = 65 by rw [eσ20, dk_up_n (by decide), eσ19, dk_nw_n (by decide), eσ18, dk_up_n (by decide), eσ17, dk_nw_n (by decide), eσ16, dk_up_n (by decide), eσ15, dk_nw_n (by decide), eσ14, dk_up_n (by decide), eσ13, dk_nw_n (by decide), eσ12, dk_up_n (by decide), eσ11, dk_nw_n (by decide), eσ10, dk_up_n (by decide), eσ9, dk_nw_n (by decide), eσ8, dk_up_n (by decide), eσ7, dk_nw_n (by decide), eσ6, dk_up_n (by decide), g5_2 7, show (57 : Int) + 1 + 7 = 65 from rfl])] <;> decide)
    · exact (ta_39 is_57).mpr (by rw [show σ20 57 ((8 : Nat) : Int) = 66 from (show σ20 57 8 = 66 by rw [eσ20, dk_up_n (by decide), eσ19, dk_nw_n (by decide), eσ18, dk_up_n (by decide), eσ17, dk_nw_n (by decide), eσ16, dk_up_n (by decide), eσ15, dk_nw_n (by decide), eσ14, dk_up_n (by decide), eσ13, dk_nw_n (by decide), eσ12, dk_up_n (by decide), eσ11, dk_nw_n (by decide), eσ10, dk_up_n (by decide), eσ9, dk_nw_n (by decide), eσ8, dk_up_n (by decide), eσ7, dk_nw_n (by decide), eσ6, dk_up_n (by decide), g5_2 8, show (57 : Int) + 1 + 8 = 66 from rfl])] <;> decide)
    · exact (ta_39 is_57).mpr (by rw [show σ20 57 ((9 : Nat) : Int) = 67 from (show σ20 57 9 = 67 by rw [eσ20, dk_up_n (by decide), eσ19, dk_nw_n (by decide), eσ18, dk_up_n (by decide), eσ17, dk_nw_n (by decide), eσ16, dk_up_n (by decide), eσ15, dk_nw_n (by decide), eσ14, dk_up_n (by decide), eσ13, dk_nw_n (by decide), eσ12, dk_up_n (by decide), eσ11, dk_nw_n (by decide), eσ10, dk_up_n (by decide), eσ9, dk_nw_n (by decide), eσ8, dk_up_n (by decide), eσ7, dk_nw_n (by decide), eσ6, dk_up_n (by decide), g5_2 9, show (57 : Int) + 1 + 9 = 67 from rfl])] <;> decide)
  have hS58 : ∀ j : Nat, j < dk_len (dk_site 58) → dk_Ty 58 j (σ20 58 j) := fun j hj => by
    exact (ta_40 is_58).mpr trivial
  have hS59 : ∀ j : Nat, j < dk_len (dk_site 59) → dk_Ty 59 j (σ20 59 j) := fun j hj => by
    exact (ta_40 is_59).mpr trivial
  have hS60 : ∀ j : Nat, j < dk_len (dk_site 60) → dk_Ty 60 j (σ20 60 j) := fun j hj => by
    exact (ta_40 is_60).mpr trivial
  have hS61 : ∀ j : Nat, j < dk_len (dk_site 61) → dk_Ty 61 j (σ20 61 j) := fun j hj => by
    exact (ta_40 is_61).mpr trivial
  have hS62 : ∀ j : Nat, j < dk_len (dk_site 62) → dk_Ty 62 j (σ20 62 j) := fun j hj => by
    exact (ta_40 is_62).mpr trivial
  have hS63 : ∀ j : Nat, j < dk_len (dk_site 63) → dk_Ty 63 j (σ20 63 j) := fun j hj => by
    exact (ta_40 is_63).mpr trivial
  have hS64 : ∀ j : Nat, j < dk_len (dk_site 64) → dk_Ty 64 j (σ20 64 j) := fun j hj => by
    exact (ta_40 is_64).mpr trivial
  have hS65 : ∀ j : Nat, j < dk_len (dk_site 65) → dk_Ty 65 j (σ20 65 j) := fun j hj => by
    exact (ta_40 is_65).mpr trivial
  have hS66 : ∀ j : Nat, j < dk_len (dk_site 66) → dk_Ty 66 j (σ20 66 j) := fun j hj => by
    exact (ta_40 is_66).mpr trivial
  have hS67 : ∀ j : Nat, j < dk_len (dk_site 67) → dk_Ty 67 j (σ20 67 j) := fun j hj => by
    exact (ta_40 is_67).mpr trivial
  have hS68 : ∀ j : Nat, j < dk_len (dk_site 68) → dk_Ty 68 j (σ20 68 j) := fun j hj => by
    exact (ta_41 is_68).mpr trivial
  have hS69 : ∀ j : Nat, j < dk_len (dk_site 69) → dk_Ty 69 j (σ20 69 j) := fun j hj => by
    exact (ta_42 is_69).mpr trivial
  have hS70 : ∀ j : Nat, j < dk_len (dk_site 70) → dk_Ty 70 j (σ20 70 j) := fun j hj => by
    exact (ta_43 is_70).mpr trivial
  have hS71 : ∀ j : Nat, j < dk_len (dk_site 71) → dk_Ty 71 j (σ20 71 j) := fun j hj => by
    exact (ta_44 is_71).mpr trivial
  have hS72 : ∀ j : Nat, j < dk_len (dk_site 72) → dk_Ty 72 j (σ20 72 j) := fun j hj => by
    exact (ta_45 is_72).mpr trivial
  have hS73 : ∀ j : Nat, j < dk_len (dk_site 73) → dk_Ty 73 j (σ20 73 j) := fun j hj => by
    exact (ta_46 is_73).mpr trivial
  have hS74 : ∀ j : Nat, j < dk_len (dk_site 74) → dk_Ty 74 j (σ20 74 j) := fun j hj => by
    exact (ta_47 is_74).mpr trivial
  refine dk_vret (st := []) hE hR dX6_init_84 ⟨rfl, ⟨fun a j h1 h2 => by rw [eσ20, dk_up_k (show a ≠ 45 by omega), eσ19, dk_nw_n (show a ≠ 74 by omega), eσ18, dk_up_k (show a ≠ 45 by omega), eσ17, dk_nw_n (show a ≠ 73 by omega), eσ16, dk_up_k (show a ≠ 45 by omega), eσ15, dk_nw_n (show a ≠ 72 by omega), eσ14, dk_up_k (show a ≠ 45 by omega), eσ13, dk_nw_n (show a ≠ 71 by omega), eσ12, dk_up_k (show a ≠ 45 by omega), eσ11, dk_nw_n (show a ≠ 70 by omega), eσ10, dk_up_k (show a ≠ 45 by omega), eσ9, dk_nw_n (show a ≠ 69 by omega), eσ8, dk_up_k (show a ≠ 45 by omega), eσ7, dk_nw_n (show a ≠ 68 by omega), eσ6, dk_up_k (show a ≠ 45 by omega), g5_1 a _ (by omega), eσ3, dk_up_k (show a ≠ 45 by omega), g2_1 a _ (by omega)], fun a ha j hj => ?_⟩⟩
  by_cases q45 : a = 45
  · subst q45; exact hT45 j hj
  by_cases q46 : a = 46
  · subst q46; exact hS46 j hj
  by_cases q47 : a = 47
  · subst q47; exact hS47 j hj
  by_cases q48 : a = 48
  · subst q48; exact hS48 j hj
  by_cases q49 : a = 49
  · subst q49; exact hS49 j hj
  by_cases q50 : a = 50
  · subst q50; exact hS50 j hj
  by_cases q51 : a = 51
  · subst q51; exact hS51 j hj
  by_cases q52 : a = 52
  · subst q52; exact hS52 j hj
  by_cases q53 : a = 53
  · subst q53; exact hS53 j hj
  by_cases q54 : a = 54
  · subst q54; exact hS54 j hj
  by_cases q55 : a = 55
  · subst q55; exact hS55 j hj
  by_cases q56 : a = 56
  · subst q56; exact hS56 j hj
  by_cases q57 : a = 57
  · subst q57; exact hS57 j hj
  by_cases q58 : a = 58
  · subst q58; exact hS58 j hj
  by_cases q59 : a = 59
  · subst q59; exact hS59 j hj
  by_cases q60 : a = 60
  · subst q60; exact hS60 j hj
  by_cases q61 : a = 61
  · subst q61; exact hS61 j hj
  by_cases q62 : a = 62
  · subst q62; exact hS62 j hj
  by_cases q63 : a = 63
  · subst q63; exact hS63 j hj
  by_cases q64 : a = 64
  · subst q64; exact hS64 j hj
  by_cases q65 : a = 65
  · subst q65; exact hS65 j hj
  by_cases q66 : a = 66
  · subst q66; exact hS66 j hj
  by_cases q67 : a = 67
  · subst q67; exact hS67 j hj
  by_cases q68 : a = 68
  · subst q68; exact hS68 j hj
  by_cases q69 : a = 69
  · subst q69; exact hS69 j hj
  by_cases q70 : a = 70
  · subst q70; exact hS70 j hj
  by_cases q71 : a = 71
  · subst q71; exact hS71 j hj
  by_cases q72 : a = 72
  · subst q72; exact hS72 j hj
  by_cases q73 : a = 73
  · subst q73; exact hS73 j hj
  by_cases q74 : a = 74
  · subst q74; exact hS74 j hj
  exfalso; omega
set_option maxHeartbeats 8000000 in
set_option maxRecDepth 20000 in
theorem ci_0_75 (l : Launch) (G : dkG) (hGd : dk_Gd G) (hGn : dk_Gn G) : dk_Ct l G dk_T0 yX0_init cX0_init 1 none 1 76 88 (fun av σ => av = [(4, 75)] ∧ dk_fsh σ 75) (fun _ σ r_ σ' => r_ = none ∧ dk_cp 75 76 88 σ σ') := by
  refine dk_enter hGd (by decide) (fun av σ hpre hok => ?_)
  obtain ⟨rfl, hF⟩ := hpre
  refine ⟨Nat.le_of_ble_eq_true rfl, fun E hE hR hI => ?_⟩
  have hi := hI rfl
  show dk_PJ E 0 [(4, 75)] [] 76 σ
  refine dk_aload_n (pc' := 1) hE dX0_init_0 rfl rfl rfl ?_
  refine dk_obj (pc' := 4) hE wd_429 wd_128 wc_obj dX0_init_1 (by decide) (by decide) rfl ?_
  refine dk_aload_n (pc' := 5) hE dX0_init_4 rfl rfl rfl ?_
  refine dk_bipush (pc' := 7) hE dX0_init_5 (by decide) rfl ?_
  refine dk_bipush (pc' := 9) hE dX0_init_7 (by decide) rfl ?_
  refine dk_multi (pc' := 13) (n' := 85) (S := 48) (SI := 49) (N := 8) (M := 10) (tc := 6) (ti := 3) (ty := .long) hE wd_430 ⟨hGn, Or.inr rfl⟩ wa_long rfl rfl (by decide) dX0_init_9 rfl rfl (fun k h1_ h2_ => ?_) rfl (by decide) (by decide) rfl rfl (by decide) ⟨by decide, by rw [tt_76, tt_88] <;> decide, by rw [tt_76] <;> decide, by rw [tt_85, tt_76]⟩ (by decide) rfl (fun σ1 g2_1 g2_2 g2_3 => ?_)
  · rcases (show k = 77 ∨ k = 78 ∨ k = 79 ∨ k = 80 ∨ k = 81 ∨ k = 82 ∨ k = 83 ∨ k = 84 by omega) with rfl | rfl | rfl | rfl | rfl | rfl | rfl | rfl <;> rfl
  refine dk_putF (pc' := 16) hE fl_X0_15 dX0_init_13 hi ⟨_, rfl, rfl⟩ ⟨by decide, by decide, by decide⟩ rfl (fun _ => trivial) trivial rfl ?_
  obtain ⟨σ3, eσ3⟩ : ∃ q : dkS, q = dk_up σ1 75 0 76 := ⟨_, rfl⟩
  show dk_PJ E 16 [(4, 75)] [] 85 (dk_up σ1 75 0 76)
  rw [← eσ3]
  refine dk_aload_n (pc' := 17) hE dX0_init_16 rfl rfl rfl ?_
  refine dk_sipush (pc' := 20) hE dX0_init_17 (by decide) rfl ?_
  refine dk_newa (ay := .long) (pc' := 22) (n' := 86) (S := 50) (tc := 3) (len := 1024) hE wa_long rfl (by decide) dX0_init_20 rfl rfl (by decide) rfl (by decide) ⟨by decide, by rw [tt_85, tt_76, tt_88] <;> decide, by rw [tt_76, tt_85] <;> decide, by rw [tt_86, tt_85]⟩ (by decide) rfl (fun σ4 eσ4 => ?_)
  refine dk_putF (pc' := 25) hE fl_X0_20 dX0_init_22 hi ⟨_, rfl, rfl⟩ ⟨by decide, by decide, by decide⟩ rfl (fun _ => trivial) trivial rfl ?_
  obtain ⟨σ5, eσ5⟩ : ∃ q : dkS, q = dk_up σ4 75 1 85 := ⟨_, rfl⟩
  show dk_PJ E 25 [(4, 75)] [] 86 (dk_up σ4 75 1 85)
  rw [← eσ5]
  refine dk_aload_n (pc' := 26) hE dX0_init_25 rfl rfl rfl ?_
  refine dk_bipush (pc' := 28) hE dX0_init_26 (by decide) rfl ?_
  refine dk_newa (ay := .int) (pc' := 30) (n' := 87) (S := 51) (tc := 0) (len := 8) hE wa_int rfl (by decide) dX0_init_28 rfl rfl (by decide) rfl (by decide) ⟨by decide, by rw [tt_86, tt_76, tt_88] <;> decide, by rw [tt_76, tt_86] <;> decide, by rw [tt_87, tt_86]⟩ (by decide) rfl (fun σ6 eσ6 => ?_)
  refine dk_putF (pc' := 33) hE fl_X0_24 dX0_init_30 hi ⟨_, rfl, rfl⟩ ⟨by decide, by decide, by decide⟩ rfl (fun _ => trivial) trivial rfl ?_
  obtain ⟨σ7, eσ7⟩ : ∃ q : dkS, q = dk_up σ6 75 2 86 := ⟨_, rfl⟩
  show dk_PJ E 33 [(4, 75)] [] 87 (dk_up σ6 75 2 86)
  rw [← eσ7]
  refine dk_aload_n (pc' := 34) hE dX0_init_33 rfl rfl rfl ?_
  refine dk_bipush (pc' := 36) hE dX0_init_34 (by decide) rfl ?_
  refine dk_newa (ay := .int) (pc' := 38) (n' := 88) (S := 52) (tc := 0) (len := 8) hE wa_int rfl (by decide) dX0_init_36 rfl rfl (by decide) rfl (by decide) ⟨by decide, by rw [tt_87, tt_76, tt_88] <;> decide, by rw [tt_76, tt_87] <;> decide, by rw [tt_88, tt_87]⟩ (by decide) rfl (fun σ8 eσ8 => ?_)
  refine dk_putF (pc' := 41) hE fl_X0_28 dX0_init_38 hi ⟨_, rfl, rfl⟩ ⟨by decide, by decide, by decide⟩ rfl (fun _ => trivial) trivial rfl ?_
  obtain ⟨σ9, eσ9⟩ : ∃ q : dkS, q = dk_up σ8 75 3 87 := ⟨_, rfl⟩
  show dk_PJ E 41 [(4, 75)] [] 88 (dk_up σ8 75 3 87)
  rw [← eσ9]
  have hT75 : ∀ j : Nat, j < dk_len (dk_site 75) → dk_Ty 75 j (σ9 75 j) := fun j hj => by
    have hj : j < 8 := hj
    rcases (show j = 0 ∨ j = 1 ∨ j = 2 ∨ j = 3 ∨ j = 4 ∨ j = 5 ∨ j = 6 ∨ j = 7 by omega) with rfl | rfl | rfl | rfl | rfl | rfl | rfl | rfl
    · exact (ty_0_0 is_75).mpr (by rw [show σ9 75 ((0 : Nat) : Int) = 76 from (show σ9 75 0 = 76 by rw [eσ9, dk_up_n (by decide), eσ8, dk_nw_n (by decide), eσ7, dk_up_n (by decide), eσ6, dk_nw_n (by decide), eσ5, dk_up_n (by decide), eσ4, dk_nw_n (by decide), eσ3, dk_up_s])] <;> decide)
    · exact (ty_0_1 is_75).mpr (by rw [show σ9 75 ((1 : Nat) : Int) = 85 from (show σ9 75 1 = 85 by rw [eσ9, dk_up_n (by decide), eσ8, dk_nw_n (by decide), eσ7, dk_up_n (by decide), eσ6, dk_nw_n (by decide), eσ5, dk_up_s])] <;> decide)
    · exact (ty_0_2 is_75).mpr (by rw [show σ9 75 ((2 : Nat) : Int) = 86 from (show σ9 75 2 = 86 by rw [eσ9, dk_up_n (by decide), eσ8, dk_nw_n (by decide), eσ7, dk_up_s])] <;> decide)
    · exact (ty_0_3 is_75).mpr (by rw [show σ9 75 ((3 : Nat) : Int) = 87 from (show σ9 75 3 = 87 by rw [eσ9, dk_up_s])] <;> decide)
    · exact (ty_0_4 is_75).mpr (by rw [show σ9 75 ((4 : Nat) : Int) = 0 from (show σ9 75 4 = 0 by rw [eσ9, dk_up_n (by decide), eσ8, dk_nw_n (by decide), eσ7, dk_up_n (by decide), eσ6, dk_nw_n (by decide), eσ5, dk_up_n (by decide), eσ4, dk_nw_n (by decide), eσ3, dk_up_n (by decide), g2_1 75 4 (by decide), hF, show dk_dz (dk_stc (dk_site 75) (4 : Int).toNat) = 0 from rfl])] <;> decide)
    · exact (ty_0_5 is_75).mpr (by rw [show σ9 75 ((5 : Nat) : Int) = 0 from (show σ9 75 5 = 0 by rw [eσ9, dk_up_n (by decide), eσ8, dk_nw_n (by decide), eσ7, dk_up_n (by decide), eσ6, dk_nw_n (by decide), eσ5, dk_up_n (by decide), eσ4, dk_nw_n (by decide), eσ3, dk_up_n (by decide), g2_1 75 5 (by decide), hF, show dk_dz (dk_stc (dk_site 75) (5 : Int).toNat) = 0 from rfl])] <;> decide)
    · exact (ty_0_6 is_75).mpr trivial
    · exact (ty_0_7 is_75).mpr trivial
  have hS76 : ∀ j : Nat, j < dk_len (dk_site 76) → dk_Ty 76 j (σ9 76 j) := fun j hj => by
    have hj : j < 8 := hj
    rcases (show j = 0 ∨ j = 1 ∨ j = 2 ∨ j = 3 ∨ j = 4 ∨ j = 5 ∨ j = 6 ∨ j = 7 by omega) with rfl | rfl | rfl | rfl | rfl | rfl | rfl | rfl
    · exact (ta_48 is_76).mpr (by rw [show σ9 76 ((0 : Nat) : Int) = 77 from (show σ9 76 0 = 77 by rw [eσ9, dk_up_n (by decide), eσ8, dk_nw_n (by decide), eσ7, dk_up_n (by decide), eσ6, dk_nw_n (by decide), eσ5, dk_up_n (by decide), eσ4, dk_nw_n (by decide), eσ3, dk_up_n (by decide), g2_2 0, show (76 : Int) + 1 + 0 = 77 from rfl])] <;> decide)
    · exact (ta_48 is_76).mpr (by rw [show σ9 76 ((1 : Nat) : Int) = 78 from (show σ9 76 1 = 78 by rw [eσ9, dk_up_n (by decide), eσ8, dk_nw_n (by decide), eσ7, dk_up_n (by decide), eσ6, dk_nw_n (by decide), eσ5, dk_up_n (by decide), eσ4, dk_nw_n (by decide), eσ3, dk_up_n (by decide), g2_2 1, show (76 : Int) + 1 + 1 = 78 from rfl])] <;> decide)
    · exact (ta_48 is_76).mpr (by rw [show σ9 76 ((2 : Nat) : Int) = 79 from (show σ9 76 2 = 79 by rw [eσ9, dk_up_n (by decide), eσ8, dk_nw_n (by decide), eσ7, dk_up_n (by decide), eσ6, dk_nw_n (by decide), eσ5, dk_up_n (by decide), eσ4, dk_nw_n (by decide), eσ3, dk_up_n (by decide), g2_2 2, show (76 : Int) + 1 + 2 = 79 from rfl])] <;> decide)
    · exact (ta_48 is_76).mpr (by rw [show σ9 76 ((3 : Nat) : Int) = 80 from (show σ9 76 3 = 80 by rw [eσ9, dk_up_n (by decide), eσ8, dk_nw_n (by decide), eσ7, dk_up_n (by decide), eσ6, dk_nw_n (by decide), eσ5, dk_up_n (by decide), eσ4, dk_nw_n (by decide), eσ3, dk_up_n (by decide), g2_2 3, show (76 : Int) + 1 + 3 = 80 from rfl])] <;> decide)
    · exact (ta_48 is_76).mpr (by rw [show σ9 76 ((4 : Nat) : Int) = 81 from (show σ9 76 4 = 81 by rw [eσ9, dk_up_n (by decide), eσ8, dk_nw_n (by decide), eσ7, dk_up_n (by decide), eσ6, dk_nw_n (by decide), eσ5, dk_up_n (by decide), eσ4, dk_nw_n (by decide), eσ3, dk_up_n (by decide), g2_2 4, show (76 : Int) + 1 + 4 = 81 from rfl])] <;> decide)
    · exact (ta_48 is_76).mpr (by rw [show σ9 76 ((5 : Nat) : Int) = 82 from (show σ9 76 5 = 82 by rw [eσ9, dk_up_n (by decide), eσ8, dk_nw_n (by decide), eσ7, dk_up_n (by decide), eσ6, dk_nw_n (by decide), eσ5, dk_up_n (by decide), eσ4, dk_nw_n (by decide), eσ3, dk_up_n (by decide), g2_2 5, show (76 : Int) + 1 + 5 = 82 from rfl])] <;> decide)
    · exact (ta_48 is_76).mpr (by rw [show σ9 76 ((6 : Nat) : Int) = 83 from (show σ9 76 6 = 83 by rw [eσ9, dk_up_n (by decide), eσ8, dk_nw_n (by decide), eσ7, dk_up_n (by decide), eσ6, dk_nw_n (by decide), eσ5, dk_up_n (by decide), eσ4, dk_nw_n (by decide), eσ3, dk_up_n (by decide), g2_2 6, show (76 : Int) + 1 + 6 = 83 from rfl])] <;> decide)
    · exact (ta_48 is_76).mpr (by rw [show σ9 76 ((7 : Nat) : Int) = 84 from (show σ9 76 7 = 84 by rw [eσ9, dk_up_n (by decide), eσ8, dk_nw_n (by decide), eσ7, dk_up_n (by decide), eσ6, dk_nw_n (by decide), eσ5, dk_up_n (by decide), eσ4, dk_nw_n (by decide), eσ3, dk_up_n (by decide), g2_2 7, show (76 : Int) + 1 + 7 = 84 from rfl])] <;> decide)
  have hS77 : ∀ j : Nat, j < dk_len (dk_site 77) → dk_Ty 77 j (σ9 77 j) := fun j hj => by
    exact (ta_49 is_77).mpr trivial
  have hS78 : ∀ j : Nat, j < dk_len (dk_site 78) → dk_Ty 78 j (σ9 78 j) := fun j hj => by
    exact (ta_49 is_78).mpr trivial
  have hS79 : ∀ j : Nat, j < dk_len (dk_site 79) → dk_Ty 79 j (σ9 79 j) := fun j hj => by
    exact (ta_49 is_79).mpr trivial
  have hS80 : ∀ j : Nat, j < dk_len (dk_site 80) → dk_Ty 80 j (σ9 80 j) := fun j hj => by
    exact (ta_49 is_80).mpr trivial
  have hS81 : ∀ j : Nat, j < dk_len (dk_site 81) → dk_Ty 81 j (σ9 81 j) := fun j hj => by
    exact (ta_49 is_81).mpr trivial
  have hS82 : ∀ j : Nat, j < dk_len (dk_site 82) → dk_Ty 82 j (σ9 82 j) := fun j hj => by
    exact (ta_49 is_82).mpr trivial
  have hS83 : ∀ j : Nat, j < dk_len (dk_site 83) → dk_Ty 83 j (σ9 83 j) := fun j hj => by
    exact (ta_49 is_83).mpr trivial
  have hS84 : ∀ j : Nat, j < dk_len (dk_site 84) → dk_Ty 84 j (σ9 84 j) := fun j hj => by
    exact (ta_49 is_84).mpr trivial
  have hS85 : ∀ j : Nat, j < dk_len (dk_site 85) → dk_Ty 85 j (σ9 85 j) := fun j hj => by
    exact (ta_50 is_85).mpr trivial
  have hS86 : ∀ j : Nat, j < dk_len (dk_site 86) → dk_Ty 86 j (σ9 86 j) := fun j hj => by
    have e_ : σ9 86 (j : Int) = 0 := by rw [eσ9, dk_up_k (show 86 ≠ 75 by decide), eσ8, dk_nw_n (show 86 ≠ 87 by decide), eσ7, dk_up_k (show 86 ≠ 75 by decide), eσ6, dk_nw_s, show ∀ q : Nat, dk_dz (dk_stc (dk_site 86) q) = 0 from fun q => rfl]
    exact (ta_51 is_86).mpr (by rw [e_] <;> decide)
  have hS87 : ∀ j : Nat, j < dk_len (dk_site 87) → dk_Ty 87 j (σ9 87 j) := fun j hj => by
    have e_ : σ9 87 (j : Int) = 0 := by rw [eσ9, dk_up_k (show 87 ≠ 75 by decide), eσ8, dk_nw_s, show ∀ q : Nat, dk_dz (dk_stc (dk_site 87) q) = 0 from fun q => rfl]
    exact (ta_52 is_87).mpr (by rw [e_] <;> decide)
  refine dk_vret (st := []) hE hR dX0_init_41 ⟨rfl, ⟨fun a j h1 h2 => by rw [eσ9, dk_up_k (show a ≠ 75 by omega), eσ8, dk_nw_n (show a ≠ 87 by omega), eσ7, dk_up_k (show a ≠ 75 by omega), eσ6, dk_nw_n (show a ≠ 86 by omega), eσ5, dk_up_k (show a ≠ 75 by omega), eσ4, dk_nw_n (show a ≠ 85 by omega), eσ3, dk_up_k (show a ≠ 75 by omega), g2_1 a _ (by omega)], fun a ha j hj => ?_⟩⟩
  by_cases q75 : a = 75
  · subst q75; exact hT75 j hj
  by_cases q76 : a = 76
  · subst q76; exact hS76 j hj
  by_cases q77 : a = 77
  · subst q77; exact hS77 j hj
  by_cases q78 : a = 78
  · subst q78; exact hS78 j hj
  by_cases q79 : a = 79
  · subst q79; exact hS79 j hj
  by_cases q80 : a = 80
  · subst q80; exact hS80 j hj
  by_cases q81 : a = 81
  · subst q81; exact hS81 j hj
  by_cases q82 : a = 82
  · subst q82; exact hS82 j hj
  by_cases q83 : a = 83
  · subst q83; exact hS83 j hj
  by_cases q84 : a = 84
  · subst q84; exact hS84 j hj
  by_cases q85 : a = 85
  · subst q85; exact hS85 j hj
  by_cases q86 : a = 86
  · subst q86; exact hS86 j hj
  by_cases q87 : a = 87
  · subst q87; exact hS87 j hj
  exfalso; omega
set_option maxHeartbeats 8000000 in
set_option maxRecDepth 20000 in
theorem ci_8_88 (l : Launch) (G : dkG) (hGd : dk_Gd G) (hGn : dk_Gn G) : dk_Ct l G dk_T0 yX8_init cX8_init 1 none 1 89 95 (fun av σ => av = [(4, 88)] ∧ dk_fsh σ 88) (fun _ σ r_ σ' => r_ = none ∧ dk_cp 88 89 95 σ σ') := by
  refine dk_enter hGd (by decide) (fun av σ hpre hok => ?_)
  obtain ⟨rfl, hF⟩ := hpre
  refine ⟨Nat.le_of_ble_eq_true rfl, fun E hE hR hI => ?_⟩
  have hi := hI rfl
  show dk_PJ E 0 [(4, 88)] [] 89 σ
  refine dk_aload_n (pc' := 1) hE dX8_init_0 rfl rfl rfl ?_
  refine dk_obj (pc' := 4) hE wd_463 wd_128 wc_obj dX8_init_1 (by decide) (by decide) rfl ?_
  refine dk_aload_n (pc' := 5) hE dX8_init_4 rfl rfl rfl ?_
  refine dk_bipush (pc' := 7) hE dX8_init_5 (by decide) rfl ?_
  refine dk_newa (ay := .int) (pc' := 9) (n' := 90) (S := 53) (tc := 0) (len := 9) hE wa_int rfl (by decide) dX8_init_7 rfl rfl (by decide) rfl (by decide) ⟨by decide, by rw [tt_89, tt_95] <;> decide, by rw [tt_89] <;> decide, by rw [tt_90, tt_89]⟩ (by decide) rfl (fun σ1 eσ1 => ?_)
  refine dk_putF (pc' := 12) hE fl_X8_11 dX8_init_9 hi ⟨_, rfl, rfl⟩ ⟨by decide, by decide, by decide⟩ rfl (fun _ => trivial) trivial rfl ?_
  obtain ⟨σ2, eσ2⟩ : ∃ q : dkS, q = dk_up σ1 88 0 89 := ⟨_, rfl⟩
  show dk_PJ E 12 [(4, 88)] [] 90 (dk_up σ1 88 0 89)
  rw [← eσ2]
  refine dk_aload_n (pc' := 13) hE dX8_init_12 rfl rfl rfl ?_
  refine dk_bipush (pc' := 15) hE dX8_init_13 (by decide) rfl ?_
  refine dk_newa (ay := .int) (pc' := 17) (n' := 91) (S := 54) (tc := 0) (len := 9) hE wa_int rfl (by decide) dX8_init_15 rfl rfl (by decide) rfl (by decide) ⟨by decide, by rw [tt_90, tt_89, tt_95] <;> decide, by rw [tt_89, tt_90] <;> decide, by rw [tt_91, tt_90]⟩ (by decide) rfl (fun σ3 eσ3 => ?_)
  refine dk_putF (pc' := 20) hE fl_X8_15 dX8_init_17 hi ⟨_, rfl, rfl⟩ ⟨by decide, by decide, by decide⟩ rfl (fun _ => trivial) trivial rfl ?_
  obtain ⟨σ4, eσ4⟩ : ∃ q : dkS, q = dk_up σ3 88 1 90 := ⟨_, rfl⟩
  show dk_PJ E 20 [(4, 88)] [] 91 (dk_up σ3 88 1 90)
  rw [← eσ4]
  refine dk_aload_n (pc' := 21) hE dX8_init_20 rfl rfl rfl ?_
  refine dk_bipush (pc' := 23) hE dX8_init_21 (by decide) rfl ?_
  refine dk_newa (ay := .int) (pc' := 25) (n' := 92) (S := 55) (tc := 0) (len := 9) hE wa_int rfl (by decide) dX8_init_23 rfl rfl (by decide) rfl (by decide) ⟨by decide, by rw [tt_91, tt_89, tt_95] <;> decide, by rw [tt_89, tt_91] <;> decide, by rw [tt_92, tt_91]⟩ (by decide) rfl (fun σ5 eσ5 => ?_)
  refine dk_putF (pc' := 28) hE fl_X8_18 dX8_init_25 hi ⟨_, rfl, rfl⟩ ⟨by decide, by decide, by decide⟩ rfl (fun _ => trivial) trivial rfl ?_
  obtain ⟨σ6, eσ6⟩ : ∃ q : dkS, q = dk_up σ5 88 2 91 := ⟨_, rfl⟩
  show dk_PJ E 28 [(4, 88)] [] 92 (dk_up σ5 88 2 91)
  rw [← eσ6]
  refine dk_aload_n (pc' := 29) hE dX8_init_28 rfl rfl rfl ?_
  refine dk_bipush (pc' := 31) hE dX8_init_29 (by decide) rfl ?_
  refine dk_newa (ay := .int) (pc' := 33) (n' := 93) (S := 56) (tc := 0) (len := 9) hE wa_int rfl (by decide) dX8_init_31 rfl rfl (by decide) rfl (by decide) ⟨by decide, by rw [tt_92, tt_89, tt_95] <;> decide, by rw [tt_89, tt_92] <;> decide, by rw [tt_93, tt_92]⟩ (by decide) rfl (fun σ7 eσ7 => ?_)
  refine dk_putF (pc' := 36) hE fl_X8_21 dX8_init_33 hi ⟨_, rfl, rfl⟩ ⟨by decide, by decide, by decide⟩ rfl (fun _ => trivial) trivial rfl ?_
  obtain ⟨σ8, eσ8⟩ : ∃ q : dkS, q = dk_up σ7 88 3 92 := ⟨_, rfl⟩
  show dk_PJ E 36 [(4, 88)] [] 93 (dk_up σ7 88 3 92)
  rw [← eσ8]
  refine dk_aload_n (pc' := 37) hE dX8_init_36 rfl rfl rfl ?_
  refine dk_bipush (pc' := 39) hE dX8_init_37 (by decide) rfl ?_
  refine dk_newa (ay := .int) (pc' := 41) (n' := 94) (S := 57) (tc := 0) (len := 9) hE wa_int rfl (by decide) dX8_init_39 rfl rfl (by decide) rfl (by decide) ⟨by decide, by rw [tt_93, tt_89, tt_95] <;> decide, by rw [tt_89, tt_93] <;> decide, by rw [tt_94, tt_93]⟩ (by decide) rfl (fun σ9 eσ9 => ?_)
  refine dk_putF (pc' := 44) hE fl_X8_24 dX8_init_41 hi ⟨_, rfl, rfl⟩ ⟨by decide, by decide, by decide⟩ rfl (fun _ => trivial) trivial rfl ?_
  obtain ⟨σ10, eσ10⟩ : ∃ q : dkS, q = dk_up σ9 88 4 93 := ⟨_, rfl⟩
  show dk_PJ E 44 [(4, 88)] [] 94 (dk_up σ9 88 4 93)
  rw [← eσ10]
  refine dk_aload_n (pc' := 45) hE dX8_init_44 rfl rfl rfl ?_
  refine dk_bipush (pc' := 47) hE dX8_init_45 (by decide) rfl ?_
  refine dk_newa (ay := .int) (pc' := 49) (n' := 95) (S := 58) (tc := 0) (len := 9) hE wa_int rfl (by decide) dX8_init_47 rfl rfl (by decide) rfl (by decide) ⟨by decide, by rw [tt_94, tt_89, tt_95] <;> decide, by rw [tt_89, tt_94] <;> decide, by rw [tt_95, tt_94]⟩ (by decide) rfl (fun σ11 eσ11 => ?_)
  refine dk_putF (pc' := 52) hE fl_X8_27 dX8_init_49 hi ⟨_, rfl, rfl⟩ ⟨by decide, by decide, by decide⟩ rfl (fun _ => trivial) trivial rfl ?_
  obtain ⟨σ12, eσ12⟩ : ∃ q : dkS, q = dk_up σ11 88 5 94 := ⟨_, rfl⟩
  show dk_PJ E 52 [(4, 88)] [] 95 (dk_up σ11 88 5 94)
  rw [← eσ12]
  refine dk_aload_n (pc' := 53) hE dX8_init_52 rfl rfl rfl ?_
  refine dk_iconst (pc' := 54) hE dX8_init_53 (by decide) rfl ?_
  refine dk_putf (pc' := 57) hE fl_X8_30 dX8_init_54 ⟨by decide, by decide, by decide⟩ rfl (fun h => h.1 rfl) trivial rfl ?_
  obtain ⟨σ13, eσ13⟩ : ∃ q : dkS, q = dk_up σ12 88 7 2 := ⟨_, rfl⟩
  show dk_PJ E 57 [(4, 88)] [] 95 (dk_up σ12 88 7 2)
  rw [← eσ13]
  have hT88 : ∀ j : Nat, j < dk_len (dk_site 88) → dk_Ty 88 j (σ13 88 j) := fun j hj => by
    have hj : j < 8 := hj
    rcases (show j = 0 ∨ j = 1 ∨ j = 2 ∨ j = 3 ∨ j = 4 ∨ j = 5 ∨ j = 6 ∨ j = 7 by omega) with rfl | rfl | rfl | rfl | rfl | rfl | rfl | rfl
    · exact (ty_8_0 is_88).mpr (by rw [show σ13 88 ((0 : Nat) : Int) = 89 from (show σ13 88 0 = 89 by rw [eσ13, dk_up_n (by decide), eσ12, dk_up_n (by decide), eσ11, dk_nw_n (by decide), eσ10, dk_up_n (by decide), eσ9, dk_nw_n (by decide), eσ8, dk_up_n (by decide), eσ7, dk_nw_n (by decide), eσ6, dk_up_n (by decide), eσ5, dk_nw_n (by decide), eσ4, dk_up_n (by decide), eσ3, dk_nw_n (by decide), eσ2, dk_up_s])] <;> decide)
    · exact (ty_8_1 is_88).mpr (by rw [show σ13 88 ((1 : Nat) : Int) = 90 from (show σ13 88 1 = 90 by rw [eσ13, dk_up_n (by decide), eσ12, dk_up_n (by decide), eσ11, dk_nw_n (by decide), eσ10, dk_up_n (by decide), eσ9, dk_nw_n (by decide), eσ8, dk_up_n (by decide), eσ7, dk_nw_n (by decide), eσ6, dk_up_n (by decide), eσ5, dk_nw_n (by decide), eσ4, dk_up_s])] <;> decide)
    · exact (ty_8_2 is_88).mpr (by rw [show σ13 88 ((2 : Nat) : Int) = 91 from (show σ13 88 2 = 91 by rw [eσ13, dk_up_n (by decide), eσ12, dk_up_n (by decide), eσ11, dk_nw_n (by decide), eσ10, dk_up_n (by decide), eσ9, dk_nw_n (by decide), eσ8, dk_up_n (by decide), eσ7, dk_nw_n (by decide), eσ6, dk_up_s])] <;> decide)
    · exact (ty_8_3 is_88).mpr (by rw [show σ13 88 ((3 : Nat) : Int) = 92 from (show σ13 88 3 = 92 by rw [eσ13, dk_up_n (by decide), eσ12, dk_up_n (by decide), eσ11, dk_nw_n (by decide), eσ10, dk_up_n (by decide), eσ9, dk_nw_n (by decide), eσ8, dk_up_s])] <;> decide)
    · exact (ty_8_4 is_88).mpr (by rw [show σ13 88 ((4 : Nat) : Int) = 93 from (show σ13 88 4 = 93 by rw [eσ13, dk_up_n (by decide), eσ12, dk_up_n (by decide), eσ11, dk_nw_n (by decide), eσ10, dk_up_s])] <;> decide)
    · exact (ty_8_5 is_88).mpr (by rw [show σ13 88 ((5 : Nat) : Int) = 94 from (show σ13 88 5 = 94 by rw [eσ13, dk_up_n (by decide), eσ12, dk_up_s])] <;> decide)
    · exact (ty_8_6 is_88).mpr (by rw [show σ13 88 ((6 : Nat) : Int) = 0 from (show σ13 88 6 = 0 by rw [eσ13, dk_up_n (by decide), eσ12, dk_up_n (by decide), eσ11, dk_nw_n (by decide), eσ10, dk_up_n (by decide), eσ9, dk_nw_n (by decide), eσ8, dk_up_n (by decide), eσ7, dk_nw_n (by decide), eσ6, dk_up_n (by decide), eσ5, dk_nw_n (by decide), eσ4, dk_up_n (by decide), eσ3, dk_nw_n (by decide), eσ2, dk_up_n (by decide), eσ1, dk_nw_n (by decide), hF, show dk_dz (dk_stc (dk_site 88) (6 : Int).toNat) = 0 from rfl])] <;> decide)
    · exact (ty_8_7 is_88).mpr (by rw [show σ13 88 ((7 : Nat) : Int) = 2 from (show σ13 88 7 = 2 by rw [eσ13, dk_up_s])] <;> decide)
  have hS89 : ∀ j : Nat, j < dk_len (dk_site 89) → dk_Ty 89 j (σ13 89 j) := fun j hj => by
    have e_ : σ13 89 (j : Int) = 0 := by rw [eσ13, dk_up_k (show 89 ≠ 88 by decide), eσ12, dk_up_k (show 89 ≠ 88 by decide), eσ11, dk_nw_n (show 89 ≠ 94 by decide), eσ10, dk_up_k (show 89 ≠ 88 by decide), eσ9, dk_nw_n (show 89 ≠ 93 by decide), eσ8, dk_up_k (show 89 ≠ 88 by decide), eσ7, dk_nw_n (show 89 ≠ 92 by decide), eσ6, dk_up_k (show 89 ≠ 88 by decide), eσ5, dk_nw_n (show 89 ≠ 91 by decide), eσ4, dk_up_k (show 89 ≠ 88 by decide), eσ3, dk_nw_n (show 89 ≠ 90 by decide), eσ2, dk_up_k (show 89 ≠ 88 by decide), eσ1, dk_nw_s, show ∀ q : Nat, dk_dz (dk_stc (dk_site 89) q) = 0 from fun q => rfl]
    exact (ta_53 is_89).mpr (by rw [e_] <;> decide)
  have hS90 : ∀ j : Nat, j < dk_len (dk_site 90) → dk_Ty 90 j (σ13 90 j) := fun j hj => by
    have e_ : σ13 90 (j : Int) = 0 := by rw [eσ13, dk_up_k (show 90 ≠ 88 by decide), eσ12, dk_up_k (show 90 ≠ 88 by decide), eσ11, dk_nw_n (show 90 ≠ 94 by decide), eσ10, dk_up_k (show 90 ≠ 88 by decide), eσ9, dk_nw_n (show 90 ≠ 93 by decide), eσ8, dk_up_k (show 90 ≠ 88 by decide), eσ7, dk_nw_n (show 90 ≠ 92 by decide), eσ6, dk_up_k (show 90 ≠ 88 by decide), eσ5, dk_nw_n (show 90 ≠ 91 by decide), eσ4, dk_up_k (show 90 ≠ 88 by decide), eσ3, dk_nw_s, show ∀ q : Nat, dk_dz (dk_stc (dk_site 90) q) = 0 from fun q => rfl]
    exact (ta_54 is_90).mpr (by rw [e_] <;> decide)
  have hS91 : ∀ j : Nat, j < dk_len (dk_site 91) → dk_Ty 91 j (σ13 91 j) := fun j hj => by
    exact (ta_55 is_91).mpr trivial
  have hS92 : ∀ j : Nat, j < dk_len (dk_site 92) → dk_Ty 92 j (σ13 92 j) := fun j hj => by
    have e_ : σ13 92 (j : Int) = 0 := by rw [eσ13, dk_up_k (show 92 ≠ 88 by decide), eσ12, dk_up_k (show 92 ≠ 88 by decide), eσ11, dk_nw_n (show 92 ≠ 94 by decide), eσ10, dk_up_k (show 92 ≠ 88 by decide), eσ9, dk_nw_n (show 92 ≠ 93 by decide), eσ8, dk_up_k (show 92 ≠ 88 by decide), eσ7, dk_nw_s, show ∀ q : Nat, dk_dz (dk_stc (dk_site 92) q) = 0 from fun q => rfl]
    exact (ta_56 is_92).mpr (by rw [e_] <;> decide)
  have hS93 : ∀ j : Nat, j < dk_len (dk_site 93) → dk_Ty 93 j (σ13 93 j) := fun j hj => by
    exact (ta_57 is_93).mpr trivial
  have hS94 : ∀ j : Nat, j < dk_len (dk_site 94) → dk_Ty 94 j (σ13 94 j) := fun j hj => by
    exact (ta_58 is_94).mpr trivial
  refine dk_vret (st := []) hE hR dX8_init_57 ⟨rfl, ⟨fun a j h1 h2 => by rw [eσ13, dk_up_k (show a ≠ 88 by omega), eσ12, dk_up_k (show a ≠ 88 by omega), eσ11, dk_nw_n (show a ≠ 94 by omega), eσ10, dk_up_k (show a ≠ 88 by omega), eσ9, dk_nw_n (show a ≠ 93 by omega), eσ8, dk_up_k (show a ≠ 88 by omega), eσ7, dk_nw_n (show a ≠ 92 by omega), eσ6, dk_up_k (show a ≠ 88 by omega), eσ5, dk_nw_n (show a ≠ 91 by omega), eσ4, dk_up_k (show a ≠ 88 by omega), eσ3, dk_nw_n (show a ≠ 90 by omega), eσ2, dk_up_k (show a ≠ 88 by omega), eσ1, dk_nw_n (show a ≠ 89 by omega)], fun a ha j hj => ?_⟩⟩
  by_cases q88 : a = 88
  · subst q88; exact hT88 j hj
  by_cases q89 : a = 89
  · subst q89; exact hS89 j hj
  by_cases q90 : a = 90
  · subst q90; exact hS90 j hj
  by_cases q91 : a = 91
  · subst q91; exact hS91 j hj
  by_cases q92 : a = 92
  · subst q92; exact hS92 j hj
  by_cases q93 : a = 93
  · subst q93; exact hS93 j hj
  by_cases q94 : a = 94
  · subst q94; exact hS94 j hj
  exfalso; omega
set_option maxHeartbeats 8000000 in
set_option maxRecDepth 20000 in
theorem ci_4_95 (l : Launch) (G : dkG) (hGd : dk_Gd G) (hGn : dk_Gn G) : dk_Ct l G dk_T0 yX4_init cX4_init 2 none 1 96 118 (fun av σ => av = [(4, 95), (4, 3)] ∧ dk_fsh σ 95) (fun _ σ r_ σ' => r_ = none ∧ dk_cp 95 96 118 σ σ' ∧ sOk σ' 95) := by
  refine dk_enter hGd (by decide) (fun av σ hpre hok => ?_)
  obtain ⟨rfl, hF⟩ := hpre
  refine ⟨Nat.le_of_ble_eq_true rfl, fun E hE hR hI => ?_⟩
  have hi := hI rfl
  show dk_PJ E 0 [(4, 95), (4, 3)] [] 96 σ
  refine dk_aload_n (pc' := 1) hE dX4_init_0 rfl rfl rfl ?_
  refine dk_obj (pc' := 4) hE wd_500 wd_128 wc_obj dX4_init_1 (by decide) (by decide) rfl ?_
  refine dk_aload_n (pc' := 5) hE dX4_init_4 rfl rfl rfl ?_
  refine dk_bipush (pc' := 7) hE dX4_init_5 (by decide) rfl ?_
  refine dk_newa (ay := .int) (pc' := 9) (n' := 97) (S := 59) (tc := 0) (len := 8) hE wa_int rfl (by decide) dX4_init_7 rfl rfl (by decide) rfl (by decide) ⟨by decide, by rw [tt_96, tt_118] <;> decide, by rw [tt_96] <;> decide, by rw [tt_97, tt_96]⟩ (by decide) rfl (fun σ1 eσ1 => ?_)
  refine dk_putF (pc' := 12) hE fl_X4_11 dX4_init_9 hi ⟨_, rfl, rfl⟩ ⟨by decide, by decide, by decide⟩ rfl (fun _ => trivial) trivial rfl ?_
  obtain ⟨σ2, eσ2⟩ : ∃ q : dkS, q = dk_up σ1 95 1 96 := ⟨_, rfl⟩
  show dk_PJ E 12 [(4, 95), (4, 3)] [] 97 (dk_up σ1 95 1 96)
  rw [← eσ2]
  refine dk_aload_n (pc' := 13) hE dX4_init_12 rfl rfl rfl ?_
  refine dk_bipush (pc' := 15) hE dX4_init_13 (by decide) rfl ?_
  refine dk_newa (ay := .int) (pc' := 17) (n' := 98) (S := 60) (tc := 0) (len := 8) hE wa_int rfl (by decide) dX4_init_15 rfl rfl (by decide) rfl (by decide) ⟨by decide, by rw [tt_97, tt_96, tt_118] <;> decide, by rw [tt_96, tt_97] <;> decide, by rw [tt_98, tt_97]⟩ (by decide) rfl (fun σ3 eσ3 => ?_)
  refine dk_putF (pc' := 20) hE fl_X4_15 dX4_init_17 hi ⟨_, rfl, rfl⟩ ⟨by decide, by decide, by decide⟩ rfl (fun _ => trivial) trivial rfl ?_
  obtain ⟨σ4, eσ4⟩ : ∃ q : dkS, q = dk_up σ3 95 2 97 := ⟨_, rfl⟩
  show dk_PJ E 20 [(4, 95), (4, 3)] [] 98 (dk_up σ3 95 2 97)
  rw [← eσ4]
  refine dk_aload_n (pc' := 21) hE dX4_init_20 rfl rfl rfl ?_
  refine dk_bipush (pc' := 23) hE dX4_init_21 (by decide) rfl ?_
  refine dk_bipush (pc' := 25) hE dX4_init_23 (by decide) rfl ?_
  refine dk_multi (pc' := 29) (n' := 111) (S := 61) (SI := 62) (N := 12) (M := 32) (tc := 5) (ti := 0) (ty := .int) hE wd_501 ⟨hGn, Or.inl rfl⟩ wa_int rfl rfl (by decide) dX4_init_25 rfl rfl (fun k h1_ h2_ => ?_) rfl (by decide) (by decide) rfl rfl (by decide) ⟨by decide, by rw [tt_98, tt_96, tt_118] <;> decide, by rw [tt_96, tt_98] <;> decide, by rw [tt_111, tt_98]⟩ (by decide) rfl (fun σ5 g6_1 g6_2 g6_3 => ?_)
  · rcases (show k = 99 ∨ k = 100 ∨ k = 101 ∨ k = 102 ∨ k = 103 ∨ k = 104 ∨ k = 105 ∨ k = 106 ∨ k = 107 ∨ k = 108 ∨ k = 109 ∨ k = 110 by omega) with rfl | rfl | rfl | rfl | rfl | rfl | rfl | rfl | rfl | rfl | rfl | rfl <;> rfl
  refine dk_putF (pc' := 32) hE fl_X4_20 dX4_init_29 hi ⟨_, rfl, rfl⟩ ⟨by decide, by decide, by decide⟩ rfl (fun _ => trivial) trivial rfl ?_
  obtain ⟨σ7, eσ7⟩ : ∃ q : dkS, q = dk_up σ5 95 3 98 := ⟨_, rfl⟩
  show dk_PJ E 32 [(4, 95), (4, 3)] [] 111 (dk_up σ5 95 3 98)
  rw [← eσ7]
  refine dk_aload_n (pc' := 33) hE dX4_init_32 rfl rfl rfl ?_
  refine dk_bipush (pc' := 35) hE dX4_init_33 (by decide) rfl ?_
  refine dk_newa (ay := .int) (pc' := 37) (n' := 112) (S := 63) (tc := 0) (len := 12) hE wa_int rfl (by decide) dX4_init_35 rfl rfl (by decide) rfl (by decide) ⟨by decide, by rw [tt_111, tt_96, tt_118] <;> decide, by rw [tt_96, tt_111] <;> decide, by rw [tt_112, tt_111]⟩ (by decide) rfl (fun σ8 eσ8 => ?_)
  refine dk_putF (pc' := 40) hE fl_X4_23 dX4_init_37 hi ⟨_, rfl, rfl⟩ ⟨by decide, by decide, by decide⟩ rfl (fun _ => trivial) trivial rfl ?_
  obtain ⟨σ9, eσ9⟩ : ∃ q : dkS, q = dk_up σ8 95 4 111 := ⟨_, rfl⟩
  show dk_PJ E 40 [(4, 95), (4, 3)] [] 112 (dk_up σ8 95 4 111)
  rw [← eσ9]
  refine dk_aload_n (pc' := 41) hE dX4_init_40 rfl rfl rfl ?_
  refine dk_bipush (pc' := 43) hE dX4_init_41 (by decide) rfl ?_
  refine dk_newa (ay := .int) (pc' := 45) (n' := 113) (S := 64) (tc := 0) (len := 12) hE wa_int rfl (by decide) dX4_init_43 rfl rfl (by decide) rfl (by decide) ⟨by decide, by rw [tt_112, tt_96, tt_118] <;> decide, by rw [tt_96, tt_112] <;> decide, by rw [tt_113, tt_112]⟩ (by decide) rfl (fun σ10 eσ10 => ?_)
  refine dk_putF (pc' := 48) hE fl_X4_26 dX4_init_45 hi ⟨_, rfl, rfl⟩ ⟨by decide, by decide, by decide⟩ rfl (fun _ => trivial) trivial rfl ?_
  obtain ⟨σ11, eσ11⟩ : ∃ q : dkS, q = dk_up σ10 95 5 112 := ⟨_, rfl⟩
  show dk_PJ E 48 [(4, 95), (4, 3)] [] 113 (dk_up σ10 95 5 112)
  rw [← eσ11]
  refine dk_aload_n (pc' := 49) hE dX4_init_48 rfl rfl rfl ?_
  refine dk_bipush (pc' := 51) hE dX4_init_49 (by decide) rfl ?_
  refine dk_newa (ay := .int) (pc' := 53) (n' := 114) (S := 65) (tc := 0) (len := 12) hE wa_int rfl (by decide) dX4_init_51 rfl rfl (by decide) rfl (by decide) ⟨by decide, by rw [tt_113, tt_96, tt_118] <;> decide, by rw [tt_96, tt_113] <;> decide, by rw [tt_114, tt_113]⟩ (by decide) rfl (fun σ12 eσ12 => ?_)
  refine dk_putF (pc' := 56) hE fl_X4_29 dX4_init_53 hi ⟨_, rfl, rfl⟩ ⟨by decide, by decide, by decide⟩ rfl (fun _ => trivial) trivial rfl ?_
  obtain ⟨σ13, eσ13⟩ : ∃ q : dkS, q = dk_up σ12 95 6 113 := ⟨_, rfl⟩
  show dk_PJ E 56 [(4, 95), (4, 3)] [] 114 (dk_up σ12 95 6 113)
  rw [← eσ13]
  refine dk_aload_n (pc' := 57) hE dX4_init_56 rfl rfl rfl ?_
  refine dk_bipush (pc' := 59) hE dX4_init_57 (by decide) rfl ?_
  refine dk_newa (ay := .int) (pc' := 61) (n' := 115) (S := 66) (tc := 0) (len := 12) hE wa_int rfl (by decide) dX4_init_59 rfl rfl (by decide) rfl (by decide) ⟨by decide, by rw [tt_114, tt_96, tt_118] <;> decide, by rw [tt_96, tt_114] <;> decide, by rw [tt_115, tt_114]⟩ (by decide) rfl (fun σ14 eσ14 => ?_)
  refine dk_putF (pc' := 64) hE fl_X4_32 dX4_init_61 hi ⟨_, rfl, rfl⟩ ⟨by decide, by decide, by decide⟩ rfl (fun _ => trivial) trivial rfl ?_
  obtain ⟨σ15, eσ15⟩ : ∃ q : dkS, q = dk_up σ14 95 7 114 := ⟨_, rfl⟩
  show dk_PJ E 64 [(4, 95), (4, 3)] [] 115 (dk_up σ14 95 7 114)
  rw [← eσ15]
  refine dk_aload_n (pc' := 65) hE dX4_init_64 rfl rfl rfl ?_
  refine dk_bipush (pc' := 67) hE dX4_init_65 (by decide) rfl ?_
  refine dk_newa (ay := .boolean) (pc' := 69) (n' := 116) (S := 67) (tc := 2) (len := 12) hE wa_boolean rfl (by decide) dX4_init_67 rfl rfl (by decide) rfl (by decide) ⟨by decide, by rw [tt_115, tt_96, tt_118] <;> decide, by rw [tt_96, tt_115] <;> decide, by rw [tt_116, tt_115]⟩ (by decide) rfl (fun σ16 eσ16 => ?_)
  refine dk_putF (pc' := 72) hE fl_X4_35 dX4_init_69 hi ⟨_, rfl, rfl⟩ ⟨by decide, by decide, by decide⟩ rfl (fun _ => trivial) trivial rfl ?_
  obtain ⟨σ17, eσ17⟩ : ∃ q : dkS, q = dk_up σ16 95 8 115 := ⟨_, rfl⟩
  show dk_PJ E 72 [(4, 95), (4, 3)] [] 116 (dk_up σ16 95 8 115)
  rw [← eσ17]
  refine dk_aload_n (pc' := 73) hE dX4_init_72 rfl rfl rfl ?_
  refine dk_iconst (pc' := 74) hE dX4_init_73 (by decide) rfl ?_
  refine dk_newa (ay := .int) (pc' := 76) (n' := 117) (S := 68) (tc := 0) (len := 4) hE wa_int rfl (by decide) dX4_init_74 rfl rfl (by decide) rfl (by decide) ⟨by decide, by rw [tt_116, tt_96, tt_118] <;> decide, by rw [tt_96, tt_116] <;> decide, by rw [tt_117, tt_116]⟩ (by decide) rfl (fun σ18 eσ18 => ?_)
  refine dk_putF (pc' := 79) hE fl_X4_39 dX4_init_76 hi ⟨_, rfl, rfl⟩ ⟨by decide, by decide, by decide⟩ rfl (fun _ => trivial) trivial rfl ?_
  obtain ⟨σ19, eσ19⟩ : ∃ q : dkS, q = dk_up σ18 95 9 116 := ⟨_, rfl⟩
  show dk_PJ E 79 [(4, 95), (4, 3)] [] 117 (dk_up σ18 95 9 116)
  rw [← eσ19]
  refine dk_aload_n (pc' := 80) hE dX4_init_79 rfl rfl rfl ?_
  refine dk_iconst (pc' := 81) hE dX4_init_80 (by decide) rfl ?_
  refine dk_newa (ay := .int) (pc' := 83) (n' := 118) (S := 69) (tc := 0) (len := 4) hE wa_int rfl (by decide) dX4_init_81 rfl rfl (by decide) rfl (by decide) ⟨by decide, by rw [tt_117, tt_96, tt_118] <;> decide, by rw [tt_96, tt_117] <;> decide, by rw [tt_118, tt_117]⟩ (by decide) rfl (fun σ20 eσ20 => ?_)
  refine dk_putF (pc' := 86) hE fl_X4_42 dX4_init_83 hi ⟨_, rfl, rfl⟩ ⟨by decide, by decide, by decide⟩ rfl (fun _ => trivial) trivial rfl ?_
  obtain ⟨σ21, eσ21⟩ : ∃ q : dkS, q = dk_up σ20 95 10 117 := ⟨_, rfl⟩
  show dk_PJ E 86 [(4, 95), (4, 3)] [] 118 (dk_up σ20 95 10 117)
  rw [← eσ21]
  refine dk_aload_n (pc' := 87) hE dX4_init_86 rfl rfl rfl ?_
  refine dk_aload_n (pc' := 88) hE dX4_init_87 rfl rfl rfl ?_
  refine dk_putF (pc' := 91) hE fl_X4_45 dX4_init_88 hi ⟨_, rfl, rfl⟩ ⟨by decide, by decide, by decide⟩ rfl (fun _ => trivial) trivial rfl ?_
  obtain ⟨σ22, eσ22⟩ : ∃ q : dkS, q = dk_up σ21 95 0 3 := ⟨_, rfl⟩
  show dk_PJ E 91 [(4, 95), (4, 3)] [] 118 (dk_up σ21 95 0 3)
  rw [← eσ22]
  refine dk_aload_n (pc' := 92) hE dX4_init_91 rfl rfl rfl ?_
  refine dk_bipush (pc' := 94) hE dX4_init_92 (by decide) rfl ?_
  refine dk_putf (pc' := 97) hE fl_X4_48 dX4_init_94 ⟨by decide, by decide, by decide⟩ rfl (fun h => h.1 rfl) trivial rfl ?_
  obtain ⟨σ23, eσ23⟩ : ∃ q : dkS, q = dk_up σ22 95 14 10 := ⟨_, rfl⟩
  show dk_PJ E 97 [(4, 95), (4, 3)] [] 118 (dk_up σ22 95 14 10)
  rw [← eσ23]
  refine dk_aload_n (pc' := 98) hE dX4_init_97 rfl rfl rfl ?_
  refine dk_bipush (pc' := 100) hE dX4_init_98 (by decide) rfl ?_
  refine dk_putf (pc' := 103) hE fl_X4_52 dX4_init_100 ⟨by decide, by decide, by decide⟩ rfl (fun h => h.1 rfl) trivial rfl ?_
  obtain ⟨σ24, eσ24⟩ : ∃ q : dkS, q = dk_up σ23 95 15 10 := ⟨_, rfl⟩
  show dk_PJ E 103 [(4, 95), (4, 3)] [] 118 (dk_up σ23 95 15 10)
  rw [← eσ24]
  have hT95 : ∀ j : Nat, j < dk_len (dk_site 95) → dk_Ty 95 j (σ24 95 j) := fun j hj => by
    have hj : j < 17 := hj
    rcases (show j = 0 ∨ j = 1 ∨ j = 2 ∨ j = 3 ∨ j = 4 ∨ j = 5 ∨ j = 6 ∨ j = 7 ∨ j = 8 ∨ j = 9 ∨ j = 10 ∨ j = 11 ∨ j = 12 ∨ j = 13 ∨ j = 14 ∨ j = 15 ∨ j = 16 by omega) with rfl | rfl | rfl | rfl | rfl | rfl | rfl | rfl | rfl | rfl | rfl | rfl | rfl | rfl | rfl | rfl | rfl
    · exact (ty_4_0 is_95).mpr (by rw [show σ24 95 ((0 : Nat) : Int) = 3 from (show σ24 95 0 = 3 by rw [eσ24, dk_up_n (by decide), eσ23, dk_up_n (by decide), eσ22, dk_up_s])] <;> decide)
    · exact (ty_4_1 is_95).mpr (by rw [show σ24 95 ((1 : Nat) : Int) = 96 from (show σ24 95 1 = 96 by rw [eσ24, dk_up_n (by decide), eσ23, dk_up_n (by decide), eσ22, dk_up_n (by decide), eσ21, dk_up_n (by decide), eσ20, dk_nw_n (by decide), eσ19, dk_up_n (by decide), eσ18, dk_nw_n (by decide), eσ17, dk_up_n (by decide), eσ16, dk_nw_n (by decide), eσ15, dk_up_n (by decide), eσ14, dk_nw_n (by decide), eσ13, dk_up_n (by decide), eσ12, dk_nw_n (by decide), eσ11, dk_up_n (by decide), eσ10, dk_nw_n (by decide), eσ9, dk_up_n (by decide), eσ8, dk_nw_n (by decide), eσ7, dk_up_n (by decide), g6_1 95 1 (by decide), eσ4, dk_up_n (by decide), eσ3, dk_nw_n (by decide), eσ2, dk_up_s])] <;> decide)
    · exact (ty_4_2 is_95).mpr (by rw [show σ24 95 ((2 : Nat) : Int) = 97 from (show σ24 95 2 = 97 by rw [eσ24, dk_up_n (by decide), eσ23, dk_up_n (by decide), eσ22, dk_up_n (by decide), eσ21, dk_up_n (by decide), eσ20, dk_nw_n (by decide), eσ19, dk_up_n (by decide), eσ18, dk_nw_n (by decide), eσ17, dk_up_n (by decide), eσ16, dk_nw_n (by decide), eσ15, dk_up_n (by decide), eσ14, dk_nw_n (by decide), eσ13, dk_up_n (by decide), eσ12, dk_nw_n (by decide), eσ11, dk_up_n (by decide), eσ10, dk_nw_n (by decide), eσ9, dk_up_n (by decide), eσ8, dk_nw_n (by decide), eσ7, dk_up_n (by decide), g6_1 95 2 (by decide), eσ4, dk_up_s])] <;> decide)
    · exact (ty_4_3 is_95).mpr (by rw [show σ24 95 ((3 : Nat) : Int) = 98 from (show σ24 95 3 = 98 by rw [eσ24, dk_up_n (by decide), eσ23, dk_up_n (by decide), eσ22, dk_up_n (by decide), eσ21, dk_up_n (by decide), eσ20, dk_nw_n (by decide), eσ19, dk_up_n (by decide), eσ18, dk_nw_n (by decide), eσ17, dk_up_n (by decide), eσ16, dk_nw_n (by decide), eσ15, dk_up_n (by decide), eσ14, dk_nw_n (by decide), eσ13, dk_up_n (by decide), eσ12, dk_nw_n (by decide), eσ11, dk_up_n (by decide), eσ10, dk_nw_n (by decide), eσ9, dk_up_n (by decide), eσ8, dk_nw_n (by decide), eσ7, dk_up_s])] <;> decide)
    · exact (ty_4_4 is_95).mpr (by rw [show σ24 95 ((4 : Nat) : Int) = 111 from (show σ24 95 4 = 111 by rw [eσ24, dk_up_n (by decide), eσ23, dk_up_n (by decide), eσ22, dk_up_n (by decide), eσ21, dk_up_n (by decide), eσ20, dk_nw_n (by decide), eσ19, dk_up_n (by decide), eσ18, dk_nw_n (by decide), eσ17, dk_up_n (by decide), eσ16, dk_nw_n (by decide), eσ15, dk_up_n (by decide), eσ14, dk_nw_n (by decide), eσ13, dk_up_n (by decide), eσ12, dk_nw_n (by decide), eσ11, dk_up_n (by decide), eσ10, dk_nw_n (by decide), eσ9, dk_up_s])] <;> decide)
    · exact (ty_4_5 is_95).mpr (by rw [show σ24 95 ((5 : Nat) : Int) = 112 from (show σ24 95 5 = 112 by rw [eσ24, dk_up_n (by decide), eσ23, dk_up_n (by decide), eσ22, dk_up_n (by decide), eσ21, dk_up_n (by decide), eσ20, dk_nw_n (by decide), eσ19, dk_up_n (by decide), eσ18, dk_nw_n (by decide), eσ17, dk_up_n (by decide), eσ16, dk_nw_n (by decide), eσ15, dk_up_n (by decide), eσ14, dk_nw_n (by decide), eσ13, dk_up_n (by decide), eσ12, dk_nw_n (by decide), eσ11, dk_up_s])] <;> decide)
    · exact (ty_4_6 is_95).mpr (by rw [show σ24 95 ((6 : Nat) : Int) = 113 from (show σ24 95 6 = 113 by rw [eσ24, dk_up_n (by decide), eσ23, dk_up_n (by decide), eσ22, dk_up_n (by decide), eσ21, dk_up_n (by decide), eσ20, dk_nw_n (by decide), eσ19, dk_up_n (by decide), eσ18, dk_nw_n (by decide), eσ17, dk_up_n (by decide), eσ16, dk_nw_n (by decide), eσ15, dk_up_n (by decide), eσ14, dk_nw_n (by decide), eσ13, dk_up_s])] <;> decide)
    · exact (ty_4_7 is_95).mpr (by rw [show σ24 95 ((7 : Nat) : Int) = 114 from (show σ24 95 7 = 114 by rw [eσ24, dk_up_n (by decide), eσ23, dk_up_n (by decide), eσ22, dk_up_n (by decide), eσ21, dk_up_n (by decide), eσ20, dk_nw_n (by decide), eσ19, dk_up_n (by decide), eσ18, dk_nw_n (by decide), eσ17, dk_up_n (by decide), eσ16, dk_nw_n (by decide), eσ15, dk_up_s])] <;> decide)
    · exact (ty_4_8 is_95).mpr (by rw [show σ24 95 ((8 : Nat) : Int) = 115 from (show σ24 95 8 = 115 by rw [eσ24, dk_up_n (by decide), eσ23, dk_up_n (by decide), eσ22, dk_up_n (by decide), eσ21, dk_up_n (by decide), eσ20, dk_nw_n (by decide), eσ19, dk_up_n (by decide), eσ18, dk_nw_n (by decide), eσ17, dk_up_s])] <;> decide)
    · exact (ty_4_9 is_95).mpr (by rw [show σ24 95 ((9 : Nat) : Int) = 116 from (show σ24 95 9 = 116 by rw [eσ24, dk_up_n (by decide), eσ23, dk_up_n (by decide), eσ22, dk_up_n (by decide), eσ21, dk_up_n (by decide), eσ20, dk_nw_n (by decide), eσ19, dk_up_s])] <;> decide)
    · exact (ty_4_10 is_95).mpr (by rw [show σ24 95 ((10 : Nat) : Int) = 117 from (show σ24 95 10 = 117 by rw [eσ24, dk_up_n (by decide), eσ23, dk_up_n (by decide), eσ22, dk_up_n (by decide), eσ21, dk_up_s])] <;> decide)
    · exact (ty_4_11 is_95).mpr (by rw [show σ24 95 ((11 : Nat) : Int) = 0 from (show σ24 95 11 = 0 by rw [eσ24, dk_up_n (by decide), eσ23, dk_up_n (by decide), eσ22, dk_up_n (by decide), eσ21, dk_up_n (by decide), eσ20, dk_nw_n (by decide), eσ19, dk_up_n (by decide), eσ18, dk_nw_n (by decide), eσ17, dk_up_n (by decide), eσ16, dk_nw_n (by decide), eσ15, dk_up_n (by decide), eσ14, dk_nw_n (by decide), eσ13, dk_up_n (by decide), eσ12, dk_nw_n (by decide), eσ11, dk_up_n (by decide), eσ10, dk_nw_n (by decide), eσ9, dk_up_n (by decide), eσ8, dk_nw_n (by decide), eσ7, dk_up_n (by decide), g6_1 95 11 (by decide), eσ4, dk_up_n (by decide), eσ3, dk_nw_n (by decide), eσ2, dk_up_n (by decide), eσ1, dk_nw_n (by decide), hF, show dk_dz (dk_stc (dk_site 95) (11 : Int).toNat) = 0 from rfl])] <;> decide)
    · exact (ty_4_12 is_95).mpr (by rw [show σ24 95 ((12 : Nat) : Int) = 0 from (show σ24 95 12 = 0 by rw [eσ24, dk_up_n (by decide), eσ23, dk_up_n (by decide), eσ22, dk_up_n (by decide), eσ21, dk_up_n (by decide), eσ20, dk_nw_n (by decide), eσ19, dk_up_n (by decide), eσ18, dk_nw_n (by decide), eσ17, dk_up_n (by decide), eσ16, dk_nw_n (by decide), eσ15, dk_up_n (by decide), eσ14, dk_nw_n (by decide), eσ13, dk_up_n (by decide), eσ12, dk_nw_n (by decide), eσ11, dk_up_n (by decide), eσ10, dk_nw_n (by decide), eσ9, dk_up_n (by decide), eσ8, dk_nw_n (by decide), eσ7, dk_up_n (by decide), g6_1 95 12 (by decide), eσ4, dk_up_n (by decide), eσ3, dk_nw_n (by decide), eσ2, dk_up_n (by decide), eσ1, dk_nw_n (by decide), hF, show dk_dz (dk_stc (dk_site 95) (12 : Int).toNat) = 0 from rfl])] <;> decide)
    · exact (ty_4_13 is_95).mpr trivial
    · exact (ty_4_14 is_95).mpr trivial
    · exact (ty_4_15 is_95).mpr trivial
    · exact (ty_4_16 is_95).mpr (by rw [show σ24 95 ((16 : Nat) : Int) = 0 from (show σ24 95 16 = 0 by rw [eσ24, dk_up_n (by decide), eσ23, dk_up_n (by decide), eσ22, dk_up_n (by decide), eσ21, dk_up_n (by decide), eσ20, dk_nw_n (by decide), eσ19, dk_up_n (by decide), eσ18, dk_nw_n (by decide), eσ17, dk_up_n (by decide), eσ16, dk_nw_n (by decide), eσ15, dk_up_n (by decide), eσ14, dk_nw_n (by decide), eσ13, dk_up_n (by decide), eσ12, dk_nw_n (by decide), eσ11, dk_up_n (by decide), eσ10, dk_nw_n (by decide), eσ9, dk_up_n (by decide), eσ8, dk_nw_n (by decide), eσ7, dk_up_n (by decide), g6_1 95 16 (by decide), eσ4, dk_up_n (by decide), eσ3, dk_nw_n (by decide), eσ2, dk_up_n (by decide), eσ1, dk_nw_n (by decide), hF, show dk_dz (dk_stc (dk_site 95) (16 : Int).toNat) = 0 from rfl])] <;> decide)
  have hS96 : ∀ j : Nat, j < dk_len (dk_site 96) → dk_Ty 96 j (σ24 96 j) := fun j hj => by
    exact (ta_59 is_96).mpr trivial
  have hS97 : ∀ j : Nat, j < dk_len (dk_site 97) → dk_Ty 97 j (σ24 97 j) := fun j hj => by
    exact (ta_60 is_97).mpr trivial
  have hS98 : ∀ j : Nat, j < dk_len (dk_site 98) → dk_Ty 98 j (σ24 98 j) := fun j hj => by
    have hj : j < 12 := hj
    rcases (show j = 0 ∨ j = 1 ∨ j = 2 ∨ j = 3 ∨ j = 4 ∨ j = 5 ∨ j = 6 ∨ j = 7 ∨ j = 8 ∨ j = 9 ∨ j = 10 ∨ j = 11 by omega) with rfl | rfl | rfl | rfl | rfl | rfl | rfl | rfl | rfl | rfl | rfl | rfl
    · exact (ta_61 is_98).mpr (by rw [show σ24 98 ((0 : Nat) : Int) = 99 from (show σ24 98 0 = 99 by rw [eσ24, dk_up_n (by decide), eσ23, dk_up_n (by decide), eσ22, dk_up_n (by decide), eσ21, dk_up_n (by decide), eσ20, dk_nw_n (by decide), eσ19, dk_up_n (by decide), eσ18, dk_nw_n (by decide), eσ17, dk_up_n (by decide), eσ16, dk_nw_n (by decide), eσ15, dk_up_n (by decide), eσ14, dk_nw_n (by decide), eσ13, dk_up_n (by decide), eσ12, dk_nw_n (by decide), eσ11, dk_up_n (by decide), eσ10, dk_nw_n (by decide), eσ9, dk_up_n (by decide), eσ8, dk_nw_n (by decide), eσ7, dk_up_n (by decide), g6_2 0, show (98 : Int) + 1 + 0 = 99 from rfl])] <;> decide)
    · exact (ta_61 is_98).mpr (by rw [show σ24 98 ((1 : Nat) : Int) = 100 from (show σ24 98 1 = 100 by rw [eσ24, dk_up_n (by decide), eσ23, dk_up_n (by decide), eσ22, dk_up_n (by decide), eσ21, dk_up_n (by decide), eσ20, dk_nw_n (by decide), eσ19, dk_up_n (by decide), eσ18, dk_nw_n (by decide), eσ17, dk_up_n (by decide), eσ16, dk_nw_n (by decide), eσ15, dk_up_n (by decide), eσ14, dk_nw_n (by decide), eσ13, dk_up_n (by decide), eσ12, dk_nw_n (by decide), eσ11, dk_up_n (by decide), eσ10, dk_nw_n (by decide), eσ9, dk_up_n (by decide), eσ8, dk_nw_n (by decide), eσ7, dk_up_n (by decide), g6_2 1, show (98 : Int) + 1 + 1 = 100 from rfl])] <;> decide)
    · exact (ta_61 is_98).mpr (by rw [show σ24 98 ((2 : Nat) : Int) = 101 from (show σ24 98 2 = 101 by rw [eσ24, dk_up_n (by decide), eσ23, dk_up_n (by decide), eσ22, dk_up_n (by decide), eσ21, dk_up_n (by decide), eσ20, dk_nw_n (by decide), eσ19, dk_up_n (by decide), eσ18, dk_nw_n (by decide), eσ17, dk_up_n (by decide), eσ16, dk_nw_n (by decide), eσ15, dk_up_n (by decide), eσ14, dk_nw_n (by decide), eσ13, dk_up_n (by decide), eσ12, dk_nw_n (by decide), eσ11, dk_up_n (by decide), eσ10, dk_nw_n (by decide), eσ9, dk_up_n (by decide), eσ8, dk_nw_n (by decide), eσ7, dk_up_n (by decide), g6_2 2, show (98 : Int) + 1 + 2 = 101 from rfl])] <;> decide)
    · exact (ta_61 is_98).mpr (by rw [show σ24 98 ((3 : Nat) : Int) = 102 from (show σ24 98 3 = 102 by rw [eσ24, dk_up_n (by decide), eσ23, dk_up_n (by decide), eσ22, dk_up_n (by decide), eσ21, dk_up_n (by decide), eσ20, dk_nw_n (by decide), eσ19, dk_up_n (by decide), eσ18, dk_nw_n (by decide), eσ17, dk_up_n (by decide), eσ16, dk_nw_n (by decide), eσ15, dk_up_n (by decide), eσ14, dk_nw_n (by decide), eσ13, dk_up_n (by decide), eσ12, dk_nw_n (by decide), eσ11, dk_up_n (by decide), eσ10, dk_nw_n (by decide), eσ9, dk_up_n (by decide), eσ8, dk_nw_n (by decide), eσ7, dk_up_n (by decide), g6_2 3, show (98 : Int) + 1 + 3 = 102 from rfl])] <;> decide)
    · exact (ta_61 is_98).mpr (by rw [show σ24 98 ((4 : Nat) : Int) = 103 from (show σ24 98 4 = 103 by rw [eσ24, dk_up_n (by decide), eσ23, dk_up_n (by decide), eσ22, dk_up_n (by decide), eσ21, dk_up_n (by decide), eσ20, dk_nw_n (by decide), eσ19, dk_up_n (by decide), eσ18, dk_nw_n (by decide), eσ17, dk_up_n (by decide), eσ16, dk_nw_n (by decide), eσ15, dk_up_n (by decide), eσ14, dk_nw_n (by decide), eσ13, dk_up_n (by decide), eσ12, dk_nw_n (by decide), eσ11, dk_up_n (by decide), eσ10, dk_nw_n (by decide), eσ9, dk_up_n (by decide), eσ8, dk_nw_n (by decide), eσ7, dk_up_n (by decide), g6_2 4, show (98 : Int) + 1 + 4 = 103 from rfl])] <;> decide)
    · exact (ta_61 is_98).mpr (by rw [show σ24 98 ((5 : Nat) : Int) = 104 from (show σ24 98 5 = 104 by rw [eσ24, dk_up_n (by decide), eσ23, dk_up_n (by decide), eσ22, dk_up_n (by decide), eσ21, dk_up_n (by decide), eσ20, dk_nw_n (by decide), eσ19, dk_up_n (by decide), eσ18, dk_nw_n (by decide), eσ17, dk_up_n (by decide), eσ16, dk_nw_n (by decide), eσ15, dk_up_n (by decide), eσ14, dk_nw_n (by decide), eσ13, dk_up_n (by decide), eσ12, dk_nw_n (by decide), eσ11, dk_up_n (by decide), eσ10, dk_nw_n (by decide), eσ9, dk_up_n (by decide), eσ8, dk_nw_n (by decide), eσ7, dk_up_n (by decide), g6_2 5, show (98 : Int) + 1 + 5 = 104 from rfl])] <;> decide)
    · exact (ta_61 is_98).mpr (by rw [show σ24 98 ((6 : Nat) : Int) = 105 from (show σ24 98 6 = 105 by rw [eσ24, dk_up_n (by decide), eσ23, dk_up_n (by decide), eσ22, dk_up_n (by decide), eσ21, dk_up_n (by decide), eσ20, dk_nw_n (by decide), eσ19, dk_up_n (by decide), eσ18, dk_nw_n (by decide), eσ17, dk_up_n (by decide), eσ16, dk_nw_n (by decide), eσ15, dk_up_n (by decide), eσ14, dk_nw_n (by decide), eσ13, dk_up_n (by decide), eσ12, dk_nw_n (by decide), eσ11, dk_up_n (by decide), eσ10, dk_nw_n (by decide), eσ9, dk_up_n (by decide), eσ8, dk_nw_n (by decide), eσ7, dk_up_n (by decide), g6_2 6, show (98 : Int) + 1 + 6 = 105 from rfl])] <;> decide)
    · exact (ta_61 is_98).mpr (by rw [show σ24 98 ((7 : Nat) : Int) = 106 from (show σ24 98 7 = 106 by rw [eσ24, dk_up_n (by decide), eσ23, dk_up_n (by decide), eσ22, dk_up_n (by decide), eσ21, dk_up_n (by decide), eσ20, dk_nw_n (by decide), eσ19, dk_up_n (by decide), eσ18, dk_nw_n (by decide), eσ17, dk_up_n (by decide), eσ16, dk_nw_n (by decide), eσ15, dk_up_n (by decide), eσ14, dk_nw_n (by decide), eσ13, dk_up_n (by decide), eσ12, dk_nw_n (by decide), eσ11, dk_up_n (by decide), eσ10, dk_nw_n (by decide), eσ9, dk_up_n (by decide), eσ8, dk_nw_n (by decide), eσ7, dk_up_n (by decide), g6_2 7, show (98 : Int) + 1 + 7 = 106 from rfl])] <;> decide)
    · exact (ta_61 is_98).mpr (by rw [show σ24 98 ((8 : Nat) : Int) = 107 from (show σ24 98 8 = 107 by rw [eσ24, dk_up_n (by decide), eσ23, dk_up_n (by decide), eσ22, dk_up_n (by decide), eσ21, dk_up_n (by decide), eσ20, dk_nw_n (by decide), eσ19, dk_up_n (by decide), eσ18, dk_nw_n (by decide), eσ17, dk_up_n (by decide), eσ16, dk_nw_n (by decide), eσ15, dk_up_n (by decide), eσ14, dk_nw_n (by decide), eσ13, dk_up_n (by decide), eσ12, dk_nw_n (by decide), eσ11, dk_up_n (by decide), eσ10, dk_nw_n (by decide), eσ9, dk_up_n (by decide), eσ8, dk_nw_n (by decide), eσ7, dk_up_n (by decide), g6_2 8, show (98 : Int) + 1 + 8 = 107 from rfl])] <;> decide)
    · exact (ta_61 is_98).mpr (by rw [show σ24 98 ((9 : Nat) : Int) = 108 from (show σ24 98 9 = 108 by rw [eσ24, dk_up_n (by decide), eσ23, dk_up_n (by decide), eσ22, dk_up_n (by decide), eσ21, dk_up_n (by decide), eσ20, dk_nw_n (by decide), eσ19, dk_up_n (by decide), eσ18, dk_nw_n (by decide), eσ17, dk_up_n (by decide), eσ16, dk_nw_n (by decide), eσ15, dk_up_n (by decide), eσ14, dk_nw_n (by decide), eσ13, dk_up_n (by decide), eσ12, dk_nw_n (by decide), eσ11, dk_up_n (by decide), eσ10, dk_nw_n (by decide), eσ9, dk_up_n (by decide), eσ8, dk_nw_n (by decide), eσ7, dk_up_n (by decide), g6_2 9, show (98 : Int) + 1 + 9 = 108 from rfl])] <;> decide)
    · exact (ta_61 is_98).mpr (by rw [show σ24 98 ((10 : Nat) : Int) = 109 from (show σ24 98 10 = 109 by rw [eσ24, dk_up_n (by decide), eσ23, dk_up_n (by decide), eσ22, dk_up_n (by decide), eσ21, dk_up_n (by decide), eσ20, dk_nw_n (by decide), eσ19, dk_up_n (by decide), eσ18, dk_nw_n (by decide), eσ17, dk_up_n (by decide), eσ16, dk_nw_n (by decide), eσ15, dk_up_n (by decide), eσ14, dk_nw_n (by decide), eσ13, dk_up_n (by decide), eσ12, dk_nw_n (by decide), eσ11, dk_up_n (by decide), eσ10, dk_nw_n (by decide), eσ9, dk_up_n (by decide), eσ8, dk_nw_n (by decide), eσ7, dk_up_n (by decide), g6_2 10, show (98 : Int) + 1 + 10 = 109 from rfl])] <;> decide)
    · exact (ta_61 is_98).mpr (by rw [show σ24 98 ((11 : Nat) : Int) = 110 from (show σ24 98 11 = 110 by rw [eσ24, dk_up_n (by decide), eσ23, dk_up_n (by decide), eσ22, dk_up_n (by decide), eσ21, dk_up_n (by decide), eσ20, dk_nw_n (by decide), eσ19, dk_up_n (by decide), eσ18, dk_nw_n (by decide), eσ17, dk_up_n (by decide), eσ16, dk_nw_n (by decide), eσ15, dk_up_n (by decide), eσ14, dk_nw_n (by decide), eσ13, dk_up_n (by decide), eσ12, dk_nw_n (by decide), eσ11, dk_up_n (by decide), eσ10, dk_nw_n (by decide), eσ9, dk_up_n (by decide), eσ8, dk_nw_n (by decide), eσ7, dk_up_n (by decide), g6_2 11, show (98 : Int) + 1 + 11 = 110 from rfl])] <;> decide)
  have hS99 : ∀ j : Nat, j < dk_len (dk_site 99) → dk_Ty 99 j (σ24 99 j) := fun j hj => by
    have e_ : σ24 99 (j : Int) = 0 := by rw [eσ24, dk_up_k (show 99 ≠ 95 by decide), eσ23, dk_up_k (show 99 ≠ 95 by decide), eσ22, dk_up_k (show 99 ≠ 95 by decide), eσ21, dk_up_k (show 99 ≠ 95 by decide), eσ20, dk_nw_n (show 99 ≠ 117 by decide), eσ19, dk_up_k (show 99 ≠ 95 by decide), eσ18, dk_nw_n (show 99 ≠ 116 by decide), eσ17, dk_up_k (show 99 ≠ 95 by decide), eσ16, dk_nw_n (show 99 ≠ 115 by decide), eσ15, dk_up_k (show 99 ≠ 95 by decide), eσ14, dk_nw_n (show 99 ≠ 114 by decide), eσ13, dk_up_k (show 99 ≠ 95 by decide), eσ12, dk_nw_n (show 99 ≠ 113 by decide), eσ11, dk_up_k (show 99 ≠ 95 by decide), eσ10, dk_nw_n (show 99 ≠ 112 by decide), eσ9, dk_up_k (show 99 ≠ 95 by decide), eσ8, dk_nw_n (show 99 ≠ 111 by decide), eσ7, dk_up_k (show 99 ≠ 95 by decide), g6_3 99 _ (by decide) (by decide)]
    exact (ta_62 is_99).mpr (by rw [e_] <;> decide)
  have hS100 : ∀ j : Nat, j < dk_len (dk_site 100) → dk_Ty 100 j (σ24 100 j) := fun j hj => by
    have e_ : σ24 100 (j : Int) = 0 := by rw [eσ24, dk_up_k (show 100 ≠ 95 by decide), eσ23, dk_up_k (show 100 ≠ 95 by decide), eσ22, dk_up_k (show 100 ≠ 95 by decide), eσ21, dk_up_k (show 100 ≠ 95 by decide), eσ20, dk_nw_n (show 100 ≠ 117 by decide), eσ19, dk_up_k (show 100 ≠ 95 by decide), eσ18, dk_nw_n (show 100 ≠ 116 by decide), eσ17, dk_up_k (show 100 ≠ 95 by decide), eσ16, dk_nw_n (show 100 ≠ 115 by decide), eσ15, dk_up_k (show 100 ≠ 95 by decide), eσ14, dk_nw_n (show 100 ≠ 114 by decide), eσ13, dk_up_k (show 100 ≠ 95 by decide), eσ12, dk_nw_n (show 100 ≠ 113 by decide), eσ11, dk_up_k (show 100 ≠ 95 by decide), eσ10, dk_nw_n (show 100 ≠ 112 by decide), eσ9, dk_up_k (show 100 ≠ 95 by decide), eσ8, dk_nw_n (show 100 ≠ 111 by decide), eσ7, dk_up_k (show 100 ≠ 95 by decide), g6_3 100 _ (by decide) (by decide)]
    exact (ta_62 is_100).mpr (by rw [e_] <;> decide)
  have hS101 : ∀ j : Nat, j < dk_len (dk_site 101) → dk_Ty 101 j (σ24 101 j) := fun j hj => by
    have e_ : σ24 101 (j : Int) = 0 := by rw [eσ24, dk_up_k (show 101 ≠ 95 by decide), eσ23, dk_up_k (show 101 ≠ 95 by decide), eσ22, dk_up_k (show 101 ≠ 95 by decide), eσ21, dk_up_k (show 101 ≠ 95 by decide), eσ20, dk_nw_n (show 101 ≠ 117 by decide), eσ19, dk_up_k (show 101 ≠ 95 by decide), eσ18, dk_nw_n (show 101 ≠ 116 by decide), eσ17, dk_up_k (show 101 ≠ 95 by decide), eσ16, dk_nw_n (show 101 ≠ 115 by decide), eσ15, dk_up_k (show 101 ≠ 95 by decide), eσ14, dk_nw_n (show 101 ≠ 114 by decide), eσ13, dk_up_k (show 101 ≠ 95 by decide), eσ12, dk_nw_n (show 101 ≠ 113 by decide), eσ11, dk_up_k (show 101 ≠ 95 by decide), eσ10, dk_nw_n (show 101 ≠ 112 by decide), eσ9, dk_up_k (show 101 ≠ 95 by decide), eσ8, dk_nw_n (show 101 ≠ 111 by decide), eσ7, dk_up_k (show 101 ≠ 95 by decide), g6_3 101 _ (by decide) (by decide)]
    exact (ta_62 is_101).mpr (by rw [e_] <;> decide)
  have hS102 : ∀ j : Nat, j < dk_len (dk_site 102) → dk_Ty 102 j (σ24 102 j) := fun j hj => by
    have e_ : σ24 102 (j : Int) = 0 := by rw [eσ24, dk_up_k (show 102 ≠ 95 by decide), eσ23, dk_up_k (show 102 ≠ 95 by decide), eσ22, dk_up_k (show 102 ≠ 95 by decide), eσ21, dk_up_k (show 102 ≠ 95 by decide), eσ20, dk_nw_n (show 102 ≠ 117 by decide), eσ19, dk_up_k (show 102 ≠ 95 by decide), eσ18, dk_nw_n (show 102 ≠ 116 by decide), eσ17, dk_up_k (show 102 ≠ 95 by decide), eσ16, dk_nw_n (show 102 ≠ 115 by decide), eσ15, dk_up_k (show 102 ≠ 95 by decide), eσ14, dk_nw_n (show 102 ≠ 114 by decide), eσ13, dk_up_k (show 102 ≠ 95 by decide), eσ12, dk_nw_n (show 102 ≠ 113 by decide), eσ11, dk_up_k (show 102 ≠ 95 by decide), eσ10, dk_nw_n (show 102 ≠ 112 by decide), eσ9, dk_up_k (show 102 ≠ 95 by decide), eσ8, dk_nw_n (show 102 ≠ 111 by decide), eσ7, dk_up_k (show 102 ≠ 95 by decide), g6_3 102 _ (by decide) (by decide)]
    exact (ta_62 is_102).mpr (by rw [e_] <;> decide)
  have hS103 : ∀ j : Nat, j < dk_len (dk_site 103) → dk_Ty 103 j (σ24 103 j) := fun j hj => by
    have e_ : σ24 103 (j : Int) = 0 := by rw [eσ24, dk_up_k (show 103 ≠ 95 by decide), eσ23, dk_up_k (show 103 ≠ 95 by decide), eσ22, dk_up_k (show 103 ≠ 95 by decide), eσ21, dk_up_k (show 103 ≠ 95 by decide), eσ20, dk_nw_n (show 103 ≠ 117 by decide), eσ19, dk_up_k (show 103 ≠ 95 by decide), eσ18, dk_nw_n (show 103 ≠ 116 by decide), eσ17, dk_up_k (show 103 ≠ 95 by decide), eσ16, dk_nw_n (show 103 ≠ 115 by decide), eσ15, dk_up_k (show 103 ≠ 95 by decide), eσ14, dk_nw_n (show 103 ≠ 114 by decide), eσ13, dk_up_k (show 103 ≠ 95 by decide), eσ12, dk_nw_n (show 103 ≠ 113 by decide), eσ11, dk_up_k (show 103 ≠ 95 by decide), eσ10, dk_nw_n (show 103 ≠ 112 by decide), eσ9, dk_up_k (show 103 ≠ 95 by decide), eσ8, dk_nw_n (show 103 ≠ 111 by decide), eσ7, dk_up_k (show 103 ≠ 95 by decide), g6_3 103 _ (by decide) (by decide)]
    exact (ta_62 is_103).mpr (by rw [e_] <;> decide)
  have hS104 : ∀ j : Nat, j < dk_len (dk_site 104) → dk_Ty 104 j (σ24 104 j) := fun j hj => by
    have e_ : σ24 104 (j : Int) = 0 := by rw [eσ24, dk_up_k (show 104 ≠ 95 by decide), eσ23, dk_up_k (show 104 ≠ 95 by decide), eσ22, dk_up_k (show 104 ≠ 95 by decide), eσ21, dk_up_k (show 104 ≠ 95 by decide), eσ20, dk_nw_n (show 104 ≠ 117 by decide), eσ19, dk_up_k (show 104 ≠ 95 by decide), eσ18, dk_nw_n (show 104 ≠ 116 by decide), eσ17, dk_up_k (show 104 ≠ 95 by decide), eσ16, dk_nw_n (show 104 ≠ 115 by decide), eσ15, dk_up_k (show 104 ≠ 95 by decide), eσ14, dk_nw_n (show 104 ≠ 114 by decide), eσ13, dk_up_k (show 104 ≠ 95 by decide), eσ12, dk_nw_n (show 104 ≠ 113 by decide), eσ11, dk_up_k (show 104 ≠ 95 by decide), eσ10, dk_nw_n (show 104 ≠ 112 by decide), eσ9, dk_up_k (show 104 ≠ 95 by decide), eσ8, dk_nw_n (show 104 ≠ 111 by decide), eσ7, dk_up_k (show 104 ≠ 95 by decide), g6_3 104 _ (by decide) (by decide)]
    exact (ta_62 is_104).mpr (by rw [e_] <;> decide)
  have hS105 : ∀ j : Nat, j < dk_len (dk_site 105) → dk_Ty 105 j (σ24 105 j) := fun j hj => by
    have e_ : σ24 105 (j : Int) = 0 := by rw [eσ24, dk_up_k (show 105 ≠ 95 by decide), eσ23, dk_up_k (show 105 ≠ 95 by decide), eσ22, dk_up_k (show 105 ≠ 95 by decide), eσ21, dk_up_k (show 105 ≠ 95 by decide), eσ20, dk_nw_n (show 105 ≠ 117 by decide), eσ19, dk_up_k (show 105 ≠ 95 by decide), eσ18, dk_nw_n (show 105 ≠ 116 by decide), eσ17, dk_up_k (show 105 ≠ 95 by decide), eσ16, dk_nw_n (show 105 ≠ 115 by decide), eσ15, dk_up_k (show 105 ≠ 95 by decide), eσ14, dk_nw_n (show 105 ≠ 114 by decide), eσ13, dk_up_k (show 105 ≠ 95 by decide), eσ12, dk_nw_n (show 105 ≠ 113 by decide), eσ11, dk_up_k (show 105 ≠ 95 by decide), eσ10, dk_nw_n (show 105 ≠ 112 by decide), eσ9, dk_up_k (show 105 ≠ 95 by decide), eσ8, dk_nw_n (show 105 ≠ 111 by decide), eσ7, dk_up_k (show 105 ≠ 95 by decide), g6_3 105 _ (by decide) (by decide)]
    exact (ta_62 is_105).mpr (by rw [e_] <;> decide)
  have hS106 : ∀ j : Nat, j < dk_len (dk_site 106) → dk_Ty 106 j (σ24 106 j) := fun j hj => by
    have e_ : σ24 106 (j : Int) = 0 := by rw [eσ24, dk_up_k (show 106 ≠ 95 by decide), eσ23, dk_up_k (show 106 ≠ 95 by decide), eσ22, dk_up_k (show 106 ≠ 95 by decide), eσ21, dk_up_k (show 106 ≠ 95 by decide), eσ20, dk_nw_n (show 106 ≠ 117 by decide), eσ19, dk_up_k (show 106 ≠ 95 by decide), eσ18, dk_nw_n (show 106 ≠ 116 by decide), eσ17, dk_up_k (show 106 ≠ 95 by decide), eσ16, dk_nw_n (show 106 ≠ 115 by decide), eσ15, dk_up_k (show 106 ≠ 95 by decide), eσ14, dk_nw_n (show 106 ≠ 114 by decide), eσ13, dk_up_k (show 106 ≠ 95 by decide), eσ12, dk_nw_n (show 106 ≠ 113 by decide), eσ11, dk_up_k (show 106 ≠ 95 by decide), eσ10, dk_nw_n (show 106 ≠ 112 by decide), eσ9, dk_up_k (show 106 ≠ 95 by decide), eσ8, dk_nw_n (show 106 ≠ 111 by decide), eσ7, dk_up_k (show 106 ≠ 95 by decide), g6_3 106 _ (by decide) (by decide)]
    exact (ta_62 is_106).mpr (by rw [e_] <;> decide)
  have hS107 : ∀ j : Nat, j < dk_len (dk_site 107) → dk_Ty 107 j (σ24 107 j) := fun j hj => by
    have e_ : σ24 107 (j : Int) = 0 := by rw [eσ24, dk_up_k (show 107 ≠ 95 by decide), eσ23, dk_up_k (show 107 ≠ 95 by decide), eσ22, dk_up_k (show 107 ≠ 95 by decide), eσ21, dk_up_k (show 107 ≠ 95 by decide), eσ20, dk_nw_n (show 107 ≠ 117 by decide), eσ19, dk_up_k (show 107 ≠ 95 by decide), eσ18, dk_nw_n (show 107 ≠ 116 by decide), eσ17, dk_up_k (show 107 ≠ 95 by decide), eσ16, dk_nw_n (show 107 ≠ 115 by decide), eσ15, dk_up_k (show 107 ≠ 95 by decide), eσ14, dk_nw_n (show 107 ≠ 114 by decide), eσ13, dk_up_k (show 107 ≠ 95 by decide), eσ12, dk_nw_n (show 107 ≠ 113 by decide), eσ11, dk_up_k (show 107 ≠ 95 by decide), eσ10, dk_nw_n (show 107 ≠ 112 by decide), eσ9, dk_up_k (show 107 ≠ 95 by decide), eσ8, dk_nw_n (show 107 ≠ 111 by decide), eσ7, dk_up_k (show 107 ≠ 95 by decide), g6_3 107 _ (by decide) (by decide)]
    exact (ta_62 is_107).mpr (by rw [e_] <;> decide)
  have hS108 : ∀ j : Nat, j < dk_len (dk_site 108) → dk_Ty 108 j (σ24 108 j) := fun j hj => by
    have e_ : σ24 108 (j : Int) = 0 := by rw [eσ24, dk_up_k (show 108 ≠ 95 by decide), eσ23, dk_up_k (show 108 ≠ 95 by decide), eσ22, dk_up_k (show 108 ≠ 95 by decide), eσ21, dk_up_k (show 108 ≠ 95 by decide), eσ20, dk_nw_n (show 108 ≠ 117 by decide), eσ19, dk_up_k (show 108 ≠ 95 by decide), eσ18, dk_nw_n (show 108 ≠ 116 by decide), eσ17, dk_up_k (show 108 ≠ 95 by decide), eσ16, dk_nw_n (show 108 ≠ 115 by decide), eσ15, dk_up_k (show 108 ≠ 95 by decide), eσ14, dk_nw_n (show 108 ≠ 114 by decide), eσ13, dk_up_k (show 108 ≠ 95 by decide), eσ12, dk_nw_n (show 108 ≠ 113 by decide), eσ11, dk_up_k (show 108 ≠ 95 by decide), eσ10, dk_nw_n (show 108 ≠ 112 by decide), eσ9, dk_up_k (show 108 ≠ 95 by decide), eσ8, dk_nw_n (show 108 ≠ 111 by decide), eσ7, dk_up_k (show 108 ≠ 95 by decide), g6_3 108 _ (by decide) (by decide)]
    exact (ta_62 is_108).mpr (by rw [e_] <;> decide)
  have hS109 : ∀ j : Nat, j < dk_len (dk_site 109) → dk_Ty 109 j (σ24 109 j) := fun j hj => by
    have e_ : σ24 109 (j : Int) = 0 := by rw [eσ24, dk_up_k (show 109 ≠ 95 by decide), eσ23, dk_up_k (show 109 ≠ 95 by decide), eσ22, dk_up_k (show 109 ≠ 95 by decide), eσ21, dk_up_k (show 109 ≠ 95 by decide), eσ20, dk_nw_n (show 109 ≠ 117 by decide), eσ19, dk_up_k (show 109 ≠ 95 by decide), eσ18, dk_nw_n (show 109 ≠ 116 by decide), eσ17, dk_up_k (show 109 ≠ 95 by decide), eσ16, dk_nw_n (show 109 ≠ 115 by decide), eσ15, dk_up_k (show 109 ≠ 95 by decide), eσ14, dk_nw_n (show 109 ≠ 114 by decide), eσ13, dk_up_k (show 109 ≠ 95 by decide), eσ12, dk_nw_n (show 109 ≠ 113 by decide), eσ11, dk_up_k (show 109 ≠ 95 by decide), eσ10, dk_nw_n (show 109 ≠ 112 by decide), eσ9, dk_up_k (show 109 ≠ 95 by decide), eσ8, dk_nw_n (show 109 ≠ 111 by decide), eσ7, dk_up_k (show 109 ≠ 95 by decide), g6_3 109 _ (by decide) (by decide)]
    exact (ta_62 is_109).mpr (by rw [e_] <;> decide)
  have hS110 : ∀ j : Nat, j < dk_len (dk_site 110) → dk_Ty 110 j (σ24 110 j) := fun j hj => by
    have e_ : σ24 110 (j : Int) = 0 := by rw [eσ24, dk_up_k (show 110 ≠ 95 by decide), eσ23, dk_up_k (show 110 ≠ 95 by decide), eσ22, dk_up_k (show 110 ≠ 95 by decide), eσ21, dk_up_k (show 110 ≠ 95 by decide), eσ20, dk_nw_n (show 110 ≠ 117 by decide), eσ19, dk_up_k (show 110 ≠ 95 by decide), eσ18, dk_nw_n (show 110 ≠ 116 by decide), eσ17, dk_up_k (show 110 ≠ 95 by decide), eσ16, dk_nw_n (show 110 ≠ 115 by decide), eσ15, dk_up_k (show 110 ≠ 95 by decide), eσ14, dk_nw_n (show 110 ≠ 114 by decide), eσ13, dk_up_k (show 110 ≠ 95 by decide), eσ12, dk_nw_n (show 110 ≠ 113 by decide), eσ11, dk_up_k (show 110 ≠ 95 by decide), eσ10, dk_nw_n (show 110 ≠ 112 by decide), eσ9, dk_up_k (show 110 ≠ 95 by decide), eσ8, dk_nw_n (show 110 ≠ 111 by decide), eσ7, dk_up_k (show 110 ≠ 95 by decide), g6_3 110 _ (by decide) (by decide)]
    exact (ta_62 is_110).mpr (by rw [e_] <;> decide)
  have hS111 : ∀ j : Nat, j < dk_len (dk_site 111) → dk_Ty 111 j (σ24 111 j) := fun j hj => by
    have e_ : σ24 111 (j : Int) = 0 := by rw [eσ24, dk_up_k (show 111 ≠ 95 by decide), eσ23, dk_up_k (show 111 ≠ 95 by decide), eσ22, dk_up_k (show 111 ≠ 95 by decide), eσ21, dk_up_k (show 111 ≠ 95 by decide), eσ20, dk_nw_n (show 111 ≠ 117 by decide), eσ19, dk_up_k (show 111 ≠ 95 by decide), eσ18, dk_nw_n (show 111 ≠ 116 by decide), eσ17, dk_up_k (show 111 ≠ 95 by decide), eσ16, dk_nw_n (show 111 ≠ 115 by decide), eσ15, dk_up_k (show 111 ≠ 95 by decide), eσ14, dk_nw_n (show 111 ≠ 114 by decide), eσ13, dk_up_k (show 111 ≠ 95 by decide), eσ12, dk_nw_n (show 111 ≠ 113 by decide), eσ11, dk_up_k (show 111 ≠ 95 by decide), eσ10, dk_nw_n (show 111 ≠ 112 by decide), eσ9, dk_up_k (show 111 ≠ 95 by decide), eσ8, dk_nw_s, show ∀ q : Nat, dk_dz (dk_stc (dk_site 111) q) = 0 from fun q => rfl]
    exact (ta_63 is_111).mpr (by rw [e_] <;> decide)
  have hS112 : ∀ j : Nat, j < dk_len (dk_site 112) → dk_Ty 112 j (σ24 112 j) := fun j hj => by
    have e_ : σ24 112 (j : Int) = 0 := by rw [eσ24, dk_up_k (show 112 ≠ 95 by decide), eσ23, dk_up_k (show 112 ≠ 95 by decide), eσ22, dk_up_k (show 112 ≠ 95 by decide), eσ21, dk_up_k (show 112 ≠ 95 by decide), eσ20, dk_nw_n (show 112 ≠ 117 by decide), eσ19, dk_up_k (show 112 ≠ 95 by decide), eσ18, dk_nw_n (show 112 ≠ 116 by decide), eσ17, dk_up_k (show 112 ≠ 95 by decide), eσ16, dk_nw_n (show 112 ≠ 115 by decide), eσ15, dk_up_k (show 112 ≠ 95 by decide), eσ14, dk_nw_n (show 112 ≠ 114 by decide), eσ13, dk_up_k (show 112 ≠ 95 by decide), eσ12, dk_nw_n (show 112 ≠ 113 by decide), eσ11, dk_up_k (show 112 ≠ 95 by decide), eσ10, dk_nw_s, show ∀ q : Nat, dk_dz (dk_stc (dk_site 112) q) = 0 from fun q => rfl]
    exact (ta_64 is_112).mpr (by rw [e_] <;> decide)
  have hS113 : ∀ j : Nat, j < dk_len (dk_site 113) → dk_Ty 113 j (σ24 113 j) := fun j hj => by
    have e_ : σ24 113 (j : Int) = 0 := by rw [eσ24, dk_up_k (show 113 ≠ 95 by decide), eσ23, dk_up_k (show 113 ≠ 95 by decide), eσ22, dk_up_k (show 113 ≠ 95 by decide), eσ21, dk_up_k (show 113 ≠ 95 by decide), eσ20, dk_nw_n (show 113 ≠ 117 by decide), eσ19, dk_up_k (show 113 ≠ 95 by decide), eσ18, dk_nw_n (show 113 ≠ 116 by decide), eσ17, dk_up_k (show 113 ≠ 95 by decide), eσ16, dk_nw_n (show 113 ≠ 115 by decide), eσ15, dk_up_k (show 113 ≠ 95 by decide), eσ14, dk_nw_n (show 113 ≠ 114 by decide), eσ13, dk_up_k (show 113 ≠ 95 by decide), eσ12, dk_nw_s, show ∀ q : Nat, dk_dz (dk_stc (dk_site 113) q) = 0 from fun q => rfl]
    exact (ta_65 is_113).mpr (by rw [e_] <;> decide)
  have hS114 : ∀ j : Nat, j < dk_len (dk_site 114) → dk_Ty 114 j (σ24 114 j) := fun j hj => by
    have e_ : σ24 114 (j : Int) = 0 := by rw [eσ24, dk_up_k (show 114 ≠ 95 by decide), eσ23, dk_up_k (show 114 ≠ 95 by decide), eσ22, dk_up_k (show 114 ≠ 95 by decide), eσ21, dk_up_k (show 114 ≠ 95 by decide), eσ20, dk_nw_n (show 114 ≠ 117 by decide), eσ19, dk_up_k (show 114 ≠ 95 by decide), eσ18, dk_nw_n (show 114 ≠ 116 by decide), eσ17, dk_up_k (show 114 ≠ 95 by decide), eσ16, dk_nw_n (show 114 ≠ 115 by decide), eσ15, dk_up_k (show 114 ≠ 95 by decide), eσ14, dk_nw_s, show ∀ q : Nat, dk_dz (dk_stc (dk_site 114) q) = 0 from fun q => rfl]
    exact (ta_66 is_114).mpr (by rw [e_] <;> decide)
  have hS115 : ∀ j : Nat, j < dk_len (dk_site 115) → dk_Ty 115 j (σ24 115 j) := fun j hj => by
    exact (ta_67 is_115).mpr trivial
  have hS116 : ∀ j : Nat, j < dk_len (dk_site 116) → dk_Ty 116 j (σ24 116 j) := fun j hj => by
    have e_ : σ24 116 (j : Int) = 0 := by rw [eσ24, dk_up_k (show 116 ≠ 95 by decide), eσ23, dk_up_k (show 116 ≠ 95 by decide), eσ22, dk_up_k (show 116 ≠ 95 by decide), eσ21, dk_up_k (show 116 ≠ 95 by decide), eσ20, dk_nw_n (show 116 ≠ 117 by decide), eσ19, dk_up_k (show 116 ≠ 95 by decide), eσ18, dk_nw_s, show ∀ q : Nat, dk_dz (dk_stc (dk_site 116) q) = 0 from fun q => rfl]
    exact (ta_68 is_116).mpr (by rw [e_] <;> decide)
  have hS117 : ∀ j : Nat, j < dk_len (dk_site 117) → dk_Ty 117 j (σ24 117 j) := fun j hj => by
    have e_ : σ24 117 (j : Int) = 0 := by rw [eσ24, dk_up_k (show 117 ≠ 95 by decide), eσ23, dk_up_k (show 117 ≠ 95 by decide), eσ22, dk_up_k (show 117 ≠ 95 by decide), eσ21, dk_up_k (show 117 ≠ 95 by decide), eσ20, dk_nw_s, show ∀ q : Nat, dk_dz (dk_stc (dk_site 117) q) = 0 from fun q => rfl]
    exact (ta_69 is_117).mpr (by rw [e_] <;> decide)
  refine dk_vret (st := []) hE hR dX4_init_103 ⟨rfl, ⟨fun a j h1 h2 => by rw [eσ24, dk_up_k (show a ≠ 95 by omega), eσ23, dk_up_k (show a ≠ 95 by omega), eσ22, dk_up_k (show a ≠ 95 by omega), eσ21, dk_up_k (show a ≠ 95 by omega), eσ20, dk_nw_n (show a ≠ 117 by omega), eσ19, dk_up_k (show a ≠ 95 by omega), eσ18, dk_nw_n (show a ≠ 116 by omega), eσ17, dk_up_k (show a ≠ 95 by omega), eσ16, dk_nw_n (show a ≠ 115 by omega), eσ15, dk_up_k (show a ≠ 95 by omega), eσ14, dk_nw_n (show a ≠ 114 by omega), eσ13, dk_up_k (show a ≠ 95 by omega), eσ12, dk_nw_n (show a ≠ 113 by omega), eσ11, dk_up_k (show a ≠ 95 by omega), eσ10, dk_nw_n (show a ≠ 112 by omega), eσ9, dk_up_k (show a ≠ 95 by omega), eσ8, dk_nw_n (show a ≠ 111 by omega), eσ7, dk_up_k (show a ≠ 95 by omega), g6_1 a _ (by omega), eσ4, dk_up_k (show a ≠ 95 by omega), eσ3, dk_nw_n (show a ≠ 97 by omega), eσ2, dk_up_k (show a ≠ 95 by omega), eσ1, dk_nw_n (show a ≠ 96 by omega)], fun a ha j hj => ?_⟩, ?_⟩
  · skip
    by_cases q95 : a = 95
    · subst q95; exact hT95 j hj
    by_cases q96 : a = 96
    · subst q96; exact hS96 j hj
    by_cases q97 : a = 97
    · subst q97; exact hS97 j hj
    by_cases q98 : a = 98
    · subst q98; exact hS98 j hj
    by_cases q99 : a = 99
    · subst q99; exact hS99 j hj
    by_cases q100 : a = 100
    · subst q100; exact hS100 j hj
    by_cases q101 : a = 101
    · subst q101; exact hS101 j hj
    by_cases q102 : a = 102
    · subst q102; exact hS102 j hj
    by_cases q103 : a = 103
    · subst q103; exact hS103 j hj
    by_cases q104 : a = 104
    · subst q104; exact hS104 j hj
    by_cases q105 : a = 105
    · subst q105; exact hS105 j hj
    by_cases q106 : a = 106
    · subst q106; exact hS106 j hj
    by_cases q107 : a = 107
    · subst q107; exact hS107 j hj
    by_cases q108 : a = 108
    · subst q108; exact hS108 j hj
    by_cases q109 : a = 109
    · subst q109; exact hS109 j hj
    by_cases q110 : a = 110
    · subst q110; exact hS110 j hj
    by_cases q111 : a = 111
    · subst q111; exact hS111 j hj
    by_cases q112 : a = 112
    · subst q112; exact hS112 j hj
    by_cases q113 : a = 113
    · subst q113; exact hS113 j hj
    by_cases q114 : a = 114
    · subst q114; exact hS114 j hj
    by_cases q115 : a = 115
    · subst q115; exact hS115 j hj
    by_cases q116 : a = 116
    · subst q116; exact hS116 j hj
    by_cases q117 : a = 117
    · subst q117; exact hS117 j hj
    exfalso; omega
  · have z17 : ∀ j : Int, σ24 112 j = 0 := fun j => by rw [eσ24, dk_up_k (show 112 ≠ 95 by decide), eσ23, dk_up_k (show 112 ≠ 95 by decide), eσ22, dk_up_k (show 112 ≠ 95 by decide), eσ21, dk_up_k (show 112 ≠ 95 by decide), eσ20, dk_nw_n (show 112 ≠ 117 by decide), eσ19, dk_up_k (show 112 ≠ 95 by decide), eσ18, dk_nw_n (show 112 ≠ 116 by decide), eσ17, dk_up_k (show 112 ≠ 95 by decide), eσ16, dk_nw_n (show 112 ≠ 115 by decide), eσ15, dk_up_k (show 112 ≠ 95 by decide), eσ14, dk_nw_n (show 112 ≠ 114 by decide), eσ13, dk_up_k (show 112 ≠ 95 by decide), eσ12, dk_nw_n (show 112 ≠ 113 by decide), eσ11, dk_up_k (show 112 ≠ 95 by decide), eσ10, dk_nw_s, show ∀ q : Nat, dk_dz (dk_stc (dk_site 112) q) = 0 from fun q => rfl]
    have z21 : ∀ j : Int, σ24 116 j = 0 := fun j => by rw [eσ24, dk_up_k (show 116 ≠ 95 by decide), eσ23, dk_up_k (show 116 ≠ 95 by decide), eσ22, dk_up_k (show 116 ≠ 95 by decide), eσ21, dk_up_k (show 116 ≠ 95 by decide), eσ20, dk_nw_n (show 116 ≠ 117 by decide), eσ19, dk_up_k (show 116 ≠ 95 by decide), eσ18, dk_nw_s, show ∀ q : Nat, dk_dz (dk_stc (dk_site 116) q) = 0 from fun q => rfl]
    have z22 : ∀ j : Int, σ24 117 j = 0 := fun j => by rw [eσ24, dk_up_k (show 117 ≠ 95 by decide), eσ23, dk_up_k (show 117 ≠ 95 by decide), eσ22, dk_up_k (show 117 ≠ 95 by decide), eσ21, dk_up_k (show 117 ≠ 95 by decide), eσ20, dk_nw_s, show ∀ q : Nat, dk_dz (dk_stc (dk_site 117) q) = 0 from fun q => rfl]
    have z11 : σ24 95 11 = 0 := by rw [eσ24, dk_up_n (by decide), eσ23, dk_up_n (by decide), eσ22, dk_up_n (by decide), eσ21, dk_up_n (by decide), eσ20, dk_nw_n (by decide), eσ19, dk_up_n (by decide), eσ18, dk_nw_n (by decide), eσ17, dk_up_n (by decide), eσ16, dk_nw_n (by decide), eσ15, dk_up_n (by decide), eσ14, dk_nw_n (by decide), eσ13, dk_up_n (by decide), eσ12, dk_nw_n (by decide), eσ11, dk_up_n (by decide), eσ10, dk_nw_n (by decide), eσ9, dk_up_n (by decide), eσ8, dk_nw_n (by decide), eσ7, dk_up_n (by decide), g6_1 95 11 (by decide), eσ4, dk_up_n (by decide), eσ3, dk_nw_n (by decide), eσ2, dk_up_n (by decide), eσ1, dk_nw_n (by decide), hF, show dk_dz (dk_stc (dk_site 95) (11 : Int).toNat) = 0 from rfl]
    have z12 : σ24 95 12 = 0 := by rw [eσ24, dk_up_n (by decide), eσ23, dk_up_n (by decide), eσ22, dk_up_n (by decide), eσ21, dk_up_n (by decide), eσ20, dk_nw_n (by decide), eσ19, dk_up_n (by decide), eσ18, dk_nw_n (by decide), eσ17, dk_up_n (by decide), eσ16, dk_nw_n (by decide), eσ15, dk_up_n (by decide), eσ14, dk_nw_n (by decide), eσ13, dk_up_n (by decide), eσ12, dk_nw_n (by decide), eσ11, dk_up_n (by decide), eσ10, dk_nw_n (by decide), eσ9, dk_up_n (by decide), eσ8, dk_nw_n (by decide), eσ7, dk_up_n (by decide), g6_1 95 12 (by decide), eσ4, dk_up_n (by decide), eσ3, dk_nw_n (by decide), eσ2, dk_up_n (by decide), eσ1, dk_nw_n (by decide), hF, show dk_dz (dk_stc (dk_site 95) (12 : Int).toNat) = 0 from rfl]
    exact ⟨fun p p0 p1 => by omega, fun w _ _ => by show σ24 116 w + σ24 117 w ≤ 12; rw [z21, z22]; decide, fun w => by omega, fun p c _ _ c0 c1 _ => by have c1 : c < σ24 112 p := c1; rw [z17] at c1; omega⟩
set_option maxHeartbeats 8000000 in
set_option maxRecDepth 20000 in
theorem ci_4_118 (l : Launch) (G : dkG) (hGd : dk_Gd G) (hGn : dk_Gn G) : dk_Ct l G dk_T0 yX4_init cX4_init 2 none 1 119 141 (fun av σ => av = [(4, 118), (4, 3)] ∧ dk_fsh σ 118) (fun _ σ r_ σ' => r_ = none ∧ dk_cp 118 119 141 σ σ' ∧ sOk σ' 118) := by
  refine dk_enter hGd (by decide) (fun av σ hpre hok => ?_)
  obtain ⟨rfl, hF⟩ := hpre
  refine ⟨Nat.le_of_ble_eq_true rfl, fun E hE hR hI => ?_⟩
  have hi := hI rfl
  show dk_PJ E 0 [(4, 118), (4, 3)] [] 119 σ
  refine dk_aload_n (pc' := 1) hE dX4_init_0 rfl rfl rfl ?_
  refine dk_obj (pc' := 4) hE wd_500 wd_128 wc_obj dX4_init_1 (by decide) (by decide) rfl ?_
  refine dk_aload_n (pc' := 5) hE dX4_init_4 rfl rfl rfl ?_
  refine dk_bipush (pc' := 7) hE dX4_init_5 (by decide) rfl ?_
  refine dk_newa (ay := .int) (pc' := 9) (n' := 120) (S := 59) (tc := 0) (len := 8) hE wa_int rfl (by decide) dX4_init_7 rfl rfl (by decide) rfl (by decide) ⟨by decide, by rw [tt_119, tt_141] <;> decide, by rw [tt_119] <;> decide, by rw [tt_120, tt_119]⟩ (by decide) rfl (fun σ1 eσ1 => ?_)
  refine dk_putF (pc' := 12) hE fl_X4_11 dX4_init_9 hi ⟨_, rfl, rfl⟩ ⟨by decide, by decide, by decide⟩ rfl (fun _ => trivial) trivial rfl ?_
  obtain ⟨σ2, eσ2⟩ : ∃ q : dkS, q = dk_up σ1 118 1 119 := ⟨_, rfl⟩
  show dk_PJ E 12 [(4, 118), (4, 3)] [] 120 (dk_up σ1 118 1 119)
  rw [← eσ2]
  refine dk_aload_n (pc' := 13) hE dX4_init_12 rfl rfl rfl ?_
  refine dk_bipush (pc' := 15) hE dX4_init_13 (by decide) rfl ?_
  refine dk_newa (ay := .int) (pc' := 17) (n' := 121) (S := 60) (tc := 0) (len := 8) hE wa_int rfl (by decide) dX4_init_15 rfl rfl (by decide) rfl (by decide) ⟨by decide, by rw [tt_120, tt_119, tt_141] <;> decide, by rw [tt_119, tt_120] <;> decide, by rw [tt_121, tt_120]⟩ (by decide) rfl (fun σ3 eσ3 => ?_)
  refine dk_putF (pc' := 20) hE fl_X4_15 dX4_init_17 hi ⟨_, rfl, rfl⟩ ⟨by decide, by decide, by decide⟩ rfl (fun _ => trivial) trivial rfl ?_
  obtain ⟨σ4, eσ4⟩ : ∃ q : dkS, q = dk_up σ3 118 2 120 := ⟨_, rfl⟩
  show dk_PJ E 20 [(4, 118), (4, 3)] [] 121 (dk_up σ3 118 2 120)
  rw [← eσ4]
  refine dk_aload_n (pc' := 21) hE dX4_init_20 rfl rfl rfl ?_
  refine dk_bipush (pc' := 23) hE dX4_init_21 (by decide) rfl ?_
  refine dk_bipush (pc' := 25) hE dX4_init_23 (by decide) rfl ?_
  refine dk_multi (pc' := 29) (n' := 134) (S := 61) (SI := 62) (N := 12) (M := 32) (tc := 5) (ti := 0) (ty := .int) hE wd_501 ⟨hGn, Or.inl rfl⟩ wa_int rfl rfl (by decide) dX4_init_25 rfl rfl (fun k h1_ h2_ => ?_) rfl (by decide) (by decide) rfl rfl (by decide) ⟨by decide, by rw [tt_121, tt_119, tt_141] <;> decide, by rw [tt_119, tt_121] <;> decide, by rw [tt_134, tt_121]⟩ (by decide) rfl (fun σ5 g6_1 g6_2 g6_3 => ?_)
  · rcases (show k = 122 ∨ k = 123 ∨ k = 124 ∨ k = 125 ∨ k = 126 ∨ k = 127 ∨ k = 128 ∨ k = 129 ∨ k = 130 ∨ k = 131 ∨ k = 132 ∨ k = 133 by omega) with rfl | rfl | rfl | rfl | rfl | rfl | rfl | rfl | rfl | rfl | rfl | rfl <;> rfl
  refine dk_putF (pc' := 32) hE fl_X4_20 dX4_init_29 hi ⟨_, rfl, rfl⟩ ⟨by decide, by decide, by decide⟩ rfl (fun _ => trivial) trivial rfl ?_
  obtain ⟨σ7, eσ7⟩ : ∃ q : dkS, q = dk_up σ5 118 3 121 := ⟨_, rfl⟩
  show dk_PJ E 32 [(4, 118), (4, 3)] [] 134 (dk_up σ5 118 3 121)
  rw [← eσ7]
  refine dk_aload_n (pc' := 33) hE dX4_init_32 rfl rfl rfl ?_
  refine dk_bipush (pc' := 35) hE dX4_init_33 (by decide) rfl ?_
  refine dk_newa (ay := .int) (pc' := 37) (n' := 135) (S := 63) (tc := 0) (len := 12) hE wa_int rfl (by decide) dX4_init_35 rfl rfl (by decide) rfl (by decide) ⟨by decide, by rw [tt_134, tt_119, tt_141] <;> decide, by rw [tt_119, tt_134] <;> decide, by rw [tt_135, tt_134]⟩ (by decide) rfl (fun σ8 eσ8 => ?_)
  refine dk_putF (pc' := 40) hE fl_X4_23 dX4_init_37 hi ⟨_, rfl, rfl⟩ ⟨by decide, by decide, by decide⟩ rfl (fun _ => trivial) trivial rfl ?_
  obtain ⟨σ9, eσ9⟩ : ∃ q : dkS, q = dk_up σ8 118 4 134 := ⟨_, rfl⟩
  show dk_PJ E 40 [(4, 118), (4, 3)] [] 135 (dk_up σ8 118 4 134)
  rw [← eσ9]
  refine dk_aload_n (pc' := 41) hE dX4_init_40 rfl rfl rfl ?_
  refine dk_bipush (pc' := 43) hE dX4_init_41 (by decide) rfl ?_
  refine dk_newa (ay := .int) (pc' := 45) (n' := 136) (S := 64) (tc := 0) (len := 12) hE wa_int rfl (by decide) dX4_init_43 rfl rfl (by decide) rfl (by decide) ⟨by decide, by rw [tt_135, tt_119, tt_141] <;> decide, by rw [tt_119, tt_135] <;> decide, by rw [tt_136, tt_135]⟩ (by decide) rfl (fun σ10 eσ10 => ?_)
  refine dk_putF (pc' := 48) hE fl_X4_26 dX4_init_45 hi ⟨_, rfl, rfl⟩ ⟨by decide, by decide, by decide⟩ rfl (fun _ => trivial) trivial rfl ?_
  obtain ⟨σ11, eσ11⟩ : ∃ q : dkS, q = dk_up σ10 118 5 135 := ⟨_, rfl⟩
  show dk_PJ E 48 [(4, 118), (4, 3)] [] 136 (dk_up σ10 118 5 135)
  rw [← eσ11]
  refine dk_aload_n (pc' := 49) hE dX4_init_48 rfl rfl rfl ?_
  refine dk_bipush (pc' := 51) hE dX4_init_49 (by decide) rfl ?_
  refine dk_newa (ay := .int) (pc' := 53) (n' := 137) (S := 65) (tc := 0) (len := 12) hE wa_int rfl (by decide) dX4_init_51 rfl rfl (by decide) rfl (by decide) ⟨by decide, by rw [tt_136, tt_119, tt_141] <;> decide, by rw [tt_119, tt_136] <;> decide, by rw [tt_137, tt_136]⟩ (by decide) rfl (fun σ12 eσ12 => ?_)
  refine dk_putF (pc' := 56) hE fl_X4_29 dX4_init_53 hi ⟨_, rfl, rfl⟩ ⟨by decide, by decide, by decide⟩ rfl (fun _ => trivial) trivial rfl ?_
  obtain ⟨σ13, eσ13⟩ : ∃ q : dkS, q = dk_up σ12 118 6 136 := ⟨_, rfl⟩
  show dk_PJ E 56 [(4, 118), (4, 3)] [] 137 (dk_up σ12 118 6 136)
  rw [← eσ13]
  refine dk_aload_n (pc' := 57) hE dX4_init_56 rfl rfl rfl ?_
  refine dk_bipush (pc' := 59) hE dX4_init_57 (by decide) rfl ?_
  refine dk_newa (ay := .int) (pc' := 61) (n' := 138) (S := 66) (tc := 0) (len := 12) hE wa_int rfl (by decide) dX4_init_59 rfl rfl (by decide) rfl (by decide) ⟨by decide, by rw [tt_137, tt_119, tt_141] <;> decide, by rw [tt_119, tt_137] <;> decide, by rw [tt_138, tt_137]⟩ (by decide) rfl (fun σ14 eσ14 => ?_)
  refine dk_putF (pc' := 64) hE fl_X4_32 dX4_init_61 hi ⟨_, rfl, rfl⟩ ⟨by decide, by decide, by decide⟩ rfl (fun _ => trivial) trivial rfl ?_
  obtain ⟨σ15, eσ15⟩ : ∃ q : dkS, q = dk_up σ14 118 7 137 := ⟨_, rfl⟩
  show dk_PJ E 64 [(4, 118), (4, 3)] [] 138 (dk_up σ14 118 7 137)
  rw [← eσ15]
  refine dk_aload_n (pc' := 65) hE dX4_init_64 rfl rfl rfl ?_
  refine dk_bipush (pc' := 67) hE dX4_init_65 (by decide) rfl ?_
  refine dk_newa (ay := .boolean) (pc' := 69) (n' := 139) (S := 67) (tc := 2) (len := 12) hE wa_boolean rfl (by decide) dX4_init_67 rfl rfl (by decide) rfl (by decide) ⟨by decide, by rw [tt_138, tt_119, tt_141] <;> decide, by rw [tt_119, tt_138] <;> decide, by rw [tt_139, tt_138]⟩ (by decide) rfl (fun σ16 eσ16 => ?_)
  refine dk_putF (pc' := 72) hE fl_X4_35 dX4_init_69 hi ⟨_, rfl, rfl⟩ ⟨by decide, by decide, by decide⟩ rfl (fun _ => trivial) trivial rfl ?_
  obtain ⟨σ17, eσ17⟩ : ∃ q : dkS, q = dk_up σ16 118 8 138 := ⟨_, rfl⟩
  show dk_PJ E 72 [(4, 118), (4, 3)] [] 139 (dk_up σ16 118 8 138)
  rw [← eσ17]
  refine dk_aload_n (pc' := 73) hE dX4_init_72 rfl rfl rfl ?_
  refine dk_iconst (pc' := 74) hE dX4_init_73 (by decide) rfl ?_
  refine dk_newa (ay := .int) (pc' := 76) (n' := 140) (S := 68) (tc := 0) (len := 4) hE wa_int rfl (by decide) dX4_init_74 rfl rfl (by decide) rfl (by decide) ⟨by decide, by rw [tt_139, tt_119, tt_141] <;> decide, by rw [tt_119, tt_139] <;> decide, by rw [tt_140, tt_139]⟩ (by decide) rfl (fun σ18 eσ18 => ?_)
  refine dk_putF (pc' := 79) hE fl_X4_39 dX4_init_76 hi ⟨_, rfl, rfl⟩ ⟨by decide, by decide, by decide⟩ rfl (fun _ => trivial) trivial rfl ?_
  obtain ⟨σ19, eσ19⟩ : ∃ q : dkS, q = dk_up σ18 118 9 139 := ⟨_, rfl⟩
  show dk_PJ E 79 [(4, 118), (4, 3)] [] 140 (dk_up σ18 118 9 139)
  rw [← eσ19]
  refine dk_aload_n (pc' := 80) hE dX4_init_79 rfl rfl rfl ?_
  refine dk_iconst (pc' := 81) hE dX4_init_80 (by decide) rfl ?_
  refine dk_newa (ay := .int) (pc' := 83) (n' := 141) (S := 69) (tc := 0) (len := 4) hE wa_int rfl (by decide) dX4_init_81 rfl rfl (by decide) rfl (by decide) ⟨by decide, by rw [tt_140, tt_119, tt_141] <;> decide, by rw [tt_119, tt_140] <;> decide, by rw [tt_141, tt_140]⟩ (by decide) rfl (fun σ20 eσ20 => ?_)
  refine dk_putF (pc' := 86) hE fl_X4_42 dX4_init_83 hi ⟨_, rfl, rfl⟩ ⟨by decide, by decide, by decide⟩ rfl (fun _ => trivial) trivial rfl ?_
  obtain ⟨σ21, eσ21⟩ : ∃ q : dkS, q = dk_up σ20 118 10 140 := ⟨_, rfl⟩
  show dk_PJ E 86 [(4, 118), (4, 3)] [] 141 (dk_up σ20 118 10 140)
  rw [← eσ21]
  refine dk_aload_n (pc' := 87) hE dX4_init_86 rfl rfl rfl ?_
  refine dk_aload_n (pc' := 88) hE dX4_init_87 rfl rfl rfl ?_
  refine dk_putF (pc' := 91) hE fl_X4_45 dX4_init_88 hi ⟨_, rfl, rfl⟩ ⟨by decide, by decide, by decide⟩ rfl (fun _ => trivial) trivial rfl ?_
  obtain ⟨σ22, eσ22⟩ : ∃ q : dkS, q = dk_up σ21 118 0 3 := ⟨_, rfl⟩
  show dk_PJ E 91 [(4, 118), (4, 3)] [] 141 (dk_up σ21 118 0 3)
  rw [← eσ22]
  refine dk_aload_n (pc' := 92) hE dX4_init_91 rfl rfl rfl ?_
  refine dk_bipush (pc' := 94) hE dX4_init_92 (by decide) rfl ?_
  refine dk_putf (pc' := 97) hE fl_X4_48 dX4_init_94 ⟨by decide, by decide, by decide⟩ rfl (fun h => h.1 rfl) trivial rfl ?_
  obtain ⟨σ23, eσ23⟩ : ∃ q : dkS, q = dk_up σ22 118 14 10 := ⟨_, rfl⟩
  show dk_PJ E 97 [(4, 118), (4, 3)] [] 141 (dk_up σ22 118 14 10)
  rw [← eσ23]
  refine dk_aload_n (pc' := 98) hE dX4_init_97 rfl rfl rfl ?_
  refine dk_bipush (pc' := 100) hE dX4_init_98 (by decide) rfl ?_
  refine dk_putf (pc' := 103) hE fl_X4_52 dX4_init_100 ⟨by decide, by decide, by decide⟩ rfl (fun h => h.1 rfl) trivial rfl ?_
  obtain ⟨σ24, eσ24⟩ : ∃ q : dkS, q = dk_up σ23 118 15 10 := ⟨_, rfl⟩
  show dk_PJ E 103 [(4, 118), (4, 3)] [] 141 (dk_up σ23 118 15 10)
  rw [← eσ24]
  have hT118 : ∀ j : Nat, j < dk_len (dk_site 118) → dk_Ty 118 j (σ24 118 j) := fun j hj => by
    have hj : j < 17 := hj
    rcases (show j = 0 ∨ j = 1 ∨ j = 2 ∨ j = 3 ∨ j = 4 ∨ j = 5 ∨ j = 6 ∨ j = 7 ∨ j = 8 ∨ j = 9 ∨ j = 10 ∨ j = 11 ∨ j = 12 ∨ j = 13 ∨ j = 14 ∨ j = 15 ∨ j = 16 by omega) with rfl | rfl | rfl | rfl | rfl | rfl | rfl | rfl | rfl | rfl | rfl | rfl | rfl | rfl | rfl | rfl | rfl
    · exact (ty_4_0 is_118).mpr (by rw [show σ24 118 ((0 : Nat) : Int) = 3 from (show σ24 118 0 = 3 by rw [eσ24, dk_up_n (by decide), eσ23, dk_up_n (by decide), eσ22, dk_up_s])] <;> decide)
    · exact (ty_4_1 is_118).mpr (by rw [show σ24 118 ((1 : Nat) : Int) = 119 from (show σ24 118 1 = 119 by rw [eσ24, dk_up_n (by decide), eσ23, dk_up_n (by decide), eσ22, dk_up_n (by decide), eσ21, dk_up_n (by decide), eσ20, dk_nw_n (by decide), eσ19, dk_up_n (by decide), eσ18, dk_nw_n (by decide), eσ17, dk_up_n (by decide), eσ16, dk_nw_n (by decide), eσ15, dk_up_n (by decide), eσ14, dk_nw_n (by decide), eσ13, dk_up_n (by decide), eσ12, dk_nw_n (by decide), eσ11, dk_up_n (by decide), eσ10, dk_nw_n (by decide), eσ9, dk_up_n (by decide), eσ8, dk_nw_n (by decide), eσ7, dk_up_n (by decide), g6_1 118 1 (by decide), eσ4, dk_up_n (by decide), eσ3, dk_nw_n (by decide), eσ2, dk_up_s])] <;> decide)
    · exact (ty_4_2 is_118).mpr (by rw [show σ24 118 ((2 : Nat) : Int) = 120 from (show σ24 118 2 = 120 by rw [eσ24, dk_up_n (by decide), eσ23, dk_up_n (by decide), eσ22, dk_up_n (by decide), eσ21, dk_up_n (by decide), eσ20, dk_nw_n (by decide), eσ19, dk_up_n (by decide), eσ18, dk_nw_n (by decide), eσ17, dk_up_n (by decide), eσ16, dk_nw_n (by decide), eσ15, dk_up_n (by decide), eσ14, dk_nw_n (by decide), eσ13, dk_up_n (by decide), eσ12, dk_nw_n (by decide), eσ11, dk_up_n (by decide), eσ10, dk_nw_n (by decide), eσ9, dk_up_n (by decide), eσ8, dk_nw_n (by decide), eσ7, dk_up_n (by decide), g6_1 118 2 (by decide), eσ4, dk_up_s])] <;> decide)
    · exact (ty_4_3 is_118).mpr (by rw [show σ24 118 ((3 : Nat) : Int) = 121 from (show σ24 118 3 = 121 by rw [eσ24, dk_up_n (by decide), eσ23, dk_up_n (by decide), eσ22, dk_up_n (by decide), eσ21, dk_up_n (by decide), eσ20, dk_nw_n (by decide), eσ19, dk_up_n (by decide), eσ18, dk_nw_n (by decide), eσ17, dk_up_n (by decide), eσ16, dk_nw_n (by decide), eσ15, dk_up_n (by decide), eσ14, dk_nw_n (by decide), eσ13, dk_up_n (by decide), eσ12, dk_nw_n (by decide), eσ11, dk_up_n (by decide), eσ10, dk_nw_n (by decide), eσ9, dk_up_n (by decide), eσ8, dk_nw_n (by decide), eσ7, dk_up_s])] <;> decide)
    · exact (ty_4_4 is_118).mpr (by rw [show σ24 118 ((4 : Nat) : Int) = 134 from (show σ24 118 4 = 134 by rw [eσ24, dk_up_n (by decide), eσ23, dk_up_n (by decide), eσ22, dk_up_n (by decide), eσ21, dk_up_n (by decide), eσ20, dk_nw_n (by decide), eσ19, dk_up_n (by decide), eσ18, dk_nw_n (by decide), eσ17, dk_up_n (by decide), eσ16, dk_nw_n (by decide), eσ15, dk_up_n (by decide), eσ14, dk_nw_n (by decide), eσ13, dk_up_n (by decide), eσ12, dk_nw_n (by decide), eσ11, dk_up_n (by decide), eσ10, dk_nw_n (by decide), eσ9, dk_up_s])] <;> decide)
    · exact (ty_4_5 is_118).mpr (by rw [show σ24 118 ((5 : Nat) : Int) = 135 from (show σ24 118 5 = 135 by rw [eσ24, dk_up_n (by decide), eσ23, dk_up_n (by decide), eσ22, dk_up_n (by decide), eσ21, dk_up_n (by decide), eσ20, dk_nw_n (by decide), eσ19, dk_up_n (by decide), eσ18, dk_nw_n (by decide), eσ17, dk_up_n (by decide), eσ16, dk_nw_n (by decide), eσ15, dk_up_n (by decide), eσ14, dk_nw_n (by decide), eσ13, dk_up_n (by decide), eσ12, dk_nw_n (by decide), eσ11, dk_up_s])] <;> decide)
    · exact (ty_4_6 is_118).mpr (by rw [show σ24 118 ((6 : Nat) : Int) = 136 from (show σ24 118 6 = 136 by rw [eσ24, dk_up_n (by decide), eσ23, dk_up_n (by decide), eσ22, dk_up_n (by decide), eσ21, dk_up_n (by decide), eσ20, dk_nw_n (by decide), eσ19, dk_up_n (by decide), eσ18, dk_nw_n (by decide), eσ17, dk_up_n (by decide), eσ16, dk_nw_n (by decide), eσ15, dk_up_n (by decide), eσ14, dk_nw_n (by decide), eσ13, dk_up_s])] <;> decide)
    · exact (ty_4_7 is_118).mpr (by rw [show σ24 118 ((7 : Nat) : Int) = 137 from (show σ24 118 7 = 137 by rw [eσ24, dk_up_n (by decide), eσ23, dk_up_n (by decide), eσ22, dk_up_n (by decide), eσ21, dk_up_n (by decide), eσ20, dk_nw_n (by decide), eσ19, dk_up_n (by decide), eσ18, dk_nw_n (by decide), eσ17, dk_up_n (by decide), eσ16, dk_nw_n (by decide), eσ15, dk_up_s])] <;> decide)
    · exact (ty_4_8 is_118).mpr (by rw [show σ24 118 ((8 : Nat) : Int) = 138 from (show σ24 118 8 = 138 by rw [eσ24, dk_up_n (by decide), eσ23, dk_up_n (by decide), eσ22, dk_up_n (by decide), eσ21, dk_up_n (by decide), eσ20, dk_nw_n (by decide), eσ19, dk_up_n (by decide), eσ18, dk_nw_n (by decide), eσ17, dk_up_s])] <;> decide)
    · exact (ty_4_9 is_118).mpr (by rw [show σ24 118 ((9 : Nat) : Int) = 139 from (show σ24 118 9 = 139 by rw [eσ24, dk_up_n (by decide), eσ23, dk_up_n (by decide), eσ22, dk_up_n (by decide), eσ21, dk_up_n (by decide), eσ20, dk_nw_n (by decide), eσ19, dk_up_s])] <;> decide)
    · exact (ty_4_10 is_118).mpr (by rw [show σ24 118 ((10 : Nat) : Int) = 140 from (show σ24 118 10 = 140 by rw [eσ24, dk_up_n (by decide), eσ23, dk_up_n (by decide), eσ22, dk_up_n (by decide), eσ21, dk_up_s])] <;> decide)
    · exact (ty_4_11 is_118).mpr (by rw [show σ24 118 ((11 : Nat) : Int) = 0 from (show σ24 118 11 = 0 by rw [eσ24, dk_up_n (by decide), eσ23, dk_up_n (by decide), eσ22, dk_up_n (by decide), eσ21, dk_up_n (by decide), eσ20, dk_nw_n (by decide), eσ19, dk_up_n (by decide), eσ18, dk_nw_n (by decide), eσ17, dk_up_n (by decide), eσ16, dk_nw_n (by decide), eσ15, dk_up_n (by decide), eσ14, dk_nw_n (by decide), eσ13, dk_up_n (by decide), eσ12, dk_nw_n (by decide), eσ11, dk_up_n (by decide), eσ10, dk_nw_n (by decide), eσ9, dk_up_n (by decide), eσ8, dk_nw_n (by decide), eσ7, dk_up_n (by decide), g6_1 118 11 (by decide), eσ4, dk_up_n (by decide), eσ3, dk_nw_n (by decide), eσ2, dk_up_n (by decide), eσ1, dk_nw_n (by decide), hF, show dk_dz (dk_stc (dk_site 118) (11 : Int).toNat) = 0 from rfl])] <;> decide)
    · exact (ty_4_12 is_118).mpr (by rw [show σ24 118 ((12 : Nat) : Int) = 0 from (show σ24 118 12 = 0 by rw [eσ24, dk_up_n (by decide), eσ23, dk_up_n (by decide), eσ22, dk_up_n (by decide), eσ21, dk_up_n (by decide), eσ20, dk_nw_n (by decide), eσ19, dk_up_n (by decide), eσ18, dk_nw_n (by decide), eσ17, dk_up_n (by decide), eσ16, dk_nw_n (by decide), eσ15, dk_up_n (by decide), eσ14, dk_nw_n (by decide), eσ13, dk_up_n (by decide), eσ12, dk_nw_n (by decide), eσ11, dk_up_n (by decide), eσ10, dk_nw_n (by decide), eσ9, dk_up_n (by decide), eσ8, dk_nw_n (by decide), eσ7, dk_up_n (by decide), g6_1 118 12 (by decide), eσ4, dk_up_n (by decide), eσ3, dk_nw_n (by decide), eσ2, dk_up_n (by decide), eσ1, dk_nw_n (by decide), hF, show dk_dz (dk_stc (dk_site 118) (12 : Int).toNat) = 0 from rfl])] <;> decide)
    · exact (ty_4_13 is_118).mpr trivial
    · exact (ty_4_14 is_118).mpr trivial
    · exact (ty_4_15 is_118).mpr trivial
    · exact (ty_4_16 is_118).mpr (by rw [show σ24 118 ((16 : Nat) : Int) = 0 from (show σ24 118 16 = 0 by rw [eσ24, dk_up_n (by decide), eσ23, dk_up_n (by decide), eσ22, dk_up_n (by decide), eσ21, dk_up_n (by decide), eσ20, dk_nw_n (by decide), eσ19, dk_up_n (by decide), eσ18, dk_nw_n (by decide), eσ17, dk_up_n (by decide), eσ16, dk_nw_n (by decide), eσ15, dk_up_n (by decide), eσ14, dk_nw_n (by decide), eσ13, dk_up_n (by decide), eσ12, dk_nw_n (by decide), eσ11, dk_up_n (by decide), eσ10, dk_nw_n (by decide), eσ9, dk_up_n (by decide), eσ8, dk_nw_n (by decide), eσ7, dk_up_n (by decide), g6_1 118 16 (by decide), eσ4, dk_up_n (by decide), eσ3, dk_nw_n (by decide), eσ2, dk_up_n (by decide), eσ1, dk_nw_n (by decide), hF, show dk_dz (dk_stc (dk_site 118) (16 : Int).toNat) = 0 from rfl])] <;> decide)
  have hS119 : ∀ j : Nat, j < dk_len (dk_site 119) → dk_Ty 119 j (σ24 119 j) := fun j hj => by
    exact (ta_59 is_119).mpr trivial
  have hS120 : ∀ j : Nat, j < dk_len (dk_site 120) → dk_Ty 120 j (σ24 120 j) := fun j hj => by
    exact (ta_60 is_120).mpr trivial
  have hS121 : ∀ j : Nat, j < dk_len (dk_site 121) → dk_Ty 121 j (σ24 121 j) := fun j hj => by
    have hj : j < 12 := hj
    rcases (show j = 0 ∨ j = 1 ∨ j = 2 ∨ j = 3 ∨ j = 4 ∨ j = 5 ∨ j = 6 ∨ j = 7 ∨ j = 8 ∨ j = 9 ∨ j = 10 ∨ j = 11 by omega) with rfl | rfl | rfl | rfl | rfl | rfl | rfl | rfl | rfl | rfl | rfl | rfl
    · exact (ta_61 is_121).mpr (by rw [show σ24 121 ((0 : Nat) : Int) = 122 from (show σ24 121 0 = 122 by rw [eσ24, dk_up_n (by decide), eσ23, dk_up_n (by decide), eσ22, dk_up_n (by decide), eσ21, dk_up_n (by decide), eσ20, dk_nw_n (by decide), eσ19, dk_up_n (by decide), eσ18, dk_nw_n (by decide), eσ17, dk_up_n (by decide), eσ16, dk_nw_n (by decide), eσ15, dk_up_n (by decide), eσ14, dk_nw_n (by decide), eσ13, dk_up_n (by decide), eσ12, dk_nw_n (by decide), eσ11, dk_up_n (by decide), eσ10, dk_nw_n (by decide), eσ9, dk_up_n (by decide), eσ8, dk_nw_n (by decide), eσ7, dk_up_n (by decide), g6_2 0, show (121 : Int) + 1 + 0 = 122 from rfl])] <;> decide)
    · exact (ta_61 is_121).mpr (by rw [show σ24 121 ((1 : Nat) : Int) = 123 from (show σ24 121 1 = 123 by rw [eσ24, dk_up_n (by decide), eσ23, dk_up_n (by decide), eσ22, dk_up_n (by decide), eσ21, dk_up_n (by decide), eσ20, dk_nw_n (by decide), eσ19, dk_up_n (by decide), eσ18, dk_nw_n (by decide), eσ17, dk_up_n (by decide), eσ16, dk_nw_n (by decide), eσ15, dk_up_n (by decide), eσ14, dk_nw_n (by decide), eσ13, dk_up_n (by decide), eσ12, dk_nw_n (by decide), eσ11, dk_up_n (by decide), eσ10, dk_nw_n (by decide), eσ9, dk_up_n (by decide), eσ8, dk_nw_n (by decide), eσ7, dk_up_n (by decide), g6_2 1, show (121 : Int) + 1 + 1 = 123 from rfl])] <;> decide)
    · exact (ta_61 is_121).mpr (by rw [show σ24 121 ((2 : Nat) : Int) = 124 from (show σ24 121 2 = 124 by rw [eσ24, dk_up_n (by decide), eσ23, dk_up_n (by decide), eσ22, dk_up_n (by decide), eσ21, dk_up_n (by decide), eσ20, dk_nw_n (by decide), eσ19, dk_up_n (by decide), eσ18, dk_nw_n (by decide), eσ17, dk_up_n (by decide), eσ16, dk_nw_n (by decide), eσ15, dk_up_n (by decide), eσ14, dk_nw_n (by decide), eσ13, dk_up_n (by decide), eσ12, dk_nw_n (by decide), eσ11, dk_up_n (by decide), eσ10, dk_nw_n (by decide), eσ9, dk_up_n (by decide), eσ8, dk_nw_n (by decide), eσ7, dk_up_n (by decide), g6_2 2, show (121 : Int) + 1 + 2 = 124 from rfl])] <;> decide)
    · exact (ta_61 is_121).mpr (by rw [show σ24 121 ((3 : Nat) : Int) = 125 from (show σ24 121 3 = 125 by rw [eσ24, dk_up_n (by decide), eσ23, dk_up_n (by decide), eσ22, dk_up_n (by decide), eσ21, dk_up_n (by decide), eσ20, dk_nw_n (by decide), eσ19, dk_up_n (by decide), eσ18, dk_nw_n (by decide), eσ17, dk_up_n (by decide), eσ16, dk_nw_n (by decide), eσ15, dk_up_n (by decide), eσ14, dk_nw_n (by decide), eσ13, dk_up_n (by decide), eσ12, dk_nw_n (by decide), eσ11, dk_up_n (by decide), eσ10, dk_nw_n (by decide), eσ9, dk_up_n (by decide), eσ8, dk_nw_n (by decide), eσ7, dk_up_n (by decide), g6_2 3, show (121 : Int) + 1 + 3 = 125 from rfl])] <;> decide)
    · exact (ta_61 is_121).mpr (by rw [show σ24 121 ((4 : Nat) : Int) = 126 from (show σ24 121 4 = 126 by rw [eσ24, dk_up_n (by decide), eσ23, dk_up_n (by decide), eσ22, dk_up_n (by decide), eσ21, dk_up_n (by decide), eσ20, dk_nw_n (by decide), eσ19, dk_up_n (by decide), eσ18, dk_nw_n (by decide), eσ17, dk_up_n (by decide), eσ16, dk_nw_n (by decide), eσ15, dk_up_n (by decide), eσ14, dk_nw_n (by decide), eσ13, dk_up_n (by decide), eσ12, dk_nw_n (by decide), eσ11, dk_up_n (by decide), eσ10, dk_nw_n (by decide), eσ9, dk_up_n (by decide), eσ8, dk_nw_n (by decide), eσ7, dk_up_n (by decide), g6_2 4, show (121 : Int) + 1 + 4 = 126 from rfl])] <;> decide)
    · exact (ta_61 is_121).mpr (by rw [show σ24 121 ((5 : Nat) : Int) = 127 from (show σ24 121 5 = 127 by rw [eσ24, dk_up_n (by decide), eσ23, dk_up_n (by decide), eσ22, dk_up_n (by decide), eσ21, dk_up_n (by decide), eσ20, dk_nw_n (by decide), eσ19, dk_up_n (by decide), eσ18, dk_nw_n (by decide), eσ17, dk_up_n (by decide), eσ16, dk_nw_n (by decide), eσ15, dk_up_n (by decide), eσ14, dk_nw_n (by decide), eσ13, dk_up_n (by decide), eσ12, dk_nw_n (by decide), eσ11, dk_up_n (by decide), eσ10, dk_nw_n (by decide), eσ9, dk_up_n (by decide), eσ8, dk_nw_n (by decide), eσ7, dk_up_n (by decide), g6_2 5, show (121 : Int) + 1 + 5 = 127 from rfl])] <;> decide)
    · exact (ta_61 is_121).mpr (by rw [show σ24 121 ((6 : Nat) : Int) = 128 from (show σ24 121 6 = 128 by rw [eσ24, dk_up_n (by decide), eσ23, dk_up_n (by decide), eσ22, dk_up_n (by decide), eσ21, dk_up_n (by decide), eσ20, dk_nw_n (by decide), eσ19, dk_up_n (by decide), eσ18, dk_nw_n (by decide), eσ17, dk_up_n (by decide), eσ16, dk_nw_n (by decide), eσ15, dk_up_n (by decide), eσ14, dk_nw_n (by decide), eσ13, dk_up_n (by decide), eσ12, dk_nw_n (by decide), eσ11, dk_up_n (by decide), eσ10, dk_nw_n (by decide), eσ9, dk_up_n (by decide), eσ8, dk_nw_n (by decide), eσ7, dk_up_n (by decide), g6_2 6, show (121 : Int) + 1 + 6 = 128 from rfl])] <;> decide)
    · exact (ta_61 is_121).mpr (by rw [show σ24 121 ((7 : Nat) : Int) = 129 from (show σ24 121 7 = 129 by rw [eσ24, dk_up_n (by decide), eσ23, dk_up_n (by decide), eσ22, dk_up_n (by decide), eσ21, dk_up_n (by decide), eσ20, dk_nw_n (by decide), eσ19, dk_up_n (by decide), eσ18, dk_nw_n (by decide), eσ17, dk_up_n (by decide), eσ16, dk_nw_n (by decide), eσ15, dk_up_n (by decide), eσ14, dk_nw_n (by decide), eσ13, dk_up_n (by decide), eσ12, dk_nw_n (by decide), eσ11, dk_up_n (by decide), eσ10, dk_nw_n (by decide), eσ9, dk_up_n (by decide), eσ8, dk_nw_n (by decide), eσ7, dk_up_n (by decide), g6_2 7, show (121 : Int) + 1 + 7 = 129 from rfl])] <;> decide)
    · exact (ta_61 is_121).mpr (by rw [show σ24 121 ((8 : Nat) : Int) = 130 from (show σ24 121 8 = 130 by rw [eσ24, dk_up_n (by decide), eσ23, dk_up_n (by decide), eσ22, dk_up_n (by decide), eσ21, dk_up_n (by decide), eσ20, dk_nw_n (by decide), eσ19, dk_up_n (by decide), eσ18, dk_nw_n (by decide), eσ17, dk_up_n (by decide), eσ16, dk_nw_n (by decide), eσ15, dk_up_n (by decide), eσ14, dk_nw_n (by decide), eσ13, dk_up_n (by decide), eσ12, dk_nw_n (by decide), eσ11, dk_up_n (by decide), eσ10, dk_nw_n (by decide), eσ9, dk_up_n (by decide), eσ8, dk_nw_n (by decide), eσ7, dk_up_n (by decide), g6_2 8, show (121 : Int) + 1 + 8 = 130 from rfl])] <;> decide)
    · exact (ta_61 is_121).mpr (by rw [show σ24 121 ((9 : Nat) : Int) = 131 from (show σ24 121 9 = 131 by rw [eσ24, dk_up_n (by decide), eσ23, dk_up_n (by decide), eσ22, dk_up_n (by decide), eσ21, dk_up_n (by decide), eσ20, dk_nw_n (by decide), eσ19, dk_up_n (by decide), eσ18, dk_nw_n (by decide), eσ17, dk_up_n (by decide), eσ16, dk_nw_n (by decide), eσ15, dk_up_n (by decide), eσ14, dk_nw_n (by decide), eσ13, dk_up_n (by decide), eσ12, dk_nw_n (by decide), eσ11, dk_up_n (by decide), eσ10, dk_nw_n (by decide), eσ9, dk_up_n (by decide), eσ8, dk_nw_n (by decide), eσ7, dk_up_n (by decide), g6_2 9, show (121 : Int) + 1 + 9 = 131 from rfl])] <;> decide)
    · exact (ta_61 is_121).mpr (by rw [show σ24 121 ((10 : Nat) : Int) = 132 from (show σ24 121 10 = 132 by rw [eσ24, dk_up_n (by decide), eσ23, dk_up_n (by decide), eσ22, dk_up_n (by decide), eσ21, dk_up_n (by decide), eσ20, dk_nw_n (by decide), eσ19, dk_up_n (by decide), eσ18, dk_nw_n (by decide), eσ17, dk_up_n (by decide), eσ16, dk_nw_n (by decide), eσ15, dk_up_n (by decide), eσ14, dk_nw_n (by decide), eσ13, dk_up_n (by decide), eσ12, dk_nw_n (by decide), eσ11, dk_up_n (by decide), eσ10, dk_nw_n (by decide), eσ9, dk_up_n (by decide), eσ8, dk_nw_n (by decide), eσ7, dk_up_n (by decide), g6_2 10, show (121 : Int) + 1 + 10 = 132 from rfl])] <;> decide)
    · exact (ta_61 is_121).mpr (by rw [show σ24 121 ((11 : Nat) : Int) = 133 from (show σ24 121 11 = 133 by rw [eσ24, dk_up_n (by decide), eσ23, dk_up_n (by decide), eσ22, dk_up_n (by decide), eσ21, dk_up_n (by decide), eσ20, dk_nw_n (by decide), eσ19, dk_up_n (by decide), eσ18, dk_nw_n (by decide), eσ17, dk_up_n (by decide), eσ16, dk_nw_n (by decide), eσ15, dk_up_n (by decide), eσ14, dk_nw_n (by decide), eσ13, dk_up_n (by decide), eσ12, dk_nw_n (by decide), eσ11, dk_up_n (by decide), eσ10, dk_nw_n (by decide), eσ9, dk_up_n (by decide), eσ8, dk_nw_n (by decide), eσ7, dk_up_n (by decide), g6_2 11, show (121 : Int) + 1 + 11 = 133 from rfl])] <;> decide)
  have hS122 : ∀ j : Nat, j < dk_len (dk_site 122) → dk_Ty 122 j (σ24 122 j) := fun j hj => by
    have e_ : σ24 122 (j : Int) = 0 := by rw [eσ24, dk_up_k (show 122 ≠ 118 by decide), eσ23, dk_up_k (show 122 ≠ 118 by decide), eσ22, dk_up_k (show 122 ≠ 118 by decide), eσ21, dk_up_k (show 122 ≠ 118 by decide), eσ20, dk_nw_n (show 122 ≠ 140 by decide), eσ19, dk_up_k (show 122 ≠ 118 by decide), eσ18, dk_nw_n (show 122 ≠ 139 by decide), eσ17, dk_up_k (show 122 ≠ 118 by decide), eσ16, dk_nw_n (show 122 ≠ 138 by decide), eσ15, dk_up_k (show 122 ≠ 118 by decide), eσ14, dk_nw_n (show 122 ≠ 137 by decide), eσ13, dk_up_k (show 122 ≠ 118 by decide), eσ12, dk_nw_n (show 122 ≠ 136 by decide), eσ11, dk_up_k (show 122 ≠ 118 by decide), eσ10, dk_nw_n (show 122 ≠ 135 by decide), eσ9, dk_up_k (show 122 ≠ 118 by decide), eσ8, dk_nw_n (show 122 ≠ 134 by decide), eσ7, dk_up_k (show 122 ≠ 118 by decide), g6_3 122 _ (by decide) (by decide)]
    exact (ta_62 is_122).mpr (by rw [e_] <;> decide)
  have hS123 : ∀ j : Nat, j < dk_len (dk_site 123) → dk_Ty 123 j (σ24 123 j) := fun j hj => by
    have e_ : σ24 123 (j : Int) = 0 := by rw [eσ24, dk_up_k (show 123 ≠ 118 by decide), eσ23, dk_up_k (show 123 ≠ 118 by decide), eσ22, dk_up_k (show 123 ≠ 118 by decide), eσ21, dk_up_k (show 123 ≠ 118 by decide), eσ20, dk_nw_n (show 123 ≠ 140 by decide), eσ19, dk_up_k (show 123 ≠ 118 by decide), eσ18, dk_nw_n (show 123 ≠ 139 by decide), eσ17, dk_up_k (show 123 ≠ 118 by decide), eσ16, dk_nw_n (show 123 ≠ 138 by decide), eσ15, dk_up_k (show 123 ≠ 118 by decide), eσ14, dk_nw_n (show 123 ≠ 137 by decide), eσ13, dk_up_k (show 123 ≠ 118 by decide), eσ12, dk_nw_n (show 123 ≠ 136 by decide), eσ11, dk_up_k (show 123 ≠ 118 by decide), eσ10, dk_nw_n (show 123 ≠ 135 by decide), eσ9, dk_up_k (show 123 ≠ 118 by decide), eσ8, dk_nw_n (show 123 ≠ 134 by decide), eσ7, dk_up_k (show 123 ≠ 118 by decide), g6_3 123 _ (by decide) (by decide)]
    exact (ta_62 is_123).mpr (by rw [e_] <;> decide)
  have hS124 : ∀ j : Nat, j < dk_len (dk_site 124) → dk_Ty 124 j (σ24 124 j) := fun j hj => by
    have e_ : σ24 124 (j : Int) = 0 := by rw [eσ24, dk_up_k (show 124 ≠ 118 by decide), eσ23, dk_up_k (show 124 ≠ 118 by decide), eσ22, dk_up_k (show 124 ≠ 118 by decide), eσ21, dk_up_k (show 124 ≠ 118 by decide), eσ20, dk_nw_n (show 124 ≠ 140 by decide), eσ19, dk_up_k (show 124 ≠ 118 by decide), eσ18, dk_nw_n (show 124 ≠ 139 by decide), eσ17, dk_up_k (show 124 ≠ 118 by decide), eσ16, dk_nw_n (show 124 ≠ 138 by decide), eσ15, dk_up_k (show 124 ≠ 118 by decide), eσ14, dk_nw_n (show 124 ≠ 137 by decide), eσ13, dk_up_k (show 124 ≠ 118 by decide), eσ12, dk_nw_n (show 124 ≠ 136 by decide), eσ11, dk_up_k (show 124 ≠ 118 by decide), eσ10, dk_nw_n (show 124 ≠ 135 by decide), eσ9, dk_up_k (show 124 ≠ 118 by decide), eσ8, dk_nw_n (show 124 ≠ 134 by decide), eσ7, dk_up_k (show 124 ≠ 118 by decide), g6_3 124 _ (by decide) (by decide)]
    exact (ta_62 is_124).mpr (by rw [e_] <;> decide)
  have hS125 : ∀ j : Nat, j < dk_len (dk_site 125) → dk_Ty 125 j (σ24 125 j) := fun j hj => by
    have e_ : σ24 125 (j : Int) = 0 := by rw [eσ24, dk_up_k (show 125 ≠ 118 by decide), eσ23, dk_up_k (show 125 ≠ 118 by decide), eσ22, dk_up_k (show 125 ≠ 118 by decide), eσ21, dk_up_k (show 125 ≠ 118 by decide), eσ20, dk_nw_n (show 125 ≠ 140 by decide), eσ19, dk_up_k (show 125 ≠ 118 by decide), eσ18, dk_nw_n (show 125 ≠ 139 by decide), eσ17, dk_up_k (show 125 ≠ 118 by decide), eσ16, dk_nw_n (show 125 ≠ 138 by decide), eσ15, dk_up_k (show 125 ≠ 118 by decide), eσ14, dk_nw_n (show 125 ≠ 137 by decide), eσ13, dk_up_k (show 125 ≠ 118 by decide), eσ12, dk_nw_n (show 125 ≠ 136 by decide), eσ11, dk_up_k (show 125 ≠ 118 by decide), eσ10, dk_nw_n (show 125 ≠ 135 by decide), eσ9, dk_up_k (show 125 ≠ 118 by decide), eσ8, dk_nw_n (show 125 ≠ 134 by decide), eσ7, dk_up_k (show 125 ≠ 118 by decide), g6_3 125 _ (by decide) (by decide)]
    exact (ta_62 is_125).mpr (by rw [e_] <;> decide)
  have hS126 : ∀ j : Nat, j < dk_len (dk_site 126) → dk_Ty 126 j (σ24 126 j) := fun j hj => by
    have e_ : σ24 126 (j : Int) = 0 := by rw [eσ24, dk_up_k (show 126 ≠ 118 by decide), eσ23, dk_up_k (show 126 ≠ 118 by decide), eσ22, dk_up_k (show 126 ≠ 118 by decide), eσ21, dk_up_k (show 126 ≠ 118 by decide), eσ20, dk_nw_n (show 126 ≠ 140 by decide), eσ19, dk_up_k (show 126 ≠ 118 by decide), eσ18, dk_nw_n (show 126 ≠ 139 by decide), eσ17, dk_up_k (show 126 ≠ 118 by decide), eσ16, dk_nw_n (show 126 ≠ 138 by decide), eσ15, dk_up_k (show 126 ≠ 118 by decide), eσ14, dk_nw_n (show 126 ≠ 137 by decide), eσ13, dk_up_k (show 126 ≠ 118 by decide), eσ12, dk_nw_n (show 126 ≠ 136 by decide), eσ11, dk_up_k (show 126 ≠ 118 by decide), eσ10, dk_nw_n (show 126 ≠ 135 by decide), eσ9, dk_up_k (show 126 ≠ 118 by decide), eσ8, dk_nw_n (show 126 ≠ 134 by decide), eσ7, dk_up_k (show 126 ≠ 118 by decide), g6_3 126 _ (by decide) (by decide)]
    exact (ta_62 is_126).mpr (by rw [e_] <;> decide)
  have hS127 : ∀ j : Nat, j < dk_len (dk_site 127) → dk_Ty 127 j (σ24 127 j) := fun j hj => by
    have e_ : σ24 127 (j : Int) = 0 := by rw [eσ24, dk_up_k (show 127 ≠ 118 by decide), eσ23, dk_up_k (show 127 ≠ 118 by decide), eσ22, dk_up_k (show 127 ≠ 118 by decide), eσ21, dk_up_k (show 127 ≠ 118 by decide), eσ20, dk_nw_n (show 127 ≠ 140 by decide), eσ19, dk_up_k (show 127 ≠ 118 by decide), eσ18, dk_nw_n (show 127 ≠ 139 by decide), eσ17, dk_up_k (show 127 ≠ 118 by decide), eσ16, dk_nw_n (show 127 ≠ 138 by decide), eσ15, dk_up_k (show 127 ≠ 118 by decide), eσ14, dk_nw_n (show 127 ≠ 137 by decide), eσ13, dk_up_k (show 127 ≠ 118 by decide), eσ12, dk_nw_n (show 127 ≠ 136 by decide), eσ11, dk_up_k (show 127 ≠ 118 by decide), eσ10, dk_nw_n (show 127 ≠ 135 by decide), eσ9, dk_up_k (show 127 ≠ 118 by decide), eσ8, dk_nw_n (show 127 ≠ 134 by decide), eσ7, dk_up_k (show 127 ≠ 118 by decide), g6_3 127 _ (by decide) (by decide)]
    exact (ta_62 is_127).mpr (by rw [e_] <;> decide)
  have hS128 : ∀ j : Nat, j < dk_len (dk_site 128) → dk_Ty 128 j (σ24 128 j) := fun j hj => by
    have e_ : σ24 128 (j : Int) = 0 := by rw [eσ24, dk_up_k (show 128 ≠ 118 by decide), eσ23, dk_up_k (show 128 ≠ 118 by decide), eσ22, dk_up_k (show 128 ≠ 118 by decide), eσ21, dk_up_k (show 128 ≠ 118 by decide), eσ20, dk_nw_n (show 128 ≠ 140 by decide), eσ19, dk_up_k (show 128 ≠ 118 by decide), eσ18, dk_nw_n (show 128 ≠ 139 by decide), eσ17, dk_up_k (show 128 ≠ 118 by decide), eσ16, dk_nw_n (show 128 ≠ 138 by decide), eσ15, dk_up_k (show 128 ≠ 118 by decide), eσ14, dk_nw_n (show 128 ≠ 137 by decide), eσ13, dk_up_k (show 128 ≠ 118 by decide), eσ12, dk_nw_n (show 128 ≠ 136 by decide), eσ11, dk_up_k (show 128 ≠ 118 by decide), eσ10, dk_nw_n (show 128 ≠ 135 by decide), eσ9, dk_up_k (show 128 ≠ 118 by decide), eσ8, dk_nw_n (show 128 ≠ 134 by decide), eσ7, dk_up_k (show 128 ≠ 118 by decide), g6_3 128 _ (by decide) (by decide)]
    exact (ta_62 is_128).mpr (by rw [e_] <;> decide)
  have hS129 : ∀ j : Nat, j < dk_len (dk_site 129) → dk_Ty 129 j (σ24 129 j) := fun j hj => by
    have e_ : σ24 129 (j : Int) = 0 := by rw [eσ24, dk_up_k (show 129 ≠ 118 by decide), eσ23, dk_up_k (show 129 ≠ 118 by decide), eσ22, dk_up_k (show 129 ≠ 118 by decide), eσ21, dk_up_k (show 129 ≠ 118 by decide), eσ20, dk_nw_n (show 129 ≠ 140 by decide), eσ19, dk_up_k (show 129 ≠ 118 by decide), eσ18, dk_nw_n (show 129 ≠ 139 by decide), eσ17, dk_up_k (show 129 ≠ 118 by decide), eσ16, dk_nw_n (show 129 ≠ 138 by decide), eσ15, dk_up_k (show 129 ≠ 118 by decide), eσ14, dk_nw_n (show 129 ≠ 137 by decide), eσ13, dk_up_k (show 129 ≠ 118 by decide), eσ12, dk_nw_n (show 129 ≠ 136 by decide), eσ11, dk_up_k (show 129 ≠ 118 by decide), eσ10, dk_nw_n (show 129 ≠ 135 by decide), eσ9, dk_up_k (show 129 ≠ 118 by decide), eσ8, dk_nw_n (show 129 ≠ 134 by decide), eσ7, dk_up_k (show 129 ≠ 118 by decide), g6_3 129 _ (by decide) (by decide)]
    exact (ta_62 is_129).mpr (by rw [e_] <;> decide)
  have hS130 : ∀ j : Nat, j < dk_len (dk_site 130) → dk_Ty 130 j (σ24 130 j) := fun j hj => by
    have e_ : σ24 130 (j : Int) = 0 := by rw [eσ24, dk_up_k (show 130 ≠ 118 by decide), eσ23, dk_up_k (show 130 ≠ 118 by decide), eσ22, dk_up_k (show 130 ≠ 118 by decide), eσ21, dk_up_k (show 130 ≠ 118 by decide), eσ20, dk_nw_n (show 130 ≠ 140 by decide), eσ19, dk_up_k (show 130 ≠ 118 by decide), eσ18, dk_nw_n (show 130 ≠ 139 by decide), eσ17, dk_up_k (show 130 ≠ 118 by decide), eσ16, dk_nw_n (show 130 ≠ 138 by decide), eσ15, dk_up_k (show 130 ≠ 118 by decide), eσ14, dk_nw_n (show 130 ≠ 137 by decide), eσ13, dk_up_k (show 130 ≠ 118 by decide), eσ12, dk_nw_n (show 130 ≠ 136 by decide), eσ11, dk_up_k (show 130 ≠ 118 by decide), eσ10, dk_nw_n (show 130 ≠ 135 by decide), eσ9, dk_up_k (show 130 ≠ 118 by decide), eσ8, dk_nw_n (show 130 ≠ 134 by decide), eσ7, dk_up_k (show 130 ≠ 118 by decide), g6_3 130 _ (by decide) (by decide)]
    exact (ta_62 is_130).mpr (by rw [e_] <;> decide)
  have hS131 : ∀ j : Nat, j < dk_len (dk_site 131) → dk_Ty 131 j (σ24 131 j) := fun j hj => by
    have e_ : σ24 131 (j : Int) = 0 := by rw [eσ24, dk_up_k (show 131 ≠ 118 by decide), eσ23, dk_up_k (show 131 ≠ 118 by decide), eσ22, dk_up_k (show 131 ≠ 118 by decide), eσ21, dk_up_k (show 131 ≠ 118 by decide), eσ20, dk_nw_n (show 131 ≠ 140 by decide), eσ19, dk_up_k (show 131 ≠ 118 by decide), eσ18, dk_nw_n (show 131 ≠ 139 by decide), eσ17, dk_up_k (show 131 ≠ 118 by decide), eσ16, dk_nw_n (show 131 ≠ 138 by decide), eσ15, dk_up_k (show 131 ≠ 118 by decide), eσ14, dk_nw_n (show 131 ≠ 137 by decide), eσ13, dk_up_k (show 131 ≠ 118 by decide), eσ12, dk_nw_n (show 131 ≠ 136 by decide), eσ11, dk_up_k (show 131 ≠ 118 by decide), eσ10, dk_nw_n (show 131 ≠ 135 by decide), eσ9, dk_up_k (show 131 ≠ 118 by decide), eσ8, dk_nw_n (show 131 ≠ 134 by decide), eσ7, dk_up_k (show 131 ≠ 118 by decide), g6_3 131 _ (by decide) (by decide)]
    exact (ta_62 is_131).mpr (by rw [e_] <;> decide)
  have hS132 : ∀ j : Nat, j < dk_len (dk_site 132) → dk_Ty 132 j (σ24 132 j) := fun j hj => by
    have e_ : σ24 132 (j : Int) = 0 := by rw [eσ24, dk_up_k (show 132 ≠ 118 by decide), eσ23, dk_up_k (show 132 ≠ 118 by decide), eσ22, dk_up_k (show 132 ≠ 118 by decide), eσ21, dk_up_k (show 132 ≠ 118 by decide), eσ20, dk_nw_n (show 132 ≠ 140 by decide), eσ19, dk_up_k (show 132 ≠ 118 by decide), eσ18, dk_nw_n (show 132 ≠ 139 by decide), eσ17, dk_up_k (show 132 ≠ 118 by decide), eσ16, dk_nw_n (show 132 ≠ 138 by decide), eσ15, dk_up_k (show 132 ≠ 118 by decide), eσ14, dk_nw_n (show 132 ≠ 137 by decide), eσ13, dk_up_k (show 132 ≠ 118 by decide), eσ12, dk_nw_n (show 132 ≠ 136 by decide), eσ11, dk_up_k (show 132 ≠ 118 by decide), eσ10, dk_nw_n (show 132 ≠ 135 by decide), eσ9, dk_up_k (show 132 ≠ 118 by decide), eσ8, dk_nw_n (show 132 ≠ 134 by decide), eσ7, dk_up_k (show 132 ≠ 118 by decide), g6_3 132 _ (by decide) (by decide)]
    exact (ta_62 is_132).mpr (by rw [e_] <;> decide)
  have hS133 : ∀ j : Nat, j < dk_len (dk_site 133) → dk_Ty 133 j (σ24 133 j) := fun j hj => by
    have e_ : σ24 133 (j : Int) = 0 := by rw [eσ24, dk_up_k (show 133 ≠ 118 by decide), eσ23, dk_up_k (show 133 ≠ 118 by decide), eσ22, dk_up_k (show 133 ≠ 118 by decide), eσ21, dk_up_k (show 133 ≠ 118 by decide), eσ20, dk_nw_n (show 133 ≠ 140 by decide), eσ19, dk_up_k (show 133 ≠ 118 by decide), eσ18, dk_nw_n (show 133 ≠ 139 by decide), eσ17, dk_up_k (show 133 ≠ 118 by decide), eσ16, dk_nw_n (show 133 ≠ 138 by decide), eσ15, dk_up_k (show 133 ≠ 118 by decide), eσ14, dk_nw_n (show 133 ≠ 137 by decide), eσ13, dk_up_k (show 133 ≠ 118 by decide), eσ12, dk_nw_n (show 133 ≠ 136 by decide), eσ11, dk_up_k (show 133 ≠ 118 by decide), eσ10, dk_nw_n (show 133 ≠ 135 by decide), eσ9, dk_up_k (show 133 ≠ 118 by decide), eσ8, dk_nw_n (show 133 ≠ 134 by decide), eσ7, dk_up_k (show 133 ≠ 118 by decide), g6_3 133 _ (by decide) (by decide)]
    exact (ta_62 is_133).mpr (by rw [e_] <;> decide)
  have hS134 : ∀ j : Nat, j < dk_len (dk_site 134) → dk_Ty 134 j (σ24 134 j) := fun j hj => by
    have e_ : σ24 134 (j : Int) = 0 := by rw [eσ24, dk_up_k (show 134 ≠ 118 by decide), eσ23, dk_up_k (show 134 ≠ 118 by decide), eσ22, dk_up_k (show 134 ≠ 118 by decide), eσ21, dk_up_k (show 134 ≠ 118 by decide), eσ20, dk_nw_n (show 134 ≠ 140 by decide), eσ19, dk_up_k (show 134 ≠ 118 by decide), eσ18, dk_nw_n (show 134 ≠ 139 by decide), eσ17, dk_up_k (show 134 ≠ 118 by decide), eσ16, dk_nw_n (show 134 ≠ 138 by decide), eσ15, dk_up_k (show 134 ≠ 118 by decide), eσ14, dk_nw_n (show 134 ≠ 137 by decide), eσ13, dk_up_k (show 134 ≠ 118 by decide), eσ12, dk_nw_n (show 134 ≠ 136 by decide), eσ11, dk_up_k (show 134 ≠ 118 by decide), eσ10, dk_nw_n (show 134 ≠ 135 by decide), eσ9, dk_up_k (show 134 ≠ 118 by decide), eσ8, dk_nw_s, show ∀ q : Nat, dk_dz (dk_stc (dk_site 134) q) = 0 from fun q => rfl]
    exact (ta_63 is_134).mpr (by rw [e_] <;> decide)
  have hS135 : ∀ j : Nat, j < dk_len (dk_site 135) → dk_Ty 135 j (σ24 135 j) := fun j hj => by
    have e_ : σ24 135 (j : Int) = 0 := by rw [eσ24, dk_up_k (show 135 ≠ 118 by decide), eσ23, dk_up_k (show 135 ≠ 118 by decide), eσ22, dk_up_k (show 135 ≠ 118 by decide), eσ21, dk_up_k (show 135 ≠ 118 by decide), eσ20, dk_nw_n (show 135 ≠ 140 by decide), eσ19, dk_up_k (show 135 ≠ 118 by decide), eσ18, dk_nw_n (show 135 ≠ 139 by decide), eσ17, dk_up_k (show 135 ≠ 118 by decide), eσ16, dk_nw_n (show 135 ≠ 138 by decide), eσ15, dk_up_k (show 135 ≠ 118 by decide), eσ14, dk_nw_n (show 135 ≠ 137 by decide), eσ13, dk_up_k (show 135 ≠ 118 by decide), eσ12, dk_nw_n (show 135 ≠ 136 by decide), eσ11, dk_up_k (show 135 ≠ 118 by decide), eσ10, dk_nw_s, show ∀ q : Nat, dk_dz (dk_stc (dk_site 135) q) = 0 from fun q => rfl]
    exact (ta_64 is_135).mpr (by rw [e_] <;> decide)
  have hS136 : ∀ j : Nat, j < dk_len (dk_site 136) → dk_Ty 136 j (σ24 136 j) := fun j hj => by
    have e_ : σ24 136 (j : Int) = 0 := by rw [eσ24, dk_up_k (show 136 ≠ 118 by decide), eσ23, dk_up_k (show 136 ≠ 118 by decide), eσ22, dk_up_k (show 136 ≠ 118 by decide), eσ21, dk_up_k (show 136 ≠ 118 by decide), eσ20, dk_nw_n (show 136 ≠ 140 by decide), eσ19, dk_up_k (show 136 ≠ 118 by decide), eσ18, dk_nw_n (show 136 ≠ 139 by decide), eσ17, dk_up_k (show 136 ≠ 118 by decide), eσ16, dk_nw_n (show 136 ≠ 138 by decide), eσ15, dk_up_k (show 136 ≠ 118 by decide), eσ14, dk_nw_n (show 136 ≠ 137 by decide), eσ13, dk_up_k (show 136 ≠ 118 by decide), eσ12, dk_nw_s, show ∀ q : Nat, dk_dz (dk_stc (dk_site 136) q) = 0 from fun q => rfl]
    exact (ta_65 is_136).mpr (by rw [e_] <;> decide)
  have hS137 : ∀ j : Nat, j < dk_len (dk_site 137) → dk_Ty 137 j (σ24 137 j) := fun j hj => by
    have e_ : σ24 137 (j : Int) = 0 := by rw [eσ24, dk_up_k (show 137 ≠ 118 by decide), eσ23, dk_up_k (show 137 ≠ 118 by decide), eσ22, dk_up_k (show 137 ≠ 118 by decide), eσ21, dk_up_k (show 137 ≠ 118 by decide), eσ20, dk_nw_n (show 137 ≠ 140 by decide), eσ19, dk_up_k (show 137 ≠ 118 by decide), eσ18, dk_nw_n (show 137 ≠ 139 by decide), eσ17, dk_up_k (show 137 ≠ 118 by decide), eσ16, dk_nw_n (show 137 ≠ 138 by decide), eσ15, dk_up_k (show 137 ≠ 118 by decide), eσ14, dk_nw_s, show ∀ q : Nat, dk_dz (dk_stc (dk_site 137) q) = 0 from fun q => rfl]
    exact (ta_66 is_137).mpr (by rw [e_] <;> decide)
  have hS138 : ∀ j : Nat, j < dk_len (dk_site 138) → dk_Ty 138 j (σ24 138 j) := fun j hj => by
    exact (ta_67 is_138).mpr trivial
  have hS139 : ∀ j : Nat, j < dk_len (dk_site 139) → dk_Ty 139 j (σ24 139 j) := fun j hj => by
    have e_ : σ24 139 (j : Int) = 0 := by rw [eσ24, dk_up_k (show 139 ≠ 118 by decide), eσ23, dk_up_k (show 139 ≠ 118 by decide), eσ22, dk_up_k (show 139 ≠ 118 by decide), eσ21, dk_up_k (show 139 ≠ 118 by decide), eσ20, dk_nw_n (show 139 ≠ 140 by decide), eσ19, dk_up_k (show 139 ≠ 118 by decide), eσ18, dk_nw_s, show ∀ q : Nat, dk_dz (dk_stc (dk_site 139) q) = 0 from fun q => rfl]
    exact (ta_68 is_139).mpr (by rw [e_] <;> decide)
  have hS140 : ∀ j : Nat, j < dk_len (dk_site 140) → dk_Ty 140 j (σ24 140 j) := fun j hj => by
    have e_ : σ24 140 (j : Int) = 0 := by rw [eσ24, dk_up_k (show 140 ≠ 118 by decide), eσ23, dk_up_k (show 140 ≠ 118 by decide), eσ22, dk_up_k (show 140 ≠ 118 by decide), eσ21, dk_up_k (show 140 ≠ 118 by decide), eσ20, dk_nw_s, show ∀ q : Nat, dk_dz (dk_stc (dk_site 140) q) = 0 from fun q => rfl]
    exact (ta_69 is_140).mpr (by rw [e_] <;> decide)
  refine dk_vret (st := []) hE hR dX4_init_103 ⟨rfl, ⟨fun a j h1 h2 => by rw [eσ24, dk_up_k (show a ≠ 118 by omega), eσ23, dk_up_k (show a ≠ 118 by omega), eσ22, dk_up_k (show a ≠ 118 by omega), eσ21, dk_up_k (show a ≠ 118 by omega), eσ20, dk_nw_n (show a ≠ 140 by omega), eσ19, dk_up_k (show a ≠ 118 by omega), eσ18, dk_nw_n (show a ≠ 139 by omega), eσ17, dk_up_k (show a ≠ 118 by omega), eσ16, dk_nw_n (show a ≠ 138 by omega), eσ15, dk_up_k (show a ≠ 118 by omega), eσ14, dk_nw_n (show a ≠ 137 by omega), eσ13, dk_up_k (show a ≠ 118 by omega), eσ12, dk_nw_n (show a ≠ 136 by omega), eσ11, dk_up_k (show a ≠ 118 by omega), eσ10, dk_nw_n (show a ≠ 135 by omega), eσ9, dk_up_k (show a ≠ 118 by omega), eσ8, dk_nw_n (show a ≠ 134 by omega), eσ7, dk_up_k (show a ≠ 118 by omega), g6_1 a _ (by omega), eσ4, dk_up_k (show a ≠ 118 by omega), eσ3, dk_nw_n (show a ≠ 120 by omega), eσ2, dk_up_k (show a ≠ 118 by omega), eσ1, dk_nw_n (show a ≠ 119 by omega)], fun a ha j hj => ?_⟩, ?_⟩
  · skip
    by_cases q118 : a = 118
    · subst q118; exact hT118 j hj
    by_cases q119 : a = 119
    · subst q119; exact hS119 j hj
    by_cases q120 : a = 120
    · subst q120; exact hS120 j hj
    by_cases q121 : a = 121
    · subst q121; exact hS121 j hj
    by_cases q122 : a = 122
    · subst q122; exact hS122 j hj
    by_cases q123 : a = 123
    · subst q123; exact hS123 j hj
    by_cases q124 : a = 124
    · subst q124; exact hS124 j hj
    by_cases q125 : a = 125
    · subst q125; exact hS125 j hj
    by_cases q126 : a = 126
    · subst q126; exact hS126 j hj
    by_cases q127 : a = 127
    · subst q127; exact hS127 j hj
    by_cases q128 : a = 128
    · subst q128; exact hS128 j hj
    by_cases q129 : a = 129
    · subst q129; exact hS129 j hj
    by_cases q130 : a = 130
    · subst q130; exact hS130 j hj
    by_cases q131 : a = 131
    · subst q131; exact hS131 j hj
    by_cases q132 : a = 132
    · subst q132; exact hS132 j hj
    by_cases q133 : a = 133
    · subst q133; exact hS133 j hj
    by_cases q134 : a = 134
    · subst q134; exact hS134 j hj
    by_cases q135 : a = 135
    · subst q135; exact hS135 j hj
    by_cases q136 : a = 136
    · subst q136; exact hS136 j hj
    by_cases q137 : a = 137
    · subst q137; exact hS137 j hj
    by_cases q138 : a = 138
    · subst q138; exact hS138 j hj
    by_cases q139 : a = 139
    · subst q139; exact hS139 j hj
    by_cases q140 : a = 140
    · subst q140; exact hS140 j hj
    exfalso; omega
  · have z17 : ∀ j : Int, σ24 135 j = 0 := fun j => by rw [eσ24, dk_up_k (show 135 ≠ 118 by decide), eσ23, dk_up_k (show 135 ≠ 118 by decide), eσ22, dk_up_k (show 135 ≠ 118 by decide), eσ21, dk_up_k (show 135 ≠ 118 by decide), eσ20, dk_nw_n (show 135 ≠ 140 by decide), eσ19, dk_up_k (show 135 ≠ 118 by decide), eσ18, dk_nw_n (show 135 ≠ 139 by decide), eσ17, dk_up_k (show 135 ≠ 118 by decide), eσ16, dk_nw_n (show 135 ≠ 138 by decide), eσ15, dk_up_k (show 135 ≠ 118 by decide), eσ14, dk_nw_n (show 135 ≠ 137 by decide), eσ13, dk_up_k (show 135 ≠ 118 by decide), eσ12, dk_nw_n (show 135 ≠ 136 by decide), eσ11, dk_up_k (show 135 ≠ 118 by decide), eσ10, dk_nw_s, show ∀ q : Nat, dk_dz (dk_stc (dk_site 135) q) = 0 from fun q => rfl]
    have z21 : ∀ j : Int, σ24 139 j = 0 := fun j => by rw [eσ24, dk_up_k (show 139 ≠ 118 by decide), eσ23, dk_up_k (show 139 ≠ 118 by decide), eσ22, dk_up_k (show 139 ≠ 118 by decide), eσ21, dk_up_k (show 139 ≠ 118 by decide), eσ20, dk_nw_n (show 139 ≠ 140 by decide), eσ19, dk_up_k (show 139 ≠ 118 by decide), eσ18, dk_nw_s, show ∀ q : Nat, dk_dz (dk_stc (dk_site 139) q) = 0 from fun q => rfl]
    have z22 : ∀ j : Int, σ24 140 j = 0 := fun j => by rw [eσ24, dk_up_k (show 140 ≠ 118 by decide), eσ23, dk_up_k (show 140 ≠ 118 by decide), eσ22, dk_up_k (show 140 ≠ 118 by decide), eσ21, dk_up_k (show 140 ≠ 118 by decide), eσ20, dk_nw_s, show ∀ q : Nat, dk_dz (dk_stc (dk_site 140) q) = 0 from fun q => rfl]
    have z11 : σ24 118 11 = 0 := by rw [eσ24, dk_up_n (by decide), eσ23, dk_up_n (by decide), eσ22, dk_up_n (by decide), eσ21, dk_up_n (by decide), eσ20, dk_nw_n (by decide), eσ19, dk_up_n (by decide), eσ18, dk_nw_n (by decide), eσ17, dk_up_n (by decide), eσ16, dk_nw_n (by decide), eσ15, dk_up_n (by decide), eσ14, dk_nw_n (by decide), eσ13, dk_up_n (by decide), eσ12, dk_nw_n (by decide), eσ11, dk_up_n (by decide), eσ10, dk_nw_n (by decide), eσ9, dk_up_n (by decide), eσ8, dk_nw_n (by decide), eσ7, dk_up_n (by decide), g6_1 118 11 (by decide), eσ4, dk_up_n (by decide), eσ3, dk_nw_n (by decide), eσ2, dk_up_n (by decide), eσ1, dk_nw_n (by decide), hF, show dk_dz (dk_stc (dk_site 118) (11 : Int).toNat) = 0 from rfl]
    have z12 : σ24 118 12 = 0 := by rw [eσ24, dk_up_n (by decide), eσ23, dk_up_n (by decide), eσ22, dk_up_n (by decide), eσ21, dk_up_n (by decide), eσ20, dk_nw_n (by decide), eσ19, dk_up_n (by decide), eσ18, dk_nw_n (by decide), eσ17, dk_up_n (by decide), eσ16, dk_nw_n (by decide), eσ15, dk_up_n (by decide), eσ14, dk_nw_n (by decide), eσ13, dk_up_n (by decide), eσ12, dk_nw_n (by decide), eσ11, dk_up_n (by decide), eσ10, dk_nw_n (by decide), eσ9, dk_up_n (by decide), eσ8, dk_nw_n (by decide), eσ7, dk_up_n (by decide), g6_1 118 12 (by decide), eσ4, dk_up_n (by decide), eσ3, dk_nw_n (by decide), eσ2, dk_up_n (by decide), eσ1, dk_nw_n (by decide), hF, show dk_dz (dk_stc (dk_site 118) (12 : Int).toNat) = 0 from rfl]
    exact ⟨fun p p0 p1 => by omega, fun w _ _ => by show σ24 139 w + σ24 140 w ≤ 12; rw [z21, z22]; decide, fun w => by omega, fun p c _ _ c0 c1 _ => by have c1 : c < σ24 135 p := c1; rw [z17] at c1; omega⟩
