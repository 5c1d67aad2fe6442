set_option maxHeartbeats 4000000 in
set_option maxRecDepth 20000 in
theorem law_loop {E : dkE} {l : Launch} {G : dkG} {L : Nat} {xs : Nat → Int32} (hGd : dk_Gd G) (hE : dk_Good E cL_law RL 20 dk_Ty l G 0 4 600000 7302250) (hX : dk_Scx E L xs) (hL : L ≤ 3072) (hend : ∀ (ls : List dkV) (σ : dkS), dk_PJ E 1631 ls [(0, 1)] 190 σ) : ∀ (N : Nat) (i : Int) (σ : dkS), ((L : Int) + 7 - i).toNat < N → LX σ → 0 ≤ i → i ≤ (L : Int) + 6 → dk_PJ E 18 [(4, (-40)), (4, 0), (4, 141), (0, i)] [] 190 σ := by
  intro N
  induction N with
  | zero => intro i σ hm; exact absurd hm (Nat.not_lt_zero _)
  | succ N ih =>
    intro i σ hm h hi hi2
    refine dk_iload_n (pc' := 19) hE dL_law_18 rfl rfl rfl ?_
    refine dk_aload_n (pc' := 20) hE dL_law_19 rfl rfl rfl ?_
    refine dk_slen (pc' := 21) hE hX.scr hL dL_law_20 rfl ?_
    refine dk_bipush (pc' := 23) hE dL_law_21 (by decide) rfl ?_
    obtain ⟨v1, hv1⟩ : ∃ z : Int, z = (L : Int) - 6 := ⟨_, rfl⟩
    refine dk_isub (pc' := 24) hE dL_law_23 hv1.symm (by omega) rfl ?_
    refine dk_icmp_gt (tgt := 1630) (pc' := 27) hE dL_law_24 (by decide) rfl (fun hc => ?_) (fun hc => ?_)
    · refine dk_iconst (pc' := 1631) hE dL_law_1630 (by decide) rfl ?_
      exact hend _ _
    · have K : ∀ σ1 : dkS, LX σ1 → dk_PJ E 1624 [(4, (-40)), (4, 0), (4, 141), (0, i)] [] 190 σ1 := fun σ1 h1 => by
        obtain ⟨v2, hv2⟩ : ∃ z : Int, z = i + 6 := ⟨_, rfl⟩
        refine dk_iinc (pc' := 1627) (ls' := [(4, (-40)), (4, 0), (4, 141), (0, v2)]) hE dL_law_1624 rfl hv2.symm (by omega) rfl (by decide) rfl ?_
        refine dk_goto (tgt := 18) hE dL_law_1627 (by decide) ?_
        exact ih v2 σ1 (by omega) h1 (by omega) (by omega)
      refine dk_aload_n (pc' := 28) hE dL_law_27 rfl rfl rfl ?_
      refine dk_iload_n (pc' := 29) hE dL_law_28 rfl rfl rfl ?_
      refine dk_sld (pc' := 30) hE hX.scr dL_law_29 (by omega) rfl (fun v3 _ => ?_)
      refine dk_bipush (pc' := 32) hE dL_law_30 (by decide) rfl ?_
      refine dk_iand (pc' := 33) hE dL_law_32 rfl (fun v4 _ _ => ?_)
      refine dk_table (tgs := [200, 263, 286, 299, 322, 345, 378, 421, 464, 507, 540, 593, 626, 669, 692, 705, 748, 791, 834, 867, 910, 933, 956, 999, 1062, 1115, 1158, 1201, 1244, 1297, 1350, 1403, 1436, 1459, 1482, 1515, 1558, 1601]) (td := 1624) hE dL_law_33 (by decide) (by decide) (by decide) (fun _ => K σ h) (fun j t q _ => ?_)
      have jl : j < 38 := (List.getElem?_eq_some_iff.mp q).1
      rcases (show j = 0 ∨ j = 1 ∨ j = 2 ∨ j = 3 ∨ j = 4 ∨ j = 5 ∨ j = 6 ∨ j = 7 ∨ j = 8 ∨ j = 9 ∨ j = 10 ∨ j = 11 ∨ j = 12 ∨ j = 13 ∨ j = 14 ∨ j = 15 ∨ j = 16 ∨ j = 17 ∨ j = 18 ∨ j = 19 ∨ j = 20 ∨ j = 21 ∨ j = 22 ∨ j = 23 ∨ j = 24 ∨ j = 25 ∨ j = 26 ∨ j = 27 ∨ j = 28 ∨ j = 29 ∨ j = 30 ∨ j = 31 ∨ j = 32 ∨ j = 33 ∨ j = 34 ∨ j = 35 ∨ j = 36 ∨ j = 37 by omega) with rfl | rfl | rfl | rfl | rfl | rfl | rfl | rfl | rfl | rfl | rfl | rfl | rfl | rfl | rfl | rfl | rfl | rfl | rfl | rfl | rfl | rfl | rfl | rfl | rfl | rfl | rfl | rfl | rfl | rfl | rfl | rfl | rfl | rfl | rfl | rfl | rfl | rfl
      · cases q; exact lc_0 hGd hE hX i (by omega) σ h K
      · cases q; exact lc_1 hGd hE hX i (by omega) σ h K
      · cases q; exact lc_2 hGd hE hX i (by omega) σ h K
      · cases q; exact lc_3 hGd hE hX i (by omega) σ h K
      · cases q; exact lc_4 hGd hE hX i (by omega) σ h K
      · cases q; exact lc_5 hGd hE hX i (by omega) σ h K
      · cases q; exact lc_6 hGd hE hX i (by omega) σ h K
      · cases q; exact lc_7 hGd hE hX i (by omega) σ h K
      · cases q; exact lc_8 hGd hE hX i (by omega) σ h K
      · cases q; exact lc_9 hGd hE hX i (by omega) σ h K
      · cases q; exact lc_10 hGd hE hX i (by omega) σ h K
      · cases q; exact lc_11 hGd hE hX i (by omega) σ h K
      · cases q; exact lc_12 hGd hE hX i (by omega) σ h K
      · cases q; exact lc_13 hGd hE hX i (by omega) σ h K
      · cases q; exact lc_14 hGd hE hX i (by omega) σ h K
      · cases q; exact lc_15 hGd hE hX i (by omega) σ h K
      · cases q; exact lc_16 hGd hE hX i (by omega) σ h K
      · cases q; exact lc_17 hGd hE hX i (by omega) σ h K
      · cases q; exact lc_18 hGd hE hX i (by omega) σ h K
      · cases q; exact lc_19 hGd hE hX i (by omega) σ h K
      · cases q; exact lc_20 hGd hE hX i (by omega) σ h K
      · cases q; exact lc_21 hGd hE hX i (by omega) σ h K
      · cases q; exact lc_22 hGd hE hX i (by omega) σ h K
      · cases q; exact lc_23 hGd hE hX i (by omega) σ h K
      · cases q; exact lc_24 hGd hE hX i (by omega) σ h K
      · cases q; exact lc_25 hGd hE hX i (by omega) σ h K
      · cases q; exact lc_26 hGd hE hX i (by omega) σ h K
      · cases q; exact lc_27 hGd hE hX i (by omega) σ h K
      · cases q; exact lc_28 hGd hE hX i (by omega) σ h K
      · cases q; exact lc_29 hGd hE hX i (by omega) σ h K
      · cases q; exact lc_30 hGd hE hX i (by omega) σ h K
      · cases q; exact lc_31 hGd hE hX i (by omega) σ h K
      · cases q; exact lc_32 hGd hE hX i (by omega) σ h K
      · cases q; exact lc_33 hGd hE hX i (by omega) σ h K
      · cases q; exact lc_34 hGd hE hX i (by omega) σ h K
      · cases q; exact lc_35 hGd hE hX i (by omega) σ h K
      · cases q; exact lc_36 hGd hE hX i (by omega) σ h K
      · cases q; exact lc_37 hGd hE hX i (by omega) σ h K
