set_option maxHeartbeats 4000000 in
set_option maxRecDepth 20000 in
theorem lc_10 {E : dkE} {l : Launch} {G : dkG} {L : Nat} {xs : Nat → Int32} (hGd : dk_Gd G) (hE : dk_Good E cL_law RL 20 dk_Ty l G 0 4 600000 7302250) (hX : dk_Scx E L xs) (i : Int) (hi : 0 ≤ i ∧ i + 6 ≤ (L : Int) ∧ (L : Int) ≤ 3072) (σ : dkS) (h : LX σ) (K : ∀ σ1 : dkS, LX σ1 → dk_PJ E 1624 [(4, (-40)), (4, 0), (4, 141), (0, i)] [] 190 σ1) : dk_PJ E 540 [(4, (-40)), (4, 0), (4, 141), (0, i)] [] 190 σ := by
  obtain ⟨h, hb0, hb1⟩ := h
  refine dk_aload_n (pc' := 541) hE dL_law_540 rfl rfl rfl ?_
  refine dk_aload_n (pc' := 542) hE dL_law_541 rfl rfl rfl ?_
  refine dk_iload_n (pc' := 543) hE dL_law_542 rfl rfl rfl ?_
  refine dk_iconst (pc' := 544) hE dL_law_543 (by decide) rfl ?_
  obtain ⟨v1, hv1⟩ : ∃ z : Int, z = i + 1 := ⟨_, rfl⟩
  refine dk_iadd (pc' := 545) hE dL_law_544 hv1.symm (by omega) rfl ?_
  refine dk_sldx (pc' := 546) hE hX dL_law_545 (by omega) rfl (fun v2 hiv2 hxv2 => ?_)
  refine dk_aload_n (pc' := 547) hE dL_law_546 rfl rfl rfl ?_
  refine dk_iload_n (pc' := 548) hE dL_law_547 rfl rfl rfl ?_
  refine dk_iconst (pc' := 549) hE dL_law_548 (by decide) rfl ?_
  obtain ⟨v3, hv3⟩ : ∃ z : Int, z = i + 2 := ⟨_, rfl⟩
  refine dk_iadd (pc' := 550) hE dL_law_549 hv3.symm (by omega) rfl ?_
  refine dk_sldx (pc' := 551) hE hX dL_law_550 (by omega) rfl (fun v4 hiv4 hxv4 => ?_)
  refine dk_aload_n (pc' := 552) hE dL_law_551 rfl rfl rfl ?_
  refine dk_iload_n (pc' := 553) hE dL_law_552 rfl rfl rfl ?_
  refine dk_iconst (pc' := 554) hE dL_law_553 (by decide) rfl ?_
  obtain ⟨v5, hv5⟩ : ∃ z : Int, z = i + 3 := ⟨_, rfl⟩
  refine dk_iadd (pc' := 555) hE dL_law_554 hv5.symm (by omega) rfl ?_
  refine dk_sldx (pc' := 556) hE hX dL_law_555 (by omega) rfl (fun v6 hiv6 hxv6 => ?_)
  refine dk_aload_n (pc' := 557) hE dL_law_556 rfl rfl rfl ?_
  refine dk_iload_n (pc' := 558) hE dL_law_557 rfl rfl rfl ?_
  refine dk_iconst (pc' := 559) hE dL_law_558 (by decide) rfl ?_
  obtain ⟨v7, hv7⟩ : ∃ z : Int, z = i + 4 := ⟨_, rfl⟩
  refine dk_iadd (pc' := 560) hE dL_law_559 hv7.symm (by omega) rfl ?_
  refine dk_sldx (pc' := 561) hE hX dL_law_560 (by omega) rfl (fun v8 hiv8 hxv8 => ?_)
  refine dk_cL (pc' := 564) (as := [(0, v2), (0, v4), (0, v6), (0, v8)]) hE lk_L_59 (ct_X10_breaks l G hGd v2 v4 v6 v8 (σ 0 9)) dL_law_561 rfl is_0 rfl (by decide) (Nat.le_of_ble_eq_true rfl) ⟨rfl, h.1, h.2.1, rfl⟩ rfl (fun r10 σ9 hr10 _ => ?_)
  obtain ⟨v11, rfl, hfσ9, hpr10⟩ := hr10
  have hzσ90_12 := hfσ9 0 12 (by omega)
  have hzσ9141_52 := hfσ9 141 52 (by omega)
  have hzσ937_8 := hfσ9 37 8 (by omega)
  have hzσ9141_54 := hfσ9 141 54 (by omega)
  have L12 : LI σ9 := ⟨GI_fr h.1 (fun k j q => hfσ9 k j (by omega)), by rw [hfσ9 0 9 (by omega)]; exact h.2.1, MI_fr h.2.2 (fun k j q => hfσ9 k j (by omega))⟩
  refine dk_pop (pc' := 565) hE dL_law_564 (show (0 : Nat) ≠ 3 by decide) rfl ?_
  refine dk_aload_n (pc' := 566) hE dL_law_565 rfl rfl rfl ?_
  refine dk_aload_n (pc' := 567) hE dL_law_566 rfl rfl rfl ?_
  refine dk_iload_n (pc' := 568) hE dL_law_567 rfl rfl rfl ?_
  refine dk_iconst (pc' := 569) hE dL_law_568 (by decide) rfl ?_
  obtain ⟨v13, hv13⟩ : ∃ z : Int, z = i + 1 := ⟨_, rfl⟩
  refine dk_iadd (pc' := 570) hE dL_law_569 hv13.symm (by omega) rfl ?_
  refine dk_sldx (pc' := 571) hE hX dL_law_570 (by omega) rfl (fun v14 hiv14 hxv14 => ?_)
  have hqv14 : v14 = v2 := by rw [hxv14, hxv2, show v13 = v1 by omega]
  refine dk_aload_n (pc' := 572) hE dL_law_571 rfl rfl rfl ?_
  refine dk_iload_n (pc' := 573) hE dL_law_572 rfl rfl rfl ?_
  refine dk_iconst (pc' := 574) hE dL_law_573 (by decide) rfl ?_
  obtain ⟨v15, hv15⟩ : ∃ z : Int, z = i + 2 := ⟨_, rfl⟩
  refine dk_iadd (pc' := 575) hE dL_law_574 hv15.symm (by omega) rfl ?_
  refine dk_sldx (pc' := 576) hE hX dL_law_575 (by omega) rfl (fun v16 hiv16 hxv16 => ?_)
  have hqv16 : v16 = v4 := by rw [hxv16, hxv4, show v15 = v3 by omega]
  refine dk_aload_n (pc' := 577) hE dL_law_576 rfl rfl rfl ?_
  refine dk_iload_n (pc' := 578) hE dL_law_577 rfl rfl rfl ?_
  refine dk_iconst (pc' := 579) hE dL_law_578 (by decide) rfl ?_
  obtain ⟨v17, hv17⟩ : ∃ z : Int, z = i + 3 := ⟨_, rfl⟩
  refine dk_iadd (pc' := 580) hE dL_law_579 hv17.symm (by omega) rfl ?_
  refine dk_sldx (pc' := 581) hE hX dL_law_580 (by omega) rfl (fun v18 hiv18 hxv18 => ?_)
  have hqv18 : v18 = v6 := by rw [hxv18, hxv6, show v17 = v5 by omega]
  refine dk_aload_n (pc' := 582) hE dL_law_581 rfl rfl rfl ?_
  refine dk_iload_n (pc' := 583) hE dL_law_582 rfl rfl rfl ?_
  refine dk_iconst (pc' := 584) hE dL_law_583 (by decide) rfl ?_
  obtain ⟨v19, hv19⟩ : ∃ z : Int, z = i + 4 := ⟨_, rfl⟩
  refine dk_iadd (pc' := 585) hE dL_law_584 hv19.symm (by omega) rfl ?_
  refine dk_sldx (pc' := 586) hE hX dL_law_585 (by omega) rfl (fun v20 hiv20 hxv20 => ?_)
  have hqv20 : v20 = v8 := by rw [hxv20, hxv8, show v19 = v7 by omega]
  refine dk_cL (pc' := 589) (as := [(0, v14), (0, v16), (0, v18), (0, v20)]) hE lk_L_63 (ct_X11_breaks l G hGd v14 v16 v18 v20) dL_law_586 rfl is_141 rfl (by decide) (Nat.le_of_ble_eq_true rfl) rfl rfl (fun r22 σ21 hr22 _ => ?_)
  obtain ⟨v23, rfl, hfσ21, hpr22⟩ := hr22
  have hzσ210_12 := hfσ21 0 12 (by omega)
  have hzσ21141_52 := hfσ21 141 52 (by omega)
  have hzσ2137_8 := hfσ21 37 8 (by omega)
  have hzσ21141_54 := hfσ21 141 54 (by omega)
  have L24 : LI σ21 := ⟨GI_fr L12.1 (fun k j q => hfσ21 k j (by omega)), by rw [hfσ21 0 9 (by omega)]; exact L12.2.1, MI_fr L12.2.2 (fun k j q => hfσ21 k j (by omega))⟩
  refine dk_pop (pc' := 590) hE dL_law_589 (show (0 : Nat) ≠ 3 by decide) rfl ?_
  refine dk_goto (tgt := 1624) hE dL_law_590 (by decide) ?_
  exact K σ21 ⟨L24, by omega, by omega⟩
set_option maxHeartbeats 4000000 in
set_option maxRecDepth 20000 in
theorem lc_11 {E : dkE} {l : Launch} {G : dkG} {L : Nat} {xs : Nat → Int32} (hGd : dk_Gd G) (hE : dk_Good E cL_law RL 20 dk_Ty l G 0 4 600000 7302250) (hX : dk_Scx E L xs) (i : Int) (hi : 0 ≤ i ∧ i + 6 ≤ (L : Int) ∧ (L : Int) ≤ 3072) (σ : dkS) (h : LX σ) (K : ∀ σ1 : dkS, LX σ1 → dk_PJ E 1624 [(4, (-40)), (4, 0), (4, 141), (0, i)] [] 190 σ1) : dk_PJ E 593 [(4, (-40)), (4, 0), (4, 141), (0, i)] [] 190 σ := by
  obtain ⟨h, hb0, hb1⟩ := h
  refine dk_aload_n (pc' := 594) hE dL_law_593 rfl rfl rfl ?_
  refine dk_aload_n (pc' := 595) hE dL_law_594 rfl rfl rfl ?_
  refine dk_iload_n (pc' := 596) hE dL_law_595 rfl rfl rfl ?_
  refine dk_iconst (pc' := 597) hE dL_law_596 (by decide) rfl ?_
  obtain ⟨v1, hv1⟩ : ∃ z : Int, z = i + 1 := ⟨_, rfl⟩
  refine dk_iadd (pc' := 598) hE dL_law_597 hv1.symm (by omega) rfl ?_
  refine dk_sldx (pc' := 599) hE hX dL_law_598 (by omega) rfl (fun v2 hiv2 hxv2 => ?_)
  refine dk_aload_n (pc' := 600) hE dL_law_599 rfl rfl rfl ?_
  refine dk_iload_n (pc' := 601) hE dL_law_600 rfl rfl rfl ?_
  refine dk_iconst (pc' := 602) hE dL_law_601 (by decide) rfl ?_
  obtain ⟨v3, hv3⟩ : ∃ z : Int, z = i + 2 := ⟨_, rfl⟩
  refine dk_iadd (pc' := 603) hE dL_law_602 hv3.symm (by omega) rfl ?_
  refine dk_sldx (pc' := 604) hE hX dL_law_603 (by omega) rfl (fun v4 hiv4 hxv4 => ?_)
  refine dk_cL (pc' := 607) (as := [(0, v2), (0, v4)]) hE lk_L_64 (ct_X10_load l G hGd v2 v4 (σ 0 9)) dL_law_604 rfl is_0 rfl (by decide) (Nat.le_of_ble_eq_true rfl) ⟨rfl, h.1, h.2.1, rfl⟩ rfl (fun r6 σ5 hr6 _ => ?_)
  obtain ⟨v7, rfl, hfσ5, hpr6⟩ := hr6
  have hsσ5 : σ = σ5 := (funext (fun k => funext (fun j => hfσ5 k j not_false))).symm
  subst hsσ5
  refine dk_pop (pc' := 608) hE dL_law_607 (show (0 : Nat) ≠ 3 by decide) rfl ?_
  refine dk_aload_n (pc' := 609) hE dL_law_608 rfl rfl rfl ?_
  refine dk_aload_n (pc' := 610) hE dL_law_609 rfl rfl rfl ?_
  refine dk_iload_n (pc' := 611) hE dL_law_610 rfl rfl rfl ?_
  refine dk_iconst (pc' := 612) hE dL_law_611 (by decide) rfl ?_
  obtain ⟨v8, hv8⟩ : ∃ z : Int, z = i + 1 := ⟨_, rfl⟩
  refine dk_iadd (pc' := 613) hE dL_law_612 hv8.symm (by omega) rfl ?_
  refine dk_sldx (pc' := 614) hE hX dL_law_613 (by omega) rfl (fun v9 hiv9 hxv9 => ?_)
  have hqv9 : v9 = v2 := by rw [hxv9, hxv2, show v8 = v1 by omega]
  refine dk_aload_n (pc' := 615) hE dL_law_614 rfl rfl rfl ?_
  refine dk_iload_n (pc' := 616) hE dL_law_615 rfl rfl rfl ?_
  refine dk_iconst (pc' := 617) hE dL_law_616 (by decide) rfl ?_
  obtain ⟨v10, hv10⟩ : ∃ z : Int, z = i + 2 := ⟨_, rfl⟩
  refine dk_iadd (pc' := 618) hE dL_law_617 hv10.symm (by omega) rfl ?_
  refine dk_sldx (pc' := 619) hE hX dL_law_618 (by omega) rfl (fun v11 hiv11 hxv11 => ?_)
  have hqv11 : v11 = v4 := by rw [hxv11, hxv4, show v10 = v3 by omega]
  refine dk_cL (pc' := 622) (as := [(0, v9), (0, v11)]) hE lk_L_67 (ct_X11_load l G hGd v9 v11) dL_law_619 rfl is_141 rfl (by decide) (Nat.le_of_ble_eq_true rfl) rfl rfl (fun r13 σ12 hr13 _ => ?_)
  obtain ⟨v14, rfl, hfσ12, hpr13⟩ := hr13
  have hsσ12 : σ = σ12 := (funext (fun k => funext (fun j => hfσ12 k j not_false))).symm
  subst hsσ12
  refine dk_pop (pc' := 623) hE dL_law_622 (show (0 : Nat) ≠ 3 by decide) rfl ?_
  refine dk_goto (tgt := 1624) hE dL_law_623 (by decide) ?_
  exact K σ ⟨h, by omega, by omega⟩
set_option maxHeartbeats 4000000 in
set_option maxRecDepth 20000 in
theorem lc_12 {E : dkE} {l : Launch} {G : dkG} {L : Nat} {xs : Nat → Int32} (hGd : dk_Gd G) (hE : dk_Good E cL_law RL 20 dk_Ty l G 0 4 600000 7302250) (hX : dk_Scx E L xs) (i : Int) (hi : 0 ≤ i ∧ i + 6 ≤ (L : Int) ∧ (L : Int) ≤ 3072) (σ : dkS) (h : LX σ) (K : ∀ σ1 : dkS, LX σ1 → dk_PJ E 1624 [(4, (-40)), (4, 0), (4, 141), (0, i)] [] 190 σ1) : dk_PJ E 626 [(4, (-40)), (4, 0), (4, 141), (0, i)] [] 190 σ := by
  obtain ⟨h, hb0, hb1⟩ := h
  refine dk_aload_n (pc' := 627) hE dL_law_626 rfl rfl rfl ?_
  refine dk_aload_n (pc' := 628) hE dL_law_627 rfl rfl rfl ?_
  refine dk_iload_n (pc' := 629) hE dL_law_628 rfl rfl rfl ?_
  refine dk_iconst (pc' := 630) hE dL_law_629 (by decide) rfl ?_
  obtain ⟨v1, hv1⟩ : ∃ z : Int, z = i + 1 := ⟨_, rfl⟩
  refine dk_iadd (pc' := 631) hE dL_law_630 hv1.symm (by omega) rfl ?_
  refine dk_sldx (pc' := 632) hE hX dL_law_631 (by omega) rfl (fun v2 hiv2 hxv2 => ?_)
  refine dk_aload_n (pc' := 633) hE dL_law_632 rfl rfl rfl ?_
  refine dk_iload_n (pc' := 634) hE dL_law_633 rfl rfl rfl ?_
  refine dk_iconst (pc' := 635) hE dL_law_634 (by decide) rfl ?_
  obtain ⟨v3, hv3⟩ : ∃ z : Int, z = i + 2 := ⟨_, rfl⟩
  refine dk_iadd (pc' := 636) hE dL_law_635 hv3.symm (by omega) rfl ?_
  refine dk_sldx (pc' := 637) hE hX dL_law_636 (by omega) rfl (fun v4 hiv4 hxv4 => ?_)
  refine dk_aload_n (pc' := 638) hE dL_law_637 rfl rfl rfl ?_
  refine dk_iload_n (pc' := 639) hE dL_law_638 rfl rfl rfl ?_
  refine dk_iconst (pc' := 640) hE dL_law_639 (by decide) rfl ?_
  obtain ⟨v5, hv5⟩ : ∃ z : Int, z = i + 3 := ⟨_, rfl⟩
  refine dk_iadd (pc' := 641) hE dL_law_640 hv5.symm (by omega) rfl ?_
  refine dk_sldx (pc' := 642) hE hX dL_law_641 (by omega) rfl (fun v6 hiv6 hxv6 => ?_)
  refine dk_cL (pc' := 645) (as := [(0, v2), (0, v4), (0, v6)]) hE lk_L_68 (ct_X10_like l G hGd v2 v4 v6 (σ 0 9)) dL_law_642 rfl is_0 rfl (by decide) (Nat.le_of_ble_eq_true rfl) ⟨rfl, h.1, h.2.1, rfl⟩ rfl (fun r8 σ7 hr8 _ => ?_)
  obtain ⟨v9, rfl, hfσ7, hpr8⟩ := hr8
  have hsσ7 : σ = σ7 := (funext (fun k => funext (fun j => hfσ7 k j not_false))).symm
  subst hsσ7
  refine dk_pop (pc' := 646) hE dL_law_645 (show (0 : Nat) ≠ 3 by decide) rfl ?_
  refine dk_aload_n (pc' := 647) hE dL_law_646 rfl rfl rfl ?_
  refine dk_aload_n (pc' := 648) hE dL_law_647 rfl rfl rfl ?_
  refine dk_iload_n (pc' := 649) hE dL_law_648 rfl rfl rfl ?_
  refine dk_iconst (pc' := 650) hE dL_law_649 (by decide) rfl ?_
  obtain ⟨v10, hv10⟩ : ∃ z : Int, z = i + 1 := ⟨_, rfl⟩
  refine dk_iadd (pc' := 651) hE dL_law_650 hv10.symm (by omega) rfl ?_
  refine dk_sldx (pc' := 652) hE hX dL_law_651 (by omega) rfl (fun v11 hiv11 hxv11 => ?_)
  have hqv11 : v11 = v2 := by rw [hxv11, hxv2, show v10 = v1 by omega]
  refine dk_aload_n (pc' := 653) hE dL_law_652 rfl rfl rfl ?_
  refine dk_iload_n (pc' := 654) hE dL_law_653 rfl rfl rfl ?_
  refine dk_iconst (pc' := 655) hE dL_law_654 (by decide) rfl ?_
  obtain ⟨v12, hv12⟩ : ∃ z : Int, z = i + 2 := ⟨_, rfl⟩
  refine dk_iadd (pc' := 656) hE dL_law_655 hv12.symm (by omega) rfl ?_
  refine dk_sldx (pc' := 657) hE hX dL_law_656 (by omega) rfl (fun v13 hiv13 hxv13 => ?_)
  have hqv13 : v13 = v4 := by rw [hxv13, hxv4, show v12 = v3 by omega]
  refine dk_aload_n (pc' := 658) hE dL_law_657 rfl rfl rfl ?_
  refine dk_iload_n (pc' := 659) hE dL_law_658 rfl rfl rfl ?_
  refine dk_iconst (pc' := 660) hE dL_law_659 (by decide) rfl ?_
  obtain ⟨v14, hv14⟩ : ∃ z : Int, z = i + 3 := ⟨_, rfl⟩
  refine dk_iadd (pc' := 661) hE dL_law_660 hv14.symm (by omega) rfl ?_
  refine dk_sldx (pc' := 662) hE hX dL_law_661 (by omega) rfl (fun v15 hiv15 hxv15 => ?_)
  have hqv15 : v15 = v6 := by rw [hxv15, hxv6, show v14 = v5 by omega]
  refine dk_cL (pc' := 665) (as := [(0, v11), (0, v13), (0, v15)]) hE lk_L_71 (ct_X11_like l G hGd v11 v13 v15) dL_law_662 rfl is_141 rfl (by decide) (Nat.le_of_ble_eq_true rfl) rfl rfl (fun r17 σ16 hr17 _ => ?_)
  obtain ⟨v18, rfl, hfσ16, hpr17⟩ := hr17
  have hsσ16 : σ = σ16 := (funext (fun k => funext (fun j => hfσ16 k j not_false))).symm
  subst hsσ16
  refine dk_pop (pc' := 666) hE dL_law_665 (show (0 : Nat) ≠ 3 by decide) rfl ?_
  refine dk_goto (tgt := 1624) hE dL_law_666 (by decide) ?_
  exact K σ ⟨h, by omega, by omega⟩
set_option maxHeartbeats 4000000 in
set_option maxRecDepth 20000 in
theorem lc_13 {E : dkE} {l : Launch} {G : dkG} {L : Nat} {xs : Nat → Int32} (hGd : dk_Gd G) (hE : dk_Good E cL_law RL 20 dk_Ty l G 0 4 600000 7302250) (hX : dk_Scx E L xs) (i : Int) (hi : 0 ≤ i ∧ i + 6 ≤ (L : Int) ∧ (L : Int) ≤ 3072) (σ : dkS) (h : LX σ) (K : ∀ σ1 : dkS, LX σ1 → dk_PJ E 1624 [(4, (-40)), (4, 0), (4, 141), (0, i)] [] 190 σ1) : dk_PJ E 669 [(4, (-40)), (4, 0), (4, 141), (0, i)] [] 190 σ := by
  obtain ⟨h, hb0, hb1⟩ := h
  refine dk_aload_n (pc' := 670) hE dL_law_669 rfl rfl rfl ?_
  refine dk_aload_n (pc' := 671) hE dL_law_670 rfl rfl rfl ?_
  refine dk_iload_n (pc' := 672) hE dL_law_671 rfl rfl rfl ?_
  refine dk_iconst (pc' := 673) hE dL_law_672 (by decide) rfl ?_
  obtain ⟨v1, hv1⟩ : ∃ z : Int, z = i + 1 := ⟨_, rfl⟩
  refine dk_iadd (pc' := 674) hE dL_law_673 hv1.symm (by omega) rfl ?_
  refine dk_sldx (pc' := 675) hE hX dL_law_674 (by omega) rfl (fun v2 hiv2 hxv2 => ?_)
  refine dk_cL (pc' := 678) (as := [(0, v2)]) hE lk_L_72 (ct_X10_rival l G hGd v2 (σ 0 9)) dL_law_675 rfl is_0 rfl (by decide) (Nat.le_of_ble_eq_true rfl) ⟨rfl, h.1, h.2.1, rfl⟩ rfl (fun r4 σ3 hr4 _ => ?_)
  obtain ⟨v5, rfl, hfσ3, hpr4⟩ := hr4
  have hsσ3 : σ = σ3 := (funext (fun k => funext (fun j => hfσ3 k j not_false))).symm
  subst hsσ3
  refine dk_pop (pc' := 679) hE dL_law_678 (show (0 : Nat) ≠ 3 by decide) rfl ?_
  refine dk_aload_n (pc' := 680) hE dL_law_679 rfl rfl rfl ?_
  refine dk_aload_n (pc' := 681) hE dL_law_680 rfl rfl rfl ?_
  refine dk_iload_n (pc' := 682) hE dL_law_681 rfl rfl rfl ?_
  refine dk_iconst (pc' := 683) hE dL_law_682 (by decide) rfl ?_
  obtain ⟨v6, hv6⟩ : ∃ z : Int, z = i + 1 := ⟨_, rfl⟩
  refine dk_iadd (pc' := 684) hE dL_law_683 hv6.symm (by omega) rfl ?_
  refine dk_sldx (pc' := 685) hE hX dL_law_684 (by omega) rfl (fun v7 hiv7 hxv7 => ?_)
  have hqv7 : v7 = v2 := by rw [hxv7, hxv2, show v6 = v1 by omega]
  refine dk_cL (pc' := 688) (as := [(0, v7)]) hE lk_L_75 (ct_X11_rival l G hGd v7) dL_law_685 rfl is_141 rfl (by decide) (Nat.le_of_ble_eq_true rfl) rfl rfl (fun r9 σ8 hr9 _ => ?_)
  obtain ⟨v10, rfl, hfσ8, hpr9⟩ := hr9
  have hsσ8 : σ = σ8 := (funext (fun k => funext (fun j => hfσ8 k j not_false))).symm
  subst hsσ8
  refine dk_pop (pc' := 689) hE dL_law_688 (show (0 : Nat) ≠ 3 by decide) rfl ?_
  refine dk_goto (tgt := 1624) hE dL_law_689 (by decide) ?_
  exact K σ ⟨h, by omega, by omega⟩
set_option maxHeartbeats 4000000 in
set_option maxRecDepth 20000 in
theorem lc_14 {E : dkE} {l : Launch} {G : dkG} {L : Nat} {xs : Nat → Int32} (hGd : dk_Gd G) (hE : dk_Good E cL_law RL 20 dk_Ty l G 0 4 600000 7302250) (hX : dk_Scx E L xs) (i : Int) (hi : 0 ≤ i ∧ i + 6 ≤ (L : Int) ∧ (L : Int) ≤ 3072) (σ : dkS) (h : LX σ) (K : ∀ σ1 : dkS, LX σ1 → dk_PJ E 1624 [(4, (-40)), (4, 0), (4, 141), (0, i)] [] 190 σ1) : dk_PJ E 692 [(4, (-40)), (4, 0), (4, 141), (0, i)] [] 190 σ := by
  obtain ⟨h, hb0, hb1⟩ := h
  refine dk_aload_n (pc' := 693) hE dL_law_692 rfl rfl rfl ?_
  refine dk_cL (pc' := 696) (as := []) hE lk_L_76 (ct_X10_body_r l G hGd) dL_law_693 rfl is_0 rfl (by decide) (Nat.le_of_ble_eq_true rfl) rfl rfl (fun r2 σ1 hr2 _ => ?_)
  obtain ⟨v3, rfl, hfσ1, hpr2⟩ := hr2
  have hzσ1141_52 := hfσ1 141 52 (by omega)
  have hzσ137_8 := hfσ1 37 8 (by omega)
  have hzσ1141_54 := hfσ1 141 54 (by omega)
  have L4 : LI σ1 := ⟨GI_fr h.1 (fun k j q => hfσ1 k j (by omega)), by rw [hfσ1 0 9 (by omega)]; exact h.2.1, MI_fr h.2.2 (fun k j q => hfσ1 k j (by omega))⟩
  refine dk_pop (pc' := 697) hE dL_law_696 (show (0 : Nat) ≠ 3 by decide) rfl ?_
  refine dk_aload_n (pc' := 698) hE dL_law_697 rfl rfl rfl ?_
  refine dk_cL (pc' := 701) (as := []) hE lk_L_79 (ct_X11_body_r l G hGd) dL_law_698 rfl is_141 rfl (by decide) (Nat.le_of_ble_eq_true rfl) rfl rfl (fun r6 σ5 hr6 _ => ?_)
  obtain ⟨v7, rfl, hfσ5, hpr6⟩ := hr6
  have hzσ50_12 := hfσ5 0 12 (by omega)
  have hzσ537_8 := hfσ5 37 8 (by omega)
  have hzσ5141_54 := hfσ5 141 54 (by omega)
  have L8 : LI σ5 := ⟨GI_fr L4.1 (fun k j q => hfσ5 k j (by omega)), by rw [hfσ5 0 9 (by omega)]; exact L4.2.1, MI_fr L4.2.2 (fun k j q => hfσ5 k j (by omega))⟩
  refine dk_pop (pc' := 702) hE dL_law_701 (show (0 : Nat) ≠ 3 by decide) rfl ?_
  refine dk_goto (tgt := 1624) hE dL_law_702 (by decide) ?_
  exact K σ5 ⟨L8, by omega, by omega⟩
set_option maxHeartbeats 4000000 in
set_option maxRecDepth 20000 in
theorem lc_15 {E : dkE} {l : Launch} {G : dkG} {L : Nat} {xs : Nat → Int32} (hGd : dk_Gd G) (hE : dk_Good E cL_law RL 20 dk_Ty l G 0 4 600000 7302250) (hX : dk_Scx E L xs) (i : Int) (hi : 0 ≤ i ∧ i + 6 ≤ (L : Int) ∧ (L : Int) ≤ 3072) (σ : dkS) (h : LX σ) (K : ∀ σ1 : dkS, LX σ1 → dk_PJ E 1624 [(4, (-40)), (4, 0), (4, 141), (0, i)] [] 190 σ1) : dk_PJ E 705 [(4, (-40)), (4, 0), (4, 141), (0, i)] [] 190 σ := by
  obtain ⟨h, hb0, hb1⟩ := h
  refine dk_aload_n (pc' := 706) hE dL_law_705 rfl rfl rfl ?_
  refine dk_aload_n (pc' := 707) hE dL_law_706 rfl rfl rfl ?_
  refine dk_iload_n (pc' := 708) hE dL_law_707 rfl rfl rfl ?_
  refine dk_iconst (pc' := 709) hE dL_law_708 (by decide) rfl ?_
  obtain ⟨v1, hv1⟩ : ∃ z : Int, z = i + 1 := ⟨_, rfl⟩
  refine dk_iadd (pc' := 710) hE dL_law_709 hv1.symm (by omega) rfl ?_
  refine dk_sldx (pc' := 711) hE hX dL_law_710 (by omega) rfl (fun v2 hiv2 hxv2 => ?_)
  refine dk_aload_n (pc' := 712) hE dL_law_711 rfl rfl rfl ?_
  refine dk_iload_n (pc' := 713) hE dL_law_712 rfl rfl rfl ?_
  refine dk_iconst (pc' := 714) hE dL_law_713 (by decide) rfl ?_
  obtain ⟨v3, hv3⟩ : ∃ z : Int, z = i + 2 := ⟨_, rfl⟩
  refine dk_iadd (pc' := 715) hE dL_law_714 hv3.symm (by omega) rfl ?_
  refine dk_sldx (pc' := 716) hE hX dL_law_715 (by omega) rfl (fun v4 hiv4 hxv4 => ?_)
  refine dk_aload_n (pc' := 717) hE dL_law_716 rfl rfl rfl ?_
  refine dk_iload_n (pc' := 718) hE dL_law_717 rfl rfl rfl ?_
  refine dk_iconst (pc' := 719) hE dL_law_718 (by decide) rfl ?_
  obtain ⟨v5, hv5⟩ : ∃ z : Int, z = i + 3 := ⟨_, rfl⟩
  refine dk_iadd (pc' := 720) hE dL_law_719 hv5.symm (by omega) rfl ?_
  refine dk_sldx (pc' := 721) hE hX dL_law_720 (by omega) rfl (fun v6 hiv6 hxv6 => ?_)
  refine dk_cL (pc' := 724) (as := [(0, v2), (0, v4), (0, v6)]) hE lk_L_80 (ct_X10_knows l G hGd v2 v4 v6 (σ 0 9)) dL_law_721 rfl is_0 rfl (by decide) (Nat.le_of_ble_eq_true rfl) ⟨rfl, h.1, h.2.1, rfl⟩ rfl (fun r8 σ7 hr8 _ => ?_)
  obtain ⟨v9, rfl, hfσ7, hpr8⟩ := hr8
  have hzσ70_12 := hfσ7 0 12 (by omega)
  have hzσ7141_52 := hfσ7 141 52 (by omega)
  have hzσ737_8 := hfσ7 37 8 (by omega)
  have hzσ7141_54 := hfσ7 141 54 (by omega)
  have L10 : LI σ7 := ⟨GI_fr h.1 (fun k j q => hfσ7 k j (by omega)), by rw [hfσ7 0 9 (by omega)]; exact h.2.1, MI_fr h.2.2 (fun k j q => hfσ7 k j (by omega))⟩
  refine dk_pop (pc' := 725) hE dL_law_724 (show (0 : Nat) ≠ 3 by decide) rfl ?_
  refine dk_aload_n (pc' := 726) hE dL_law_725 rfl rfl rfl ?_
  refine dk_aload_n (pc' := 727) hE dL_law_726 rfl rfl rfl ?_
  refine dk_iload_n (pc' := 728) hE dL_law_727 rfl rfl rfl ?_
  refine dk_iconst (pc' := 729) hE dL_law_728 (by decide) rfl ?_
  obtain ⟨v11, hv11⟩ : ∃ z : Int, z = i + 1 := ⟨_, rfl⟩
  refine dk_iadd (pc' := 730) hE dL_law_729 hv11.symm (by omega) rfl ?_
  refine dk_sldx (pc' := 731) hE hX dL_law_730 (by omega) rfl (fun v12 hiv12 hxv12 => ?_)
  have hqv12 : v12 = v2 := by rw [hxv12, hxv2, show v11 = v1 by omega]
  refine dk_aload_n (pc' := 732) hE dL_law_731 rfl rfl rfl ?_
  refine dk_iload_n (pc' := 733) hE dL_law_732 rfl rfl rfl ?_
  refine dk_iconst (pc' := 734) hE dL_law_733 (by decide) rfl ?_
  obtain ⟨v13, hv13⟩ : ∃ z : Int, z = i + 2 := ⟨_, rfl⟩
  refine dk_iadd (pc' := 735) hE dL_law_734 hv13.symm (by omega) rfl ?_
  refine dk_sldx (pc' := 736) hE hX dL_law_735 (by omega) rfl (fun v14 hiv14 hxv14 => ?_)
  have hqv14 : v14 = v4 := by rw [hxv14, hxv4, show v13 = v3 by omega]
  refine dk_aload_n (pc' := 737) hE dL_law_736 rfl rfl rfl ?_
  refine dk_iload_n (pc' := 738) hE dL_law_737 rfl rfl rfl ?_
  refine dk_iconst (pc' := 739) hE dL_law_738 (by decide) rfl ?_
  obtain ⟨v15, hv15⟩ : ∃ z : Int, z = i + 3 := ⟨_, rfl⟩
  refine dk_iadd (pc' := 740) hE dL_law_739 hv15.symm (by omega) rfl ?_
  refine dk_sldx (pc' := 741) hE hX dL_law_740 (by omega) rfl (fun v16 hiv16 hxv16 => ?_)
  have hqv16 : v16 = v6 := by rw [hxv16, hxv6, show v15 = v5 by omega]
  refine dk_cL (pc' := 744) (as := [(0, v12), (0, v14), (0, v16)]) hE lk_L_83 (ct_X11_knows l G hGd v12 v14 v16) dL_law_741 rfl is_141 rfl (by decide) (Nat.le_of_ble_eq_true rfl) ⟨rfl, L10.2.2⟩ rfl (fun r18 σ17 hr18 _ => ?_)
  obtain ⟨v19, rfl, hfσ17, hpr18⟩ := hr18
  have hzσ170_12 := hfσ17 0 12 (by omega)
  have hzσ17141_52 := hfσ17 141 52 (by omega)
  have hzσ1737_8 := hfσ17 37 8 (by omega)
  have hzσ17141_54 := hfσ17 141 54 (by omega)
  have L20 : LI σ17 := ⟨GI_fr L10.1 (fun k j q => hfσ17 k j (by omega)), by rw [hfσ17 0 9 (by omega)]; exact L10.2.1, hpr18.2⟩
  refine dk_pop (pc' := 745) hE dL_law_744 (show (0 : Nat) ≠ 3 by decide) rfl ?_
  refine dk_goto (tgt := 1624) hE dL_law_745 (by decide) ?_
  exact K σ17 ⟨L20, by omega, by omega⟩
set_option maxHeartbeats 4000000 in
set_option maxRecDepth 20000 in
theorem lc_16 {E : dkE} {l : Launch} {G : dkG} {L : Nat} {xs : Nat → Int32} (hGd : dk_Gd G) (hE : dk_Good E cL_law RL 20 dk_Ty l G 0 4 600000 7302250) (hX : dk_Scx E L xs) (i : Int) (hi : 0 ≤ i ∧ i + 6 ≤ (L : Int) ∧ (L : Int) ≤ 3072) (σ : dkS) (h : LX σ) (K : ∀ σ1 : dkS, LX σ1 → dk_PJ E 1624 [(4, (-40)), (4, 0), (4, 141), (0, i)] [] 190 σ1) : dk_PJ E 748 [(4, (-40)), (4, 0), (4, 141), (0, i)] [] 190 σ := by
  obtain ⟨h, hb0, hb1⟩ := h
  refine dk_aload_n (pc' := 749) hE dL_law_748 rfl rfl rfl ?_
  refine dk_aload_n (pc' := 750) hE dL_law_749 rfl rfl rfl ?_
  refine dk_iload_n (pc' := 751) hE dL_law_750 rfl rfl rfl ?_
  refine dk_iconst (pc' := 752) hE dL_law_751 (by decide) rfl ?_
  obtain ⟨v1, hv1⟩ : ∃ z : Int, z = i + 1 := ⟨_, rfl⟩
  refine dk_iadd (pc' := 753) hE dL_law_752 hv1.symm (by omega) rfl ?_
  refine dk_sldx (pc' := 754) hE hX dL_law_753 (by omega) rfl (fun v2 hiv2 hxv2 => ?_)
  refine dk_aload_n (pc' := 755) hE dL_law_754 rfl rfl rfl ?_
  refine dk_iload_n (pc' := 756) hE dL_law_755 rfl rfl rfl ?_
  refine dk_iconst (pc' := 757) hE dL_law_756 (by decide) rfl ?_
  obtain ⟨v3, hv3⟩ : ∃ z : Int, z = i + 2 := ⟨_, rfl⟩
  refine dk_iadd (pc' := 758) hE dL_law_757 hv3.symm (by omega) rfl ?_
  refine dk_sldx (pc' := 759) hE hX dL_law_758 (by omega) rfl (fun v4 hiv4 hxv4 => ?_)
  refine dk_aload_n (pc' := 760) hE dL_law_759 rfl rfl rfl ?_
  refine dk_iload_n (pc' := 761) hE dL_law_760 rfl rfl rfl ?_
  refine dk_iconst (pc' := 762) hE dL_law_761 (by decide) rfl ?_
  obtain ⟨v5, hv5⟩ : ∃ z : Int, z = i + 3 := ⟨_, rfl⟩
  refine dk_iadd (pc' := 763) hE dL_law_762 hv5.symm (by omega) rfl ?_
  refine dk_sldx (pc' := 764) hE hX dL_law_763 (by omega) rfl (fun v6 hiv6 hxv6 => ?_)
  refine dk_cL (pc' := 767) (as := [(0, v2), (0, v4), (0, v6)]) hE lk_L_84 (ct_X10_danced l G hGd v2 v4 v6 (σ 0 9)) dL_law_764 rfl is_0 rfl (by decide) (Nat.le_of_ble_eq_true rfl) ⟨rfl, h.1, h.2.1, rfl⟩ rfl (fun r8 σ7 hr8 _ => ?_)
  obtain ⟨v9, rfl, hfσ7, hpr8⟩ := hr8
  have hzσ70_12 := hfσ7 0 12 (by omega)
  have hzσ7141_52 := hfσ7 141 52 (by omega)
  have hzσ737_8 := hfσ7 37 8 (by omega)
  have hzσ7141_54 := hfσ7 141 54 (by omega)
  have L10 : LI σ7 := ⟨GI_fr h.1 (fun k j q => hfσ7 k j (by omega)), by rw [hfσ7 0 9 (by omega)]; exact h.2.1, MI_fr h.2.2 (fun k j q => hfσ7 k j (by omega))⟩
  refine dk_pop (pc' := 768) hE dL_law_767 (show (0 : Nat) ≠ 3 by decide) rfl ?_
  refine dk_aload_n (pc' := 769) hE dL_law_768 rfl rfl rfl ?_
  refine dk_aload_n (pc' := 770) hE dL_law_769 rfl rfl rfl ?_
  refine dk_iload_n (pc' := 771) hE dL_law_770 rfl rfl rfl ?_
  refine dk_iconst (pc' := 772) hE dL_law_771 (by decide) rfl ?_
  obtain ⟨v11, hv11⟩ : ∃ z : Int, z = i + 1 := ⟨_, rfl⟩
  refine dk_iadd (pc' := 773) hE dL_law_772 hv11.symm (by omega) rfl ?_
  refine dk_sldx (pc' := 774) hE hX dL_law_773 (by omega) rfl (fun v12 hiv12 hxv12 => ?_)
  have hqv12 : v12 = v2 := by rw [hxv12, hxv2, show v11 = v1 by omega]
  refine dk_aload_n (pc' := 775) hE dL_law_774 rfl rfl rfl ?_
  refine dk_iload_n (pc' := 776) hE dL_law_775 rfl rfl rfl ?_
  refine dk_iconst (pc' := 777) hE dL_law_776 (by decide) rfl ?_
  obtain ⟨v13, hv13⟩ : ∃ z : Int, z = i + 2 := ⟨_, rfl⟩
  refine dk_iadd (pc' := 778) hE dL_law_777 hv13.symm (by omega) rfl ?_
  refine dk_sldx (pc' := 779) hE hX dL_law_778 (by omega) rfl (fun v14 hiv14 hxv14 => ?_)
  have hqv14 : v14 = v4 := by rw [hxv14, hxv4, show v13 = v3 by omega]
  refine dk_aload_n (pc' := 780) hE dL_law_779 rfl rfl rfl ?_
  refine dk_iload_n (pc' := 781) hE dL_law_780 rfl rfl rfl ?_
  refine dk_iconst (pc' := 782) hE dL_law_781 (by decide) rfl ?_
  obtain ⟨v15, hv15⟩ : ∃ z : Int, z = i + 3 := ⟨_, rfl⟩
  refine dk_iadd (pc' := 783) hE dL_law_782 hv15.symm (by omega) rfl ?_
  refine dk_sldx (pc' := 784) hE hX dL_law_783 (by omega) rfl (fun v16 hiv16 hxv16 => ?_)
  have hqv16 : v16 = v6 := by rw [hxv16, hxv6, show v15 = v5 by omega]
  refine dk_cL (pc' := 787) (as := [(0, v12), (0, v14), (0, v16)]) hE lk_L_87 (ct_X11_danced l G hGd v12 v14 v16) dL_law_784 rfl is_141 rfl (by decide) (Nat.le_of_ble_eq_true rfl) ⟨rfl, L10.2.2⟩ rfl (fun r18 σ17 hr18 _ => ?_)
  obtain ⟨v19, rfl, hfσ17, hpr18⟩ := hr18
  have hzσ170_12 := hfσ17 0 12 (by omega)
  have hzσ17141_52 := hfσ17 141 52 (by omega)
  have hzσ1737_8 := hfσ17 37 8 (by omega)
  have hzσ17141_54 := hfσ17 141 54 (by omega)
  have L20 : LI σ17 := ⟨GI_fr L10.1 (fun k j q => hfσ17 k j (by omega)), by rw [hfσ17 0 9 (by omega)]; exact L10.2.1, hpr18.2⟩
  refine dk_pop (pc' := 788) hE dL_law_787 (show (0 : Nat) ≠ 3 by decide) rfl ?_
  refine dk_goto (tgt := 1624) hE dL_law_788 (by decide) ?_
  exact K σ17 ⟨L20, by omega, by omega⟩
set_option maxHeartbeats 4000000 in
set_option maxRecDepth 20000 in
theorem lc_17 {E : dkE} {l : Launch} {G : dkG} {L : Nat} {xs : Nat → Int32} (hGd : dk_Gd G) (hE : dk_Good E cL_law RL 20 dk_Ty l G 0 4 600000 7302250) (hX : dk_Scx E L xs) (i : Int) (hi : 0 ≤ i ∧ i + 6 ≤ (L : Int) ∧ (L : Int) ≤ 3072) (σ : dkS) (h : LX σ) (K : ∀ σ1 : dkS, LX σ1 → dk_PJ E 1624 [(4, (-40)), (4, 0), (4, 141), (0, i)] [] 190 σ1) : dk_PJ E 791 [(4, (-40)), (4, 0), (4, 141), (0, i)] [] 190 σ := by
  obtain ⟨h, hb0, hb1⟩ := h
  refine dk_aload_n (pc' := 792) hE dL_law_791 rfl rfl rfl ?_
  refine dk_aload_n (pc' := 793) hE dL_law_792 rfl rfl rfl ?_
  refine dk_iload_n (pc' := 794) hE dL_law_793 rfl rfl rfl ?_
  refine dk_iconst (pc' := 795) hE dL_law_794 (by decide) rfl ?_
  obtain ⟨v1, hv1⟩ : ∃ z : Int, z = i + 1 := ⟨_, rfl⟩
  refine dk_iadd (pc' := 796) hE dL_law_795 hv1.symm (by omega) rfl ?_
  refine dk_sldx (pc' := 797) hE hX dL_law_796 (by omega) rfl (fun v2 hiv2 hxv2 => ?_)
  refine dk_aload_n (pc' := 798) hE dL_law_797 rfl rfl rfl ?_
  refine dk_iload_n (pc' := 799) hE dL_law_798 rfl rfl rfl ?_
  refine dk_iconst (pc' := 800) hE dL_law_799 (by decide) rfl ?_
  obtain ⟨v3, hv3⟩ : ∃ z : Int, z = i + 2 := ⟨_, rfl⟩
  refine dk_iadd (pc' := 801) hE dL_law_800 hv3.symm (by omega) rfl ?_
  refine dk_sldx (pc' := 802) hE hX dL_law_801 (by omega) rfl (fun v4 hiv4 hxv4 => ?_)
  refine dk_aload_n (pc' := 803) hE dL_law_802 rfl rfl rfl ?_
  refine dk_iload_n (pc' := 804) hE dL_law_803 rfl rfl rfl ?_
  refine dk_iconst (pc' := 805) hE dL_law_804 (by decide) rfl ?_
  obtain ⟨v5, hv5⟩ : ∃ z : Int, z = i + 3 := ⟨_, rfl⟩
  refine dk_iadd (pc' := 806) hE dL_law_805 hv5.symm (by omega) rfl ?_
  refine dk_sldx (pc' := 807) hE hX dL_law_806 (by omega) rfl (fun v6 hiv6 hxv6 => ?_)
  refine dk_cL (pc' := 810) (as := [(0, v2), (0, v4), (0, v6)]) hE lk_L_88 (ct_X10_out l G hGd v2 v4 v6 (σ 0 9)) dL_law_807 rfl is_0 rfl (by decide) (Nat.le_of_ble_eq_true rfl) ⟨rfl, h.1, h.2.1, rfl⟩ rfl (fun r8 σ7 hr8 _ => ?_)
  obtain ⟨v9, rfl, hfσ7, hpr8⟩ := hr8
  have hzσ70_12 := hfσ7 0 12 (by omega)
  have hzσ7141_52 := hfσ7 141 52 (by omega)
  have hzσ737_8 := hfσ7 37 8 (by omega)
  have hzσ7141_54 := hfσ7 141 54 (by omega)
  have L10 : LI σ7 := ⟨GI_fr h.1 (fun k j q => hfσ7 k j (by omega)), by rw [hfσ7 0 9 (by omega)]; exact h.2.1, MI_fr h.2.2 (fun k j q => hfσ7 k j (by omega))⟩
  refine dk_pop (pc' := 811) hE dL_law_810 (show (0 : Nat) ≠ 3 by decide) rfl ?_
  refine dk_aload_n (pc' := 812) hE dL_law_811 rfl rfl rfl ?_
  refine dk_aload_n (pc' := 813) hE dL_law_812 rfl rfl rfl ?_
  refine dk_iload_n (pc' := 814) hE dL_law_813 rfl rfl rfl ?_
  refine dk_iconst (pc' := 815) hE dL_law_814 (by decide) rfl ?_
  obtain ⟨v11, hv11⟩ : ∃ z : Int, z = i + 1 := ⟨_, rfl⟩
  refine dk_iadd (pc' := 816) hE dL_law_815 hv11.symm (by omega) rfl ?_
  refine dk_sldx (pc' := 817) hE hX dL_law_816 (by omega) rfl (fun v12 hiv12 hxv12 => ?_)
  have hqv12 : v12 = v2 := by rw [hxv12, hxv2, show v11 = v1 by omega]
  refine dk_aload_n (pc' := 818) hE dL_law_817 rfl rfl rfl ?_
  refine dk_iload_n (pc' := 819) hE dL_law_818 rfl rfl rfl ?_
  refine dk_iconst (pc' := 820) hE dL_law_819 (by decide) rfl ?_
  obtain ⟨v13, hv13⟩ : ∃ z : Int, z = i + 2 := ⟨_, rfl⟩
  refine dk_iadd (pc' := 821) hE dL_law_820 hv13.symm (by omega) rfl ?_
  refine dk_sldx (pc' := 822) hE hX dL_law_821 (by omega) rfl (fun v14 hiv14 hxv14 => ?_)
  have hqv14 : v14 = v4 := by rw [hxv14, hxv4, show v13 = v3 by omega]
  refine dk_aload_n (pc' := 823) hE dL_law_822 rfl rfl rfl ?_
  refine dk_iload_n (pc' := 824) hE dL_law_823 rfl rfl rfl ?_
  refine dk_iconst (pc' := 825) hE dL_law_824 (by decide) rfl ?_
  obtain ⟨v15, hv15⟩ : ∃ z : Int, z = i + 3 := ⟨_, rfl⟩
  refine dk_iadd (pc' := 826) hE dL_law_825 hv15.symm (by omega) rfl ?_
  refine dk_sldx (pc' := 827) hE hX dL_law_826 (by omega) rfl (fun v16 hiv16 hxv16 => ?_)
  have hqv16 : v16 = v6 := by rw [hxv16, hxv6, show v15 = v5 by omega]
  refine dk_cL (pc' := 830) (as := [(0, v12), (0, v14), (0, v16)]) hE lk_L_91 (ct_X11_out l G hGd v12 v14 v16) dL_law_827 rfl is_141 rfl (by decide) (Nat.le_of_ble_eq_true rfl) ⟨rfl, L10.2.2⟩ rfl (fun r18 σ17 hr18 _ => ?_)
  obtain ⟨v19, rfl, hfσ17, hpr18⟩ := hr18
  have hzσ170_12 := hfσ17 0 12 (by omega)
  have hzσ17141_52 := hfσ17 141 52 (by omega)
  have hzσ1737_8 := hfσ17 37 8 (by omega)
  have hzσ17141_54 := hfσ17 141 54 (by omega)
  have L20 : LI σ17 := ⟨GI_fr L10.1 (fun k j q => hfσ17 k j (by omega)), by rw [hfσ17 0 9 (by omega)]; exact L10.2.1, hpr18.2⟩
  refine dk_pop (pc' := 831) hE dL_law_830 (show (0 : Nat) ≠ 3 by decide) rfl ?_
  refine dk_goto (tgt := 1624) hE dL_law_831 (by decide) ?_
  exact K σ17 ⟨L20, by omega, by omega⟩
set_option maxHeartbeats 4000000 in
set_option maxRecDepth 20000 in
theorem lc_18 {E : dkE} {l : Launch} {G : dkG} {L : Nat} {xs : Nat → Int32} (hGd : dk_Gd G) (hE : dk_Good E cL_law RL 20 dk_Ty l G 0 4 600000 7302250) (hX : dk_Scx E L xs) (i : Int) (hi : 0 ≤ i ∧ i + 6 ≤ (L : Int) ∧ (L : Int) ≤ 3072) (σ : dkS) (h : LX σ) (K : ∀ σ1 : dkS, LX σ1 → dk_PJ E 1624 [(4, (-40)), (4, 0), (4, 141), (0, i)] [] 190 σ1) : dk_PJ E 834 [(4, (-40)), (4, 0), (4, 141), (0, i)] [] 190 σ := by
  obtain ⟨h, hb0, hb1⟩ := h
  refine dk_aload_n (pc' := 835) hE dL_law_834 rfl rfl rfl ?_
  refine dk_aload_n (pc' := 836) hE dL_law_835 rfl rfl rfl ?_
  refine dk_iload_n (pc' := 837) hE dL_law_836 rfl rfl rfl ?_
  refine dk_iconst (pc' := 838) hE dL_law_837 (by decide) rfl ?_
  obtain ⟨v1, hv1⟩ : ∃ z : Int, z = i + 1 := ⟨_, rfl⟩
  refine dk_iadd (pc' := 839) hE dL_law_838 hv1.symm (by omega) rfl ?_
  refine dk_sldx (pc' := 840) hE hX dL_law_839 (by omega) rfl (fun v2 hiv2 hxv2 => ?_)
  refine dk_aload_n (pc' := 841) hE dL_law_840 rfl rfl rfl ?_
  refine dk_iload_n (pc' := 842) hE dL_law_841 rfl rfl rfl ?_
  refine dk_iconst (pc' := 843) hE dL_law_842 (by decide) rfl ?_
  obtain ⟨v3, hv3⟩ : ∃ z : Int, z = i + 2 := ⟨_, rfl⟩
  refine dk_iadd (pc' := 844) hE dL_law_843 hv3.symm (by omega) rfl ?_
  refine dk_sldx (pc' := 845) hE hX dL_law_844 (by omega) rfl (fun v4 hiv4 hxv4 => ?_)
  refine dk_cL (pc' := 848) (as := [(0, v2), (0, v4)]) hE lk_L_92 (ct_X10_leaves l G hGd v2 v4 (σ 0 9)) dL_law_845 rfl is_0 rfl (by decide) (Nat.le_of_ble_eq_true rfl) ⟨rfl, h.1, h.2.1, rfl⟩ rfl (fun r6 σ5 hr6 _ => ?_)
  obtain ⟨v7, rfl, hfσ5, hpr6⟩ := hr6
  have hzσ50_12 := hfσ5 0 12 (by omega)
  have hzσ5141_52 := hfσ5 141 52 (by omega)
  have hzσ537_8 := hfσ5 37 8 (by omega)
  have hzσ5141_54 := hfσ5 141 54 (by omega)
  have L8 : LI σ5 := ⟨GI_fr h.1 (fun k j q => hfσ5 k j (by omega)), by rw [hfσ5 0 9 (by omega)]; exact h.2.1, MI_fr h.2.2 (fun k j q => hfσ5 k j (by omega))⟩
  refine dk_pop (pc' := 849) hE dL_law_848 (show (0 : Nat) ≠ 3 by decide) rfl ?_
  refine dk_aload_n (pc' := 850) hE dL_law_849 rfl rfl rfl ?_
  refine dk_aload_n (pc' := 851) hE dL_law_850 rfl rfl rfl ?_
  refine dk_iload_n (pc' := 852) hE dL_law_851 rfl rfl rfl ?_
  refine dk_iconst (pc' := 853) hE dL_law_852 (by decide) rfl ?_
  obtain ⟨v9, hv9⟩ : ∃ z : Int, z = i + 1 := ⟨_, rfl⟩
  refine dk_iadd (pc' := 854) hE dL_law_853 hv9.symm (by omega) rfl ?_
  refine dk_sldx (pc' := 855) hE hX dL_law_854 (by omega) rfl (fun v10 hiv10 hxv10 => ?_)
  have hqv10 : v10 = v2 := by rw [hxv10, hxv2, show v9 = v1 by omega]
  refine dk_aload_n (pc' := 856) hE dL_law_855 rfl rfl rfl ?_
  refine dk_iload_n (pc' := 857) hE dL_law_856 rfl rfl rfl ?_
  refine dk_iconst (pc' := 858) hE dL_law_857 (by decide) rfl ?_
  obtain ⟨v11, hv11⟩ : ∃ z : Int, z = i + 2 := ⟨_, rfl⟩
  refine dk_iadd (pc' := 859) hE dL_law_858 hv11.symm (by omega) rfl ?_
  refine dk_sldx (pc' := 860) hE hX dL_law_859 (by omega) rfl (fun v12 hiv12 hxv12 => ?_)
  have hqv12 : v12 = v4 := by rw [hxv12, hxv4, show v11 = v3 by omega]
  refine dk_cL (pc' := 863) (as := [(0, v10), (0, v12)]) hE lk_L_95 (ct_X11_leaves l G hGd v10 v12) dL_law_860 rfl is_141 rfl (by decide) (Nat.le_of_ble_eq_true rfl) ⟨rfl, L8.2.2⟩ rfl (fun r14 σ13 hr14 _ => ?_)
  obtain ⟨v15, rfl, hfσ13, hpr14⟩ := hr14
  have hzσ130_12 := hfσ13 0 12 (by omega)
  have hzσ13141_52 := hfσ13 141 52 (by omega)
  have hzσ1337_8 := hfσ13 37 8 (by omega)
  have hzσ13141_54 := hfσ13 141 54 (by omega)
  have L16 : LI σ13 := ⟨GI_fr L8.1 (fun k j q => hfσ13 k j (by omega)), by rw [hfσ13 0 9 (by omega)]; exact L8.2.1, hpr14.2⟩
  refine dk_pop (pc' := 864) hE dL_law_863 (show (0 : Nat) ≠ 3 by decide) rfl ?_
  refine dk_goto (tgt := 1624) hE dL_law_864 (by decide) ?_
  exact K σ13 ⟨L16, by omega, by omega⟩
set_option maxHeartbeats 4000000 in
set_option maxRecDepth 20000 in
theorem lc_19 {E : dkE} {l : Launch} {G : dkG} {L : Nat} {xs : Nat → Int32} (hGd : dk_Gd G) (hE : dk_Good E cL_law RL 20 dk_Ty l G 0 4 600000 7302250) (hX : dk_Scx E L xs) (i : Int) (hi : 0 ≤ i ∧ i + 6 ≤ (L : Int) ∧ (L : Int) ≤ 3072) (σ : dkS) (h : LX σ) (K : ∀ σ1 : dkS, LX σ1 → dk_PJ E 1624 [(4, (-40)), (4, 0), (4, 141), (0, i)] [] 190 σ1) : dk_PJ E 867 [(4, (-40)), (4, 0), (4, 141), (0, i)] [] 190 σ := by
  obtain ⟨h, hb0, hb1⟩ := h
  refine dk_aload_n (pc' := 868) hE dL_law_867 rfl rfl rfl ?_
  refine dk_aload_n (pc' := 869) hE dL_law_868 rfl rfl rfl ?_
  refine dk_iload_n (pc' := 870) hE dL_law_869 rfl rfl rfl ?_
  refine dk_iconst (pc' := 871) hE dL_law_870 (by decide) rfl ?_
  obtain ⟨v1, hv1⟩ : ∃ z : Int, z = i + 1 := ⟨_, rfl⟩
  refine dk_iadd (pc' := 872) hE dL_law_871 hv1.symm (by omega) rfl ?_
  refine dk_sldx (pc' := 873) hE hX dL_law_872 (by omega) rfl (fun v2 hiv2 hxv2 => ?_)
  refine dk_aload_n (pc' := 874) hE dL_law_873 rfl rfl rfl ?_
  refine dk_iload_n (pc' := 875) hE dL_law_874 rfl rfl rfl ?_
  refine dk_iconst (pc' := 876) hE dL_law_875 (by decide) rfl ?_
  obtain ⟨v3, hv3⟩ : ∃ z : Int, z = i + 2 := ⟨_, rfl⟩
  refine dk_iadd (pc' := 877) hE dL_law_876 hv3.symm (by omega) rfl ?_
  refine dk_sldx (pc' := 878) hE hX dL_law_877 (by omega) rfl (fun v4 hiv4 hxv4 => ?_)
  refine dk_aload_n (pc' := 879) hE dL_law_878 rfl rfl rfl ?_
  refine dk_iload_n (pc' := 880) hE dL_law_879 rfl rfl rfl ?_
  refine dk_iconst (pc' := 881) hE dL_law_880 (by decide) rfl ?_
  obtain ⟨v5, hv5⟩ : ∃ z : Int, z = i + 3 := ⟨_, rfl⟩
  refine dk_iadd (pc' := 882) hE dL_law_881 hv5.symm (by omega) rfl ?_
  refine dk_sldx (pc' := 883) hE hX dL_law_882 (by omega) rfl (fun v6 hiv6 hxv6 => ?_)
  refine dk_cL (pc' := 886) (as := [(0, v2), (0, v4), (0, v6)]) hE lk_L_96 (ct_X10_film l G hGd v2 v4 v6 (σ 0 9)) dL_law_883 rfl is_0 rfl (by decide) (Nat.le_of_ble_eq_true rfl) ⟨rfl, h.1, h.2.1, rfl⟩ rfl (fun r8 σ7 hr8 _ => ?_)
  obtain ⟨v9, rfl, hfσ7, hpr8⟩ := hr8
  have hzσ70_12 := hfσ7 0 12 (by omega)
  have hzσ7141_52 := hfσ7 141 52 (by omega)
  have hzσ737_8 := hfσ7 37 8 (by omega)
  have hzσ7141_54 := hfσ7 141 54 (by omega)
  have L10 : LI σ7 := ⟨GI_fr h.1 (fun k j q => hfσ7 k j (by omega)), by rw [hfσ7 0 9 (by omega)]; exact h.2.1, MI_fr h.2.2 (fun k j q => hfσ7 k j (by omega))⟩
  refine dk_pop (pc' := 887) hE dL_law_886 (show (0 : Nat) ≠ 3 by decide) rfl ?_
  refine dk_aload_n (pc' := 888) hE dL_law_887 rfl rfl rfl ?_
  refine dk_aload_n (pc' := 889) hE dL_law_888 rfl rfl rfl ?_
  refine dk_iload_n (pc' := 890) hE dL_law_889 rfl rfl rfl ?_
  refine dk_iconst (pc' := 891) hE dL_law_890 (by decide) rfl ?_
  obtain ⟨v11, hv11⟩ : ∃ z : Int, z = i + 1 := ⟨_, rfl⟩
  refine dk_iadd (pc' := 892) hE dL_law_891 hv11.symm (by omega) rfl ?_
  refine dk_sldx (pc' := 893) hE hX dL_law_892 (by omega) rfl (fun v12 hiv12 hxv12 => ?_)
  have hqv12 : v12 = v2 := by rw [hxv12, hxv2, show v11 = v1 by omega]
  refine dk_aload_n (pc' := 894) hE dL_law_893 rfl rfl rfl ?_
  refine dk_iload_n (pc' := 895) hE dL_law_894 rfl rfl rfl ?_
  refine dk_iconst (pc' := 896) hE dL_law_895 (by decide) rfl ?_
  obtain ⟨v13, hv13⟩ : ∃ z : Int, z = i + 2 := ⟨_, rfl⟩
  refine dk_iadd (pc' := 897) hE dL_law_896 hv13.symm (by omega) rfl ?_
  refine dk_sldx (pc' := 898) hE hX dL_law_897 (by omega) rfl (fun v14 hiv14 hxv14 => ?_)
  have hqv14 : v14 = v4 := by rw [hxv14, hxv4, show v13 = v3 by omega]
  refine dk_aload_n (pc' := 899) hE dL_law_898 rfl rfl rfl ?_
  refine dk_iload_n (pc' := 900) hE dL_law_899 rfl rfl rfl ?_
  refine dk_iconst (pc' := 901) hE dL_law_900 (by decide) rfl ?_
  obtain ⟨v15, hv15⟩ : ∃ z : Int, z = i + 3 := ⟨_, rfl⟩
  refine dk_iadd (pc' := 902) hE dL_law_901 hv15.symm (by omega) rfl ?_
  refine dk_sldx (pc' := 903) hE hX dL_law_902 (by omega) rfl (fun v16 hiv16 hxv16 => ?_)
  have hqv16 : v16 = v6 := by rw [hxv16, hxv6, show v15 = v5 by omega]
  refine dk_cL (pc' := 906) (as := [(0, v12), (0, v14), (0, v16)]) hE lk_L_99 (ct_X11_film l G hGd v12 v14 v16) dL_law_903 rfl is_141 rfl (by decide) (Nat.le_of_ble_eq_true rfl) ⟨rfl, L10.2.2⟩ rfl (fun r18 σ17 hr18 _ => ?_)
  obtain ⟨v19, rfl, hfσ17, hpr18⟩ := hr18
  have hzσ170_12 := hfσ17 0 12 (by omega)
  have hzσ17141_52 := hfσ17 141 52 (by omega)
  have hzσ1737_8 := hfσ17 37 8 (by omega)
  have hzσ17141_54 := hfσ17 141 54 (by omega)
  have L20 : LI σ17 := ⟨GI_fr L10.1 (fun k j q => hfσ17 k j (by omega)), by rw [hfσ17 0 9 (by omega)]; exact L10.2.1, hpr18.2⟩
  refine dk_pop (pc' := 907) hE dL_law_906 (show (0 : Nat) ≠ 3 by decide) rfl ?_
  refine dk_goto (tgt := 1624) hE dL_law_907 (by decide) ?_
  exact K σ17 ⟨L20, by omega, by omega⟩
