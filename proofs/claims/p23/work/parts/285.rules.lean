set_option maxHeartbeats 4000000 in
set_option maxRecDepth 20000 in
theorem ct_X11_behind (l : Launch) (G : dkG) (hGd : dk_Gd G) (c r t : Int) : dk_Ct l G dk_Ty yX11_behind cX11_behind 2 (some .boolean) 4 190 190 (fun av σ => av = [(4, 141)] ∧ (TK σ) ∧ (σ 141 3 ≤ 600) ∧ (PX 0 c r σ σ) ∧ (σ 141 4 = 0) ∧ (t = σ 141 6) ∧ (1 ≤ σ 141 45)) (fun _ σ r_ σ' => ∃ z : Int, r_ = some (0, z) ∧ (∀ k_ j_ : Int, ¬ ((k_ = 141 ∧ j_ = 4) ∨ (k_ = 141 ∧ j_ = 5) ∨ (k_ = 141 ∧ j_ = 6) ∨ (k_ = 141 ∧ j_ = 7) ∨ (k_ = 141 ∧ j_ = 8) ∨ (k_ = 141 ∧ j_ = 9) ∨ (k_ = 141 ∧ j_ = 10) ∨ (k_ = 141 ∧ j_ = 42) ∨ (k_ = 141 ∧ j_ = 43) ∨ (k_ = 141 ∧ j_ = 44) ∨ (k_ = 141 ∧ j_ = 45) ∨ (164 ≤ k_ ∧ k_ ≤ 167)) → σ' k_ j_ = σ k_ j_) ∧ ((∃ u : Int, PX u c r σ σ' ∧ (σ' 141 4 = 0 → u = z)) ∧ (z = 0 ∨ z = 1) ∧ (1 ≤ σ' 141 4 ∧ σ' 141 45 ≤ σ 141 45 ∨ σ 141 6 < σ' 141 6 ∨ σ' 141 45 < σ 141 45))) := by
  refine dk_enter hGd (by decide) (fun av σ hpre hok => ?_)
  obtain ⟨rfl, hT, hS, hP, h4, ht, hp1⟩ := hpre
  refine ⟨Nat.le_of_ble_eq_true rfl, fun E hE hR _ => ?_⟩
  show dk_PJ E 0 [(4, 141), (9, 0)] [] 190 σ
  have hq0 := PX_n hP
  refine dk_aload_n (pc' := 1) hE dX11_behind_0 rfl rfl rfl ?_
  refine dk_cV (pc' := 4) (as := []) hE lk_X11_410 (ct_X11_rankHere l G hGd) dX11_behind_1 rfl is_141 rfl (by decide) (Nat.le_of_ble_eq_true rfl) rfl rfl (fun r2 σ1 hr2 hor2 => ?_)
  obtain ⟨v3, rfl, hfσ1, hpr2⟩ := hr2
  have hsσ1 : σ = σ1 := (funext (fun k => funext (fun j => hfσ1 k j not_false))).symm
  subst hsσ1
  have hrk := hpr2
  rw [← ht] at hrk
  refine dk_istore_n (pc' := 5) (ls' := [(4, 141), (0, v3)]) hE dX11_behind_4 rfl rfl (by decide) rfl ?_
  refine dk_iload_n (pc' := 6) hE dX11_behind_5 rfl rfl rfl ?_
  refine dk_iconst (pc' := 7) hE dX11_behind_6 (by decide) rfl ?_
  refine dk_icmp_ne (tgt := 23) (pc' := 10) hE dX11_behind_7 (by decide) rfl (fun hc4 => ?_) (fun hc4 => ?_)
  · skip
    have lp23 : ∀ (N_ : Nat) (n p y : Int) (σ23c : dkS), (σ23c 141 45).toNat < N_ → ((∀ k_ j_ : Int, ¬ ((k_ = 141 ∧ j_ = 42) ∨ (k_ = 141 ∧ j_ = 44) ∨ (k_ = 141 ∧ j_ = 45) ∨ (164 ≤ k_ ∧ k_ ≤ 165)) → σ23c k_ j_ = σ k_ j_)) → (PX 0 c r σ σ23c) → (n = σ23c 141 42) → (p = σ23c 141 45) → (y = σ23c 141 44) → (1 ≤ σ23c 141 45 ∧ σ23c 141 45 ≤ σ 141 45) → (σ23c 141 43 = σ 141 43 ∧ σ23c 141 6 = σ 141 6 ∧ σ23c 141 4 = σ 141 4 ∧ σ23c 141 7 = σ 141 7 ∧ σ23c 141 8 = σ 141 8) → dk_PJ E 23 [(4, 141), (0, v3)] [] 190 σ23c := by
      intro N23
      induction N23 with
      | zero => intro n p y σ23c hm; exact absurd hm (Nat.not_lt_zero _)
      | succ N23 ih23 =>
        intro n p y σ23c hm23 hF23 hG23 hn hpp hy hpq hu
        have hq := PX_n hG23
        refine dk_aload_n (pc' := 24) hE dX11_behind_23 rfl rfl rfl ?_
        refine gf_11_37 (pc' := 27) (w := 166) hE fl_X11_89 dX11_behind_24 is_141 rfl rfl ?_
        refine dk_aload_n (pc' := 28) hE dX11_behind_27 rfl rfl rfl ?_
        refine gf_11_45 (pc' := 31) hE fl_X11_389 dX11_behind_28 is_141 rfl (fun v5 hv5 htv5 hbv5 => ?_)
        have hq5 : p = v5 := (show v5 = p by rw [hv5, hpp]).symm
        subst hq5
        clear htv5 hbv5
        refine dk_iconst (pc' := 32) hE dX11_behind_31 (by decide) rfl ?_
        obtain ⟨v6, hv6⟩ : ∃ z : Int, z = p - 1 := ⟨_, rfl⟩
        refine dk_isub (pc' := 33) hE dX11_behind_32 hv6.symm (by omega) rfl ?_
        refine ga_94 (pc' := 34) hE dX11_behind_33 is_166 (by omega) rfl (fun v7 hv7 htv7 hbv7 => ?_)
        have hxv7 := PX_v hG23 (i := v6) (by omega) (by omega)
        rw [← hv7] at hxv7
        refine dk_bipush (pc' := 36) hE dX11_behind_34 (by decide) rfl ?_
        refine dk_icmp_gt (tgt := 104) (pc' := 39) hE dX11_behind_36 (by decide) rfl (fun hc8 => ?_) (fun hc8 => ?_)
        · skip
          refine dk_iload_n (pc' := 105) hE dX11_behind_104 rfl rfl rfl ?_
          refine dk_if_le (tgt := 147) (pc' := 108) hE dX11_behind_105 (by decide) rfl (fun hc9 => ?_) (fun hc9 => ?_)
          · skip
            refine dk_aload_n (pc' := 148) hE dX11_behind_147 rfl rfl rfl ?_
            refine dk_dup (pc' := 149) hE dX11_behind_148 (show (4 : Nat) ≠ 3 by decide) rfl ?_
            refine gf_11_45 (pc' := 152) hE fl_X11_389 dX11_behind_149 is_141 rfl (fun v10 hv10 htv10 hbv10 => ?_)
            have hq10 : p = v10 := (show v10 = p by rw [hv10, hv5]).symm
            subst hq10
            clear htv10 hbv10
            refine dk_iconst (pc' := 153) hE dX11_behind_152 (by decide) rfl ?_
            obtain ⟨v11, hv11⟩ : ∃ z : Int, z = p - 1 := ⟨_, rfl⟩
            refine dk_isub (pc' := 154) hE dX11_behind_153 hv11.symm (by omega) rfl ?_
            have hrnv11 : v6 = v11 := by omega
            subst hrnv11
            refine pf_11_45 (pc' := 157) hE fl_X11_389 dX11_behind_154 is_141 (by omega) rfl (fun σ12 eσ12 => ?_)
            have gi13 : NX σ23c σ12 := NX_fr (NX_rf (hG23).1.1.2.1) (fun k_ j_ h_ => by rw [eσ12, dk_up_n (show ¬ (k_ = 141 ∧ j_ = 45) by omega)])
            refine dk_aload_n (pc' := 158) hE dX11_behind_157 rfl rfl rfl ?_
            refine gf_11_37 (pc' := 161) (w := 166) hE fl_X11_89 dX11_behind_158 is_141 rfl rfl ?_
            refine dk_aload_n (pc' := 162) hE dX11_behind_161 rfl rfl rfl ?_
            refine gf_11_45 (pc' := 165) hE fl_X11_389 dX11_behind_162 is_141 rfl (fun v14 hv14 htv14 hbv14 => ?_)
            have hq14 : v6 = v14 := (show v14 = v6 by rw [hv14, eσ12, dk_up_s]).symm
            subst hq14
            clear htv14 hbv14
            refine ga_94 (pc' := 166) hE dX11_behind_165 is_166 (by omega) rfl (fun v15 hv15 htv15 hbv15 => ?_)
            have hq15 : v7 = v15 := (show v15 = v7 by rw [hv15, eσ12, dk_up_n (show ¬ (166 = 141 ∧ v6 = 45) by omega), hv7]).symm
            subst hq15
            clear htv15 hbv15
            refine dk_bipush (pc' := 168) hE dX11_behind_166 (by decide) rfl ?_
            refine dk_icmp_ne (tgt := 191) (pc' := 171) hE dX11_behind_168 (by decide) rfl (fun hc16 => ?_) (fun hc16 => ?_)
            · skip
              refine dk_iconst (pc' := 192) hE dX11_behind_191 (by decide) rfl ?_
              have hz17 : σ12 141 42 = n := by rw [eσ12, dk_up_n (show ¬ (141 = 141 ∧ 42 = 45) by omega), hn]
              have hz18 : σ12 141 43 = σ 141 43 := by rw [eσ12, dk_up_n (show ¬ (141 = 141 ∧ 43 = 45) by omega), hF23 141 43 (by omega)]
              have hz19 : σ12 141 44 = y := by rw [eσ12, dk_up_n (show ¬ (141 = 141 ∧ 44 = 45) by omega), hy]
              have hz20 : σ12 141 45 = v6 := by rw [hv14]
              have hz21 : σ12 141 6 = t := by rw [eσ12, dk_up_n (show ¬ (141 = 141 ∧ 6 = 45) by omega), hF23 141 6 (by omega), ht]
              have hz22 : σ12 141 4 = σ 141 4 := by rw [eσ12, dk_up_n (show ¬ (141 = 141 ∧ 4 = 45) by omega), hF23 141 4 (by omega)]
              exact dk_zret (st := []) hE hR dX11_behind_192 (by omega) ⟨_, rfl, (fun k_ j_ h_ => by rw [eσ12, dk_up_n (show ¬ (k_ = 141 ∧ j_ = 45) from fun q_ => h_ (Or.inr (Or.inr (Or.inr (Or.inr (Or.inr (Or.inr (Or.inr (Or.inr (Or.inr (Or.inr (Or.inl (q_))))))))))))), hF23 k_ j_ (fun w_ => h_ (w_.elim (fun x0_ => Or.inr (Or.inr (Or.inr (Or.inr (Or.inr (Or.inr (Or.inr (Or.inl (x0_))))))))) (fun y0_ => y0_.elim (fun x1_ => Or.inr (Or.inr (Or.inr (Or.inr (Or.inr (Or.inr (Or.inr (Or.inr (Or.inr (Or.inl (x1_))))))))))) (fun y1_ => y1_.elim (fun x2_ => Or.inr (Or.inr (Or.inr (Or.inr (Or.inr (Or.inr (Or.inr (Or.inr (Or.inr (Or.inr (Or.inl (x2_)))))))))))) (fun y2_ => Or.inr (Or.inr (Or.inr (Or.inr (Or.inr (Or.inr (Or.inr (Or.inr (Or.inr (Or.inr (Or.inr (dk_wrr (lo := 164) (hi := 167) y2_ (by decide) (by decide)))))))))))))))))]), ⟨⟨0, PX_out (z := v7) hG23 gi13 hpp.symm (by omega) (by rw [show p - 1 = v6 by omega]; exact hv7.symm) (by omega) (fun k_ j_ h_ => by rw [eσ12, dk_up_n (show ¬ (k_ = 141 ∧ j_ = 45) by omega)]) (by first | (rw [if_pos (by omega)]; omega) | (rw [if_neg (by omega)]; omega)) (by omega), fun _ => rfl⟩, by omega, Or.inr (Or.inr (by omega))⟩⟩
            · skip
              refine dk_aload_n (pc' := 172) hE dX11_behind_171 rfl rfl rfl ?_
              refine dk_dup (pc' := 173) hE dX11_behind_172 (show (4 : Nat) ≠ 3 by decide) rfl ?_
              refine gf_11_44 (pc' := 176) hE fl_X11_392 dX11_behind_173 is_141 rfl (fun v23 hv23 htv23 hbv23 => ?_)
              have hq23 : y = v23 := (show v23 = y by rw [hv23, eσ12, dk_up_n (show ¬ (141 = 141 ∧ 44 = 45) by omega), hy]).symm
              subst hq23
              clear htv23 hbv23
              refine dk_iconst (pc' := 177) hE dX11_behind_176 (by decide) rfl ?_
              obtain ⟨v24, hv24⟩ : ∃ z : Int, z = y - 1 := ⟨_, rfl⟩
              refine dk_isub (pc' := 178) hE dX11_behind_177 hv24.symm (by omega) rfl ?_
              refine pf_11_44 (pc' := 181) hE fl_X11_392 dX11_behind_178 is_141 trivial rfl (fun σ25 eσ25 => ?_)
              refine dk_aload_n (pc' := 182) hE dX11_behind_181 rfl rfl rfl ?_
              refine dk_aload_n (pc' := 183) hE dX11_behind_182 rfl rfl rfl ?_
              refine dk_bipush (pc' := 185) hE dX11_behind_183 (by decide) rfl ?_
              refine dk_cV (pc' := 188) (as := [(0, 41)]) hE lk_X11_298 (ct_X11_is l G hGd 41) dX11_behind_185 rfl is_141 rfl (by decide) (Nat.le_of_ble_eq_true rfl) rfl rfl (fun r27 σ26 hr27 hor27 => ?_)
              obtain ⟨v28, rfl, hfσ26, hpr27⟩ := hr27
              have hsσ26 : σ25 = σ26 := (funext (fun k => funext (fun j => hfσ26 k j not_false))).symm
              subst hsσ26
              rcases hpr27 with ⟨rfl, hpr27⟩ | rfl
              · skip
                have gi29 : NX σ23c σ25 := NX_fr gi13 (fun k_ j_ h_ => by rw [eσ25, dk_up_n (show ¬ (k_ = 141 ∧ j_ = 44) by omega)])
                have hz30 : σ25 141 3 = σ 141 3 := by rw [eσ25, dk_up_n (show ¬ (141 = 141 ∧ 3 = 44) by omega), eσ12, dk_up_n (show ¬ (141 = 141 ∧ 3 = 45) by omega), hF23 141 3 (by omega)]
                refine dk_cV (pc' := 191) (as := [(0, 1)]) hE lk_X11_301 (ct_X11_must l G hGd 1) dX11_behind_188 rfl is_141 rfl (by decide) (Nat.le_of_ble_eq_true rfl) ⟨rfl, (NX_tk gi29), (by omega)⟩ rfl (fun r32 σ31 hr32 hor32 => ?_)
                obtain ⟨rfl, hfσ31, hpr32⟩ := hr32
                have gi33 : NX σ23c σ31 := NX_tr gi29 hpr32
                refine dk_iconst (pc' := 192) hE dX11_behind_191 (by decide) rfl ?_
                have hz34 : σ31 141 42 = n := by rw [hfσ31 141 42 (by omega), eσ25, dk_up_n (show ¬ (141 = 141 ∧ 42 = 44) by omega), eσ12, dk_up_n (show ¬ (141 = 141 ∧ 42 = 45) by omega), hn]
                have hz35 : σ31 141 43 = σ 141 43 := by rw [hfσ31 141 43 (by omega), eσ25, dk_up_n (show ¬ (141 = 141 ∧ 43 = 44) by omega), eσ12, dk_up_n (show ¬ (141 = 141 ∧ 43 = 45) by omega), hF23 141 43 (by omega)]
                have hz36 : σ31 141 44 = v24 := by rw [hfσ31 141 44 (by omega), eσ25, dk_up_s]
                have hz37 : σ31 141 45 = v6 := by rw [hfσ31 141 45 (by omega), eσ25, dk_up_n (show ¬ (141 = 141 ∧ 45 = 44) by omega), hv14]
                exact dk_zret (st := []) hE hR dX11_behind_192 (by omega) ⟨_, rfl, (fun k_ j_ h_ => by rw [hfσ31 k_ j_ (fun w_ => h_ (w_.elim (fun x0_ => Or.inl (x0_)) (fun y0_ => y0_.elim (fun x1_ => Or.inr (Or.inl (x1_))) (fun y1_ => y1_.elim (fun x2_ => Or.inr (Or.inr (Or.inl (x2_)))) (fun y2_ => y2_.elim (fun x3_ => Or.inr (Or.inr (Or.inr (Or.inl (x3_))))) (fun y3_ => y3_.elim (fun x4_ => Or.inr (Or.inr (Or.inr (Or.inr (Or.inl (x4_)))))) (fun y4_ => y4_.elim (fun x5_ => Or.inr (Or.inr (Or.inr (Or.inr (Or.inr (Or.inl (x5_))))))) (fun y5_ => Or.inr (Or.inr (Or.inr (Or.inr (Or.inr (Or.inr (Or.inl (y5_))))))))))))))), eσ25, dk_up_n (show ¬ (k_ = 141 ∧ j_ = 44) from fun q_ => h_ (Or.inr (Or.inr (Or.inr (Or.inr (Or.inr (Or.inr (Or.inr (Or.inr (Or.inr (Or.inl (q_)))))))))))), eσ12, dk_up_n (show ¬ (k_ = 141 ∧ j_ = 45) from fun q_ => h_ (Or.inr (Or.inr (Or.inr (Or.inr (Or.inr (Or.inr (Or.inr (Or.inr (Or.inr (Or.inr (Or.inl (q_))))))))))))), hF23 k_ j_ (fun w_ => h_ (w_.elim (fun x0_ => Or.inr (Or.inr (Or.inr (Or.inr (Or.inr (Or.inr (Or.inr (Or.inl (x0_))))))))) (fun y0_ => y0_.elim (fun x1_ => Or.inr (Or.inr (Or.inr (Or.inr (Or.inr (Or.inr (Or.inr (Or.inr (Or.inr (Or.inl (x1_))))))))))) (fun y1_ => y1_.elim (fun x2_ => Or.inr (Or.inr (Or.inr (Or.inr (Or.inr (Or.inr (Or.inr (Or.inr (Or.inr (Or.inr (Or.inl (x2_)))))))))))) (fun y2_ => Or.inr (Or.inr (Or.inr (Or.inr (Or.inr (Or.inr (Or.inr (Or.inr (Or.inr (Or.inr (Or.inr (dk_wrr (lo := 164) (hi := 167) y2_ (by decide) (by decide)))))))))))))))))]), ⟨⟨0, PX_out (z := v7) hG23 gi33 hpp.symm (by omega) (by rw [show p - 1 = v6 by omega]; exact hv7.symm) (by omega) (fun k_ j_ h_ => by rw [hfσ31 k_ j_ (by omega), eσ25, dk_up_n (show ¬ (k_ = 141 ∧ j_ = 44) by omega), eσ12, dk_up_n (show ¬ (k_ = 141 ∧ j_ = 45) by omega)]) (by first | (rw [if_pos (by omega)]; omega) | (rw [if_neg (by omega)]; omega)) (by omega), fun _ => rfl⟩, by omega, Or.inr (Or.inr (by omega))⟩⟩
              · skip
                have gi38 : NX σ23c σ25 := NX_fr gi13 (fun k_ j_ h_ => by rw [eσ25, dk_up_n (show ¬ (k_ = 141 ∧ j_ = 44) by omega)])
                have hz39 : σ25 141 3 = σ 141 3 := by rw [eσ25, dk_up_n (show ¬ (141 = 141 ∧ 3 = 44) by omega), eσ12, dk_up_n (show ¬ (141 = 141 ∧ 3 = 45) by omega), hF23 141 3 (by omega)]
                refine dk_cV (pc' := 191) (as := [(0, 0)]) hE lk_X11_301 (ct_X11_must l G hGd 0) dX11_behind_188 rfl is_141 rfl (by decide) (Nat.le_of_ble_eq_true rfl) ⟨rfl, (NX_tk gi38), (by omega)⟩ rfl (fun r41 σ40 hr41 hor41 => ?_)
                obtain ⟨rfl, hfσ40, hpr41⟩ := hr41
                have gi42 : NX σ23c σ40 := NX_tr gi38 hpr41
                refine dk_iconst (pc' := 192) hE dX11_behind_191 (by decide) rfl ?_
                have hz43 : σ40 141 42 = n := by rw [hfσ40 141 42 (by omega), eσ25, dk_up_n (show ¬ (141 = 141 ∧ 42 = 44) by omega), eσ12, dk_up_n (show ¬ (141 = 141 ∧ 42 = 45) by omega), hn]
                have hz44 : σ40 141 43 = σ 141 43 := by rw [hfσ40 141 43 (by omega), eσ25, dk_up_n (show ¬ (141 = 141 ∧ 43 = 44) by omega), eσ12, dk_up_n (show ¬ (141 = 141 ∧ 43 = 45) by omega), hF23 141 43 (by omega)]
                have hz45 : σ40 141 44 = v24 := by rw [hfσ40 141 44 (by omega), eσ25, dk_up_s]
                have hz46 : σ40 141 45 = v6 := by rw [hfσ40 141 45 (by omega), eσ25, dk_up_n (show ¬ (141 = 141 ∧ 45 = 44) by omega), hv14]
                exact dk_zret (st := []) hE hR dX11_behind_192 (by omega) ⟨_, rfl, (fun k_ j_ h_ => by rw [hfσ40 k_ j_ (fun w_ => h_ (w_.elim (fun x0_ => Or.inl (x0_)) (fun y0_ => y0_.elim (fun x1_ => Or.inr (Or.inl (x1_))) (fun y1_ => y1_.elim (fun x2_ => Or.inr (Or.inr (Or.inl (x2_)))) (fun y2_ => y2_.elim (fun x3_ => Or.inr (Or.inr (Or.inr (Or.inl (x3_))))) (fun y3_ => y3_.elim (fun x4_ => Or.inr (Or.inr (Or.inr (Or.inr (Or.inl (x4_)))))) (fun y4_ => y4_.elim (fun x5_ => Or.inr (Or.inr (Or.inr (Or.inr (Or.inr (Or.inl (x5_))))))) (fun y5_ => Or.inr (Or.inr (Or.inr (Or.inr (Or.inr (Or.inr (Or.inl (y5_))))))))))))))), eσ25, dk_up_n (show ¬ (k_ = 141 ∧ j_ = 44) from fun q_ => h_ (Or.inr (Or.inr (Or.inr (Or.inr (Or.inr (Or.inr (Or.inr (Or.inr (Or.inr (Or.inl (q_)))))))))))), eσ12, dk_up_n (show ¬ (k_ = 141 ∧ j_ = 45) from fun q_ => h_ (Or.inr (Or.inr (Or.inr (Or.inr (Or.inr (Or.inr (Or.inr (Or.inr (Or.inr (Or.inr (Or.inl (q_))))))))))))), hF23 k_ j_ (fun w_ => h_ (w_.elim (fun x0_ => Or.inr (Or.inr (Or.inr (Or.inr (Or.inr (Or.inr (Or.inr (Or.inl (x0_))))))))) (fun y0_ => y0_.elim (fun x1_ => Or.inr (Or.inr (Or.inr (Or.inr (Or.inr (Or.inr (Or.inr (Or.inr (Or.inr (Or.inl (x1_))))))))))) (fun y1_ => y1_.elim (fun x2_ => Or.inr (Or.inr (Or.inr (Or.inr (Or.inr (Or.inr (Or.inr (Or.inr (Or.inr (Or.inr (Or.inl (x2_)))))))))))) (fun y2_ => Or.inr (Or.inr (Or.inr (Or.inr (Or.inr (Or.inr (Or.inr (Or.inr (Or.inr (Or.inr (Or.inr (dk_wrr (lo := 164) (hi := 167) y2_ (by decide) (by decide)))))))))))))))))]), ⟨⟨0, PX_out (z := v7) hG23 gi42 hpp.symm (by omega) (by rw [show p - 1 = v6 by omega]; exact hv7.symm) (by omega) (fun k_ j_ h_ => by rw [hfσ40 k_ j_ (by omega), eσ25, dk_up_n (show ¬ (k_ = 141 ∧ j_ = 44) by omega), eσ12, dk_up_n (show ¬ (k_ = 141 ∧ j_ = 45) by omega)]) (by first | (rw [if_pos (by omega)]; omega) | (rw [if_neg (by omega)]; omega)) (by omega), fun _ => rfl⟩, by omega, Or.inr (Or.inr (by omega))⟩⟩
          · skip
            refine dk_aload_n (pc' := 109) hE dX11_behind_108 rfl rfl rfl ?_
            refine dk_iload_n (pc' := 110) hE dX11_behind_109 rfl rfl rfl ?_
            refine dk_iload_n (pc' := 111) hE dX11_behind_110 rfl rfl rfl ?_
            refine dk_iconst (pc' := 112) hE dX11_behind_111 (by decide) rfl ?_
            refine dk_icmp_ne (tgt := 120) (pc' := 115) hE dX11_behind_112 (by decide) rfl (fun hc47 => ?_) (fun hc47 => ?_)
            · skip
              refine dk_iload_n (pc' := 121) hE dX11_behind_120 rfl rfl rfl ?_
              refine dk_iconst (pc' := 122) hE dX11_behind_121 (by decide) rfl ?_
              refine dk_icmp_ne (tgt := 130) (pc' := 125) hE dX11_behind_122 (by decide) rfl (fun hc48 => ?_) (fun hc48 => ?_)
              · skip
                refine dk_aload_n (pc' := 131) hE dX11_behind_130 rfl rfl rfl ?_
                refine dk_aload_n (pc' := 132) hE dX11_behind_131 rfl rfl rfl ?_
                refine gf_11_6 (pc' := 135) hE fl_X11_215 dX11_behind_132 is_141 rfl (fun v49 hv49 htv49 hbv49 => ?_)
                have hq49 : t = v49 := (show v49 = t by rw [hv49, hF23 141 6 (by omega), ht]).symm
                subst hq49
                have hn_135 : tsg σ23c t = tsg σ t := by rw [tsg_fr (hF23 141 3 (by omega)) (fun q_ => hF23 143 q_ (by omega))]
                refine dk_cV (pc' := 138) (as := [(0, t)]) hE lk_X11_218 (ct_X11_sign l G hGd t) dX11_behind_135 rfl is_141 rfl (by decide) (Nat.le_of_ble_eq_true rfl) ⟨rfl, (by omega)⟩ rfl (fun r51 σ50 hr51 hor51 => ?_)
                obtain ⟨v53, rfl, hfσ50, hpr51⟩ := hr51
                have hsσ50 : σ23c = σ50 := (funext (fun k => funext (fun j => hfσ50 k j not_false))).symm
                subst hsσ50
                have hz54 : σ23c 141 45 = p := by rw [hv5]
                refine dk_cV (pc' := 141) (as := [(0, v3), (0, v53)]) hE lk_X11_395 (ct_X11_put l G hGd v3 v53 p) dX11_behind_138 rfl is_141 rfl (by decide) (Nat.le_of_ble_eq_true rfl) ⟨rfl, (by omega), (by omega)⟩ rfl (fun r56 σ55 hr56 hor56 => ?_)
                obtain ⟨rfl, hfσ55, hpr56⟩ := hr56
                have H138 := hpr56
                have gi57 : NX σ23c σ55 := NX_fr (NX_rf (hG23).1.1.2.1) (fun k_ j_ h_ => by rw [hfσ55 k_ j_ (by omega)])
                refine dk_aload_n (pc' := 142) hE dX11_behind_141 rfl rfl rfl ?_
                have hz58 : σ55 141 7 = σ 141 7 := by rw [hfσ55 141 7 (by omega), hF23 141 7 (by omega)]
                have hz59 : σ55 141 3 = σ 141 3 := by rw [hfσ55 141 3 (by omega), hF23 141 3 (by omega)]
                have hz60 : σ55 141 3 = σ 141 3 := by rw [hfσ55 141 3 (by omega), hF23 141 3 (by omega)]
                refine dk_cV (pc' := 145) (as := []) hE lk_X11_254 (ct_X11_next l G hGd) dX11_behind_142 rfl is_141 rfl (by decide) (Nat.le_of_ble_eq_true rfl) ⟨rfl, ((NX_tk gi57).2.1), (by omega)⟩ rfl (fun r62 σ61 hr62 hor62 => ?_)
                obtain ⟨rfl, hfσ61, hpr62⟩ := hr62
                have H142 := hpr62
                have gi63 : NX σ23c σ61 := NX_y gi57 hpr62
                have hy_ := H142.2.2.1
                have ht_ := hT.2.2 (by omega)
                refine dk_iconst (pc' := 146) hE dX11_behind_145 (by decide) rfl ?_
                have hz64 : σ61 141 42 = n := by rw [hfσ61 141 42 (by omega), hfσ55 141 42 (by omega), hn]
                have hz65 : σ61 141 43 = σ 141 43 := by rw [hfσ61 141 43 (by omega), hfσ55 141 43 (by omega), hF23 141 43 (by omega)]
                have hz66 : σ61 141 44 = y := by rw [hfσ61 141 44 (by omega), hfσ55 141 44 (by omega), hy]
                have hz67 : σ61 141 45 = p + 1 := by rw [hfσ61 141 45 (by omega), (hpr56.2.2).symm]
                have hz68 : σ61 141 4 = σ 141 4 := by rw [hfσ61 141 4 (by omega), hfσ55 141 4 (by omega), hF23 141 4 (by omega)]
                have hz69 : σ61 166 p = v3 := by rw [hfσ61 166 p (by omega), (hpr56.1).symm]
                have hz70 : σ61 167 p = v53 := by rw [hfσ61 167 p (by omega), (hpr56.2.1).symm]
                exact dk_zret (st := []) hE hR dX11_behind_146 (by omega) ⟨_, rfl, (fun k_ j_ h_ => by rw [hfσ61 k_ j_ (fun w_ => h_ (w_.elim (fun x0_ => Or.inr (Or.inr (Or.inl (x0_)))) (fun y0_ => y0_.elim (fun x1_ => Or.inr (Or.inr (Or.inr (Or.inl (x1_))))) (fun y1_ => y1_.elim (fun x2_ => Or.inr (Or.inr (Or.inr (Or.inr (Or.inl (x2_)))))) (fun y2_ => y2_.elim (fun x3_ => Or.inr (Or.inr (Or.inr (Or.inr (Or.inr (Or.inl (x3_))))))) (fun y3_ => Or.inr (Or.inr (Or.inr (Or.inr (Or.inr (Or.inr (Or.inl (y3_))))))))))))), hfσ55 k_ j_ (fun w_ => h_ (w_.elim (fun x0_ => Or.inr (Or.inr (Or.inr (Or.inr (Or.inr (Or.inr (Or.inr (Or.inr (Or.inr (Or.inr (Or.inr (dk_wr (lo := 164) (hi := 167) x0_.1 (by decide))))))))))))) (fun y0_ => y0_.elim (fun x1_ => Or.inr (Or.inr (Or.inr (Or.inr (Or.inr (Or.inr (Or.inr (Or.inr (Or.inr (Or.inr (Or.inr (dk_wr (lo := 164) (hi := 167) x1_.1 (by decide))))))))))))) (fun y1_ => Or.inr (Or.inr (Or.inr (Or.inr (Or.inr (Or.inr (Or.inr (Or.inr (Or.inr (Or.inr (Or.inl (y1_))))))))))))))), hF23 k_ j_ (fun w_ => h_ (w_.elim (fun x0_ => Or.inr (Or.inr (Or.inr (Or.inr (Or.inr (Or.inr (Or.inr (Or.inl (x0_))))))))) (fun y0_ => y0_.elim (fun x1_ => Or.inr (Or.inr (Or.inr (Or.inr (Or.inr (Or.inr (Or.inr (Or.inr (Or.inr (Or.inl (x1_))))))))))) (fun y1_ => y1_.elim (fun x2_ => Or.inr (Or.inr (Or.inr (Or.inr (Or.inr (Or.inr (Or.inr (Or.inr (Or.inr (Or.inr (Or.inl (x2_)))))))))))) (fun y2_ => Or.inr (Or.inr (Or.inr (Or.inr (Or.inr (Or.inr (Or.inr (Or.inr (Or.inr (Or.inr (Or.inr (dk_wrr (lo := 164) (hi := 167) y2_ (by decide) (by decide)))))))))))))))))]), ⟨⟨1, PX_put hG23 gi63 hn.symm hpp.symm (by omega) (fun k_ j_ h_ => by rw [hfσ61 k_ j_ (by omega), hfσ55 k_ j_ (by omega)]) (fun j_ => by rw [hfσ61 164 j_ (by omega), hfσ55 164 j_ (by omega)]) (by omega) (by omega) (by omega) (by omega) (by omega) (by omega) (by omega) rfl (Or.inr (by omega)), fun _ => rfl⟩, by omega, Or.inr (Or.inl (by omega))⟩⟩
              · skip
                refine dk_bipush (pc' := 127) hE dX11_behind_125 (by decide) rfl ?_
                refine dk_goto (tgt := 138) hE dX11_behind_127 (by decide) ?_
                have hz71 : σ23c 141 45 = p := by rw [hv5]
                refine dk_cV (pc' := 141) (as := [(0, v3), (0, 124)]) hE lk_X11_395 (ct_X11_put l G hGd v3 124 p) dX11_behind_138 rfl is_141 rfl (by decide) (Nat.le_of_ble_eq_true rfl) ⟨rfl, (by omega), (by omega)⟩ rfl (fun r73 σ72 hr73 hor73 => ?_)
                obtain ⟨rfl, hfσ72, hpr73⟩ := hr73
                have H138 := hpr73
                have gi74 : NX σ23c σ72 := NX_fr (NX_rf (hG23).1.1.2.1) (fun k_ j_ h_ => by rw [hfσ72 k_ j_ (by omega)])
                refine dk_aload_n (pc' := 142) hE dX11_behind_141 rfl rfl rfl ?_
                have hz75 : σ72 141 7 = σ 141 7 := by rw [hfσ72 141 7 (by omega), hF23 141 7 (by omega)]
                have hz76 : σ72 141 3 = σ 141 3 := by rw [hfσ72 141 3 (by omega), hF23 141 3 (by omega)]
                have hz77 : σ72 141 3 = σ 141 3 := by rw [hfσ72 141 3 (by omega), hF23 141 3 (by omega)]
                refine dk_cV (pc' := 145) (as := []) hE lk_X11_254 (ct_X11_next l G hGd) dX11_behind_142 rfl is_141 rfl (by decide) (Nat.le_of_ble_eq_true rfl) ⟨rfl, ((NX_tk gi74).2.1), (by omega)⟩ rfl (fun r79 σ78 hr79 hor79 => ?_)
                obtain ⟨rfl, hfσ78, hpr79⟩ := hr79
                have H142 := hpr79
                have gi80 : NX σ23c σ78 := NX_y gi74 hpr79
                have hy_ := H142.2.2.1
                have ht_ := hT.2.2 (by omega)
                refine dk_iconst (pc' := 146) hE dX11_behind_145 (by decide) rfl ?_
                have hz81 : σ78 141 42 = n := by rw [hfσ78 141 42 (by omega), hfσ72 141 42 (by omega), hn]
                have hz82 : σ78 141 43 = σ 141 43 := by rw [hfσ78 141 43 (by omega), hfσ72 141 43 (by omega), hF23 141 43 (by omega)]
                have hz83 : σ78 141 44 = y := by rw [hfσ78 141 44 (by omega), hfσ72 141 44 (by omega), hy]
                have hz84 : σ78 141 45 = p + 1 := by rw [hfσ78 141 45 (by omega), (hpr73.2.2).symm]
                have hz85 : σ78 141 4 = σ 141 4 := by rw [hfσ78 141 4 (by omega), hfσ72 141 4 (by omega), hF23 141 4 (by omega)]
                have hz86 : σ78 166 p = v3 := by rw [hfσ78 166 p (by omega), (hpr73.1).symm]
                have hz87 : σ78 167 p = 124 := by rw [hfσ78 167 p (by omega), (hpr73.2.1).symm]
                exact dk_zret (st := []) hE hR dX11_behind_146 (by omega) ⟨_, rfl, (fun k_ j_ h_ => by rw [hfσ78 k_ j_ (fun w_ => h_ (w_.elim (fun x0_ => Or.inr (Or.inr (Or.inl (x0_)))) (fun y0_ => y0_.elim (fun x1_ => Or.inr (Or.inr (Or.inr (Or.inl (x1_))))) (fun y1_ => y1_.elim (fun x2_ => Or.inr (Or.inr (Or.inr (Or.inr (Or.inl (x2_)))))) (fun y2_ => y2_.elim (fun x3_ => Or.inr (Or.inr (Or.inr (Or.inr (Or.inr (Or.inl (x3_))))))) (fun y3_ => Or.inr (Or.inr (Or.inr (Or.inr (Or.inr (Or.inr (Or.inl (y3_))))))))))))), hfσ72 k_ j_ (fun w_ => h_ (w_.elim (fun x0_ => Or.inr (Or.inr (Or.inr (Or.inr (Or.inr (Or.inr (Or.inr (Or.inr (Or.inr (Or.inr (Or.inr (dk_wr (lo := 164) (hi := 167) x0_.1 (by decide))))))))))))) (fun y0_ => y0_.elim (fun x1_ => Or.inr (Or.inr (Or.inr (Or.inr (Or.inr (Or.inr (Or.inr (Or.inr (Or.inr (Or.inr (Or.inr (dk_wr (lo := 164) (hi := 167) x1_.1 (by decide))))))))))))) (fun y1_ => Or.inr (Or.inr (Or.inr (Or.inr (Or.inr (Or.inr (Or.inr (Or.inr (Or.inr (Or.inr (Or.inl (y1_))))))))))))))), hF23 k_ j_ (fun w_ => h_ (w_.elim (fun x0_ => Or.inr (Or.inr (Or.inr (Or.inr (Or.inr (Or.inr (Or.inr (Or.inl (x0_))))))))) (fun y0_ => y0_.elim (fun x1_ => Or.inr (Or.inr (Or.inr (Or.inr (Or.inr (Or.inr (Or.inr (Or.inr (Or.inr (Or.inl (x1_))))))))))) (fun y1_ => y1_.elim (fun x2_ => Or.inr (Or.inr (Or.inr (Or.inr (Or.inr (Or.inr (Or.inr (Or.inr (Or.inr (Or.inr (Or.inl (x2_)))))))))))) (fun y2_ => Or.inr (Or.inr (Or.inr (Or.inr (Or.inr (Or.inr (Or.inr (Or.inr (Or.inr (Or.inr (Or.inr (dk_wrr (lo := 164) (hi := 167) y2_ (by decide) (by decide)))))))))))))))))]), ⟨⟨1, PX_put hG23 gi80 hn.symm hpp.symm (by omega) (fun k_ j_ h_ => by rw [hfσ78 k_ j_ (by omega), hfσ72 k_ j_ (by omega)]) (fun j_ => by rw [hfσ78 164 j_ (by omega), hfσ72 164 j_ (by omega)]) (by omega) (by omega) (by omega) (by omega) (by omega) (by omega) (by omega) rfl (Or.inr (by omega)), fun _ => rfl⟩, by omega, Or.inr (Or.inl (by omega))⟩⟩
            · skip
              refine dk_bipush (pc' := 117) hE dX11_behind_115 (by decide) rfl ?_
              refine dk_goto (tgt := 138) hE dX11_behind_117 (by decide) ?_
              have hz88 : σ23c 141 45 = p := by rw [hv5]
              refine dk_cV (pc' := 141) (as := [(0, v3), (0, 38)]) hE lk_X11_395 (ct_X11_put l G hGd v3 38 p) dX11_behind_138 rfl is_141 rfl (by decide) (Nat.le_of_ble_eq_true rfl) ⟨rfl, (by omega), (by omega)⟩ rfl (fun r90 σ89 hr90 hor90 => ?_)
              obtain ⟨rfl, hfσ89, hpr90⟩ := hr90
              have H138 := hpr90
              have gi91 : NX σ23c σ89 := NX_fr (NX_rf (hG23).1.1.2.1) (fun k_ j_ h_ => by rw [hfσ89 k_ j_ (by omega)])
              refine dk_aload_n (pc' := 142) hE dX11_behind_141 rfl rfl rfl ?_
              have hz92 : σ89 141 7 = σ 141 7 := by rw [hfσ89 141 7 (by omega), hF23 141 7 (by omega)]
              have hz93 : σ89 141 3 = σ 141 3 := by rw [hfσ89 141 3 (by omega), hF23 141 3 (by omega)]
              have hz94 : σ89 141 3 = σ 141 3 := by rw [hfσ89 141 3 (by omega), hF23 141 3 (by omega)]
              refine dk_cV (pc' := 145) (as := []) hE lk_X11_254 (ct_X11_next l G hGd) dX11_behind_142 rfl is_141 rfl (by decide) (Nat.le_of_ble_eq_true rfl) ⟨rfl, ((NX_tk gi91).2.1), (by omega)⟩ rfl (fun r96 σ95 hr96 hor96 => ?_)
              obtain ⟨rfl, hfσ95, hpr96⟩ := hr96
              have H142 := hpr96
              have gi97 : NX σ23c σ95 := NX_y gi91 hpr96
              have hy_ := H142.2.2.1
              have ht_ := hT.2.2 (by omega)
              refine dk_iconst (pc' := 146) hE dX11_behind_145 (by decide) rfl ?_
              have hz98 : σ95 141 42 = n := by rw [hfσ95 141 42 (by omega), hfσ89 141 42 (by omega), hn]
              have hz99 : σ95 141 43 = σ 141 43 := by rw [hfσ95 141 43 (by omega), hfσ89 141 43 (by omega), hF23 141 43 (by omega)]
              have hz100 : σ95 141 44 = y := by rw [hfσ95 141 44 (by omega), hfσ89 141 44 (by omega), hy]
              have hz101 : σ95 141 45 = p + 1 := by rw [hfσ95 141 45 (by omega), (hpr90.2.2).symm]
              have hz102 : σ95 141 4 = σ 141 4 := by rw [hfσ95 141 4 (by omega), hfσ89 141 4 (by omega), hF23 141 4 (by omega)]
              have hz103 : σ95 166 p = v3 := by rw [hfσ95 166 p (by omega), (hpr90.1).symm]
              have hz104 : σ95 167 p = 38 := by rw [hfσ95 167 p (by omega), (hpr90.2.1).symm]
              exact dk_zret (st := []) hE hR dX11_behind_146 (by omega) ⟨_, rfl, (fun k_ j_ h_ => by rw [hfσ95 k_ j_ (fun w_ => h_ (w_.elim (fun x0_ => Or.inr (Or.inr (Or.inl (x0_)))) (fun y0_ => y0_.elim (fun x1_ => Or.inr (Or.inr (Or.inr (Or.inl (x1_))))) (fun y1_ => y1_.elim (fun x2_ => Or.inr (Or.inr (Or.inr (Or.inr (Or.inl (x2_)))))) (fun y2_ => y2_.elim (fun x3_ => Or.inr (Or.inr (Or.inr (Or.inr (Or.inr (Or.inl (x3_))))))) (fun y3_ => Or.inr (Or.inr (Or.inr (Or.inr (Or.inr (Or.inr (Or.inl (y3_))))))))))))), hfσ89 k_ j_ (fun w_ => h_ (w_.elim (fun x0_ => Or.inr (Or.inr (Or.inr (Or.inr (Or.inr (Or.inr (Or.inr (Or.inr (Or.inr (Or.inr (Or.inr (dk_wr (lo := 164) (hi := 167) x0_.1 (by decide))))))))))))) (fun y0_ => y0_.elim (fun x1_ => Or.inr (Or.inr (Or.inr (Or.inr (Or.inr (Or.inr (Or.inr (Or.inr (Or.inr (Or.inr (Or.inr (dk_wr (lo := 164) (hi := 167) x1_.1 (by decide))))))))))))) (fun y1_ => Or.inr (Or.inr (Or.inr (Or.inr (Or.inr (Or.inr (Or.inr (Or.inr (Or.inr (Or.inr (Or.inl (y1_))))))))))))))), hF23 k_ j_ (fun w_ => h_ (w_.elim (fun x0_ => Or.inr (Or.inr (Or.inr (Or.inr (Or.inr (Or.inr (Or.inr (Or.inl (x0_))))))))) (fun y0_ => y0_.elim (fun x1_ => Or.inr (Or.inr (Or.inr (Or.inr (Or.inr (Or.inr (Or.inr (Or.inr (Or.inr (Or.inl (x1_))))))))))) (fun y1_ => y1_.elim (fun x2_ => Or.inr (Or.inr (Or.inr (Or.inr (Or.inr (Or.inr (Or.inr (Or.inr (Or.inr (Or.inr (Or.inl (x2_)))))))))))) (fun y2_ => Or.inr (Or.inr (Or.inr (Or.inr (Or.inr (Or.inr (Or.inr (Or.inr (Or.inr (Or.inr (Or.inr (dk_wrr (lo := 164) (hi := 167) y2_ (by decide) (by decide)))))))))))))))))]), ⟨⟨1, PX_put hG23 gi97 hn.symm hpp.symm (by omega) (fun k_ j_ h_ => by rw [hfσ95 k_ j_ (by omega), hfσ89 k_ j_ (by omega)]) (fun j_ => by rw [hfσ95 164 j_ (by omega), hfσ89 164 j_ (by omega)]) (by omega) (by omega) (by omega) (by omega) (by omega) (by omega) (by omega) rfl (Or.inr (by omega)), fun _ => rfl⟩, by omega, Or.inr (Or.inl (by omega))⟩⟩
        · skip
          refine dk_aload_n (pc' := 40) hE dX11_behind_39 rfl rfl rfl ?_
          refine gf_11_37 (pc' := 43) (w := 166) hE fl_X11_89 dX11_behind_40 is_141 rfl rfl ?_
          refine dk_aload_n (pc' := 44) hE dX11_behind_43 rfl rfl rfl ?_
          refine gf_11_45 (pc' := 47) hE fl_X11_389 dX11_behind_44 is_141 rfl (fun v105 hv105 htv105 hbv105 => ?_)
          have hq105 : p = v105 := (show v105 = p by rw [hv105, hv5]).symm
          subst hq105
          clear htv105 hbv105
          refine dk_iconst (pc' := 48) hE dX11_behind_47 (by decide) rfl ?_
          obtain ⟨v106, hv106⟩ : ∃ z : Int, z = p - 1 := ⟨_, rfl⟩
          refine dk_isub (pc' := 49) hE dX11_behind_48 hv106.symm (by omega) rfl ?_
          have hrnv106 : v6 = v106 := by omega
          subst hrnv106
          refine ga_94 (pc' := 50) hE dX11_behind_49 is_166 (by omega) rfl (fun v107 hv107 htv107 hbv107 => ?_)
          have hq107 : v7 = v107 := (show v107 = v7 by rw [hv107, hv7]).symm
          subst hq107
          clear htv107 hbv107
          refine dk_iload_n (pc' := 51) hE dX11_behind_50 rfl rfl rfl ?_
          refine dk_icmp_lt (tgt := 104) (pc' := 54) hE dX11_behind_51 (by decide) rfl (fun hc108 => ?_) (fun hc108 => ?_)
          · skip
            refine dk_iload_n (pc' := 105) hE dX11_behind_104 rfl rfl rfl ?_
            refine dk_if_le (tgt := 147) (pc' := 108) hE dX11_behind_105 (by decide) rfl (fun hc109 => ?_) (fun hc109 => ?_)
            · skip
              refine dk_aload_n (pc' := 148) hE dX11_behind_147 rfl rfl rfl ?_
              refine dk_dup (pc' := 149) hE dX11_behind_148 (show (4 : Nat) ≠ 3 by decide) rfl ?_
              refine gf_11_45 (pc' := 152) hE fl_X11_389 dX11_behind_149 is_141 rfl (fun v110 hv110 htv110 hbv110 => ?_)
              have hq110 : p = v110 := (show v110 = p by rw [hv110, hv105]).symm
              subst hq110
              clear htv110 hbv110
              refine dk_iconst (pc' := 153) hE dX11_behind_152 (by decide) rfl ?_
              obtain ⟨v111, hv111⟩ : ∃ z : Int, z = p - 1 := ⟨_, rfl⟩
              refine dk_isub (pc' := 154) hE dX11_behind_153 hv111.symm (by omega) rfl ?_
              have hrnv111 : v6 = v111 := by omega
              subst hrnv111
              refine pf_11_45 (pc' := 157) hE fl_X11_389 dX11_behind_154 is_141 (by omega) rfl (fun σ112 eσ112 => ?_)
              have gi113 : NX σ23c σ112 := NX_fr (NX_rf (hG23).1.1.2.1) (fun k_ j_ h_ => by rw [eσ112, dk_up_n (show ¬ (k_ = 141 ∧ j_ = 45) by omega)])
              refine dk_aload_n (pc' := 158) hE dX11_behind_157 rfl rfl rfl ?_
              refine gf_11_37 (pc' := 161) (w := 166) hE fl_X11_89 dX11_behind_158 is_141 rfl rfl ?_
              refine dk_aload_n (pc' := 162) hE dX11_behind_161 rfl rfl rfl ?_
              refine gf_11_45 (pc' := 165) hE fl_X11_389 dX11_behind_162 is_141 rfl (fun v114 hv114 htv114 hbv114 => ?_)
              have hq114 : v6 = v114 := (show v114 = v6 by rw [hv114, eσ112, dk_up_s]).symm
              subst hq114
              clear htv114 hbv114
              refine ga_94 (pc' := 166) hE dX11_behind_165 is_166 (by omega) rfl (fun v115 hv115 htv115 hbv115 => ?_)
              have hq115 : v7 = v115 := (show v115 = v7 by rw [hv115, eσ112, dk_up_n (show ¬ (166 = 141 ∧ v6 = 45) by omega), hv107]).symm
              subst hq115
              clear htv115 hbv115
              refine dk_bipush (pc' := 168) hE dX11_behind_166 (by decide) rfl ?_
              refine dk_icmp_ne (tgt := 191) (pc' := 171) hE dX11_behind_168 (by decide) rfl (fun hc116 => ?_) (fun hc116 => ?_)
              · skip
                refine dk_iconst (pc' := 192) hE dX11_behind_191 (by decide) rfl ?_
                have hz117 : σ112 141 42 = n := by rw [eσ112, dk_up_n (show ¬ (141 = 141 ∧ 42 = 45) by omega), hn]
                have hz118 : σ112 141 43 = σ 141 43 := by rw [eσ112, dk_up_n (show ¬ (141 = 141 ∧ 43 = 45) by omega), hF23 141 43 (by omega)]
                have hz119 : σ112 141 44 = y := by rw [eσ112, dk_up_n (show ¬ (141 = 141 ∧ 44 = 45) by omega), hy]
                have hz120 : σ112 141 45 = v6 := by rw [hv114]
                have hz121 : σ112 141 6 = t := by rw [eσ112, dk_up_n (show ¬ (141 = 141 ∧ 6 = 45) by omega), hF23 141 6 (by omega), ht]
                have hz122 : σ112 141 4 = σ 141 4 := by rw [eσ112, dk_up_n (show ¬ (141 = 141 ∧ 4 = 45) by omega), hF23 141 4 (by omega)]
                exact dk_zret (st := []) hE hR dX11_behind_192 (by omega) ⟨_, rfl, (fun k_ j_ h_ => by rw [eσ112, dk_up_n (show ¬ (k_ = 141 ∧ j_ = 45) from fun q_ => h_ (Or.inr (Or.inr (Or.inr (Or.inr (Or.inr (Or.inr (Or.inr (Or.inr (Or.inr (Or.inr (Or.inl (q_))))))))))))), hF23 k_ j_ (fun w_ => h_ (w_.elim (fun x0_ => Or.inr (Or.inr (Or.inr (Or.inr (Or.inr (Or.inr (Or.inr (Or.inl (x0_))))))))) (fun y0_ => y0_.elim (fun x1_ => Or.inr (Or.inr (Or.inr (Or.inr (Or.inr (Or.inr (Or.inr (Or.inr (Or.inr (Or.inl (x1_))))))))))) (fun y1_ => y1_.elim (fun x2_ => Or.inr (Or.inr (Or.inr (Or.inr (Or.inr (Or.inr (Or.inr (Or.inr (Or.inr (Or.inr (Or.inl (x2_)))))))))))) (fun y2_ => Or.inr (Or.inr (Or.inr (Or.inr (Or.inr (Or.inr (Or.inr (Or.inr (Or.inr (Or.inr (Or.inr (dk_wrr (lo := 164) (hi := 167) y2_ (by decide) (by decide)))))))))))))))))]), ⟨⟨0, PX_out (z := v7) hG23 gi113 hpp.symm (by omega) (by rw [show p - 1 = v6 by omega]; exact hv7.symm) (by omega) (fun k_ j_ h_ => by rw [eσ112, dk_up_n (show ¬ (k_ = 141 ∧ j_ = 45) by omega)]) (by first | (rw [if_pos (by omega)]; omega) | (rw [if_neg (by omega)]; omega)) (by omega), fun _ => rfl⟩, by omega, Or.inr (Or.inr (by omega))⟩⟩
              · skip
                refine dk_aload_n (pc' := 172) hE dX11_behind_171 rfl rfl rfl ?_
                refine dk_dup (pc' := 173) hE dX11_behind_172 (show (4 : Nat) ≠ 3 by decide) rfl ?_
                refine gf_11_44 (pc' := 176) hE fl_X11_392 dX11_behind_173 is_141 rfl (fun v123 hv123 htv123 hbv123 => ?_)
                have hq123 : y = v123 := (show v123 = y by rw [hv123, eσ112, dk_up_n (show ¬ (141 = 141 ∧ 44 = 45) by omega), hy]).symm
                subst hq123
                clear htv123 hbv123
                refine dk_iconst (pc' := 177) hE dX11_behind_176 (by decide) rfl ?_
                obtain ⟨v124, hv124⟩ : ∃ z : Int, z = y - 1 := ⟨_, rfl⟩
                refine dk_isub (pc' := 178) hE dX11_behind_177 hv124.symm (by omega) rfl ?_
                refine pf_11_44 (pc' := 181) hE fl_X11_392 dX11_behind_178 is_141 trivial rfl (fun σ125 eσ125 => ?_)
                refine dk_aload_n (pc' := 182) hE dX11_behind_181 rfl rfl rfl ?_
                refine dk_aload_n (pc' := 183) hE dX11_behind_182 rfl rfl rfl ?_
                refine dk_bipush (pc' := 185) hE dX11_behind_183 (by decide) rfl ?_
                refine dk_cV (pc' := 188) (as := [(0, 41)]) hE lk_X11_298 (ct_X11_is l G hGd 41) dX11_behind_185 rfl is_141 rfl (by decide) (Nat.le_of_ble_eq_true rfl) rfl rfl (fun r127 σ126 hr127 hor127 => ?_)
                obtain ⟨v128, rfl, hfσ126, hpr127⟩ := hr127
                have hsσ126 : σ125 = σ126 := (funext (fun k => funext (fun j => hfσ126 k j not_false))).symm
                subst hsσ126
                rcases hpr127 with ⟨rfl, hpr127⟩ | rfl
                · skip
                  have gi129 : NX σ23c σ125 := NX_fr gi113 (fun k_ j_ h_ => by rw [eσ125, dk_up_n (show ¬ (k_ = 141 ∧ j_ = 44) by omega)])
                  have hz130 : σ125 141 3 = σ 141 3 := by rw [eσ125, dk_up_n (show ¬ (141 = 141 ∧ 3 = 44) by omega), eσ112, dk_up_n (show ¬ (141 = 141 ∧ 3 = 45) by omega), hF23 141 3 (by omega)]
                  refine dk_cV (pc' := 191) (as := [(0, 1)]) hE lk_X11_301 (ct_X11_must l G hGd 1) dX11_behind_188 rfl is_141 rfl (by decide) (Nat.le_of_ble_eq_true rfl) ⟨rfl, (NX_tk gi129), (by omega)⟩ rfl (fun r132 σ131 hr132 hor132 => ?_)
                  obtain ⟨rfl, hfσ131, hpr132⟩ := hr132
                  have gi133 : NX σ23c σ131 := NX_tr gi129 hpr132
                  refine dk_iconst (pc' := 192) hE dX11_behind_191 (by decide) rfl ?_
                  have hz134 : σ131 141 42 = n := by rw [hfσ131 141 42 (by omega), eσ125, dk_up_n (show ¬ (141 = 141 ∧ 42 = 44) by omega), eσ112, dk_up_n (show ¬ (141 = 141 ∧ 42 = 45) by omega), hn]
                  have hz135 : σ131 141 43 = σ 141 43 := by rw [hfσ131 141 43 (by omega), eσ125, dk_up_n (show ¬ (141 = 141 ∧ 43 = 44) by omega), eσ112, dk_up_n (show ¬ (141 = 141 ∧ 43 = 45) by omega), hF23 141 43 (by omega)]
                  have hz136 : σ131 141 44 = v124 := by rw [hfσ131 141 44 (by omega), eσ125, dk_up_s]
                  have hz137 : σ131 141 45 = v6 := by rw [hfσ131 141 45 (by omega), eσ125, dk_up_n (show ¬ (141 = 141 ∧ 45 = 44) by omega), hv114]
                  exact dk_zret (st := []) hE hR dX11_behind_192 (by omega) ⟨_, rfl, (fun k_ j_ h_ => by rw [hfσ131 k_ j_ (fun w_ => h_ (w_.elim (fun x0_ => Or.inl (x0_)) (fun y0_ => y0_.elim (fun x1_ => Or.inr (Or.inl (x1_))) (fun y1_ => y1_.elim (fun x2_ => Or.inr (Or.inr (Or.inl (x2_)))) (fun y2_ => y2_.elim (fun x3_ => Or.inr (Or.inr (Or.inr (Or.inl (x3_))))) (fun y3_ => y3_.elim (fun x4_ => Or.inr (Or.inr (Or.inr (Or.inr (Or.inl (x4_)))))) (fun y4_ => y4_.elim (fun x5_ => Or.inr (Or.inr (Or.inr (Or.inr (Or.inr (Or.inl (x5_))))))) (fun y5_ => Or.inr (Or.inr (Or.inr (Or.inr (Or.inr (Or.inr (Or.inl (y5_))))))))))))))), eσ125, dk_up_n (show ¬ (k_ = 141 ∧ j_ = 44) from fun q_ => h_ (Or.inr (Or.inr (Or.inr (Or.inr (Or.inr (Or.inr (Or.inr (Or.inr (Or.inr (Or.inl (q_)))))))))))), eσ112, dk_up_n (show ¬ (k_ = 141 ∧ j_ = 45) from fun q_ => h_ (Or.inr (Or.inr (Or.inr (Or.inr (Or.inr (Or.inr (Or.inr (Or.inr (Or.inr (Or.inr (Or.inl (q_))))))))))))), hF23 k_ j_ (fun w_ => h_ (w_.elim (fun x0_ => Or.inr (Or.inr (Or.inr (Or.inr (Or.inr (Or.inr (Or.inr (Or.inl (x0_))))))))) (fun y0_ => y0_.elim (fun x1_ => Or.inr (Or.inr (Or.inr (Or.inr (Or.inr (Or.inr (Or.inr (Or.inr (Or.inr (Or.inl (x1_))))))))))) (fun y1_ => y1_.elim (fun x2_ => Or.inr (Or.inr (Or.inr (Or.inr (Or.inr (Or.inr (Or.inr (Or.inr (Or.inr (Or.inr (Or.inl (x2_)))))))))))) (fun y2_ => Or.inr (Or.inr (Or.inr (Or.inr (Or.inr (Or.inr (Or.inr (Or.inr (Or.inr (Or.inr (Or.inr (dk_wrr (lo := 164) (hi := 167) y2_ (by decide) (by decide)))))))))))))))))]), ⟨⟨0, PX_out (z := v7) hG23 gi133 hpp.symm (by omega) (by rw [show p - 1 = v6 by omega]; exact hv7.symm) (by omega) (fun k_ j_ h_ => by rw [hfσ131 k_ j_ (by omega), eσ125, dk_up_n (show ¬ (k_ = 141 ∧ j_ = 44) by omega), eσ112, dk_up_n (show ¬ (k_ = 141 ∧ j_ = 45) by omega)]) (by first | (rw [if_pos (by omega)]; omega) | (rw [if_neg (by omega)]; omega)) (by omega), fun _ => rfl⟩, by omega, Or.inr (Or.inr (by omega))⟩⟩
                · skip
                  have gi138 : NX σ23c σ125 := NX_fr gi113 (fun k_ j_ h_ => by rw [eσ125, dk_up_n (show ¬ (k_ = 141 ∧ j_ = 44) by omega)])
                  have hz139 : σ125 141 3 = σ 141 3 := by rw [eσ125, dk_up_n (show ¬ (141 = 141 ∧ 3 = 44) by omega), eσ112, dk_up_n (show ¬ (141 = 141 ∧ 3 = 45) by omega), hF23 141 3 (by omega)]
                  refine dk_cV (pc' := 191) (as := [(0, 0)]) hE lk_X11_301 (ct_X11_must l G hGd 0) dX11_behind_188 rfl is_141 rfl (by decide) (Nat.le_of_ble_eq_true rfl) ⟨rfl, (NX_tk gi138), (by omega)⟩ rfl (fun r141 σ140 hr141 hor141 => ?_)
                  obtain ⟨rfl, hfσ140, hpr141⟩ := hr141
                  have gi142 : NX σ23c σ140 := NX_tr gi138 hpr141
                  refine dk_iconst (pc' := 192) hE dX11_behind_191 (by decide) rfl ?_
                  have hz143 : σ140 141 42 = n := by rw [hfσ140 141 42 (by omega), eσ125, dk_up_n (show ¬ (141 = 141 ∧ 42 = 44) by omega), eσ112, dk_up_n (show ¬ (141 = 141 ∧ 42 = 45) by omega), hn]
                  have hz144 : σ140 141 43 = σ 141 43 := by rw [hfσ140 141 43 (by omega), eσ125, dk_up_n (show ¬ (141 = 141 ∧ 43 = 44) by omega), eσ112, dk_up_n (show ¬ (141 = 141 ∧ 43 = 45) by omega), hF23 141 43 (by omega)]
                  have hz145 : σ140 141 44 = v124 := by rw [hfσ140 141 44 (by omega), eσ125, dk_up_s]
                  have hz146 : σ140 141 45 = v6 := by rw [hfσ140 141 45 (by omega), eσ125, dk_up_n (show ¬ (141 = 141 ∧ 45 = 44) by omega), hv114]
                  exact dk_zret (st := []) hE hR dX11_behind_192 (by omega) ⟨_, rfl, (fun k_ j_ h_ => by rw [hfσ140 k_ j_ (fun w_ => h_ (w_.elim (fun x0_ => Or.inl (x0_)) (fun y0_ => y0_.elim (fun x1_ => Or.inr (Or.inl (x1_))) (fun y1_ => y1_.elim (fun x2_ => Or.inr (Or.inr (Or.inl (x2_)))) (fun y2_ => y2_.elim (fun x3_ => Or.inr (Or.inr (Or.inr (Or.inl (x3_))))) (fun y3_ => y3_.elim (fun x4_ => Or.inr (Or.inr (Or.inr (Or.inr (Or.inl (x4_)))))) (fun y4_ => y4_.elim (fun x5_ => Or.inr (Or.inr (Or.inr (Or.inr (Or.inr (Or.inl (x5_))))))) (fun y5_ => Or.inr (Or.inr (Or.inr (Or.inr (Or.inr (Or.inr (Or.inl (y5_))))))))))))))), eσ125, dk_up_n (show ¬ (k_ = 141 ∧ j_ = 44) from fun q_ => h_ (Or.inr (Or.inr (Or.inr (Or.inr (Or.inr (Or.inr (Or.inr (Or.inr (Or.inr (Or.inl (q_)))))))))))), eσ112, dk_up_n (show ¬ (k_ = 141 ∧ j_ = 45) from fun q_ => h_ (Or.inr (Or.inr (Or.inr (Or.inr (Or.inr (Or.inr (Or.inr (Or.inr (Or.inr (Or.inr (Or.inl (q_))))))))))))), hF23 k_ j_ (fun w_ => h_ (w_.elim (fun x0_ => Or.inr (Or.inr (Or.inr (Or.inr (Or.inr (Or.inr (Or.inr (Or.inl (x0_))))))))) (fun y0_ => y0_.elim (fun x1_ => Or.inr (Or.inr (Or.inr (Or.inr (Or.inr (Or.inr (Or.inr (Or.inr (Or.inr (Or.inl (x1_))))))))))) (fun y1_ => y1_.elim (fun x2_ => Or.inr (Or.inr (Or.inr (Or.inr (Or.inr (Or.inr (Or.inr (Or.inr (Or.inr (Or.inr (Or.inl (x2_)))))))))))) (fun y2_ => Or.inr (Or.inr (Or.inr (Or.inr (Or.inr (Or.inr (Or.inr (Or.inr (Or.inr (Or.inr (Or.inr (dk_wrr (lo := 164) (hi := 167) y2_ (by decide) (by decide)))))))))))))))))]), ⟨⟨0, PX_out (z := v7) hG23 gi142 hpp.symm (by omega) (by rw [show p - 1 = v6 by omega]; exact hv7.symm) (by omega) (fun k_ j_ h_ => by rw [hfσ140 k_ j_ (by omega), eσ125, dk_up_n (show ¬ (k_ = 141 ∧ j_ = 44) by omega), eσ112, dk_up_n (show ¬ (k_ = 141 ∧ j_ = 45) by omega)]) (by first | (rw [if_pos (by omega)]; omega) | (rw [if_neg (by omega)]; omega)) (by omega), fun _ => rfl⟩, by omega, Or.inr (Or.inr (by omega))⟩⟩
            · skip
              refine dk_aload_n (pc' := 109) hE dX11_behind_108 rfl rfl rfl ?_
              refine dk_iload_n (pc' := 110) hE dX11_behind_109 rfl rfl rfl ?_
              refine dk_iload_n (pc' := 111) hE dX11_behind_110 rfl rfl rfl ?_
              refine dk_iconst (pc' := 112) hE dX11_behind_111 (by decide) rfl ?_
              refine dk_icmp_ne (tgt := 120) (pc' := 115) hE dX11_behind_112 (by decide) rfl (fun hc147 => ?_) (fun hc147 => ?_)
              · skip
                refine dk_iload_n (pc' := 121) hE dX11_behind_120 rfl rfl rfl ?_
                refine dk_iconst (pc' := 122) hE dX11_behind_121 (by decide) rfl ?_
                refine dk_icmp_ne (tgt := 130) (pc' := 125) hE dX11_behind_122 (by decide) rfl (fun hc148 => ?_) (fun hc148 => ?_)
                · skip
                  refine dk_aload_n (pc' := 131) hE dX11_behind_130 rfl rfl rfl ?_
                  refine dk_aload_n (pc' := 132) hE dX11_behind_131 rfl rfl rfl ?_
                  refine gf_11_6 (pc' := 135) hE fl_X11_215 dX11_behind_132 is_141 rfl (fun v149 hv149 htv149 hbv149 => ?_)
                  have hq149 : t = v149 := (show v149 = t by rw [hv149, hF23 141 6 (by omega), ht]).symm
                  subst hq149
                  have hn_135 : tsg σ23c t = tsg σ t := by rw [tsg_fr (hF23 141 3 (by omega)) (fun q_ => hF23 143 q_ (by omega))]
                  refine dk_cV (pc' := 138) (as := [(0, t)]) hE lk_X11_218 (ct_X11_sign l G hGd t) dX11_behind_135 rfl is_141 rfl (by decide) (Nat.le_of_ble_eq_true rfl) ⟨rfl, (by omega)⟩ rfl (fun r151 σ150 hr151 hor151 => ?_)
                  obtain ⟨v153, rfl, hfσ150, hpr151⟩ := hr151
                  have hsσ150 : σ23c = σ150 := (funext (fun k => funext (fun j => hfσ150 k j not_false))).symm
                  subst hsσ150
                  have hz154 : σ23c 141 45 = p := by rw [hv105]
                  refine dk_cV (pc' := 141) (as := [(0, v3), (0, v153)]) hE lk_X11_395 (ct_X11_put l G hGd v3 v153 p) dX11_behind_138 rfl is_141 rfl (by decide) (Nat.le_of_ble_eq_true rfl) ⟨rfl, (by omega), (by omega)⟩ rfl (fun r156 σ155 hr156 hor156 => ?_)
                  obtain ⟨rfl, hfσ155, hpr156⟩ := hr156
                  have H138 := hpr156
                  have gi157 : NX σ23c σ155 := NX_fr (NX_rf (hG23).1.1.2.1) (fun k_ j_ h_ => by rw [hfσ155 k_ j_ (by omega)])
                  refine dk_aload_n (pc' := 142) hE dX11_behind_141 rfl rfl rfl ?_
                  have hz158 : σ155 141 7 = σ 141 7 := by rw [hfσ155 141 7 (by omega), hF23 141 7 (by omega)]
                  have hz159 : σ155 141 3 = σ 141 3 := by rw [hfσ155 141 3 (by omega), hF23 141 3 (by omega)]
                  have hz160 : σ155 141 3 = σ 141 3 := by rw [hfσ155 141 3 (by omega), hF23 141 3 (by omega)]
                  refine dk_cV (pc' := 145) (as := []) hE lk_X11_254 (ct_X11_next l G hGd) dX11_behind_142 rfl is_141 rfl (by decide) (Nat.le_of_ble_eq_true rfl) ⟨rfl, ((NX_tk gi157).2.1), (by omega)⟩ rfl (fun r162 σ161 hr162 hor162 => ?_)
                  obtain ⟨rfl, hfσ161, hpr162⟩ := hr162
                  have H142 := hpr162
                  have gi163 : NX σ23c σ161 := NX_y gi157 hpr162
                  have hy_ := H142.2.2.1
                  have ht_ := hT.2.2 (by omega)
                  refine dk_iconst (pc' := 146) hE dX11_behind_145 (by decide) rfl ?_
                  have hz164 : σ161 141 42 = n := by rw [hfσ161 141 42 (by omega), hfσ155 141 42 (by omega), hn]
                  have hz165 : σ161 141 43 = σ 141 43 := by rw [hfσ161 141 43 (by omega), hfσ155 141 43 (by omega), hF23 141 43 (by omega)]
                  have hz166 : σ161 141 44 = y := by rw [hfσ161 141 44 (by omega), hfσ155 141 44 (by omega), hy]
                  have hz167 : σ161 141 45 = p + 1 := by rw [hfσ161 141 45 (by omega), (hpr156.2.2).symm]
                  have hz168 : σ161 141 4 = σ 141 4 := by rw [hfσ161 141 4 (by omega), hfσ155 141 4 (by omega), hF23 141 4 (by omega)]
                  have hz169 : σ161 166 p = v3 := by rw [hfσ161 166 p (by omega), (hpr156.1).symm]
                  have hz170 : σ161 167 p = v153 := by rw [hfσ161 167 p (by omega), (hpr156.2.1).symm]
                  exact dk_zret (st := []) hE hR dX11_behind_146 (by omega) ⟨_, rfl, (fun k_ j_ h_ => by rw [hfσ161 k_ j_ (fun w_ => h_ (w_.elim (fun x0_ => Or.inr (Or.inr (Or.inl (x0_)))) (fun y0_ => y0_.elim (fun x1_ => Or.inr (Or.inr (Or.inr (Or.inl (x1_))))) (fun y1_ => y1_.elim (fun x2_ => Or.inr (Or.inr (Or.inr (Or.inr (Or.inl (x2_)))))) (fun y2_ => y2_.elim (fun x3_ => Or.inr (Or.inr (Or.inr (Or.inr (Or.inr (Or.inl (x3_))))))) (fun y3_ => Or.inr (Or.inr (Or.inr (Or.inr (Or.inr (Or.inr (Or.inl (y3_))))))))))))), hfσ155 k_ j_ (fun w_ => h_ (w_.elim (fun x0_ => Or.inr (Or.inr (Or.inr (Or.inr (Or.inr (Or.inr (Or.inr (Or.inr (Or.inr (Or.inr (Or.inr (dk_wr (lo := 164) (hi := 167) x0_.1 (by decide))))))))))))) (fun y0_ => y0_.elim (fun x1_ => Or.inr (Or.inr (Or.inr (Or.inr (Or.inr (Or.inr (Or.inr (Or.inr (Or.inr (Or.inr (Or.inr (dk_wr (lo := 164) (hi := 167) x1_.1 (by decide))))))))))))) (fun y1_ => Or.inr (Or.inr (Or.inr (Or.inr (Or.inr (Or.inr (Or.inr (Or.inr (Or.inr (Or.inr (Or.inl (y1_))))))))))))))), hF23 k_ j_ (fun w_ => h_ (w_.elim (fun x0_ => Or.inr (Or.inr (Or.inr (Or.inr (Or.inr (Or.inr (Or.inr (Or.inl (x0_))))))))) (fun y0_ => y0_.elim (fun x1_ => Or.inr (Or.inr (Or.inr (Or.inr (Or.inr (Or.inr (Or.inr (Or.inr (Or.inr (Or.inl (x1_))))))))))) (fun y1_ => y1_.elim (fun x2_ => Or.inr (Or.inr (Or.inr (Or.inr (Or.inr (Or.inr (Or.inr (Or.inr (Or.inr (Or.inr (Or.inl (x2_)))))))))))) (fun y2_ => Or.inr (Or.inr (Or.inr (Or.inr (Or.inr (Or.inr (Or.inr (Or.inr (Or.inr (Or.inr (Or.inr (dk_wrr (lo := 164) (hi := 167) y2_ (by decide) (by decide)))))))))))))))))]), ⟨⟨1, PX_put hG23 gi163 hn.symm hpp.symm (by omega) (fun k_ j_ h_ => by rw [hfσ161 k_ j_ (by omega), hfσ155 k_ j_ (by omega)]) (fun j_ => by rw [hfσ161 164 j_ (by omega), hfσ155 164 j_ (by omega)]) (by omega) (by omega) (by omega) (by omega) (by omega) (by omega) (by omega) rfl (Or.inr (by omega)), fun _ => rfl⟩, by omega, Or.inr (Or.inl (by omega))⟩⟩
                · skip
                  refine dk_bipush (pc' := 127) hE dX11_behind_125 (by decide) rfl ?_
                  refine dk_goto (tgt := 138) hE dX11_behind_127 (by decide) ?_
                  have hz171 : σ23c 141 45 = p := by rw [hv105]
                  refine dk_cV (pc' := 141) (as := [(0, v3), (0, 124)]) hE lk_X11_395 (ct_X11_put l G hGd v3 124 p) dX11_behind_138 rfl is_141 rfl (by decide) (Nat.le_of_ble_eq_true rfl) ⟨rfl, (by omega), (by omega)⟩ rfl (fun r173 σ172 hr173 hor173 => ?_)
                  obtain ⟨rfl, hfσ172, hpr173⟩ := hr173
                  have H138 := hpr173
                  have gi174 : NX σ23c σ172 := NX_fr (NX_rf (hG23).1.1.2.1) (fun k_ j_ h_ => by rw [hfσ172 k_ j_ (by omega)])
                  refine dk_aload_n (pc' := 142) hE dX11_behind_141 rfl rfl rfl ?_
                  have hz175 : σ172 141 7 = σ 141 7 := by rw [hfσ172 141 7 (by omega), hF23 141 7 (by omega)]
                  have hz176 : σ172 141 3 = σ 141 3 := by rw [hfσ172 141 3 (by omega), hF23 141 3 (by omega)]
                  have hz177 : σ172 141 3 = σ 141 3 := by rw [hfσ172 141 3 (by omega), hF23 141 3 (by omega)]
                  refine dk_cV (pc' := 145) (as := []) hE lk_X11_254 (ct_X11_next l G hGd) dX11_behind_142 rfl is_141 rfl (by decide) (Nat.le_of_ble_eq_true rfl) ⟨rfl, ((NX_tk gi174).2.1), (by omega)⟩ rfl (fun r179 σ178 hr179 hor179 => ?_)
                  obtain ⟨rfl, hfσ178, hpr179⟩ := hr179
                  have H142 := hpr179
                  have gi180 : NX σ23c σ178 := NX_y gi174 hpr179
                  have hy_ := H142.2.2.1
                  have ht_ := hT.2.2 (by omega)
                  refine dk_iconst (pc' := 146) hE dX11_behind_145 (by decide) rfl ?_
                  have hz181 : σ178 141 42 = n := by rw [hfσ178 141 42 (by omega), hfσ172 141 42 (by omega), hn]
                  have hz182 : σ178 141 43 = σ 141 43 := by rw [hfσ178 141 43 (by omega), hfσ172 141 43 (by omega), hF23 141 43 (by omega)]
                  have hz183 : σ178 141 44 = y := by rw [hfσ178 141 44 (by omega), hfσ172 141 44 (by omega), hy]
                  have hz184 : σ178 141 45 = p + 1 := by rw [hfσ178 141 45 (by omega), (hpr173.2.2).symm]
                  have hz185 : σ178 141 4 = σ 141 4 := by rw [hfσ178 141 4 (by omega), hfσ172 141 4 (by omega), hF23 141 4 (by omega)]
                  have hz186 : σ178 166 p = v3 := by rw [hfσ178 166 p (by omega), (hpr173.1).symm]
                  have hz187 : σ178 167 p = 124 := by rw [hfσ178 167 p (by omega), (hpr173.2.1).symm]
                  exact dk_zret (st := []) hE hR dX11_behind_146 (by omega) ⟨_, rfl, (fun k_ j_ h_ => by rw [hfσ178 k_ j_ (fun w_ => h_ (w_.elim (fun x0_ => Or.inr (Or.inr (Or.inl (x0_)))) (fun y0_ => y0_.elim (fun x1_ => Or.inr (Or.inr (Or.inr (Or.inl (x1_))))) (fun y1_ => y1_.elim (fun x2_ => Or.inr (Or.inr (Or.inr (Or.inr (Or.inl (x2_)))))) (fun y2_ => y2_.elim (fun x3_ => Or.inr (Or.inr (Or.inr (Or.inr (Or.inr (Or.inl (x3_))))))) (fun y3_ => Or.inr (Or.inr (Or.inr (Or.inr (Or.inr (Or.inr (Or.inl (y3_))))))))))))), hfσ172 k_ j_ (fun w_ => h_ (w_.elim (fun x0_ => Or.inr (Or.inr (Or.inr (Or.inr (Or.inr (Or.inr (Or.inr (Or.inr (Or.inr (Or.inr (Or.inr (dk_wr (lo := 164) (hi := 167) x0_.1 (by decide))))))))))))) (fun y0_ => y0_.elim (fun x1_ => Or.inr (Or.inr (Or.inr (Or.inr (Or.inr (Or.inr (Or.inr (Or.inr (Or.inr (Or.inr (Or.inr (dk_wr (lo := 164) (hi := 167) x1_.1 (by decide))))))))))))) (fun y1_ => Or.inr (Or.inr (Or.inr (Or.inr (Or.inr (Or.inr (Or.inr (Or.inr (Or.inr (Or.inr (Or.inl (y1_))))))))))))))), hF23 k_ j_ (fun w_ => h_ (w_.elim (fun x0_ => Or.inr (Or.inr (Or.inr (Or.inr (Or.inr (Or.inr (Or.inr (Or.inl (x0_))))))))) (fun y0_ => y0_.elim (fun x1_ => Or.inr (Or.inr (Or.inr (Or.inr (Or.inr (Or.inr (Or.inr (Or.inr (Or.inr (Or.inl (x1_))))))))))) (fun y1_ => y1_.elim (fun x2_ => Or.inr (Or.inr (Or.inr (Or.inr (Or.inr (Or.inr (Or.inr (Or.inr (Or.inr (Or.inr (Or.inl (x2_)))))))))))) (fun y2_ => Or.inr (Or.inr (Or.inr (Or.inr (Or.inr (Or.inr (Or.inr (Or.inr (Or.inr (Or.inr (Or.inr (dk_wrr (lo := 164) (hi := 167) y2_ (by decide) (by decide)))))))))))))))))]), ⟨⟨1, PX_put hG23 gi180 hn.symm hpp.symm (by omega) (fun k_ j_ h_ => by rw [hfσ178 k_ j_ (by omega), hfσ172 k_ j_ (by omega)]) (fun j_ => by rw [hfσ178 164 j_ (by omega), hfσ172 164 j_ (by omega)]) (by omega) (by omega) (by omega) (by omega) (by omega) (by omega) (by omega) rfl (Or.inr (by omega)), fun _ => rfl⟩, by omega, Or.inr (Or.inl (by omega))⟩⟩
              · skip
                refine dk_bipush (pc' := 117) hE dX11_behind_115 (by decide) rfl ?_
                refine dk_goto (tgt := 138) hE dX11_behind_117 (by decide) ?_
                have hz188 : σ23c 141 45 = p := by rw [hv105]
                refine dk_cV (pc' := 141) (as := [(0, v3), (0, 38)]) hE lk_X11_395 (ct_X11_put l G hGd v3 38 p) dX11_behind_138 rfl is_141 rfl (by decide) (Nat.le_of_ble_eq_true rfl) ⟨rfl, (by omega), (by omega)⟩ rfl (fun r190 σ189 hr190 hor190 => ?_)
                obtain ⟨rfl, hfσ189, hpr190⟩ := hr190
                have H138 := hpr190
                have gi191 : NX σ23c σ189 := NX_fr (NX_rf (hG23).1.1.2.1) (fun k_ j_ h_ => by rw [hfσ189 k_ j_ (by omega)])
                refine dk_aload_n (pc' := 142) hE dX11_behind_141 rfl rfl rfl ?_
                have hz192 : σ189 141 7 = σ 141 7 := by rw [hfσ189 141 7 (by omega), hF23 141 7 (by omega)]
                have hz193 : σ189 141 3 = σ 141 3 := by rw [hfσ189 141 3 (by omega), hF23 141 3 (by omega)]
                have hz194 : σ189 141 3 = σ 141 3 := by rw [hfσ189 141 3 (by omega), hF23 141 3 (by omega)]
                refine dk_cV (pc' := 145) (as := []) hE lk_X11_254 (ct_X11_next l G hGd) dX11_behind_142 rfl is_141 rfl (by decide) (Nat.le_of_ble_eq_true rfl) ⟨rfl, ((NX_tk gi191).2.1), (by omega)⟩ rfl (fun r196 σ195 hr196 hor196 => ?_)
                obtain ⟨rfl, hfσ195, hpr196⟩ := hr196
                have H142 := hpr196
                have gi197 : NX σ23c σ195 := NX_y gi191 hpr196
                have hy_ := H142.2.2.1
                have ht_ := hT.2.2 (by omega)
                refine dk_iconst (pc' := 146) hE dX11_behind_145 (by decide) rfl ?_
                have hz198 : σ195 141 42 = n := by rw [hfσ195 141 42 (by omega), hfσ189 141 42 (by omega), hn]
                have hz199 : σ195 141 43 = σ 141 43 := by rw [hfσ195 141 43 (by omega), hfσ189 141 43 (by omega), hF23 141 43 (by omega)]
                have hz200 : σ195 141 44 = y := by rw [hfσ195 141 44 (by omega), hfσ189 141 44 (by omega), hy]
                have hz201 : σ195 141 45 = p + 1 := by rw [hfσ195 141 45 (by omega), (hpr190.2.2).symm]
                have hz202 : σ195 141 4 = σ 141 4 := by rw [hfσ195 141 4 (by omega), hfσ189 141 4 (by omega), hF23 141 4 (by omega)]
                have hz203 : σ195 166 p = v3 := by rw [hfσ195 166 p (by omega), (hpr190.1).symm]
                have hz204 : σ195 167 p = 38 := by rw [hfσ195 167 p (by omega), (hpr190.2.1).symm]
                exact dk_zret (st := []) hE hR dX11_behind_146 (by omega) ⟨_, rfl, (fun k_ j_ h_ => by rw [hfσ195 k_ j_ (fun w_ => h_ (w_.elim (fun x0_ => Or.inr (Or.inr (Or.inl (x0_)))) (fun y0_ => y0_.elim (fun x1_ => Or.inr (Or.inr (Or.inr (Or.inl (x1_))))) (fun y1_ => y1_.elim (fun x2_ => Or.inr (Or.inr (Or.inr (Or.inr (Or.inl (x2_)))))) (fun y2_ => y2_.elim (fun x3_ => Or.inr (Or.inr (Or.inr (Or.inr (Or.inr (Or.inl (x3_))))))) (fun y3_ => Or.inr (Or.inr (Or.inr (Or.inr (Or.inr (Or.inr (Or.inl (y3_))))))))))))), hfσ189 k_ j_ (fun w_ => h_ (w_.elim (fun x0_ => Or.inr (Or.inr (Or.inr (Or.inr (Or.inr (Or.inr (Or.inr (Or.inr (Or.inr (Or.inr (Or.inr (dk_wr (lo := 164) (hi := 167) x0_.1 (by decide))))))))))))) (fun y0_ => y0_.elim (fun x1_ => Or.inr (Or.inr (Or.inr (Or.inr (Or.inr (Or.inr (Or.inr (Or.inr (Or.inr (Or.inr (Or.inr (dk_wr (lo := 164) (hi := 167) x1_.1 (by decide))))))))))))) (fun y1_ => Or.inr (Or.inr (Or.inr (Or.inr (Or.inr (Or.inr (Or.inr (Or.inr (Or.inr (Or.inr (Or.inl (y1_))))))))))))))), hF23 k_ j_ (fun w_ => h_ (w_.elim (fun x0_ => Or.inr (Or.inr (Or.inr (Or.inr (Or.inr (Or.inr (Or.inr (Or.inl (x0_))))))))) (fun y0_ => y0_.elim (fun x1_ => Or.inr (Or.inr (Or.inr (Or.inr (Or.inr (Or.inr (Or.inr (Or.inr (Or.inr (Or.inl (x1_))))))))))) (fun y1_ => y1_.elim (fun x2_ => Or.inr (Or.inr (Or.inr (Or.inr (Or.inr (Or.inr (Or.inr (Or.inr (Or.inr (Or.inr (Or.inl (x2_)))))))))))) (fun y2_ => Or.inr (Or.inr (Or.inr (Or.inr (Or.inr (Or.inr (Or.inr (Or.inr (Or.inr (Or.inr (Or.inr (dk_wrr (lo := 164) (hi := 167) y2_ (by decide) (by decide)))))))))))))))))]), ⟨⟨1, PX_put hG23 gi197 hn.symm hpp.symm (by omega) (fun k_ j_ h_ => by rw [hfσ195 k_ j_ (by omega), hfσ189 k_ j_ (by omega)]) (fun j_ => by rw [hfσ195 164 j_ (by omega), hfσ189 164 j_ (by omega)]) (by omega) (by omega) (by omega) (by omega) (by omega) (by omega) (by omega) rfl (Or.inr (by omega)), fun _ => rfl⟩, by omega, Or.inr (Or.inl (by omega))⟩⟩
          · skip
            refine dk_aload_n (pc' := 55) hE dX11_behind_54 rfl rfl rfl ?_
            refine dk_dup (pc' := 56) hE dX11_behind_55 (show (4 : Nat) ≠ 3 by decide) rfl ?_
            refine gf_11_45 (pc' := 59) hE fl_X11_389 dX11_behind_56 is_141 rfl (fun v205 hv205 htv205 hbv205 => ?_)
            have hq205 : p = v205 := (show v205 = p by rw [hv205, hv105]).symm
            subst hq205
            clear htv205 hbv205
            refine dk_iconst (pc' := 60) hE dX11_behind_59 (by decide) rfl ?_
            obtain ⟨v206, hv206⟩ : ∃ z : Int, z = p - 1 := ⟨_, rfl⟩
            refine dk_isub (pc' := 61) hE dX11_behind_60 hv206.symm (by omega) rfl ?_
            have hrnv206 : v6 = v206 := by omega
            subst hrnv206
            refine pf_11_45 (pc' := 64) hE fl_X11_389 dX11_behind_61 is_141 (by omega) rfl (fun σ207 eσ207 => ?_)
            refine dk_aload_n (pc' := 65) hE dX11_behind_64 rfl rfl rfl ?_
            refine gf_11_37 (pc' := 68) (w := 166) hE fl_X11_89 dX11_behind_65 is_141 rfl rfl ?_
            refine dk_aload_n (pc' := 69) hE dX11_behind_68 rfl rfl rfl ?_
            refine gf_11_45 (pc' := 72) hE fl_X11_389 dX11_behind_69 is_141 rfl (fun v208 hv208 htv208 hbv208 => ?_)
            have hq208 : v6 = v208 := (show v208 = v6 by rw [hv208, eσ207, dk_up_s]).symm
            subst hq208
            clear htv208 hbv208
            refine ga_94 (pc' := 73) hE dX11_behind_72 is_166 (by omega) rfl (fun v209 hv209 htv209 hbv209 => ?_)
            have hq209 : v7 = v209 := (show v209 = v7 by rw [hv209, eσ207, dk_up_n (show ¬ (166 = 141 ∧ v6 = 45) by omega), hv107]).symm
            subst hq209
            clear htv209 hbv209
            refine dk_iconst (pc' := 74) hE dX11_behind_73 (by decide) rfl ?_
            refine dk_icmp_ne (tgt := 87) (pc' := 77) hE dX11_behind_74 (by decide) rfl (fun hc210 => ?_) (fun hc210 => ?_)
            · skip
              refine dk_aload_n (pc' := 88) hE dX11_behind_87 rfl rfl rfl ?_
              refine dk_aload_n (pc' := 89) hE dX11_behind_88 rfl rfl rfl ?_
              refine gf_11_38 (pc' := 92) (w := 167) hE fl_X11_92 dX11_behind_89 is_141 rfl rfl ?_
              refine dk_aload_n (pc' := 93) hE dX11_behind_92 rfl rfl rfl ?_
              refine gf_11_45 (pc' := 96) hE fl_X11_389 dX11_behind_93 is_141 rfl (fun v211 hv211 htv211 hbv211 => ?_)
              have hq211 : v6 = v211 := (show v211 = v6 by rw [hv211, hv208]).symm
              subst hq211
              clear htv211 hbv211
              refine ga_95 (pc' := 97) hE dX11_behind_96 is_167 (by omega) rfl (fun v212 hv212 htv212 hbv212 => ?_)
              have hs96 : σ23c 167 v6 = v212 := by rw [hv212, eσ207, dk_up_n (show ¬ (167 = 141 ∧ v6 = 45) by omega)]
              refine dk_iconst (pc' := 98) hE dX11_behind_97 (by decide) rfl ?_
              have hz213 : σ207 141 41 = σ 141 41 := by rw [eσ207, dk_up_n (show ¬ (141 = 141 ∧ 41 = 45) by omega), hF23 141 41 (by omega)]
              have hz214 : σ207 141 42 = n := by rw [eσ207, dk_up_n (show ¬ (141 = 141 ∧ 42 = 45) by omega), hn]
              refine dk_cV (pc' := 101) (as := [(0, v212), (0, 0)]) hE lk_X11_407 (ct_X11_sign0 l G hGd v212 0 r n (600 * r + n)) dX11_behind_98 rfl is_141 rfl (by decide) (Nat.le_of_ble_eq_true rfl) ⟨rfl, (by omega), (by omega), (by omega), (by omega), (by omega)⟩ rfl (fun r216 σ215 hr216 hor216 => ?_)
              obtain ⟨rfl, hfσ215, hpr216⟩ := hr216
              have H98 := hpr216
              have hz217 : σ215 141 42 = n + 1 := by rw [(hpr216.2).symm]
              have hz218 : σ215 141 44 = y := by rw [hfσ215 141 44 (by omega), eσ207, dk_up_n (show ¬ (141 = 141 ∧ 44 = 45) by omega), hy]
              have hz219 : σ215 141 45 = v6 := by rw [hfσ215 141 45 (by omega), hv211]
              have hz220 : σ215 164 (600 * r + n) = v212 := by rw [(hpr216.1).symm]
              have gi221 : PX 0 c r σ σ215 := PX_pop (z := v7) (s := v212) hG23 hn.symm hpp.symm (by omega) (by rw [show p - 1 = v6 by omega]; exact hv7.symm) (by omega) (by rw [show p - 1 = v6 by omega]; exact hs96) (fun k_ j_ h_ => by rw [hfσ215 k_ j_ (by omega), eσ207, dk_up_n (show ¬ (k_ = 141 ∧ j_ = 45) by omega)]) (by omega) (by first | (rw [if_pos (by omega)]; omega) | (rw [if_neg (by omega)]; omega)) (by omega) (by omega)
              refine dk_goto (tgt := 23) hE dX11_behind_101 (by decide) ?_
              have hz222_141_45 : σ215 141 45 = v6 := by rw [hfσ215 141 45 (by omega), eσ207, dk_up_s]
              have hz223_141_44 := (show σ215 141 44 = _ by rw [hfσ215 141 44 (by omega), eσ207, dk_up_n (show ¬ (141 = 141 ∧ 44 = 45) by omega)])
              have hz224_141_43 := (show σ215 141 43 = _ by rw [hfσ215 141 43 (by omega), eσ207, dk_up_n (show ¬ (141 = 141 ∧ 43 = 45) by omega)])
              have hz225_141_6 := (show σ215 141 6 = _ by rw [hfσ215 141 6 (by omega), eσ207, dk_up_n (show ¬ (141 = 141 ∧ 6 = 45) by omega)])
              have hz226_141_4 := (show σ215 141 4 = _ by rw [hfσ215 141 4 (by omega), eσ207, dk_up_n (show ¬ (141 = 141 ∧ 4 = 45) by omega)])
              have hz227_141_7 := (show σ215 141 7 = _ by rw [hfσ215 141 7 (by omega), eσ207, dk_up_n (show ¬ (141 = 141 ∧ 7 = 45) by omega)])
              have hz228_141_8 := (show σ215 141 8 = _ by rw [hfσ215 141 8 (by omega), eσ207, dk_up_n (show ¬ (141 = 141 ∧ 8 = 45) by omega)])
              exact ih23 (σ215 141 42) (σ215 141 45) (σ215 141 44) σ215 (by omega) (fun k_ j_ h_ => by rw [hfσ215 k_ j_ (fun w_ => h_ (w_.elim (fun x0_ => Or.inr (Or.inr (Or.inr (dk_wr (lo := 164) (hi := 165) x0_.1 (by decide))))) (fun y0_ => y0_.elim (fun x1_ => Or.inr (Or.inr (Or.inr (dk_wr (lo := 164) (hi := 165) x1_.1 (by decide))))) (fun y1_ => Or.inl (y1_))))), eσ207, dk_up_n (show ¬ (k_ = 141 ∧ j_ = 45) from fun q_ => h_ (Or.inr (Or.inr (Or.inl (q_))))), hF23 k_ j_ (fun w_ => h_ (w_.elim (fun x0_ => Or.inl (x0_)) (fun y0_ => y0_.elim (fun x1_ => Or.inr (Or.inl (x1_))) (fun y1_ => y1_.elim (fun x2_ => Or.inr (Or.inr (Or.inl (x2_)))) (fun y2_ => Or.inr (Or.inr (Or.inr (y2_))))))))]) gi221 (rfl) (rfl) (rfl) (by omega) (by omega)
            · skip
              refine dk_aload_n (pc' := 78) hE dX11_behind_77 rfl rfl rfl ?_
              refine dk_dup (pc' := 79) hE dX11_behind_78 (show (4 : Nat) ≠ 3 by decide) rfl ?_
              refine gf_11_44 (pc' := 82) hE fl_X11_392 dX11_behind_79 is_141 rfl (fun v230 hv230 htv230 hbv230 => ?_)
              have hq230 : y = v230 := (show v230 = y by rw [hv230, eσ207, dk_up_n (show ¬ (141 = 141 ∧ 44 = 45) by omega), hy]).symm
              subst hq230
              clear htv230 hbv230
              refine dk_iconst (pc' := 83) hE dX11_behind_82 (by decide) rfl ?_
              obtain ⟨v231, hv231⟩ : ∃ z : Int, z = y - 1 := ⟨_, rfl⟩
              refine dk_isub (pc' := 84) hE dX11_behind_83 hv231.symm (by omega) rfl ?_
              refine pf_11_44 (pc' := 87) hE fl_X11_392 dX11_behind_84 is_141 trivial rfl (fun σ232 eσ232 => ?_)
              refine dk_aload_n (pc' := 88) hE dX11_behind_87 rfl rfl rfl ?_
              refine dk_aload_n (pc' := 89) hE dX11_behind_88 rfl rfl rfl ?_
              refine gf_11_38 (pc' := 92) (w := 167) hE fl_X11_92 dX11_behind_89 is_141 rfl rfl ?_
              refine dk_aload_n (pc' := 93) hE dX11_behind_92 rfl rfl rfl ?_
              refine gf_11_45 (pc' := 96) hE fl_X11_389 dX11_behind_93 is_141 rfl (fun v233 hv233 htv233 hbv233 => ?_)
              have hq233 : v6 = v233 := (show v233 = v6 by rw [hv233, eσ232, dk_up_n (show ¬ (141 = 141 ∧ 45 = 44) by omega), hv208]).symm
              subst hq233
              clear htv233 hbv233
              refine ga_95 (pc' := 97) hE dX11_behind_96 is_167 (by omega) rfl (fun v234 hv234 htv234 hbv234 => ?_)
              have hs96 : σ23c 167 v6 = v234 := by rw [hv234, eσ232, dk_up_n (show ¬ (167 = 141 ∧ v6 = 44) by omega), eσ207, dk_up_n (show ¬ (167 = 141 ∧ v6 = 45) by omega)]
              refine dk_iconst (pc' := 98) hE dX11_behind_97 (by decide) rfl ?_
              have hz235 : σ232 141 41 = σ 141 41 := by rw [eσ232, dk_up_n (show ¬ (141 = 141 ∧ 41 = 44) by omega), eσ207, dk_up_n (show ¬ (141 = 141 ∧ 41 = 45) by omega), hF23 141 41 (by omega)]
              have hz236 : σ232 141 42 = n := by rw [eσ232, dk_up_n (show ¬ (141 = 141 ∧ 42 = 44) by omega), eσ207, dk_up_n (show ¬ (141 = 141 ∧ 42 = 45) by omega), hn]
              refine dk_cV (pc' := 101) (as := [(0, v234), (0, 0)]) hE lk_X11_407 (ct_X11_sign0 l G hGd v234 0 r n (600 * r + n)) dX11_behind_98 rfl is_141 rfl (by decide) (Nat.le_of_ble_eq_true rfl) ⟨rfl, (by omega), (by omega), (by omega), (by omega), (by omega)⟩ rfl (fun r238 σ237 hr238 hor238 => ?_)
              obtain ⟨rfl, hfσ237, hpr238⟩ := hr238
              have H98 := hpr238
              have hz239 : σ237 141 42 = n + 1 := by rw [(hpr238.2).symm]
              have hz240 : σ237 141 44 = v231 := by rw [hfσ237 141 44 (by omega), eσ232, dk_up_s]
              have hz241 : σ237 141 45 = v6 := by rw [hfσ237 141 45 (by omega), hv233]
              have hz242 : σ237 164 (600 * r + n) = v234 := by rw [(hpr238.1).symm]
              have gi243 : PX 0 c r σ σ237 := PX_pop (z := v7) (s := v234) hG23 hn.symm hpp.symm (by omega) (by rw [show p - 1 = v6 by omega]; exact hv7.symm) (by omega) (by rw [show p - 1 = v6 by omega]; exact hs96) (fun k_ j_ h_ => by rw [hfσ237 k_ j_ (by omega), eσ232, dk_up_n (show ¬ (k_ = 141 ∧ j_ = 44) by omega), eσ207, dk_up_n (show ¬ (k_ = 141 ∧ j_ = 45) by omega)]) (by omega) (by first | (rw [if_pos (by omega)]; omega) | (rw [if_neg (by omega)]; omega)) (by omega) (by omega)
              refine dk_goto (tgt := 23) hE dX11_behind_101 (by decide) ?_
              have hz244_141_45 : σ237 141 45 = v6 := by rw [hfσ237 141 45 (by omega), eσ232, dk_up_n (show ¬ (141 = 141 ∧ 45 = 44) by omega), eσ207, dk_up_s]
              have hz245_141_44 : σ237 141 44 = v231 := by rw [hfσ237 141 44 (by omega), eσ232, dk_up_s]
              have hz246_141_43 := (show σ237 141 43 = _ by rw [hfσ237 141 43 (by omega), eσ232, dk_up_n (show ¬ (141 = 141 ∧ 43 = 44) by omega), eσ207, dk_up_n (show ¬ (141 = 141 ∧ 43 = 45) by omega)])
              have hz247_141_6 := (show σ237 141 6 = _ by rw [hfσ237 141 6 (by omega), eσ232, dk_up_n (show ¬ (141 = 141 ∧ 6 = 44) by omega), eσ207, dk_up_n (show ¬ (141 = 141 ∧ 6 = 45) by omega)])
              have hz248_141_4 := (show σ237 141 4 = _ by rw [hfσ237 141 4 (by omega), eσ232, dk_up_n (show ¬ (141 = 141 ∧ 4 = 44) by omega), eσ207, dk_up_n (show ¬ (141 = 141 ∧ 4 = 45) by omega)])
              have hz249_141_7 := (show σ237 141 7 = _ by rw [hfσ237 141 7 (by omega), eσ232, dk_up_n (show ¬ (141 = 141 ∧ 7 = 44) by omega), eσ207, dk_up_n (show ¬ (141 = 141 ∧ 7 = 45) by omega)])
              have hz250_141_8 := (show σ237 141 8 = _ by rw [hfσ237 141 8 (by omega), eσ232, dk_up_n (show ¬ (141 = 141 ∧ 8 = 44) by omega), eσ207, dk_up_n (show ¬ (141 = 141 ∧ 8 = 45) by omega)])
              exact ih23 (σ237 141 42) (σ237 141 45) (σ237 141 44) σ237 (by omega) (fun k_ j_ h_ => by rw [hfσ237 k_ j_ (fun w_ => h_ (w_.elim (fun x0_ => Or.inr (Or.inr (Or.inr (dk_wr (lo := 164) (hi := 165) x0_.1 (by decide))))) (fun y0_ => y0_.elim (fun x1_ => Or.inr (Or.inr (Or.inr (dk_wr (lo := 164) (hi := 165) x1_.1 (by decide))))) (fun y1_ => Or.inl (y1_))))), eσ232, dk_up_n (show ¬ (k_ = 141 ∧ j_ = 44) from fun q_ => h_ (Or.inr (Or.inl (q_)))), eσ207, dk_up_n (show ¬ (k_ = 141 ∧ j_ = 45) from fun q_ => h_ (Or.inr (Or.inr (Or.inl (q_))))), hF23 k_ j_ (fun w_ => h_ (w_.elim (fun x0_ => Or.inl (x0_)) (fun y0_ => y0_.elim (fun x1_ => Or.inr (Or.inl (x1_))) (fun y1_ => y1_.elim (fun x2_ => Or.inr (Or.inr (Or.inl (x2_)))) (fun y2_ => Or.inr (Or.inr (Or.inr (y2_))))))))]) gi243 (rfl) (rfl) (rfl) (by omega) (by omega)
    have hz252 : σ 141 6 = t := by rw [ht]
    have hz253 : σ 141 6 = t := by rw [ht]
    exact lp23 _ (σ 141 42) (σ 141 45) (σ 141 44) σ (Nat.lt_succ_self _) (fun k_ j_ h_ => rfl) hP (rfl) (rfl) (rfl) (by omega) (by omega)
  · skip
    refine dk_aload_n (pc' := 11) hE dX11_behind_10 rfl rfl rfl ?_
    refine dk_cV (pc' := 14) (as := []) hE lk_X11_413 (ct_X11_isCompared l G hGd) dX11_behind_11 rfl is_141 rfl (by decide) (Nat.le_of_ble_eq_true rfl) ⟨rfl, (by omega), (hP.2.1.2.2.2.2.2.2 hp1)⟩ rfl (fun r263 σ262 hr263 hor263 => ?_)
    obtain ⟨v264, rfl, hfσ262, hpr263⟩ := hr263
    have hsσ262 : σ = σ262 := (funext (fun k => funext (fun j => hfσ262 k j not_false))).symm
    subst hsσ262
    refine dk_if_eq (tgt := 23) (pc' := 17) hE dX11_behind_14 (by decide) rfl (fun hc265 => ?_) (fun hc265 => ?_)
    · skip
      have lp23 : ∀ (N_ : Nat) (n p y : Int) (σ23c : dkS), (σ23c 141 45).toNat < N_ → ((∀ k_ j_ : Int, ¬ ((k_ = 141 ∧ j_ = 42) ∨ (k_ = 141 ∧ j_ = 44) ∨ (k_ = 141 ∧ j_ = 45) ∨ (164 ≤ k_ ∧ k_ ≤ 165)) → σ23c k_ j_ = σ k_ j_)) → (PX 0 c r σ σ23c) → (n = σ23c 141 42) → (p = σ23c 141 45) → (y = σ23c 141 44) → (1 ≤ σ23c 141 45 ∧ σ23c 141 45 ≤ σ 141 45) → (σ23c 141 43 = σ 141 43 ∧ σ23c 141 6 = σ 141 6 ∧ σ23c 141 4 = σ 141 4 ∧ σ23c 141 7 = σ 141 7 ∧ σ23c 141 8 = σ 141 8) → dk_PJ E 23 [(4, 141), (0, v3)] [] 190 σ23c := by
        intro N23
        induction N23 with
        | zero => intro n p y σ23c hm; exact absurd hm (Nat.not_lt_zero _)
        | succ N23 ih23 =>
          intro n p y σ23c hm23 hF23 hG23 hn hpp hy hpq hu
          have hq := PX_n hG23
          refine dk_aload_n (pc' := 24) hE dX11_behind_23 rfl rfl rfl ?_
          refine gf_11_37 (pc' := 27) (w := 166) hE fl_X11_89 dX11_behind_24 is_141 rfl rfl ?_
          refine dk_aload_n (pc' := 28) hE dX11_behind_27 rfl rfl rfl ?_
          refine gf_11_45 (pc' := 31) hE fl_X11_389 dX11_behind_28 is_141 rfl (fun v266 hv266 htv266 hbv266 => ?_)
          have hq266 : p = v266 := (show v266 = p by rw [hv266, hpp]).symm
          subst hq266
          clear htv266 hbv266
          refine dk_iconst (pc' := 32) hE dX11_behind_31 (by decide) rfl ?_
          obtain ⟨v267, hv267⟩ : ∃ z : Int, z = p - 1 := ⟨_, rfl⟩
          refine dk_isub (pc' := 33) hE dX11_behind_32 hv267.symm (by omega) rfl ?_
          refine ga_94 (pc' := 34) hE dX11_behind_33 is_166 (by omega) rfl (fun v268 hv268 htv268 hbv268 => ?_)
          have hxv268 := PX_v hG23 (i := v267) (by omega) (by omega)
          rw [← hv268] at hxv268
          refine dk_bipush (pc' := 36) hE dX11_behind_34 (by decide) rfl ?_
          refine dk_icmp_gt (tgt := 104) (pc' := 39) hE dX11_behind_36 (by decide) rfl (fun hc269 => ?_) (fun hc269 => ?_)
          · skip
            refine dk_iload_n (pc' := 105) hE dX11_behind_104 rfl rfl rfl ?_
            refine dk_if_le (tgt := 147) (pc' := 108) hE dX11_behind_105 (by decide) rfl (fun hc270 => ?_) (fun hc270 => ?_)
            · skip
              refine dk_aload_n (pc' := 148) hE dX11_behind_147 rfl rfl rfl ?_
              refine dk_dup (pc' := 149) hE dX11_behind_148 (show (4 : Nat) ≠ 3 by decide) rfl ?_
              refine gf_11_45 (pc' := 152) hE fl_X11_389 dX11_behind_149 is_141 rfl (fun v271 hv271 htv271 hbv271 => ?_)
              have hq271 : p = v271 := (show v271 = p by rw [hv271, hv266]).symm
              subst hq271
              clear htv271 hbv271
              refine dk_iconst (pc' := 153) hE dX11_behind_152 (by decide) rfl ?_
              obtain ⟨v272, hv272⟩ : ∃ z : Int, z = p - 1 := ⟨_, rfl⟩
              refine dk_isub (pc' := 154) hE dX11_behind_153 hv272.symm (by omega) rfl ?_
              have hrnv272 : v267 = v272 := by omega
              subst hrnv272
              refine pf_11_45 (pc' := 157) hE fl_X11_389 dX11_behind_154 is_141 (by omega) rfl (fun σ273 eσ273 => ?_)
              have gi274 : NX σ23c σ273 := NX_fr (NX_rf (hG23).1.1.2.1) (fun k_ j_ h_ => by rw [eσ273, dk_up_n (show ¬ (k_ = 141 ∧ j_ = 45) by omega)])
              refine dk_aload_n (pc' := 158) hE dX11_behind_157 rfl rfl rfl ?_
              refine gf_11_37 (pc' := 161) (w := 166) hE fl_X11_89 dX11_behind_158 is_141 rfl rfl ?_
              refine dk_aload_n (pc' := 162) hE dX11_behind_161 rfl rfl rfl ?_
              refine gf_11_45 (pc' := 165) hE fl_X11_389 dX11_behind_162 is_141 rfl (fun v275 hv275 htv275 hbv275 => ?_)
              have hq275 : v267 = v275 := (show v275 = v267 by rw [hv275, eσ273, dk_up_s]).symm
              subst hq275
              clear htv275 hbv275
              refine ga_94 (pc' := 166) hE dX11_behind_165 is_166 (by omega) rfl (fun v276 hv276 htv276 hbv276 => ?_)
              have hq276 : v268 = v276 := (show v276 = v268 by rw [hv276, eσ273, dk_up_n (show ¬ (166 = 141 ∧ v267 = 45) by omega), hv268]).symm
              subst hq276
              clear htv276 hbv276
              refine dk_bipush (pc' := 168) hE dX11_behind_166 (by decide) rfl ?_
              refine dk_icmp_ne (tgt := 191) (pc' := 171) hE dX11_behind_168 (by decide) rfl (fun hc277 => ?_) (fun hc277 => ?_)
              · skip
                refine dk_iconst (pc' := 192) hE dX11_behind_191 (by decide) rfl ?_
                have hz278 : σ273 141 42 = n := by rw [eσ273, dk_up_n (show ¬ (141 = 141 ∧ 42 = 45) by omega), hn]
                have hz279 : σ273 141 43 = σ 141 43 := by rw [eσ273, dk_up_n (show ¬ (141 = 141 ∧ 43 = 45) by omega), hF23 141 43 (by omega)]
                have hz280 : σ273 141 44 = y := by rw [eσ273, dk_up_n (show ¬ (141 = 141 ∧ 44 = 45) by omega), hy]
                have hz281 : σ273 141 45 = v267 := by rw [hv275]
                have hz282 : σ273 141 6 = t := by rw [eσ273, dk_up_n (show ¬ (141 = 141 ∧ 6 = 45) by omega), hF23 141 6 (by omega), ht]
                have hz283 : σ273 141 4 = σ 141 4 := by rw [eσ273, dk_up_n (show ¬ (141 = 141 ∧ 4 = 45) by omega), hF23 141 4 (by omega)]
                exact dk_zret (st := []) hE hR dX11_behind_192 (by omega) ⟨_, rfl, (fun k_ j_ h_ => by rw [eσ273, dk_up_n (show ¬ (k_ = 141 ∧ j_ = 45) from fun q_ => h_ (Or.inr (Or.inr (Or.inr (Or.inr (Or.inr (Or.inr (Or.inr (Or.inr (Or.inr (Or.inr (Or.inl (q_))))))))))))), hF23 k_ j_ (fun w_ => h_ (w_.elim (fun x0_ => Or.inr (Or.inr (Or.inr (Or.inr (Or.inr (Or.inr (Or.inr (Or.inl (x0_))))))))) (fun y0_ => y0_.elim (fun x1_ => Or.inr (Or.inr (Or.inr (Or.inr (Or.inr (Or.inr (Or.inr (Or.inr (Or.inr (Or.inl (x1_))))))))))) (fun y1_ => y1_.elim (fun x2_ => Or.inr (Or.inr (Or.inr (Or.inr (Or.inr (Or.inr (Or.inr (Or.inr (Or.inr (Or.inr (Or.inl (x2_)))))))))))) (fun y2_ => Or.inr (Or.inr (Or.inr (Or.inr (Or.inr (Or.inr (Or.inr (Or.inr (Or.inr (Or.inr (Or.inr (dk_wrr (lo := 164) (hi := 167) y2_ (by decide) (by decide)))))))))))))))))]), ⟨⟨0, PX_out (z := v268) hG23 gi274 hpp.symm (by omega) (by rw [show p - 1 = v267 by omega]; exact hv268.symm) (by omega) (fun k_ j_ h_ => by rw [eσ273, dk_up_n (show ¬ (k_ = 141 ∧ j_ = 45) by omega)]) (by first | (rw [if_pos (by omega)]; omega) | (rw [if_neg (by omega)]; omega)) (by omega), fun _ => rfl⟩, by omega, Or.inr (Or.inr (by omega))⟩⟩
              · skip
                refine dk_aload_n (pc' := 172) hE dX11_behind_171 rfl rfl rfl ?_
                refine dk_dup (pc' := 173) hE dX11_behind_172 (show (4 : Nat) ≠ 3 by decide) rfl ?_
                refine gf_11_44 (pc' := 176) hE fl_X11_392 dX11_behind_173 is_141 rfl (fun v284 hv284 htv284 hbv284 => ?_)
                have hq284 : y = v284 := (show v284 = y by rw [hv284, eσ273, dk_up_n (show ¬ (141 = 141 ∧ 44 = 45) by omega), hy]).symm
                subst hq284
                clear htv284 hbv284
                refine dk_iconst (pc' := 177) hE dX11_behind_176 (by decide) rfl ?_
                obtain ⟨v285, hv285⟩ : ∃ z : Int, z = y - 1 := ⟨_, rfl⟩
                refine dk_isub (pc' := 178) hE dX11_behind_177 hv285.symm (by omega) rfl ?_
                refine pf_11_44 (pc' := 181) hE fl_X11_392 dX11_behind_178 is_141 trivial rfl (fun σ286 eσ286 => ?_)
                refine dk_aload_n (pc' := 182) hE dX11_behind_181 rfl rfl rfl ?_
                refine dk_aload_n (pc' := 183) hE dX11_behind_182 rfl rfl rfl ?_
                refine dk_bipush (pc' := 185) hE dX11_behind_183 (by decide) rfl ?_
                refine dk_cV (pc' := 188) (as := [(0, 41)]) hE lk_X11_298 (ct_X11_is l G hGd 41) dX11_behind_185 rfl is_141 rfl (by decide) (Nat.le_of_ble_eq_true rfl) rfl rfl (fun r288 σ287 hr288 hor288 => ?_)
                obtain ⟨v289, rfl, hfσ287, hpr288⟩ := hr288
                have hsσ287 : σ286 = σ287 := (funext (fun k => funext (fun j => hfσ287 k j not_false))).symm
                subst hsσ287
                rcases hpr288 with ⟨rfl, hpr288⟩ | rfl
                · skip
                  have gi290 : NX σ23c σ286 := NX_fr gi274 (fun k_ j_ h_ => by rw [eσ286, dk_up_n (show ¬ (k_ = 141 ∧ j_ = 44) by omega)])
                  have hz291 : σ286 141 3 = σ 141 3 := by rw [eσ286, dk_up_n (show ¬ (141 = 141 ∧ 3 = 44) by omega), eσ273, dk_up_n (show ¬ (141 = 141 ∧ 3 = 45) by omega), hF23 141 3 (by omega)]
                  refine dk_cV (pc' := 191) (as := [(0, 1)]) hE lk_X11_301 (ct_X11_must l G hGd 1) dX11_behind_188 rfl is_141 rfl (by decide) (Nat.le_of_ble_eq_true rfl) ⟨rfl, (NX_tk gi290), (by omega)⟩ rfl (fun r293 σ292 hr293 hor293 => ?_)
                  obtain ⟨rfl, hfσ292, hpr293⟩ := hr293
                  have gi294 : NX σ23c σ292 := NX_tr gi290 hpr293
                  refine dk_iconst (pc' := 192) hE dX11_behind_191 (by decide) rfl ?_
                  have hz295 : σ292 141 42 = n := by rw [hfσ292 141 42 (by omega), eσ286, dk_up_n (show ¬ (141 = 141 ∧ 42 = 44) by omega), eσ273, dk_up_n (show ¬ (141 = 141 ∧ 42 = 45) by omega), hn]
                  have hz296 : σ292 141 43 = σ 141 43 := by rw [hfσ292 141 43 (by omega), eσ286, dk_up_n (show ¬ (141 = 141 ∧ 43 = 44) by omega), eσ273, dk_up_n (show ¬ (141 = 141 ∧ 43 = 45) by omega), hF23 141 43 (by omega)]
                  have hz297 : σ292 141 44 = v285 := by rw [hfσ292 141 44 (by omega), eσ286, dk_up_s]
                  have hz298 : σ292 141 45 = v267 := by rw [hfσ292 141 45 (by omega), eσ286, dk_up_n (show ¬ (141 = 141 ∧ 45 = 44) by omega), hv275]
                  exact dk_zret (st := []) hE hR dX11_behind_192 (by omega) ⟨_, rfl, (fun k_ j_ h_ => by rw [hfσ292 k_ j_ (fun w_ => h_ (w_.elim (fun x0_ => Or.inl (x0_)) (fun y0_ => y0_.elim (fun x1_ => Or.inr (Or.inl (x1_))) (fun y1_ => y1_.elim (fun x2_ => Or.inr (Or.inr (Or.inl (x2_)))) (fun y2_ => y2_.elim (fun x3_ => Or.inr (Or.inr (Or.inr (Or.inl (x3_))))) (fun y3_ => y3_.elim (fun x4_ => Or.inr (Or.inr (Or.inr (Or.inr (Or.inl (x4_)))))) (fun y4_ => y4_.elim (fun x5_ => Or.inr (Or.inr (Or.inr (Or.inr (Or.inr (Or.inl (x5_))))))) (fun y5_ => Or.inr (Or.inr (Or.inr (Or.inr (Or.inr (Or.inr (Or.inl (y5_))))))))))))))), eσ286, dk_up_n (show ¬ (k_ = 141 ∧ j_ = 44) from fun q_ => h_ (Or.inr (Or.inr (Or.inr (Or.inr (Or.inr (Or.inr (Or.inr (Or.inr (Or.inr (Or.inl (q_)))))))))))), eσ273, dk_up_n (show ¬ (k_ = 141 ∧ j_ = 45) from fun q_ => h_ (Or.inr (Or.inr (Or.inr (Or.inr (Or.inr (Or.inr (Or.inr (Or.inr (Or.inr (Or.inr (Or.inl (q_))))))))))))), hF23 k_ j_ (fun w_ => h_ (w_.elim (fun x0_ => Or.inr (Or.inr (Or.inr (Or.inr (Or.inr (Or.inr (Or.inr (Or.inl (x0_))))))))) (fun y0_ => y0_.elim (fun x1_ => Or.inr (Or.inr (Or.inr (Or.inr (Or.inr (Or.inr (Or.inr (Or.inr (Or.inr (Or.inl (x1_))))))))))) (fun y1_ => y1_.elim (fun x2_ => Or.inr (Or.inr (Or.inr (Or.inr (Or.inr (Or.inr (Or.inr (Or.inr (Or.inr (Or.inr (Or.inl (x2_)))))))))))) (fun y2_ => Or.inr (Or.inr (Or.inr (Or.inr (Or.inr (Or.inr (Or.inr (Or.inr (Or.inr (Or.inr (Or.inr (dk_wrr (lo := 164) (hi := 167) y2_ (by decide) (by decide)))))))))))))))))]), ⟨⟨0, PX_out (z := v268) hG23 gi294 hpp.symm (by omega) (by rw [show p - 1 = v267 by omega]; exact hv268.symm) (by omega) (fun k_ j_ h_ => by rw [hfσ292 k_ j_ (by omega), eσ286, dk_up_n (show ¬ (k_ = 141 ∧ j_ = 44) by omega), eσ273, dk_up_n (show ¬ (k_ = 141 ∧ j_ = 45) by omega)]) (by first | (rw [if_pos (by omega)]; omega) | (rw [if_neg (by omega)]; omega)) (by omega), fun _ => rfl⟩, by omega, Or.inr (Or.inr (by omega))⟩⟩
                · skip
                  have gi299 : NX σ23c σ286 := NX_fr gi274 (fun k_ j_ h_ => by rw [eσ286, dk_up_n (show ¬ (k_ = 141 ∧ j_ = 44) by omega)])
                  have hz300 : σ286 141 3 = σ 141 3 := by rw [eσ286, dk_up_n (show ¬ (141 = 141 ∧ 3 = 44) by omega), eσ273, dk_up_n (show ¬ (141 = 141 ∧ 3 = 45) by omega), hF23 141 3 (by omega)]
                  refine dk_cV (pc' := 191) (as := [(0, 0)]) hE lk_X11_301 (ct_X11_must l G hGd 0) dX11_behind_188 rfl is_141 rfl (by decide) (Nat.le_of_ble_eq_true rfl) ⟨rfl, (NX_tk gi299), (by omega)⟩ rfl (fun r302 σ301 hr302 hor302 => ?_)
                  obtain ⟨rfl, hfσ301, hpr302⟩ := hr302
                  have gi303 : NX σ23c σ301 := NX_tr gi299 hpr302
                  refine dk_iconst (pc' := 192) hE dX11_behind_191 (by decide) rfl ?_
                  have hz304 : σ301 141 42 = n := by rw [hfσ301 141 42 (by omega), eσ286, dk_up_n (show ¬ (141 = 141 ∧ 42 = 44) by omega), eσ273, dk_up_n (show ¬ (141 = 141 ∧ 42 = 45) by omega), hn]
                  have hz305 : σ301 141 43 = σ 141 43 := by rw [hfσ301 141 43 (by omega), eσ286, dk_up_n (show ¬ (141 = 141 ∧ 43 = 44) by omega), eσ273, dk_up_n (show ¬ (141 = 141 ∧ 43 = 45) by omega), hF23 141 43 (by omega)]
                  have hz306 : σ301 141 44 = v285 := by rw [hfσ301 141 44 (by omega), eσ286, dk_up_s]
                  have hz307 : σ301 141 45 = v267 := by rw [hfσ301 141 45 (by omega), eσ286, dk_up_n (show ¬ (141 = 141 ∧ 45 = 44) by omega), hv275]
                  exact dk_zret (st := []) hE hR dX11_behind_192 (by omega) ⟨_, rfl, (fun k_ j_ h_ => by rw [hfσ301 k_ j_ (fun w_ => h_ (w_.elim (fun x0_ => Or.inl (x0_)) (fun y0_ => y0_.elim (fun x1_ => Or.inr (Or.inl (x1_))) (fun y1_ => y1_.elim (fun x2_ => Or.inr (Or.inr (Or.inl (x2_)))) (fun y2_ => y2_.elim (fun x3_ => Or.inr (Or.inr (Or.inr (Or.inl (x3_))))) (fun y3_ => y3_.elim (fun x4_ => Or.inr (Or.inr (Or.inr (Or.inr (Or.inl (x4_)))))) (fun y4_ => y4_.elim (fun x5_ => Or.inr (Or.inr (Or.inr (Or.inr (Or.inr (Or.inl (x5_))))))) (fun y5_ => Or.inr (Or.inr (Or.inr (Or.inr (Or.inr (Or.inr (Or.inl (y5_))))))))))))))), eσ286, dk_up_n (show ¬ (k_ = 141 ∧ j_ = 44) from fun q_ => h_ (Or.inr (Or.inr (Or.inr (Or.inr (Or.inr (Or.inr (Or.inr (Or.inr (Or.inr (Or.inl (q_)))))))))))), eσ273, dk_up_n (show ¬ (k_ = 141 ∧ j_ = 45) from fun q_ => h_ (Or.inr (Or.inr (Or.inr (Or.inr (Or.inr (Or.inr (Or.inr (Or.inr (Or.inr (Or.inr (Or.inl (q_))))))))))))), hF23 k_ j_ (fun w_ => h_ (w_.elim (fun x0_ => Or.inr (Or.inr (Or.inr (Or.inr (Or.inr (Or.inr (Or.inr (Or.inl (x0_))))))))) (fun y0_ => y0_.elim (fun x1_ => Or.inr (Or.inr (Or.inr (Or.inr (Or.inr (Or.inr (Or.inr (Or.inr (Or.inr (Or.inl (x1_))))))))))) (fun y1_ => y1_.elim (fun x2_ => Or.inr (Or.inr (Or.inr (Or.inr (Or.inr (Or.inr (Or.inr (Or.inr (Or.inr (Or.inr (Or.inl (x2_)))))))))))) (fun y2_ => Or.inr (Or.inr (Or.inr (Or.inr (Or.inr (Or.inr (Or.inr (Or.inr (Or.inr (Or.inr (Or.inr (dk_wrr (lo := 164) (hi := 167) y2_ (by decide) (by decide)))))))))))))))))]), ⟨⟨0, PX_out (z := v268) hG23 gi303 hpp.symm (by omega) (by rw [show p - 1 = v267 by omega]; exact hv268.symm) (by omega) (fun k_ j_ h_ => by rw [hfσ301 k_ j_ (by omega), eσ286, dk_up_n (show ¬ (k_ = 141 ∧ j_ = 44) by omega), eσ273, dk_up_n (show ¬ (k_ = 141 ∧ j_ = 45) by omega)]) (by first | (rw [if_pos (by omega)]; omega) | (rw [if_neg (by omega)]; omega)) (by omega), fun _ => rfl⟩, by omega, Or.inr (Or.inr (by omega))⟩⟩
            · skip
              refine dk_aload_n (pc' := 109) hE dX11_behind_108 rfl rfl rfl ?_
              refine dk_iload_n (pc' := 110) hE dX11_behind_109 rfl rfl rfl ?_
              refine dk_iload_n (pc' := 111) hE dX11_behind_110 rfl rfl rfl ?_
              refine dk_iconst (pc' := 112) hE dX11_behind_111 (by decide) rfl ?_
              refine dk_icmp_ne (tgt := 120) (pc' := 115) hE dX11_behind_112 (by decide) rfl (fun hc308 => ?_) (fun hc308 => ?_)
              · skip
                refine dk_iload_n (pc' := 121) hE dX11_behind_120 rfl rfl rfl ?_
                refine dk_iconst (pc' := 122) hE dX11_behind_121 (by decide) rfl ?_
                refine dk_icmp_ne (tgt := 130) (pc' := 125) hE dX11_behind_122 (by decide) rfl (fun hc309 => ?_) (fun hc309 => ?_)
                · skip
                  refine dk_aload_n (pc' := 131) hE dX11_behind_130 rfl rfl rfl ?_
                  refine dk_aload_n (pc' := 132) hE dX11_behind_131 rfl rfl rfl ?_
                  refine gf_11_6 (pc' := 135) hE fl_X11_215 dX11_behind_132 is_141 rfl (fun v310 hv310 htv310 hbv310 => ?_)
                  have hq310 : t = v310 := (show v310 = t by rw [hv310, hF23 141 6 (by omega), ht]).symm
                  subst hq310
                  have hn_135 : tsg σ23c t = tsg σ t := by rw [tsg_fr (hF23 141 3 (by omega)) (fun q_ => hF23 143 q_ (by omega))]
                  refine dk_cV (pc' := 138) (as := [(0, t)]) hE lk_X11_218 (ct_X11_sign l G hGd t) dX11_behind_135 rfl is_141 rfl (by decide) (Nat.le_of_ble_eq_true rfl) ⟨rfl, (by omega)⟩ rfl (fun r312 σ311 hr312 hor312 => ?_)
                  obtain ⟨v314, rfl, hfσ311, hpr312⟩ := hr312
                  have hsσ311 : σ23c = σ311 := (funext (fun k => funext (fun j => hfσ311 k j not_false))).symm
                  subst hsσ311
                  have hz315 : σ23c 141 45 = p := by rw [hv266]
                  refine dk_cV (pc' := 141) (as := [(0, v3), (0, v314)]) hE lk_X11_395 (ct_X11_put l G hGd v3 v314 p) dX11_behind_138 rfl is_141 rfl (by decide) (Nat.le_of_ble_eq_true rfl) ⟨rfl, (by omega), (by omega)⟩ rfl (fun r317 σ316 hr317 hor317 => ?_)
                  obtain ⟨rfl, hfσ316, hpr317⟩ := hr317
                  have H138 := hpr317
                  have gi318 : NX σ23c σ316 := NX_fr (NX_rf (hG23).1.1.2.1) (fun k_ j_ h_ => by rw [hfσ316 k_ j_ (by omega)])
                  refine dk_aload_n (pc' := 142) hE dX11_behind_141 rfl rfl rfl ?_
                  have hz319 : σ316 141 7 = σ 141 7 := by rw [hfσ316 141 7 (by omega), hF23 141 7 (by omega)]
                  have hz320 : σ316 141 3 = σ 141 3 := by rw [hfσ316 141 3 (by omega), hF23 141 3 (by omega)]
                  have hz321 : σ316 141 3 = σ 141 3 := by rw [hfσ316 141 3 (by omega), hF23 141 3 (by omega)]
                  refine dk_cV (pc' := 145) (as := []) hE lk_X11_254 (ct_X11_next l G hGd) dX11_behind_142 rfl is_141 rfl (by decide) (Nat.le_of_ble_eq_true rfl) ⟨rfl, ((NX_tk gi318).2.1), (by omega)⟩ rfl (fun r323 σ322 hr323 hor323 => ?_)
                  obtain ⟨rfl, hfσ322, hpr323⟩ := hr323
                  have H142 := hpr323
                  have gi324 : NX σ23c σ322 := NX_y gi318 hpr323
                  have hy_ := H142.2.2.1
                  have ht_ := hT.2.2 (by omega)
                  refine dk_iconst (pc' := 146) hE dX11_behind_145 (by decide) rfl ?_
                  have hz325 : σ322 141 42 = n := by rw [hfσ322 141 42 (by omega), hfσ316 141 42 (by omega), hn]
                  have hz326 : σ322 141 43 = σ 141 43 := by rw [hfσ322 141 43 (by omega), hfσ316 141 43 (by omega), hF23 141 43 (by omega)]
                  have hz327 : σ322 141 44 = y := by rw [hfσ322 141 44 (by omega), hfσ316 141 44 (by omega), hy]
                  have hz328 : σ322 141 45 = p + 1 := by rw [hfσ322 141 45 (by omega), (hpr317.2.2).symm]
                  have hz329 : σ322 141 4 = σ 141 4 := by rw [hfσ322 141 4 (by omega), hfσ316 141 4 (by omega), hF23 141 4 (by omega)]
                  have hz330 : σ322 166 p = v3 := by rw [hfσ322 166 p (by omega), (hpr317.1).symm]
                  have hz331 : σ322 167 p = v314 := by rw [hfσ322 167 p (by omega), (hpr317.2.1).symm]
                  exact dk_zret (st := []) hE hR dX11_behind_146 (by omega) ⟨_, rfl, (fun k_ j_ h_ => by rw [hfσ322 k_ j_ (fun w_ => h_ (w_.elim (fun x0_ => Or.inr (Or.inr (Or.inl (x0_)))) (fun y0_ => y0_.elim (fun x1_ => Or.inr (Or.inr (Or.inr (Or.inl (x1_))))) (fun y1_ => y1_.elim (fun x2_ => Or.inr (Or.inr (Or.inr (Or.inr (Or.inl (x2_)))))) (fun y2_ => y2_.elim (fun x3_ => Or.inr (Or.inr (Or.inr (Or.inr (Or.inr (Or.inl (x3_))))))) (fun y3_ => Or.inr (Or.inr (Or.inr (Or.inr (Or.inr (Or.inr (Or.inl (y3_))))))))))))), hfσ316 k_ j_ (fun w_ => h_ (w_.elim (fun x0_ => Or.inr (Or.inr (Or.inr (Or.inr (Or.inr (Or.inr (Or.inr (Or.inr (Or.inr (Or.inr (Or.inr (dk_wr (lo := 164) (hi := 167) x0_.1 (by decide))))))))))))) (fun y0_ => y0_.elim (fun x1_ => Or.inr (Or.inr (Or.inr (Or.inr (Or.inr (Or.inr (Or.inr (Or.inr (Or.inr (Or.inr (Or.inr (dk_wr (lo := 164) (hi := 167) x1_.1 (by decide))))))))))))) (fun y1_ => Or.inr (Or.inr (Or.inr (Or.inr (Or.inr (Or.inr (Or.inr (Or.inr (Or.inr (Or.inr (Or.inl (y1_))))))))))))))), hF23 k_ j_ (fun w_ => h_ (w_.elim (fun x0_ => Or.inr (Or.inr (Or.inr (Or.inr (Or.inr (Or.inr (Or.inr (Or.inl (x0_))))))))) (fun y0_ => y0_.elim (fun x1_ => Or.inr (Or.inr (Or.inr (Or.inr (Or.inr (Or.inr (Or.inr (Or.inr (Or.inr (Or.inl (x1_))))))))))) (fun y1_ => y1_.elim (fun x2_ => Or.inr (Or.inr (Or.inr (Or.inr (Or.inr (Or.inr (Or.inr (Or.inr (Or.inr (Or.inr (Or.inl (x2_)))))))))))) (fun y2_ => Or.inr (Or.inr (Or.inr (Or.inr (Or.inr (Or.inr (Or.inr (Or.inr (Or.inr (Or.inr (Or.inr (dk_wrr (lo := 164) (hi := 167) y2_ (by decide) (by decide)))))))))))))))))]), ⟨⟨1, PX_put hG23 gi324 hn.symm hpp.symm (by omega) (fun k_ j_ h_ => by rw [hfσ322 k_ j_ (by omega), hfσ316 k_ j_ (by omega)]) (fun j_ => by rw [hfσ322 164 j_ (by omega), hfσ316 164 j_ (by omega)]) (by omega) (by omega) (by omega) (by omega) (by omega) (by omega) (by omega) rfl (Or.inr (by omega)), fun _ => rfl⟩, by omega, Or.inr (Or.inl (by omega))⟩⟩
                · skip
                  refine dk_bipush (pc' := 127) hE dX11_behind_125 (by decide) rfl ?_
                  refine dk_goto (tgt := 138) hE dX11_behind_127 (by decide) ?_
                  have hz332 : σ23c 141 45 = p := by rw [hv266]
                  refine dk_cV (pc' := 141) (as := [(0, v3), (0, 124)]) hE lk_X11_395 (ct_X11_put l G hGd v3 124 p) dX11_behind_138 rfl is_141 rfl (by decide) (Nat.le_of_ble_eq_true rfl) ⟨rfl, (by omega), (by omega)⟩ rfl (fun r334 σ333 hr334 hor334 => ?_)
                  obtain ⟨rfl, hfσ333, hpr334⟩ := hr334
                  have H138 := hpr334
                  have gi335 : NX σ23c σ333 := NX_fr (NX_rf (hG23).1.1.2.1) (fun k_ j_ h_ => by rw [hfσ333 k_ j_ (by omega)])
                  refine dk_aload_n (pc' := 142) hE dX11_behind_141 rfl rfl rfl ?_
                  have hz336 : σ333 141 7 = σ 141 7 := by rw [hfσ333 141 7 (by omega), hF23 141 7 (by omega)]
                  have hz337 : σ333 141 3 = σ 141 3 := by rw [hfσ333 141 3 (by omega), hF23 141 3 (by omega)]
                  have hz338 : σ333 141 3 = σ 141 3 := by rw [hfσ333 141 3 (by omega), hF23 141 3 (by omega)]
                  refine dk_cV (pc' := 145) (as := []) hE lk_X11_254 (ct_X11_next l G hGd) dX11_behind_142 rfl is_141 rfl (by decide) (Nat.le_of_ble_eq_true rfl) ⟨rfl, ((NX_tk gi335).2.1), (by omega)⟩ rfl (fun r340 σ339 hr340 hor340 => ?_)
                  obtain ⟨rfl, hfσ339, hpr340⟩ := hr340
                  have H142 := hpr340
                  have gi341 : NX σ23c σ339 := NX_y gi335 hpr340
                  have hy_ := H142.2.2.1
                  have ht_ := hT.2.2 (by omega)
                  refine dk_iconst (pc' := 146) hE dX11_behind_145 (by decide) rfl ?_
                  have hz342 : σ339 141 42 = n := by rw [hfσ339 141 42 (by omega), hfσ333 141 42 (by omega), hn]
                  have hz343 : σ339 141 43 = σ 141 43 := by rw [hfσ339 141 43 (by omega), hfσ333 141 43 (by omega), hF23 141 43 (by omega)]
                  have hz344 : σ339 141 44 = y := by rw [hfσ339 141 44 (by omega), hfσ333 141 44 (by omega), hy]
                  have hz345 : σ339 141 45 = p + 1 := by rw [hfσ339 141 45 (by omega), (hpr334.2.2).symm]
                  have hz346 : σ339 141 4 = σ 141 4 := by rw [hfσ339 141 4 (by omega), hfσ333 141 4 (by omega), hF23 141 4 (by omega)]
                  have hz347 : σ339 166 p = v3 := by rw [hfσ339 166 p (by omega), (hpr334.1).symm]
                  have hz348 : σ339 167 p = 124 := by rw [hfσ339 167 p (by omega), (hpr334.2.1).symm]
                  exact dk_zret (st := []) hE hR dX11_behind_146 (by omega) ⟨_, rfl, (fun k_ j_ h_ => by rw [hfσ339 k_ j_ (fun w_ => h_ (w_.elim (fun x0_ => Or.inr (Or.inr (Or.inl (x0_)))) (fun y0_ => y0_.elim (fun x1_ => Or.inr (Or.inr (Or.inr (Or.inl (x1_))))) (fun y1_ => y1_.elim (fun x2_ => Or.inr (Or.inr (Or.inr (Or.inr (Or.inl (x2_)))))) (fun y2_ => y2_.elim (fun x3_ => Or.inr (Or.inr (Or.inr (Or.inr (Or.inr (Or.inl (x3_))))))) (fun y3_ => Or.inr (Or.inr (Or.inr (Or.inr (Or.inr (Or.inr (Or.inl (y3_))))))))))))), hfσ333 k_ j_ (fun w_ => h_ (w_.elim (fun x0_ => Or.inr (Or.inr (Or.inr (Or.inr (Or.inr (Or.inr (Or.inr (Or.inr (Or.inr (Or.inr (Or.inr (dk_wr (lo := 164) (hi := 167) x0_.1 (by decide))))))))))))) (fun y0_ => y0_.elim (fun x1_ => Or.inr (Or.inr (Or.inr (Or.inr (Or.inr (Or.inr (Or.inr (Or.inr (Or.inr (Or.inr (Or.inr (dk_wr (lo := 164) (hi := 167) x1_.1 (by decide))))))))))))) (fun y1_ => Or.inr (Or.inr (Or.inr (Or.inr (Or.inr (Or.inr (Or.inr (Or.inr (Or.inr (Or.inr (Or.inl (y1_))))))))))))))), hF23 k_ j_ (fun w_ => h_ (w_.elim (fun x0_ => Or.inr (Or.inr (Or.inr (Or.inr (Or.inr (Or.inr (Or.inr (Or.inl (x0_))))))))) (fun y0_ => y0_.elim (fun x1_ => Or.inr (Or.inr (Or.inr (Or.inr (Or.inr (Or.inr (Or.inr (Or.inr (Or.inr (Or.inl (x1_))))))))))) (fun y1_ => y1_.elim (fun x2_ => Or.inr (Or.inr (Or.inr (Or.inr (Or.inr (Or.inr (Or.inr (Or.inr (Or.inr (Or.inr (Or.inl (x2_)))))))))))) (fun y2_ => Or.inr (Or.inr (Or.inr (Or.inr (Or.inr (Or.inr (Or.inr (Or.inr (Or.inr (Or.inr (Or.inr (dk_wrr (lo := 164) (hi := 167) y2_ (by decide) (by decide)))))))))))))))))]), ⟨⟨1, PX_put hG23 gi341 hn.symm hpp.symm (by omega) (fun k_ j_ h_ => by rw [hfσ339 k_ j_ (by omega), hfσ333 k_ j_ (by omega)]) (fun j_ => by rw [hfσ339 164 j_ (by omega), hfσ333 164 j_ (by omega)]) (by omega) (by omega) (by omega) (by omega) (by omega) (by omega) (by omega) rfl (Or.inr (by omega)), fun _ => rfl⟩, by omega, Or.inr (Or.inl (by omega))⟩⟩
              · skip
                refine dk_bipush (pc' := 117) hE dX11_behind_115 (by decide) rfl ?_
                refine dk_goto (tgt := 138) hE dX11_behind_117 (by decide) ?_
                have hz349 : σ23c 141 45 = p := by rw [hv266]
                refine dk_cV (pc' := 141) (as := [(0, v3), (0, 38)]) hE lk_X11_395 (ct_X11_put l G hGd v3 38 p) dX11_behind_138 rfl is_141 rfl (by decide) (Nat.le_of_ble_eq_true rfl) ⟨rfl, (by omega), (by omega)⟩ rfl (fun r351 σ350 hr351 hor351 => ?_)
                obtain ⟨rfl, hfσ350, hpr351⟩ := hr351
                have H138 := hpr351
                have gi352 : NX σ23c σ350 := NX_fr (NX_rf (hG23).1.1.2.1) (fun k_ j_ h_ => by rw [hfσ350 k_ j_ (by omega)])
                refine dk_aload_n (pc' := 142) hE dX11_behind_141 rfl rfl rfl ?_
                have hz353 : σ350 141 7 = σ 141 7 := by rw [hfσ350 141 7 (by omega), hF23 141 7 (by omega)]
                have hz354 : σ350 141 3 = σ 141 3 := by rw [hfσ350 141 3 (by omega), hF23 141 3 (by omega)]
                have hz355 : σ350 141 3 = σ 141 3 := by rw [hfσ350 141 3 (by omega), hF23 141 3 (by omega)]
                refine dk_cV (pc' := 145) (as := []) hE lk_X11_254 (ct_X11_next l G hGd) dX11_behind_142 rfl is_141 rfl (by decide) (Nat.le_of_ble_eq_true rfl) ⟨rfl, ((NX_tk gi352).2.1), (by omega)⟩ rfl (fun r357 σ356 hr357 hor357 => ?_)
                obtain ⟨rfl, hfσ356, hpr357⟩ := hr357
                have H142 := hpr357
                have gi358 : NX σ23c σ356 := NX_y gi352 hpr357
                have hy_ := H142.2.2.1
                have ht_ := hT.2.2 (by omega)
                refine dk_iconst (pc' := 146) hE dX11_behind_145 (by decide) rfl ?_
                have hz359 : σ356 141 42 = n := by rw [hfσ356 141 42 (by omega), hfσ350 141 42 (by omega), hn]
                have hz360 : σ356 141 43 = σ 141 43 := by rw [hfσ356 141 43 (by omega), hfσ350 141 43 (by omega), hF23 141 43 (by omega)]
                have hz361 : σ356 141 44 = y := by rw [hfσ356 141 44 (by omega), hfσ350 141 44 (by omega), hy]
                have hz362 : σ356 141 45 = p + 1 := by rw [hfσ356 141 45 (by omega), (hpr351.2.2).symm]
                have hz363 : σ356 141 4 = σ 141 4 := by rw [hfσ356 141 4 (by omega), hfσ350 141 4 (by omega), hF23 141 4 (by omega)]
                have hz364 : σ356 166 p = v3 := by rw [hfσ356 166 p (by omega), (hpr351.1).symm]
                have hz365 : σ356 167 p = 38 := by rw [hfσ356 167 p (by omega), (hpr351.2.1).symm]
                exact dk_zret (st := []) hE hR dX11_behind_146 (by omega) ⟨_, rfl, (fun k_ j_ h_ => by rw [hfσ356 k_ j_ (fun w_ => h_ (w_.elim (fun x0_ => Or.inr (Or.inr (Or.inl (x0_)))) (fun y0_ => y0_.elim (fun x1_ => Or.inr (Or.inr (Or.inr (Or.inl (x1_))))) (fun y1_ => y1_.elim (fun x2_ => Or.inr (Or.inr (Or.inr (Or.inr (Or.inl (x2_)))))) (fun y2_ => y2_.elim (fun x3_ => Or.inr (Or.inr (Or.inr (Or.inr (Or.inr (Or.inl (x3_))))))) (fun y3_ => Or.inr (Or.inr (Or.inr (Or.inr (Or.inr (Or.inr (Or.inl (y3_))))))))))))), hfσ350 k_ j_ (fun w_ => h_ (w_.elim (fun x0_ => Or.inr (Or.inr (Or.inr (Or.inr (Or.inr (Or.inr (Or.inr (Or.inr (Or.inr (Or.inr (Or.inr (dk_wr (lo := 164) (hi := 167) x0_.1 (by decide))))))))))))) (fun y0_ => y0_.elim (fun x1_ => Or.inr (Or.inr (Or.inr (Or.inr (Or.inr (Or.inr (Or.inr (Or.inr (Or.inr (Or.inr (Or.inr (dk_wr (lo := 164) (hi := 167) x1_.1 (by decide))))))))))))) (fun y1_ => Or.inr (Or.inr (Or.inr (Or.inr (Or.inr (Or.inr (Or.inr (Or.inr (Or.inr (Or.inr (Or.inl (y1_))))))))))))))), hF23 k_ j_ (fun w_ => h_ (w_.elim (fun x0_ => Or.inr (Or.inr (Or.inr (Or.inr (Or.inr (Or.inr (Or.inr (Or.inl (x0_))))))))) (fun y0_ => y0_.elim (fun x1_ => Or.inr (Or.inr (Or.inr (Or.inr (Or.inr (Or.inr (Or.inr (Or.inr (Or.inr (Or.inl (x1_))))))))))) (fun y1_ => y1_.elim (fun x2_ => Or.inr (Or.inr (Or.inr (Or.inr (Or.inr (Or.inr (Or.inr (Or.inr (Or.inr (Or.inr (Or.inl (x2_)))))))))))) (fun y2_ => Or.inr (Or.inr (Or.inr (Or.inr (Or.inr (Or.inr (Or.inr (Or.inr (Or.inr (Or.inr (Or.inr (dk_wrr (lo := 164) (hi := 167) y2_ (by decide) (by decide)))))))))))))))))]), ⟨⟨1, PX_put hG23 gi358 hn.symm hpp.symm (by omega) (fun k_ j_ h_ => by rw [hfσ356 k_ j_ (by omega), hfσ350 k_ j_ (by omega)]) (fun j_ => by rw [hfσ356 164 j_ (by omega), hfσ350 164 j_ (by omega)]) (by omega) (by omega) (by omega) (by omega) (by omega) (by omega) (by omega) rfl (Or.inr (by omega)), fun _ => rfl⟩, by omega, Or.inr (Or.inl (by omega))⟩⟩
          · skip
            refine dk_aload_n (pc' := 40) hE dX11_behind_39 rfl rfl rfl ?_
            refine gf_11_37 (pc' := 43) (w := 166) hE fl_X11_89 dX11_behind_40 is_141 rfl rfl ?_
            refine dk_aload_n (pc' := 44) hE dX11_behind_43 rfl rfl rfl ?_
            refine gf_11_45 (pc' := 47) hE fl_X11_389 dX11_behind_44 is_141 rfl (fun v366 hv366 htv366 hbv366 => ?_)
            have hq366 : p = v366 := (show v366 = p by rw [hv366, hv266]).symm
            subst hq366
            clear htv366 hbv366
            refine dk_iconst (pc' := 48) hE dX11_behind_47 (by decide) rfl ?_
            obtain ⟨v367, hv367⟩ : ∃ z : Int, z = p - 1 := ⟨_, rfl⟩
            refine dk_isub (pc' := 49) hE dX11_behind_48 hv367.symm (by omega) rfl ?_
            have hrnv367 : v267 = v367 := by omega
            subst hrnv367
            refine ga_94 (pc' := 50) hE dX11_behind_49 is_166 (by omega) rfl (fun v368 hv368 htv368 hbv368 => ?_)
            have hq368 : v268 = v368 := (show v368 = v268 by rw [hv368, hv268]).symm
            subst hq368
            clear htv368 hbv368
            refine dk_iload_n (pc' := 51) hE dX11_behind_50 rfl rfl rfl ?_
            refine dk_icmp_lt (tgt := 104) (pc' := 54) hE dX11_behind_51 (by decide) rfl (fun hc369 => ?_) (fun hc369 => ?_)
            · skip
              refine dk_iload_n (pc' := 105) hE dX11_behind_104 rfl rfl rfl ?_
              refine dk_if_le (tgt := 147) (pc' := 108) hE dX11_behind_105 (by decide) rfl (fun hc370 => ?_) (fun hc370 => ?_)
              · skip
                refine dk_aload_n (pc' := 148) hE dX11_behind_147 rfl rfl rfl ?_
                refine dk_dup (pc' := 149) hE dX11_behind_148 (show (4 : Nat) ≠ 3 by decide) rfl ?_
                refine gf_11_45 (pc' := 152) hE fl_X11_389 dX11_behind_149 is_141 rfl (fun v371 hv371 htv371 hbv371 => ?_)
                have hq371 : p = v371 := (show v371 = p by rw [hv371, hv366]).symm
                subst hq371
                clear htv371 hbv371
                refine dk_iconst (pc' := 153) hE dX11_behind_152 (by decide) rfl ?_
                obtain ⟨v372, hv372⟩ : ∃ z : Int, z = p - 1 := ⟨_, rfl⟩
                refine dk_isub (pc' := 154) hE dX11_behind_153 hv372.symm (by omega) rfl ?_
                have hrnv372 : v267 = v372 := by omega
                subst hrnv372
                refine pf_11_45 (pc' := 157) hE fl_X11_389 dX11_behind_154 is_141 (by omega) rfl (fun σ373 eσ373 => ?_)
                have gi374 : NX σ23c σ373 := NX_fr (NX_rf (hG23).1.1.2.1) (fun k_ j_ h_ => by rw [eσ373, dk_up_n (show ¬ (k_ = 141 ∧ j_ = 45) by omega)])
                refine dk_aload_n (pc' := 158) hE dX11_behind_157 rfl rfl rfl ?_
                refine gf_11_37 (pc' := 161) (w := 166) hE fl_X11_89 dX11_behind_158 is_141 rfl rfl ?_
                refine dk_aload_n (pc' := 162) hE dX11_behind_161 rfl rfl rfl ?_
                refine gf_11_45 (pc' := 165) hE fl_X11_389 dX11_behind_162 is_141 rfl (fun v375 hv375 htv375 hbv375 => ?_)
                have hq375 : v267 = v375 := (show v375 = v267 by rw [hv375, eσ373, dk_up_s]).symm
                subst hq375
                clear htv375 hbv375
                refine ga_94 (pc' := 166) hE dX11_behind_165 is_166 (by omega) rfl (fun v376 hv376 htv376 hbv376 => ?_)
                have hq376 : v268 = v376 := (show v376 = v268 by rw [hv376, eσ373, dk_up_n (show ¬ (166 = 141 ∧ v267 = 45) by omega), hv368]).symm
                subst hq376
                clear htv376 hbv376
                refine dk_bipush (pc' := 168) hE dX11_behind_166 (by decide) rfl ?_
                refine dk_icmp_ne (tgt := 191) (pc' := 171) hE dX11_behind_168 (by decide) rfl (fun hc377 => ?_) (fun hc377 => ?_)
                · skip
                  refine dk_iconst (pc' := 192) hE dX11_behind_191 (by decide) rfl ?_
                  have hz378 : σ373 141 42 = n := by rw [eσ373, dk_up_n (show ¬ (141 = 141 ∧ 42 = 45) by omega), hn]
                  have hz379 : σ373 141 43 = σ 141 43 := by rw [eσ373, dk_up_n (show ¬ (141 = 141 ∧ 43 = 45) by omega), hF23 141 43 (by omega)]
                  have hz380 : σ373 141 44 = y := by rw [eσ373, dk_up_n (show ¬ (141 = 141 ∧ 44 = 45) by omega), hy]
                  have hz381 : σ373 141 45 = v267 := by rw [hv375]
                  have hz382 : σ373 141 6 = t := by rw [eσ373, dk_up_n (show ¬ (141 = 141 ∧ 6 = 45) by omega), hF23 141 6 (by omega), ht]
                  have hz383 : σ373 141 4 = σ 141 4 := by rw [eσ373, dk_up_n (show ¬ (141 = 141 ∧ 4 = 45) by omega), hF23 141 4 (by omega)]
                  exact dk_zret (st := []) hE hR dX11_behind_192 (by omega) ⟨_, rfl, (fun k_ j_ h_ => by rw [eσ373, dk_up_n (show ¬ (k_ = 141 ∧ j_ = 45) from fun q_ => h_ (Or.inr (Or.inr (Or.inr (Or.inr (Or.inr (Or.inr (Or.inr (Or.inr (Or.inr (Or.inr (Or.inl (q_))))))))))))), hF23 k_ j_ (fun w_ => h_ (w_.elim (fun x0_ => Or.inr (Or.inr (Or.inr (Or.inr (Or.inr (Or.inr (Or.inr (Or.inl (x0_))))))))) (fun y0_ => y0_.elim (fun x1_ => Or.inr (Or.inr (Or.inr (Or.inr (Or.inr (Or.inr (Or.inr (Or.inr (Or.inr (Or.inl (x1_))))))))))) (fun y1_ => y1_.elim (fun x2_ => Or.inr (Or.inr (Or.inr (Or.inr (Or.inr (Or.inr (Or.inr (Or.inr (Or.inr (Or.inr (Or.inl (x2_)))))))))))) (fun y2_ => Or.inr (Or.inr (Or.inr (Or.inr (Or.inr (Or.inr (Or.inr (Or.inr (Or.inr (Or.inr (Or.inr (dk_wrr (lo := 164) (hi := 167) y2_ (by decide) (by decide)))))))))))))))))]), ⟨⟨0, PX_out (z := v268) hG23 gi374 hpp.symm (by omega) (by rw [show p - 1 = v267 by omega]; exact hv268.symm) (by omega) (fun k_ j_ h_ => by rw [eσ373, dk_up_n (show ¬ (k_ = 141 ∧ j_ = 45) by omega)]) (by first | (rw [if_pos (by omega)]; omega) | (rw [if_neg (by omega)]; omega)) (by omega), fun _ => rfl⟩, by omega, Or.inr (Or.inr (by omega))⟩⟩
                · skip
                  refine dk_aload_n (pc' := 172) hE dX11_behind_171 rfl rfl rfl ?_
                  refine dk_dup (pc' := 173) hE dX11_behind_172 (show (4 : Nat) ≠ 3 by decide) rfl ?_
                  refine gf_11_44 (pc' := 176) hE fl_X11_392 dX11_behind_173 is_141 rfl (fun v384 hv384 htv384 hbv384 => ?_)
                  have hq384 : y = v384 := (show v384 = y by rw [hv384, eσ373, dk_up_n (show ¬ (141 = 141 ∧ 44 = 45) by omega), hy]).symm
                  subst hq384
                  clear htv384 hbv384
                  refine dk_iconst (pc' := 177) hE dX11_behind_176 (by decide) rfl ?_
                  obtain ⟨v385, hv385⟩ : ∃ z : Int, z = y - 1 := ⟨_, rfl⟩
                  refine dk_isub (pc' := 178) hE dX11_behind_177 hv385.symm (by omega) rfl ?_
                  refine pf_11_44 (pc' := 181) hE fl_X11_392 dX11_behind_178 is_141 trivial rfl (fun σ386 eσ386 => ?_)
                  refine dk_aload_n (pc' := 182) hE dX11_behind_181 rfl rfl rfl ?_
                  refine dk_aload_n (pc' := 183) hE dX11_behind_182 rfl rfl rfl ?_
                  refine dk_bipush (pc' := 185) hE dX11_behind_183 (by decide) rfl ?_
                  refine dk_cV (pc' := 188) (as := [(0, 41)]) hE lk_X11_298 (ct_X11_is l G hGd 41) dX11_behind_185 rfl is_141 rfl (by decide) (Nat.le_of_ble_eq_true rfl) rfl rfl (fun r388 σ387 hr388 hor388 => ?_)
                  obtain ⟨v389, rfl, hfσ387, hpr388⟩ := hr388
                  have hsσ387 : σ386 = σ387 := (funext (fun k => funext (fun j => hfσ387 k j not_false))).symm
                  subst hsσ387
                  rcases hpr388 with ⟨rfl, hpr388⟩ | rfl
                  · skip
                    have gi390 : NX σ23c σ386 := NX_fr gi374 (fun k_ j_ h_ => by rw [eσ386, dk_up_n (show ¬ (k_ = 141 ∧ j_ = 44) by omega)])
                    have hz391 : σ386 141 3 = σ 141 3 := by rw [eσ386, dk_up_n (show ¬ (141 = 141 ∧ 3 = 44) by omega), eσ373, dk_up_n (show ¬ (141 = 141 ∧ 3 = 45) by omega), hF23 141 3 (by omega)]
                    refine dk_cV (pc' := 191) (as := [(0, 1)]) hE lk_X11_301 (ct_X11_must l G hGd 1) dX11_behind_188 rfl is_141 rfl (by decide) (Nat.le_of_ble_eq_true rfl) ⟨rfl, (NX_tk gi390), (by omega)⟩ rfl (fun r393 σ392 hr393 hor393 => ?_)
                    obtain ⟨rfl, hfσ392, hpr393⟩ := hr393
                    have gi394 : NX σ23c σ392 := NX_tr gi390 hpr393
                    refine dk_iconst (pc' := 192) hE dX11_behind_191 (by decide) rfl ?_
                    have hz395 : σ392 141 42 = n := by rw [hfσ392 141 42 (by omega), eσ386, dk_up_n (show ¬ (141 = 141 ∧ 42 = 44) by omega), eσ373, dk_up_n (show ¬ (141 = 141 ∧ 42 = 45) by omega), hn]
                    have hz396 : σ392 141 43 = σ 141 43 := by rw [hfσ392 141 43 (by omega), eσ386, dk_up_n (show ¬ (141 = 141 ∧ 43 = 44) by omega), eσ373, dk_up_n (show ¬ (141 = 141 ∧ 43 = 45) by omega), hF23 141 43 (by omega)]
                    have hz397 : σ392 141 44 = v385 := by rw [hfσ392 141 44 (by omega), eσ386, dk_up_s]
                    have hz398 : σ392 141 45 = v267 := by rw [hfσ392 141 45 (by omega), eσ386, dk_up_n (show ¬ (141 = 141 ∧ 45 = 44) by omega), hv375]
                    exact dk_zret (st := []) hE hR dX11_behind_192 (by omega) ⟨_, rfl, (fun k_ j_ h_ => by rw [hfσ392 k_ j_ (fun w_ => h_ (w_.elim (fun x0_ => Or.inl (x0_)) (fun y0_ => y0_.elim (fun x1_ => Or.inr (Or.inl (x1_))) (fun y1_ => y1_.elim (fun x2_ => Or.inr (Or.inr (Or.inl (x2_)))) (fun y2_ => y2_.elim (fun x3_ => Or.inr (Or.inr (Or.inr (Or.inl (x3_))))) (fun y3_ => y3_.elim (fun x4_ => Or.inr (Or.inr (Or.inr (Or.inr (Or.inl (x4_)))))) (fun y4_ => y4_.elim (fun x5_ => Or.inr (Or.inr (Or.inr (Or.inr (Or.inr (Or.inl (x5_))))))) (fun y5_ => Or.inr (Or.inr (Or.inr (Or.inr (Or.inr (Or.inr (Or.inl (y5_))))))))))))))), eσ386, dk_up_n (show ¬ (k_ = 141 ∧ j_ = 44) from fun q_ => h_ (Or.inr (Or.inr (Or.inr (Or.inr (Or.inr (Or.inr (Or.inr (Or.inr (Or.inr (Or.inl (q_)))))))))))), eσ373, dk_up_n (show ¬ (k_ = 141 ∧ j_ = 45) from fun q_ => h_ (Or.inr (Or.inr (Or.inr (Or.inr (Or.inr (Or.inr (Or.inr (Or.inr (Or.inr (Or.inr (Or.inl (q_))))))))))))), hF23 k_ j_ (fun w_ => h_ (w_.elim (fun x0_ => Or.inr (Or.inr (Or.inr (Or.inr (Or.inr (Or.inr (Or.inr (Or.inl (x0_))))))))) (fun y0_ => y0_.elim (fun x1_ => Or.inr (Or.inr (Or.inr (Or.inr (Or.inr (Or.inr (Or.inr (Or.inr (Or.inr (Or.inl (x1_))))))))))) (fun y1_ => y1_.elim (fun x2_ => Or.inr (Or.inr (Or.inr (Or.inr (Or.inr (Or.inr (Or.inr (Or.inr (Or.inr (Or.inr (Or.inl (x2_)))))))))))) (fun y2_ => Or.inr (Or.inr (Or.inr (Or.inr (Or.inr (Or.inr (Or.inr (Or.inr (Or.inr (Or.inr (Or.inr (dk_wrr (lo := 164) (hi := 167) y2_ (by decide) (by decide)))))))))))))))))]), ⟨⟨0, PX_out (z := v268) hG23 gi394 hpp.symm (by omega) (by rw [show p - 1 = v267 by omega]; exact hv268.symm) (by omega) (fun k_ j_ h_ => by rw [hfσ392 k_ j_ (by omega), eσ386, dk_up_n (show ¬ (k_ = 141 ∧ j_ = 44) by omega), eσ373, dk_up_n (show ¬ (k_ = 141 ∧ j_ = 45) by omega)]) (by first | (rw [if_pos (by omega)]; omega) | (rw [if_neg (by omega)]; omega)) (by omega), fun _ => rfl⟩, by omega, Or.inr (Or.inr (by omega))⟩⟩
                  · skip
                    have gi399 : NX σ23c σ386 := NX_fr gi374 (fun k_ j_ h_ => by rw [eσ386, dk_up_n (show ¬ (k_ = 141 ∧ j_ = 44) by omega)])
                    have hz400 : σ386 141 3 = σ 141 3 := by rw [eσ386, dk_up_n (show ¬ (141 = 141 ∧ 3 = 44) by omega), eσ373, dk_up_n (show ¬ (141 = 141 ∧ 3 = 45) by omega), hF23 141 3 (by omega)]
                    refine dk_cV (pc' := 191) (as := [(0, 0)]) hE lk_X11_301 (ct_X11_must l G hGd 0) dX11_behind_188 rfl is_141 rfl (by decide) (Nat.le_of_ble_eq_true rfl) ⟨rfl, (NX_tk gi399), (by omega)⟩ rfl (fun r402 σ401 hr402 hor402 => ?_)
                    obtain ⟨rfl, hfσ401, hpr402⟩ := hr402
                    have gi403 : NX σ23c σ401 := NX_tr gi399 hpr402
                    refine dk_iconst (pc' := 192) hE dX11_behind_191 (by decide) rfl ?_
                    have hz404 : σ401 141 42 = n := by rw [hfσ401 141 42 (by omega), eσ386, dk_up_n (show ¬ (141 = 141 ∧ 42 = 44) by omega), eσ373, dk_up_n (show ¬ (141 = 141 ∧ 42 = 45) by omega), hn]
                    have hz405 : σ401 141 43 = σ 141 43 := by rw [hfσ401 141 43 (by omega), eσ386, dk_up_n (show ¬ (141 = 141 ∧ 43 = 44) by omega), eσ373, dk_up_n (show ¬ (141 = 141 ∧ 43 = 45) by omega), hF23 141 43 (by omega)]
                    have hz406 : σ401 141 44 = v385 := by rw [hfσ401 141 44 (by omega), eσ386, dk_up_s]
                    have hz407 : σ401 141 45 = v267 := by rw [hfσ401 141 45 (by omega), eσ386, dk_up_n (show ¬ (141 = 141 ∧ 45 = 44) by omega), hv375]
                    exact dk_zret (st := []) hE hR dX11_behind_192 (by omega) ⟨_, rfl, (fun k_ j_ h_ => by rw [hfσ401 k_ j_ (fun w_ => h_ (w_.elim (fun x0_ => Or.inl (x0_)) (fun y0_ => y0_.elim (fun x1_ => Or.inr (Or.inl (x1_))) (fun y1_ => y1_.elim (fun x2_ => Or.inr (Or.inr (Or.inl (x2_)))) (fun y2_ => y2_.elim (fun x3_ => Or.inr (Or.inr (Or.inr (Or.inl (x3_))))) (fun y3_ => y3_.elim (fun x4_ => Or.inr (Or.inr (Or.inr (Or.inr (Or.inl (x4_)))))) (fun y4_ => y4_.elim (fun x5_ => Or.inr (Or.inr (Or.inr (Or.inr (Or.inr (Or.inl (x5_))))))) (fun y5_ => Or.inr (Or.inr (Or.inr (Or.inr (Or.inr (Or.inr (Or.inl (y5_))))))))))))))), eσ386, dk_up_n (show ¬ (k_ = 141 ∧ j_ = 44) from fun q_ => h_ (Or.inr (Or.inr (Or.inr (Or.inr (Or.inr (Or.inr (Or.inr (Or.inr (Or.inr (Or.inl (q_)))))))))))), eσ373, dk_up_n (show ¬ (k_ = 141 ∧ j_ = 45) from fun q_ => h_ (Or.inr (Or.inr (Or.inr (Or.inr (Or.inr (Or.inr (Or.inr (Or.inr (Or.inr (Or.inr (Or.inl (q_))))))))))))), hF23 k_ j_ (fun w_ => h_ (w_.elim (fun x0_ => Or.inr (Or.inr (Or.inr (Or.inr (Or.inr (Or.inr (Or.inr (Or.inl (x0_))))))))) (fun y0_ => y0_.elim (fun x1_ => Or.inr (Or.inr (Or.inr (Or.inr (Or.inr (Or.inr (Or.inr (Or.inr (Or.inr (Or.inl (x1_))))))))))) (fun y1_ => y1_.elim (fun x2_ => Or.inr (Or.inr (Or.inr (Or.inr (Or.inr (Or.inr (Or.inr (Or.inr (Or.inr (Or.inr (Or.inl (x2_)))))))))))) (fun y2_ => Or.inr (Or.inr (Or.inr (Or.inr (Or.inr (Or.inr (Or.inr (Or.inr (Or.inr (Or.inr (Or.inr (dk_wrr (lo := 164) (hi := 167) y2_ (by decide) (by decide)))))))))))))))))]), ⟨⟨0, PX_out (z := v268) hG23 gi403 hpp.symm (by omega) (by rw [show p - 1 = v267 by omega]; exact hv268.symm) (by omega) (fun k_ j_ h_ => by rw [hfσ401 k_ j_ (by omega), eσ386, dk_up_n (show ¬ (k_ = 141 ∧ j_ = 44) by omega), eσ373, dk_up_n (show ¬ (k_ = 141 ∧ j_ = 45) by omega)]) (by first | (rw [if_pos (by omega)]; omega) | (rw [if_neg (by omega)]; omega)) (by omega), fun _ => rfl⟩, by omega, Or.inr (Or.inr (by omega))⟩⟩
              · skip
                refine dk_aload_n (pc' := 109) hE dX11_behind_108 rfl rfl rfl ?_
                refine dk_iload_n (pc' := 110) hE dX11_behind_109 rfl rfl rfl ?_
                refine dk_iload_n (pc' := 111) hE dX11_behind_110 rfl rfl rfl ?_
                refine dk_iconst (pc' := 112) hE dX11_behind_111 (by decide) rfl ?_
                refine dk_icmp_ne (tgt := 120) (pc' := 115) hE dX11_behind_112 (by decide) rfl (fun hc408 => ?_) (fun hc408 => ?_)
                · skip
                  refine dk_iload_n (pc' := 121) hE dX11_behind_120 rfl rfl rfl ?_
                  refine dk_iconst (pc' := 122) hE dX11_behind_121 (by decide) rfl ?_
                  refine dk_icmp_ne (tgt := 130) (pc' := 125) hE dX11_behind_122 (by decide) rfl (fun hc409 => ?_) (fun hc409 => ?_)
                  · skip
                    refine dk_aload_n (pc' := 131) hE dX11_behind_130 rfl rfl rfl ?_
                    refine dk_aload_n (pc' := 132) hE dX11_behind_131 rfl rfl rfl ?_
                    refine gf_11_6 (pc' := 135) hE fl_X11_215 dX11_behind_132 is_141 rfl (fun v410 hv410 htv410 hbv410 => ?_)
                    have hq410 : t = v410 := (show v410 = t by rw [hv410, hF23 141 6 (by omega), ht]).symm
                    subst hq410
                    have hn_135 : tsg σ23c t = tsg σ t := by rw [tsg_fr (hF23 141 3 (by omega)) (fun q_ => hF23 143 q_ (by omega))]
                    refine dk_cV (pc' := 138) (as := [(0, t)]) hE lk_X11_218 (ct_X11_sign l G hGd t) dX11_behind_135 rfl is_141 rfl (by decide) (Nat.le_of_ble_eq_true rfl) ⟨rfl, (by omega)⟩ rfl (fun r412 σ411 hr412 hor412 => ?_)
                    obtain ⟨v414, rfl, hfσ411, hpr412⟩ := hr412
                    have hsσ411 : σ23c = σ411 := (funext (fun k => funext (fun j => hfσ411 k j not_false))).symm
                    subst hsσ411
                    have hz415 : σ23c 141 45 = p := by rw [hv366]
                    refine dk_cV (pc' := 141) (as := [(0, v3), (0, v414)]) hE lk_X11_395 (ct_X11_put l G hGd v3 v414 p) dX11_behind_138 rfl is_141 rfl (by decide) (Nat.le_of_ble_eq_true rfl) ⟨rfl, (by omega), (by omega)⟩ rfl (fun r417 σ416 hr417 hor417 => ?_)
                    obtain ⟨rfl, hfσ416, hpr417⟩ := hr417
                    have H138 := hpr417
                    have gi418 : NX σ23c σ416 := NX_fr (NX_rf (hG23).1.1.2.1) (fun k_ j_ h_ => by rw [hfσ416 k_ j_ (by omega)])
                    refine dk_aload_n (pc' := 142) hE dX11_behind_141 rfl rfl rfl ?_
                    have hz419 : σ416 141 7 = σ 141 7 := by rw [hfσ416 141 7 (by omega), hF23 141 7 (by omega)]
                    have hz420 : σ416 141 3 = σ 141 3 := by rw [hfσ416 141 3 (by omega), hF23 141 3 (by omega)]
                    have hz421 : σ416 141 3 = σ 141 3 := by rw [hfσ416 141 3 (by omega), hF23 141 3 (by omega)]
                    refine dk_cV (pc' := 145) (as := []) hE lk_X11_254 (ct_X11_next l G hGd) dX11_behind_142 rfl is_141 rfl (by decide) (Nat.le_of_ble_eq_true rfl) ⟨rfl, ((NX_tk gi418).2.1), (by omega)⟩ rfl (fun r423 σ422 hr423 hor423 => ?_)
                    obtain ⟨rfl, hfσ422, hpr423⟩ := hr423
                    have H142 := hpr423
                    have gi424 : NX σ23c σ422 := NX_y gi418 hpr423
                    have hy_ := H142.2.2.1
                    have ht_ := hT.2.2 (by omega)
                    refine dk_iconst (pc' := 146) hE dX11_behind_145 (by decide) rfl ?_
                    have hz425 : σ422 141 42 = n := by rw [hfσ422 141 42 (by omega), hfσ416 141 42 (by omega), hn]
                    have hz426 : σ422 141 43 = σ 141 43 := by rw [hfσ422 141 43 (by omega), hfσ416 141 43 (by omega), hF23 141 43 (by omega)]
                    have hz427 : σ422 141 44 = y := by rw [hfσ422 141 44 (by omega), hfσ416 141 44 (by omega), hy]
                    have hz428 : σ422 141 45 = p + 1 := by rw [hfσ422 141 45 (by omega), (hpr417.2.2).symm]
                    have hz429 : σ422 141 4 = σ 141 4 := by rw [hfσ422 141 4 (by omega), hfσ416 141 4 (by omega), hF23 141 4 (by omega)]
                    have hz430 : σ422 166 p = v3 := by rw [hfσ422 166 p (by omega), (hpr417.1).symm]
                    have hz431 : σ422 167 p = v414 := by rw [hfσ422 167 p (by omega), (hpr417.2.1).symm]
                    exact dk_zret (st := []) hE hR dX11_behind_146 (by omega) ⟨_, rfl, (fun k_ j_ h_ => by rw [hfσ422 k_ j_ (fun w_ => h_ (w_.elim (fun x0_ => Or.inr (Or.inr (Or.inl (x0_)))) (fun y0_ => y0_.elim (fun x1_ => Or.inr (Or.inr (Or.inr (Or.inl (x1_))))) (fun y1_ => y1_.elim (fun x2_ => Or.inr (Or.inr (Or.inr (Or.inr (Or.inl (x2_)))))) (fun y2_ => y2_.elim (fun x3_ => Or.inr (Or.inr (Or.inr (Or.inr (Or.inr (Or.inl (x3_))))))) (fun y3_ => Or.inr (Or.inr (Or.inr (Or.inr (Or.inr (Or.inr (Or.inl (y3_))))))))))))), hfσ416 k_ j_ (fun w_ => h_ (w_.elim (fun x0_ => Or.inr (Or.inr (Or.inr (Or.inr (Or.inr (Or.inr (Or.inr (Or.inr (Or.inr (Or.inr (Or.inr (dk_wr (lo := 164) (hi := 167) x0_.1 (by decide))))))))))))) (fun y0_ => y0_.elim (fun x1_ => Or.inr (Or.inr (Or.inr (Or.inr (Or.inr (Or.inr (Or.inr (Or.inr (Or.inr (Or.inr (Or.inr (dk_wr (lo := 164) (hi := 167) x1_.1 (by decide))))))))))))) (fun y1_ => Or.inr (Or.inr (Or.inr (Or.inr (Or.inr (Or.inr (Or.inr (Or.inr (Or.inr (Or.inr (Or.inl (y1_))))))))))))))), hF23 k_ j_ (fun w_ => h_ (w_.elim (fun x0_ => Or.inr (Or.inr (Or.inr (Or.inr (Or.inr (Or.inr (Or.inr (Or.inl (x0_))))))))) (fun y0_ => y0_.elim (fun x1_ => Or.inr (Or.inr (Or.inr (Or.inr (Or.inr (Or.inr (Or.inr (Or.inr (Or.inr (Or.inl (x1_))))))))))) (fun y1_ => y1_.elim (fun x2_ => Or.inr (Or.inr (Or.inr (Or.inr (Or.inr (Or.inr (Or.inr (Or.inr (Or.inr (Or.inr (Or.inl (x2_)))))))))))) (fun y2_ => Or.inr (Or.inr (Or.inr (Or.inr (Or.inr (Or.inr (Or.inr (Or.inr (Or.inr (Or.inr (Or.inr (dk_wrr (lo := 164) (hi := 167) y2_ (by decide) (by decide)))))))))))))))))]), ⟨⟨1, PX_put hG23 gi424 hn.symm hpp.symm (by omega) (fun k_ j_ h_ => by rw [hfσ422 k_ j_ (by omega), hfσ416 k_ j_ (by omega)]) (fun j_ => by rw [hfσ422 164 j_ (by omega), hfσ416 164 j_ (by omega)]) (by omega) (by omega) (by omega) (by omega) (by omega) (by omega) (by omega) rfl (Or.inr (by omega)), fun _ => rfl⟩, by omega, Or.inr (Or.inl (by omega))⟩⟩
                  · skip
                    refine dk_bipush (pc' := 127) hE dX11_behind_125 (by decide) rfl ?_
                    refine dk_goto (tgt := 138) hE dX11_behind_127 (by decide) ?_
                    have hz432 : σ23c 141 45 = p := by rw [hv366]
                    refine dk_cV (pc' := 141) (as := [(0, v3), (0, 124)]) hE lk_X11_395 (ct_X11_put l G hGd v3 124 p) dX11_behind_138 rfl is_141 rfl (by decide) (Nat.le_of_ble_eq_true rfl) ⟨rfl, (by omega), (by omega)⟩ rfl (fun r434 σ433 hr434 hor434 => ?_)
                    obtain ⟨rfl, hfσ433, hpr434⟩ := hr434
                    have H138 := hpr434
                    have gi435 : NX σ23c σ433 := NX_fr (NX_rf (hG23).1.1.2.1) (fun k_ j_ h_ => by rw [hfσ433 k_ j_ (by omega)])
                    refine dk_aload_n (pc' := 142) hE dX11_behind_141 rfl rfl rfl ?_
                    have hz436 : σ433 141 7 = σ 141 7 := by rw [hfσ433 141 7 (by omega), hF23 141 7 (by omega)]
                    have hz437 : σ433 141 3 = σ 141 3 := by rw [hfσ433 141 3 (by omega), hF23 141 3 (by omega)]
                    have hz438 : σ433 141 3 = σ 141 3 := by rw [hfσ433 141 3 (by omega), hF23 141 3 (by omega)]
                    refine dk_cV (pc' := 145) (as := []) hE lk_X11_254 (ct_X11_next l G hGd) dX11_behind_142 rfl is_141 rfl (by decide) (Nat.le_of_ble_eq_true rfl) ⟨rfl, ((NX_tk gi435).2.1), (by omega)⟩ rfl (fun r440 σ439 hr440 hor440 => ?_)
                    obtain ⟨rfl, hfσ439, hpr440⟩ := hr440
                    have H142 := hpr440
                    have gi441 : NX σ23c σ439 := NX_y gi435 hpr440
                    have hy_ := H142.2.2.1
                    have ht_ := hT.2.2 (by omega)
                    refine dk_iconst (pc' := 146) hE dX11_behind_145 (by decide) rfl ?_
                    have hz442 : σ439 141 42 = n := by rw [hfσ439 141 42 (by omega), hfσ433 141 42 (by omega), hn]
                    have hz443 : σ439 141 43 = σ 141 43 := by rw [hfσ439 141 43 (by omega), hfσ433 141 43 (by omega), hF23 141 43 (by omega)]
                    have hz444 : σ439 141 44 = y := by rw [hfσ439 141 44 (by omega), hfσ433 141 44 (by omega), hy]
                    have hz445 : σ439 141 45 = p + 1 := by rw [hfσ439 141 45 (by omega), (hpr434.2.2).symm]
                    have hz446 : σ439 141 4 = σ 141 4 := by rw [hfσ439 141 4 (by omega), hfσ433 141 4 (by omega), hF23 141 4 (by omega)]
                    have hz447 : σ439 166 p = v3 := by rw [hfσ439 166 p (by omega), (hpr434.1).symm]
                    have hz448 : σ439 167 p = 124 := by rw [hfσ439 167 p (by omega), (hpr434.2.1).symm]
                    exact dk_zret (st := []) hE hR dX11_behind_146 (by omega) ⟨_, rfl, (fun k_ j_ h_ => by rw [hfσ439 k_ j_ (fun w_ => h_ (w_.elim (fun x0_ => Or.inr (Or.inr (Or.inl (x0_)))) (fun y0_ => y0_.elim (fun x1_ => Or.inr (Or.inr (Or.inr (Or.inl (x1_))))) (fun y1_ => y1_.elim (fun x2_ => Or.inr (Or.inr (Or.inr (Or.inr (Or.inl (x2_)))))) (fun y2_ => y2_.elim (fun x3_ => Or.inr (Or.inr (Or.inr (Or.inr (Or.inr (Or.inl (x3_))))))) (fun y3_ => Or.inr (Or.inr (Or.inr (Or.inr (Or.inr (Or.inr (Or.inl (y3_))))))))))))), hfσ433 k_ j_ (fun w_ => h_ (w_.elim (fun x0_ => Or.inr (Or.inr (Or.inr (Or.inr (Or.inr (Or.inr (Or.inr (Or.inr (Or.inr (Or.inr (Or.inr (dk_wr (lo := 164) (hi := 167) x0_.1 (by decide))))))))))))) (fun y0_ => y0_.elim (fun x1_ => Or.inr (Or.inr (Or.inr (Or.inr (Or.inr (Or.inr (Or.inr (Or.inr (Or.inr (Or.inr (Or.inr (dk_wr (lo := 164) (hi := 167) x1_.1 (by decide))))))))))))) (fun y1_ => Or.inr (Or.inr (Or.inr (Or.inr (Or.inr (Or.inr (Or.inr (Or.inr (Or.inr (Or.inr (Or.inl (y1_))))))))))))))), hF23 k_ j_ (fun w_ => h_ (w_.elim (fun x0_ => Or.inr (Or.inr (Or.inr (Or.inr (Or.inr (Or.inr (Or.inr (Or.inl (x0_))))))))) (fun y0_ => y0_.elim (fun x1_ => Or.inr (Or.inr (Or.inr (Or.inr (Or.inr (Or.inr (Or.inr (Or.inr (Or.inr (Or.inl (x1_))))))))))) (fun y1_ => y1_.elim (fun x2_ => Or.inr (Or.inr (Or.inr (Or.inr (Or.inr (Or.inr (Or.inr (Or.inr (Or.inr (Or.inr (Or.inl (x2_)))))))))))) (fun y2_ => Or.inr (Or.inr (Or.inr (Or.inr (Or.inr (Or.inr (Or.inr (Or.inr (Or.inr (Or.inr (Or.inr (dk_wrr (lo := 164) (hi := 167) y2_ (by decide) (by decide)))))))))))))))))]), ⟨⟨1, PX_put hG23 gi441 hn.symm hpp.symm (by omega) (fun k_ j_ h_ => by rw [hfσ439 k_ j_ (by omega), hfσ433 k_ j_ (by omega)]) (fun j_ => by rw [hfσ439 164 j_ (by omega), hfσ433 164 j_ (by omega)]) (by omega) (by omega) (by omega) (by omega) (by omega) (by omega) (by omega) rfl (Or.inr (by omega)), fun _ => rfl⟩, by omega, Or.inr (Or.inl (by omega))⟩⟩
                · skip
                  refine dk_bipush (pc' := 117) hE dX11_behind_115 (by decide) rfl ?_
                  refine dk_goto (tgt := 138) hE dX11_behind_117 (by decide) ?_
                  have hz449 : σ23c 141 45 = p := by rw [hv366]
                  refine dk_cV (pc' := 141) (as := [(0, v3), (0, 38)]) hE lk_X11_395 (ct_X11_put l G hGd v3 38 p) dX11_behind_138 rfl is_141 rfl (by decide) (Nat.le_of_ble_eq_true rfl) ⟨rfl, (by omega), (by omega)⟩ rfl (fun r451 σ450 hr451 hor451 => ?_)
                  obtain ⟨rfl, hfσ450, hpr451⟩ := hr451
                  have H138 := hpr451
                  have gi452 : NX σ23c σ450 := NX_fr (NX_rf (hG23).1.1.2.1) (fun k_ j_ h_ => by rw [hfσ450 k_ j_ (by omega)])
                  refine dk_aload_n (pc' := 142) hE dX11_behind_141 rfl rfl rfl ?_
                  have hz453 : σ450 141 7 = σ 141 7 := by rw [hfσ450 141 7 (by omega), hF23 141 7 (by omega)]
                  have hz454 : σ450 141 3 = σ 141 3 := by rw [hfσ450 141 3 (by omega), hF23 141 3 (by omega)]
                  have hz455 : σ450 141 3 = σ 141 3 := by rw [hfσ450 141 3 (by omega), hF23 141 3 (by omega)]
                  refine dk_cV (pc' := 145) (as := []) hE lk_X11_254 (ct_X11_next l G hGd) dX11_behind_142 rfl is_141 rfl (by decide) (Nat.le_of_ble_eq_true rfl) ⟨rfl, ((NX_tk gi452).2.1), (by omega)⟩ rfl (fun r457 σ456 hr457 hor457 => ?_)
                  obtain ⟨rfl, hfσ456, hpr457⟩ := hr457
                  have H142 := hpr457
                  have gi458 : NX σ23c σ456 := NX_y gi452 hpr457
                  have hy_ := H142.2.2.1
                  have ht_ := hT.2.2 (by omega)
                  refine dk_iconst (pc' := 146) hE dX11_behind_145 (by decide) rfl ?_
                  have hz459 : σ456 141 42 = n := by rw [hfσ456 141 42 (by omega), hfσ450 141 42 (by omega), hn]
                  have hz460 : σ456 141 43 = σ 141 43 := by rw [hfσ456 141 43 (by omega), hfσ450 141 43 (by omega), hF23 141 43 (by omega)]
                  have hz461 : σ456 141 44 = y := by rw [hfσ456 141 44 (by omega), hfσ450 141 44 (by omega), hy]
                  have hz462 : σ456 141 45 = p + 1 := by rw [hfσ456 141 45 (by omega), (hpr451.2.2).symm]
                  have hz463 : σ456 141 4 = σ 141 4 := by rw [hfσ456 141 4 (by omega), hfσ450 141 4 (by omega), hF23 141 4 (by omega)]
                  have hz464 : σ456 166 p = v3 := by rw [hfσ456 166 p (by omega), (hpr451.1).symm]
                  have hz465 : σ456 167 p = 38 := by rw [hfσ456 167 p (by omega), (hpr451.2.1).symm]
                  exact dk_zret (st := []) hE hR dX11_behind_146 (by omega) ⟨_, rfl, (fun k_ j_ h_ => by rw [hfσ456 k_ j_ (fun w_ => h_ (w_.elim (fun x0_ => Or.inr (Or.inr (Or.inl (x0_)))) (fun y0_ => y0_.elim (fun x1_ => Or.inr (Or.inr (Or.inr (Or.inl (x1_))))) (fun y1_ => y1_.elim (fun x2_ => Or.inr (Or.inr (Or.inr (Or.inr (Or.inl (x2_)))))) (fun y2_ => y2_.elim (fun x3_ => Or.inr (Or.inr (Or.inr (Or.inr (Or.inr (Or.inl (x3_))))))) (fun y3_ => Or.inr (Or.inr (Or.inr (Or.inr (Or.inr (Or.inr (Or.inl (y3_))))))))))))), hfσ450 k_ j_ (fun w_ => h_ (w_.elim (fun x0_ => Or.inr (Or.inr (Or.inr (Or.inr (Or.inr (Or.inr (Or.inr (Or.inr (Or.inr (Or.inr (Or.inr (dk_wr (lo := 164) (hi := 167) x0_.1 (by decide))))))))))))) (fun y0_ => y0_.elim (fun x1_ => Or.inr (Or.inr (Or.inr (Or.inr (Or.inr (Or.inr (Or.inr (Or.inr (Or.inr (Or.inr (Or.inr (dk_wr (lo := 164) (hi := 167) x1_.1 (by decide))))))))))))) (fun y1_ => Or.inr (Or.inr (Or.inr (Or.inr (Or.inr (Or.inr (Or.inr (Or.inr (Or.inr (Or.inr (Or.inl (y1_))))))))))))))), hF23 k_ j_ (fun w_ => h_ (w_.elim (fun x0_ => Or.inr (Or.inr (Or.inr (Or.inr (Or.inr (Or.inr (Or.inr (Or.inl (x0_))))))))) (fun y0_ => y0_.elim (fun x1_ => Or.inr (Or.inr (Or.inr (Or.inr (Or.inr (Or.inr (Or.inr (Or.inr (Or.inr (Or.inl (x1_))))))))))) (fun y1_ => y1_.elim (fun x2_ => Or.inr (Or.inr (Or.inr (Or.inr (Or.inr (Or.inr (Or.inr (Or.inr (Or.inr (Or.inr (Or.inl (x2_)))))))))))) (fun y2_ => Or.inr (Or.inr (Or.inr (Or.inr (Or.inr (Or.inr (Or.inr (Or.inr (Or.inr (Or.inr (Or.inr (dk_wrr (lo := 164) (hi := 167) y2_ (by decide) (by decide)))))))))))))))))]), ⟨⟨1, PX_put hG23 gi458 hn.symm hpp.symm (by omega) (fun k_ j_ h_ => by rw [hfσ456 k_ j_ (by omega), hfσ450 k_ j_ (by omega)]) (fun j_ => by rw [hfσ456 164 j_ (by omega), hfσ450 164 j_ (by omega)]) (by omega) (by omega) (by omega) (by omega) (by omega) (by omega) (by omega) rfl (Or.inr (by omega)), fun _ => rfl⟩, by omega, Or.inr (Or.inl (by omega))⟩⟩
            · skip
              refine dk_aload_n (pc' := 55) hE dX11_behind_54 rfl rfl rfl ?_
              refine dk_dup (pc' := 56) hE dX11_behind_55 (show (4 : Nat) ≠ 3 by decide) rfl ?_
              refine gf_11_45 (pc' := 59) hE fl_X11_389 dX11_behind_56 is_141 rfl (fun v466 hv466 htv466 hbv466 => ?_)
              have hq466 : p = v466 := (show v466 = p by rw [hv466, hv366]).symm
              subst hq466
              clear htv466 hbv466
              refine dk_iconst (pc' := 60) hE dX11_behind_59 (by decide) rfl ?_
              obtain ⟨v467, hv467⟩ : ∃ z : Int, z = p - 1 := ⟨_, rfl⟩
              refine dk_isub (pc' := 61) hE dX11_behind_60 hv467.symm (by omega) rfl ?_
              have hrnv467 : v267 = v467 := by omega
              subst hrnv467
              refine pf_11_45 (pc' := 64) hE fl_X11_389 dX11_behind_61 is_141 (by omega) rfl (fun σ468 eσ468 => ?_)
              refine dk_aload_n (pc' := 65) hE dX11_behind_64 rfl rfl rfl ?_
              refine gf_11_37 (pc' := 68) (w := 166) hE fl_X11_89 dX11_behind_65 is_141 rfl rfl ?_
              refine dk_aload_n (pc' := 69) hE dX11_behind_68 rfl rfl rfl ?_
              refine gf_11_45 (pc' := 72) hE fl_X11_389 dX11_behind_69 is_141 rfl (fun v469 hv469 htv469 hbv469 => ?_)
              have hq469 : v267 = v469 := (show v469 = v267 by rw [hv469, eσ468, dk_up_s]).symm
              subst hq469
              clear htv469 hbv469
              refine ga_94 (pc' := 73) hE dX11_behind_72 is_166 (by omega) rfl (fun v470 hv470 htv470 hbv470 => ?_)
              have hq470 : v268 = v470 := (show v470 = v268 by rw [hv470, eσ468, dk_up_n (show ¬ (166 = 141 ∧ v267 = 45) by omega), hv368]).symm
              subst hq470
              clear htv470 hbv470
              refine dk_iconst (pc' := 74) hE dX11_behind_73 (by decide) rfl ?_
              refine dk_icmp_ne (tgt := 87) (pc' := 77) hE dX11_behind_74 (by decide) rfl (fun hc471 => ?_) (fun hc471 => ?_)
              · skip
                refine dk_aload_n (pc' := 88) hE dX11_behind_87 rfl rfl rfl ?_
                refine dk_aload_n (pc' := 89) hE dX11_behind_88 rfl rfl rfl ?_
                refine gf_11_38 (pc' := 92) (w := 167) hE fl_X11_92 dX11_behind_89 is_141 rfl rfl ?_
                refine dk_aload_n (pc' := 93) hE dX11_behind_92 rfl rfl rfl ?_
                refine gf_11_45 (pc' := 96) hE fl_X11_389 dX11_behind_93 is_141 rfl (fun v472 hv472 htv472 hbv472 => ?_)
                have hq472 : v267 = v472 := (show v472 = v267 by rw [hv472, hv469]).symm
                subst hq472
                clear htv472 hbv472
                refine ga_95 (pc' := 97) hE dX11_behind_96 is_167 (by omega) rfl (fun v473 hv473 htv473 hbv473 => ?_)
                have hs96 : σ23c 167 v267 = v473 := by rw [hv473, eσ468, dk_up_n (show ¬ (167 = 141 ∧ v267 = 45) by omega)]
                refine dk_iconst (pc' := 98) hE dX11_behind_97 (by decide) rfl ?_
                have hz474 : σ468 141 41 = σ 141 41 := by rw [eσ468, dk_up_n (show ¬ (141 = 141 ∧ 41 = 45) by omega), hF23 141 41 (by omega)]
                have hz475 : σ468 141 42 = n := by rw [eσ468, dk_up_n (show ¬ (141 = 141 ∧ 42 = 45) by omega), hn]
                refine dk_cV (pc' := 101) (as := [(0, v473), (0, 0)]) hE lk_X11_407 (ct_X11_sign0 l G hGd v473 0 r n (600 * r + n)) dX11_behind_98 rfl is_141 rfl (by decide) (Nat.le_of_ble_eq_true rfl) ⟨rfl, (by omega), (by omega), (by omega), (by omega), (by omega)⟩ rfl (fun r477 σ476 hr477 hor477 => ?_)
                obtain ⟨rfl, hfσ476, hpr477⟩ := hr477
                have H98 := hpr477
                have hz478 : σ476 141 42 = n + 1 := by rw [(hpr477.2).symm]
                have hz479 : σ476 141 44 = y := by rw [hfσ476 141 44 (by omega), eσ468, dk_up_n (show ¬ (141 = 141 ∧ 44 = 45) by omega), hy]
                have hz480 : σ476 141 45 = v267 := by rw [hfσ476 141 45 (by omega), hv472]
                have hz481 : σ476 164 (600 * r + n) = v473 := by rw [(hpr477.1).symm]
                have gi482 : PX 0 c r σ σ476 := PX_pop (z := v268) (s := v473) hG23 hn.symm hpp.symm (by omega) (by rw [show p - 1 = v267 by omega]; exact hv268.symm) (by omega) (by rw [show p - 1 = v267 by omega]; exact hs96) (fun k_ j_ h_ => by rw [hfσ476 k_ j_ (by omega), eσ468, dk_up_n (show ¬ (k_ = 141 ∧ j_ = 45) by omega)]) (by omega) (by first | (rw [if_pos (by omega)]; omega) | (rw [if_neg (by omega)]; omega)) (by omega) (by omega)
                refine dk_goto (tgt := 23) hE dX11_behind_101 (by decide) ?_
                have hz483_141_45 : σ476 141 45 = v267 := by rw [hfσ476 141 45 (by omega), eσ468, dk_up_s]
                have hz484_141_44 := (show σ476 141 44 = _ by rw [hfσ476 141 44 (by omega), eσ468, dk_up_n (show ¬ (141 = 141 ∧ 44 = 45) by omega)])
                have hz485_141_43 := (show σ476 141 43 = _ by rw [hfσ476 141 43 (by omega), eσ468, dk_up_n (show ¬ (141 = 141 ∧ 43 = 45) by omega)])
                have hz486_141_6 := (show σ476 141 6 = _ by rw [hfσ476 141 6 (by omega), eσ468, dk_up_n (show ¬ (141 = 141 ∧ 6 = 45) by omega)])
                have hz487_141_4 := (show σ476 141 4 = _ by rw [hfσ476 141 4 (by omega), eσ468, dk_up_n (show ¬ (141 = 141 ∧ 4 = 45) by omega)])
                have hz488_141_7 := (show σ476 141 7 = _ by rw [hfσ476 141 7 (by omega), eσ468, dk_up_n (show ¬ (141 = 141 ∧ 7 = 45) by omega)])
                have hz489_141_8 := (show σ476 141 8 = _ by rw [hfσ476 141 8 (by omega), eσ468, dk_up_n (show ¬ (141 = 141 ∧ 8 = 45) by omega)])
                exact ih23 (σ476 141 42) (σ476 141 45) (σ476 141 44) σ476 (by omega) (fun k_ j_ h_ => by rw [hfσ476 k_ j_ (fun w_ => h_ (w_.elim (fun x0_ => Or.inr (Or.inr (Or.inr (dk_wr (lo := 164) (hi := 165) x0_.1 (by decide))))) (fun y0_ => y0_.elim (fun x1_ => Or.inr (Or.inr (Or.inr (dk_wr (lo := 164) (hi := 165) x1_.1 (by decide))))) (fun y1_ => Or.inl (y1_))))), eσ468, dk_up_n (show ¬ (k_ = 141 ∧ j_ = 45) from fun q_ => h_ (Or.inr (Or.inr (Or.inl (q_))))), hF23 k_ j_ (fun w_ => h_ (w_.elim (fun x0_ => Or.inl (x0_)) (fun y0_ => y0_.elim (fun x1_ => Or.inr (Or.inl (x1_))) (fun y1_ => y1_.elim (fun x2_ => Or.inr (Or.inr (Or.inl (x2_)))) (fun y2_ => Or.inr (Or.inr (Or.inr (y2_))))))))]) gi482 (rfl) (rfl) (rfl) (by omega) (by omega)
              · skip
                refine dk_aload_n (pc' := 78) hE dX11_behind_77 rfl rfl rfl ?_
                refine dk_dup (pc' := 79) hE dX11_behind_78 (show (4 : Nat) ≠ 3 by decide) rfl ?_
                refine gf_11_44 (pc' := 82) hE fl_X11_392 dX11_behind_79 is_141 rfl (fun v491 hv491 htv491 hbv491 => ?_)
                have hq491 : y = v491 := (show v491 = y by rw [hv491, eσ468, dk_up_n (show ¬ (141 = 141 ∧ 44 = 45) by omega), hy]).symm
                subst hq491
                clear htv491 hbv491
                refine dk_iconst (pc' := 83) hE dX11_behind_82 (by decide) rfl ?_
                obtain ⟨v492, hv492⟩ : ∃ z : Int, z = y - 1 := ⟨_, rfl⟩
                refine dk_isub (pc' := 84) hE dX11_behind_83 hv492.symm (by omega) rfl ?_
                refine pf_11_44 (pc' := 87) hE fl_X11_392 dX11_behind_84 is_141 trivial rfl (fun σ493 eσ493 => ?_)
                refine dk_aload_n (pc' := 88) hE dX11_behind_87 rfl rfl rfl ?_
                refine dk_aload_n (pc' := 89) hE dX11_behind_88 rfl rfl rfl ?_
                refine gf_11_38 (pc' := 92) (w := 167) hE fl_X11_92 dX11_behind_89 is_141 rfl rfl ?_
                refine dk_aload_n (pc' := 93) hE dX11_behind_92 rfl rfl rfl ?_
                refine gf_11_45 (pc' := 96) hE fl_X11_389 dX11_behind_93 is_141 rfl (fun v494 hv494 htv494 hbv494 => ?_)
                have hq494 : v267 = v494 := (show v494 = v267 by rw [hv494, eσ493, dk_up_n (show ¬ (141 = 141 ∧ 45 = 44) by omega), hv469]).symm
                subst hq494
                clear htv494 hbv494
                refine ga_95 (pc' := 97) hE dX11_behind_96 is_167 (by omega) rfl (fun v495 hv495 htv495 hbv495 => ?_)
                have hs96 : σ23c 167 v267 = v495 := by rw [hv495, eσ493, dk_up_n (show ¬ (167 = 141 ∧ v267 = 44) by omega), eσ468, dk_up_n (show ¬ (167 = 141 ∧ v267 = 45) by omega)]
                refine dk_iconst (pc' := 98) hE dX11_behind_97 (by decide) rfl ?_
                have hz496 : σ493 141 41 = σ 141 41 := by rw [eσ493, dk_up_n (show ¬ (141 = 141 ∧ 41 = 44) by omega), eσ468, dk_up_n (show ¬ (141 = 141 ∧ 41 = 45) by omega), hF23 141 41 (by omega)]
                have hz497 : σ493 141 42 = n := by rw [eσ493, dk_up_n (show ¬ (141 = 141 ∧ 42 = 44) by omega), eσ468, dk_up_n (show ¬ (141 = 141 ∧ 42 = 45) by omega), hn]
                refine dk_cV (pc' := 101) (as := [(0, v495), (0, 0)]) hE lk_X11_407 (ct_X11_sign0 l G hGd v495 0 r n (600 * r + n)) dX11_behind_98 rfl is_141 rfl (by decide) (Nat.le_of_ble_eq_true rfl) ⟨rfl, (by omega), (by omega), (by omega), (by omega), (by omega)⟩ rfl (fun r499 σ498 hr499 hor499 => ?_)
                obtain ⟨rfl, hfσ498, hpr499⟩ := hr499
                have H98 := hpr499
                have hz500 : σ498 141 42 = n + 1 := by rw [(hpr499.2).symm]
                have hz501 : σ498 141 44 = v492 := by rw [hfσ498 141 44 (by omega), eσ493, dk_up_s]
                have hz502 : σ498 141 45 = v267 := by rw [hfσ498 141 45 (by omega), hv494]
                have hz503 : σ498 164 (600 * r + n) = v495 := by rw [(hpr499.1).symm]
                have gi504 : PX 0 c r σ σ498 := PX_pop (z := v268) (s := v495) hG23 hn.symm hpp.symm (by omega) (by rw [show p - 1 = v267 by omega]; exact hv268.symm) (by omega) (by rw [show p - 1 = v267 by omega]; exact hs96) (fun k_ j_ h_ => by rw [hfσ498 k_ j_ (by omega), eσ493, dk_up_n (show ¬ (k_ = 141 ∧ j_ = 44) by omega), eσ468, dk_up_n (show ¬ (k_ = 141 ∧ j_ = 45) by omega)]) (by omega) (by first | (rw [if_pos (by omega)]; omega) | (rw [if_neg (by omega)]; omega)) (by omega) (by omega)
                refine dk_goto (tgt := 23) hE dX11_behind_101 (by decide) ?_
                have hz505_141_45 : σ498 141 45 = v267 := by rw [hfσ498 141 45 (by omega), eσ493, dk_up_n (show ¬ (141 = 141 ∧ 45 = 44) by omega), eσ468, dk_up_s]
                have hz506_141_44 : σ498 141 44 = v492 := by rw [hfσ498 141 44 (by omega), eσ493, dk_up_s]
                have hz507_141_43 := (show σ498 141 43 = _ by rw [hfσ498 141 43 (by omega), eσ493, dk_up_n (show ¬ (141 = 141 ∧ 43 = 44) by omega), eσ468, dk_up_n (show ¬ (141 = 141 ∧ 43 = 45) by omega)])
                have hz508_141_6 := (show σ498 141 6 = _ by rw [hfσ498 141 6 (by omega), eσ493, dk_up_n (show ¬ (141 = 141 ∧ 6 = 44) by omega), eσ468, dk_up_n (show ¬ (141 = 141 ∧ 6 = 45) by omega)])
                have hz509_141_4 := (show σ498 141 4 = _ by rw [hfσ498 141 4 (by omega), eσ493, dk_up_n (show ¬ (141 = 141 ∧ 4 = 44) by omega), eσ468, dk_up_n (show ¬ (141 = 141 ∧ 4 = 45) by omega)])
                have hz510_141_7 := (show σ498 141 7 = _ by rw [hfσ498 141 7 (by omega), eσ493, dk_up_n (show ¬ (141 = 141 ∧ 7 = 44) by omega), eσ468, dk_up_n (show ¬ (141 = 141 ∧ 7 = 45) by omega)])
                have hz511_141_8 := (show σ498 141 8 = _ by rw [hfσ498 141 8 (by omega), eσ493, dk_up_n (show ¬ (141 = 141 ∧ 8 = 44) by omega), eσ468, dk_up_n (show ¬ (141 = 141 ∧ 8 = 45) by omega)])
                exact ih23 (σ498 141 42) (σ498 141 45) (σ498 141 44) σ498 (by omega) (fun k_ j_ h_ => by rw [hfσ498 k_ j_ (fun w_ => h_ (w_.elim (fun x0_ => Or.inr (Or.inr (Or.inr (dk_wr (lo := 164) (hi := 165) x0_.1 (by decide))))) (fun y0_ => y0_.elim (fun x1_ => Or.inr (Or.inr (Or.inr (dk_wr (lo := 164) (hi := 165) x1_.1 (by decide))))) (fun y1_ => Or.inl (y1_))))), eσ493, dk_up_n (show ¬ (k_ = 141 ∧ j_ = 44) from fun q_ => h_ (Or.inr (Or.inl (q_)))), eσ468, dk_up_n (show ¬ (k_ = 141 ∧ j_ = 45) from fun q_ => h_ (Or.inr (Or.inr (Or.inl (q_))))), hF23 k_ j_ (fun w_ => h_ (w_.elim (fun x0_ => Or.inl (x0_)) (fun y0_ => y0_.elim (fun x1_ => Or.inr (Or.inl (x1_))) (fun y1_ => y1_.elim (fun x2_ => Or.inr (Or.inr (Or.inl (x2_)))) (fun y2_ => Or.inr (Or.inr (Or.inr (y2_))))))))]) gi504 (rfl) (rfl) (rfl) (by omega) (by omega)
      have hz513 : σ 141 6 = t := by rw [ht]
      have hz514 : σ 141 6 = t := by rw [ht]
      exact lp23 _ (σ 141 42) (σ 141 45) (σ 141 44) σ (Nat.lt_succ_self _) (fun k_ j_ h_ => rfl) hP (rfl) (rfl) (rfl) (by omega) (by omega)
    · skip
      refine dk_aload_n (pc' := 18) hE dX11_behind_17 rfl rfl rfl ?_
      refine dk_cV (pc' := 21) (as := []) hE lk_X11_257 (ct_X11_wrong l G hGd) dX11_behind_18 rfl is_141 rfl (by decide) (Nat.le_of_ble_eq_true rfl) rfl rfl (fun r524 σ523 hr524 hor524 => ?_)
      obtain ⟨rfl, hfσ523, hpr524⟩ := hr524
      have gi525 : PX 0 c r σ σ523 := PX_f hP hfσ523 hpr524
      refine dk_iconst (pc' := 22) hE dX11_behind_21 (by decide) rfl ?_
      have hz526 : σ523 141 42 = σ 141 42 := by rw [hfσ523 141 42 (by omega)]
      have hz527 : σ523 141 43 = σ 141 43 := by rw [hfσ523 141 43 (by omega)]
      have hz528 : σ523 141 44 = σ 141 44 := by rw [hfσ523 141 44 (by omega)]
      have hz529 : σ523 141 45 = σ 141 45 := by rw [hfσ523 141 45 (by omega)]
      have hz530 : σ523 141 6 = t := by rw [hfσ523 141 6 (by omega), ht]
      exact dk_zret (st := []) hE hR dX11_behind_22 (by omega) ⟨_, rfl, (fun k_ j_ h_ => by rw [hfσ523 k_ j_ (fun w_ => h_ (w_.elim (fun x0_ => Or.inl (x0_)) (fun y0_ => Or.inr (Or.inl (y0_)))))]), ⟨⟨0, gi525, fun e_ => absurd e_ (by omega)⟩, by omega, Or.inl (by omega)⟩⟩
