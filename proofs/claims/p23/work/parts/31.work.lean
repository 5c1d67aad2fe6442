theorem fpj31_70 {k j : Int} (h : k = 141 ∧ j = 70) : ¬ mFP k j := by obtain ⟨rfl, rfl⟩ := h; omega
theorem fpn31_176 {k j : Int} (h : k = 176) : ¬ mFP k j := by subst h; omega
theorem fpn31_180 {k j : Int} (h : k = 180) : ¬ mFP k j := by subst h; omega
theorem fpw31_2804642510 : ∀ k_ j_ : Int, mFP k_ j_ → ¬ ((k_ = 141 ∧ j_ = 55) ∨ (k_ = 141 ∧ j_ = 56) ∨ (k_ = 141 ∧ j_ = 57) ∨ (k_ = 141 ∧ j_ = 58) ∨ (k_ = 141 ∧ j_ = 59) ∨ (k_ = 141 ∧ j_ = 60) ∨ (k_ = 141 ∧ j_ = 61)) := by intro k_ j_ h; omega
theorem fpw31_238380992 : ∀ k_ j_ : Int, mFP k_ j_ → ¬ ((k_ = 141 ∧ j_ = 55) ∨ (k_ = 141 ∧ j_ = 56) ∨ (k_ = 141 ∧ j_ = 57) ∨ (k_ = 141 ∧ j_ = 58) ∨ (k_ = 141 ∧ j_ = 59) ∨ (k_ = 141 ∧ j_ = 60) ∨ (k_ = 141 ∧ j_ = 61) ∨ k_ = 168) := by intro k_ j_ h; omega
theorem fpw31_999371632 : ∀ k_ j_ : Int, mFP k_ j_ → ¬ ((k_ = 141 ∧ j_ = 55) ∨ (k_ = 141 ∧ j_ = 56) ∨ (k_ = 141 ∧ j_ = 57) ∨ (k_ = 141 ∧ j_ = 58) ∨ (k_ = 141 ∧ j_ = 59) ∨ (k_ = 141 ∧ j_ = 60) ∨ (k_ = 141 ∧ j_ = 61) ∨ k_ = 168 ∨ (176 ≤ k_ ∧ k_ ≤ 177)) := by intro k_ j_ h; omega
theorem fpw31_549955260 : ∀ k_ j_ : Int, mFP k_ j_ → ¬ ((k_ = 141 ∧ j_ = 55) ∨ (k_ = 141 ∧ j_ = 56) ∨ (k_ = 141 ∧ j_ = 57) ∨ (k_ = 141 ∧ j_ = 58) ∨ (k_ = 141 ∧ j_ = 59) ∨ (k_ = 141 ∧ j_ = 60) ∨ (k_ = 141 ∧ j_ = 61) ∨ k_ = 168 ∨ (k_ = 141 ∧ j_ = 70) ∨ (176 ≤ k_ ∧ k_ ≤ 177) ∨ k_ = 180) := by intro k_ j_ h; omega
set_option maxHeartbeats 4000000 in
set_option maxRecDepth 20000 in
theorem ct_X11_term (l : Launch) (G : dkG) (hGd : dk_Gd G) (a n : Int) : dk_Ct l G dk_Ty yX11_term cX11_term 3 (some .int) 4 190 190 (fun av σ => av = [(4, 141), (0, a), (0, n)]) (fun _ σ r_ σ' => ∃ z : Int, r_ = some (0, z) ∧ (∀ k_ j_ : Int, ¬ (False) → σ' k_ j_ = σ k_ j_) ∧ (True)) := by
  refine dk_enter hGd (by decide) (fun av σ hpre hok => ?_)
  subst hpre
  refine ⟨Nat.le_of_ble_eq_true rfl, fun E hE hR _ => ?_⟩
  have hi_a : dk_i32 a := dk_oki (hok _ (by simp))
  have hi_n : dk_i32 n := dk_oki (hok _ (by simp))
  show dk_PJ E 0 [(4, 141), (0, a), (0, n)] [] 190 σ
  refine dk_iload_n (pc' := 1) hE dX11_term_0 rfl rfl rfl ?_
  refine dk_table (tgs := [122, 82, 137, 132, 137, 137, 137, 112, 107, 137, 92, 97, 137, 80, 102, 87]) (td := 137) hE dX11_term_1 (by decide) (by decide) (by decide) (fun hc1 => ?_) (fun i2 t3 q4 hc1 => ?_)
  · skip
    refine dk_aload_n (pc' := 138) hE dX11_term_137 rfl rfl rfl ?_
    refine dk_aload_n (pc' := 139) hE dX11_term_138 rfl rfl rfl ?_
    refine gf_11_56 (pc' := 142) hE fl_X11_437 dX11_term_139 is_141 rfl (fun v5 hv5 htv5 hbv5 => ?_)
    refine dk_cV (pc' := 145) (as := [(0, v5)]) hE lk_X11_339 (ct_X11_countsOf l G hGd v5) dX11_term_142 rfl is_141 rfl (by decide) (Nat.le_of_ble_eq_true rfl) ⟨rfl, (by omega)⟩ rfl (fun r7 σ6 hr7 hor7 => ?_)
    obtain ⟨v8, rfl, hfσ6, hpr7⟩ := hr7
    have hsσ6 : σ = σ6 := (funext (fun k => funext (fun j => hfσ6 k j not_false))).symm
    subst hsσ6
    exact dk_iret (st := []) hE hR dX11_term_145 ⟨_, rfl, (fun k_ j_ h_ => rfl), trivial⟩
  · have i2l : i2 < 16 := (List.getElem?_eq_some_iff.mp q4).1
    rcases (show i2 = 0 ∨ i2 = 1 ∨ i2 = 2 ∨ i2 = 3 ∨ i2 = 4 ∨ i2 = 5 ∨ i2 = 6 ∨ i2 = 7 ∨ i2 = 8 ∨ i2 = 9 ∨ i2 = 10 ∨ i2 = 11 ∨ i2 = 12 ∨ i2 = 13 ∨ i2 = 14 ∨ i2 = 15 by omega) with rfl | rfl | rfl | rfl | rfl | rfl | rfl | rfl | rfl | rfl | rfl | rfl | rfl | rfl | rfl | rfl
    · cases q4
      refine dk_aload_n (pc' := 123) hE dX11_term_122 rfl rfl rfl ?_
      refine gf_11_17 (pc' := 126) (w := 150) hE fl_X11_39 dX11_term_123 is_141 rfl rfl ?_
      refine dk_aload_n (pc' := 127) hE dX11_term_126 rfl rfl rfl ?_
      refine gf_11_27 (pc' := 130) hE fl_X11_266 dX11_term_127 is_141 rfl (fun v9 hv9 htv9 hbv9 => ?_)
      refine ga_78 (pc' := 131) hE dX11_term_130 is_150 (by omega) rfl (fun v10 hv10 htv10 hbv10 => ?_)
      exact dk_iret (st := []) hE hR dX11_term_131 ⟨_, rfl, (fun k_ j_ h_ => rfl), trivial⟩
    · cases q4
      refine dk_aload_n (pc' := 83) hE dX11_term_82 rfl rfl rfl ?_
      refine gf_11_55 (pc' := 86) hE fl_X11_434 dX11_term_83 is_141 rfl (fun v11 hv11 htv11 hbv11 => ?_)
      exact dk_iret (st := []) hE hR dX11_term_86 ⟨_, rfl, (fun k_ j_ h_ => rfl), trivial⟩
    · cases q4
      refine dk_aload_n (pc' := 138) hE dX11_term_137 rfl rfl rfl ?_
      refine dk_aload_n (pc' := 139) hE dX11_term_138 rfl rfl rfl ?_
      refine gf_11_56 (pc' := 142) hE fl_X11_437 dX11_term_139 is_141 rfl (fun v12 hv12 htv12 hbv12 => ?_)
      refine dk_cV (pc' := 145) (as := [(0, v12)]) hE lk_X11_339 (ct_X11_countsOf l G hGd v12) dX11_term_142 rfl is_141 rfl (by decide) (Nat.le_of_ble_eq_true rfl) ⟨rfl, (by omega)⟩ rfl (fun r14 σ13 hr14 hor14 => ?_)
      obtain ⟨v15, rfl, hfσ13, hpr14⟩ := hr14
      have hsσ13 : σ = σ13 := (funext (fun k => funext (fun j => hfσ13 k j not_false))).symm
      subst hsσ13
      exact dk_iret (st := []) hE hR dX11_term_145 ⟨_, rfl, (fun k_ j_ h_ => rfl), trivial⟩
    · cases q4
      refine dk_aload_n (pc' := 133) hE dX11_term_132 rfl rfl rfl ?_
      refine gf_11_61 (pc' := 136) hE fl_X11_440 dX11_term_133 is_141 rfl (fun v16 hv16 htv16 hbv16 => ?_)
      exact dk_iret (st := []) hE hR dX11_term_136 ⟨_, rfl, (fun k_ j_ h_ => rfl), trivial⟩
    · cases q4
      refine dk_aload_n (pc' := 138) hE dX11_term_137 rfl rfl rfl ?_
      refine dk_aload_n (pc' := 139) hE dX11_term_138 rfl rfl rfl ?_
      refine gf_11_56 (pc' := 142) hE fl_X11_437 dX11_term_139 is_141 rfl (fun v17 hv17 htv17 hbv17 => ?_)
      refine dk_cV (pc' := 145) (as := [(0, v17)]) hE lk_X11_339 (ct_X11_countsOf l G hGd v17) dX11_term_142 rfl is_141 rfl (by decide) (Nat.le_of_ble_eq_true rfl) ⟨rfl, (by omega)⟩ rfl (fun r19 σ18 hr19 hor19 => ?_)
      obtain ⟨v20, rfl, hfσ18, hpr19⟩ := hr19
      have hsσ18 : σ = σ18 := (funext (fun k => funext (fun j => hfσ18 k j not_false))).symm
      subst hsσ18
      exact dk_iret (st := []) hE hR dX11_term_145 ⟨_, rfl, (fun k_ j_ h_ => rfl), trivial⟩
    · cases q4
      refine dk_aload_n (pc' := 138) hE dX11_term_137 rfl rfl rfl ?_
      refine dk_aload_n (pc' := 139) hE dX11_term_138 rfl rfl rfl ?_
      refine gf_11_56 (pc' := 142) hE fl_X11_437 dX11_term_139 is_141 rfl (fun v21 hv21 htv21 hbv21 => ?_)
      refine dk_cV (pc' := 145) (as := [(0, v21)]) hE lk_X11_339 (ct_X11_countsOf l G hGd v21) dX11_term_142 rfl is_141 rfl (by decide) (Nat.le_of_ble_eq_true rfl) ⟨rfl, (by omega)⟩ rfl (fun r23 σ22 hr23 hor23 => ?_)
      obtain ⟨v24, rfl, hfσ22, hpr23⟩ := hr23
      have hsσ22 : σ = σ22 := (funext (fun k => funext (fun j => hfσ22 k j not_false))).symm
      subst hsσ22
      exact dk_iret (st := []) hE hR dX11_term_145 ⟨_, rfl, (fun k_ j_ h_ => rfl), trivial⟩
    · cases q4
      refine dk_aload_n (pc' := 138) hE dX11_term_137 rfl rfl rfl ?_
      refine dk_aload_n (pc' := 139) hE dX11_term_138 rfl rfl rfl ?_
      refine gf_11_56 (pc' := 142) hE fl_X11_437 dX11_term_139 is_141 rfl (fun v25 hv25 htv25 hbv25 => ?_)
      refine dk_cV (pc' := 145) (as := [(0, v25)]) hE lk_X11_339 (ct_X11_countsOf l G hGd v25) dX11_term_142 rfl is_141 rfl (by decide) (Nat.le_of_ble_eq_true rfl) ⟨rfl, (by omega)⟩ rfl (fun r27 σ26 hr27 hor27 => ?_)
      obtain ⟨v28, rfl, hfσ26, hpr27⟩ := hr27
      have hsσ26 : σ = σ26 := (funext (fun k => funext (fun j => hfσ26 k j not_false))).symm
      subst hsσ26
      exact dk_iret (st := []) hE hR dX11_term_145 ⟨_, rfl, (fun k_ j_ h_ => rfl), trivial⟩
    · cases q4
      refine dk_aload_n (pc' := 113) hE dX11_term_112 rfl rfl rfl ?_
      refine dk_aload_n (pc' := 114) hE dX11_term_113 rfl rfl rfl ?_
      refine gf_11_56 (pc' := 117) hE fl_X11_437 dX11_term_114 is_141 rfl (fun v29 hv29 htv29 hbv29 => ?_)
      refine dk_iconst (pc' := 118) hE dX11_term_117 (by decide) rfl ?_
      refine dk_cV (pc' := 121) (as := [(0, v29), (0, 0)]) hE lk_X11_362 (ct_X11_loadOf l G hGd v29 0) dX11_term_118 rfl is_141 rfl (by decide) (Nat.le_of_ble_eq_true rfl) ⟨rfl, (by omega), (by omega)⟩ rfl (fun r31 σ30 hr31 hor31 => ?_)
      obtain ⟨v32, rfl, hfσ30, hpr31⟩ := hr31
      have hsσ30 : σ = σ30 := (funext (fun k => funext (fun j => hfσ30 k j not_false))).symm
      subst hsσ30
      exact dk_iret (st := []) hE hR dX11_term_121 ⟨_, rfl, (fun k_ j_ h_ => rfl), trivial⟩
    · cases q4
      refine dk_aload_n (pc' := 108) hE dX11_term_107 rfl rfl rfl ?_
      refine gf_11_60 (pc' := 111) hE fl_X11_452 dX11_term_108 is_141 rfl (fun v33 hv33 htv33 hbv33 => ?_)
      exact dk_iret (st := []) hE hR dX11_term_111 ⟨_, rfl, (fun k_ j_ h_ => rfl), trivial⟩
    · cases q4
      refine dk_aload_n (pc' := 138) hE dX11_term_137 rfl rfl rfl ?_
      refine dk_aload_n (pc' := 139) hE dX11_term_138 rfl rfl rfl ?_
      refine gf_11_56 (pc' := 142) hE fl_X11_437 dX11_term_139 is_141 rfl (fun v34 hv34 htv34 hbv34 => ?_)
      refine dk_cV (pc' := 145) (as := [(0, v34)]) hE lk_X11_339 (ct_X11_countsOf l G hGd v34) dX11_term_142 rfl is_141 rfl (by decide) (Nat.le_of_ble_eq_true rfl) ⟨rfl, (by omega)⟩ rfl (fun r36 σ35 hr36 hor36 => ?_)
      obtain ⟨v37, rfl, hfσ35, hpr36⟩ := hr36
      have hsσ35 : σ = σ35 := (funext (fun k => funext (fun j => hfσ35 k j not_false))).symm
      subst hsσ35
      exact dk_iret (st := []) hE hR dX11_term_145 ⟨_, rfl, (fun k_ j_ h_ => rfl), trivial⟩
    · cases q4
      refine dk_aload_n (pc' := 93) hE dX11_term_92 rfl rfl rfl ?_
      refine gf_11_57 (pc' := 96) hE fl_X11_443 dX11_term_93 is_141 rfl (fun v38 hv38 htv38 hbv38 => ?_)
      exact dk_iret (st := []) hE hR dX11_term_96 ⟨_, rfl, (fun k_ j_ h_ => rfl), trivial⟩
    · cases q4
      refine dk_aload_n (pc' := 98) hE dX11_term_97 rfl rfl rfl ?_
      refine gf_11_58 (pc' := 101) hE fl_X11_446 dX11_term_98 is_141 rfl (fun v39 hv39 htv39 hbv39 => ?_)
      exact dk_iret (st := []) hE hR dX11_term_101 ⟨_, rfl, (fun k_ j_ h_ => rfl), trivial⟩
    · cases q4
      refine dk_aload_n (pc' := 138) hE dX11_term_137 rfl rfl rfl ?_
      refine dk_aload_n (pc' := 139) hE dX11_term_138 rfl rfl rfl ?_
      refine gf_11_56 (pc' := 142) hE fl_X11_437 dX11_term_139 is_141 rfl (fun v40 hv40 htv40 hbv40 => ?_)
      refine dk_cV (pc' := 145) (as := [(0, v40)]) hE lk_X11_339 (ct_X11_countsOf l G hGd v40) dX11_term_142 rfl is_141 rfl (by decide) (Nat.le_of_ble_eq_true rfl) ⟨rfl, (by omega)⟩ rfl (fun r42 σ41 hr42 hor42 => ?_)
      obtain ⟨v43, rfl, hfσ41, hpr42⟩ := hr42
      have hsσ41 : σ = σ41 := (funext (fun k => funext (fun j => hfσ41 k j not_false))).symm
      subst hsσ41
      exact dk_iret (st := []) hE hR dX11_term_145 ⟨_, rfl, (fun k_ j_ h_ => rfl), trivial⟩
    · cases q4
      refine dk_iload_n (pc' := 81) hE dX11_term_80 rfl rfl rfl ?_
      exact dk_iret (st := []) hE hR dX11_term_81 ⟨_, rfl, (fun k_ j_ h_ => rfl), trivial⟩
    · cases q4
      refine dk_aload_n (pc' := 103) hE dX11_term_102 rfl rfl rfl ?_
      refine gf_11_59 (pc' := 106) hE fl_X11_449 dX11_term_103 is_141 rfl (fun v44 hv44 htv44 hbv44 => ?_)
      exact dk_iret (st := []) hE hR dX11_term_106 ⟨_, rfl, (fun k_ j_ h_ => rfl), trivial⟩
    · cases q4
      refine dk_aload_n (pc' := 88) hE dX11_term_87 rfl rfl rfl ?_
      refine gf_11_56 (pc' := 91) hE fl_X11_437 dX11_term_88 is_141 rfl (fun v45 hv45 htv45 hbv45 => ?_)
      exact dk_iret (st := []) hE hR dX11_term_91 ⟨_, rfl, (fun k_ j_ h_ => rfl), trivial⟩
set_option maxHeartbeats 4000000 in
set_option maxRecDepth 20000 in
theorem ct_X11_two (l : Launch) (G : dkG) (hGd : dk_Gd G) (a b c : Int) : dk_Ct l G dk_Ty yX11_two cX11_two 3 (some .int) 1 190 190 (fun av σ => av = [(0, a), (0, b), (0, c)]) (fun _ σ r_ σ' => ∃ z : Int, r_ = some (0, z) ∧ (∀ k_ j_ : Int, ¬ (False) → σ' k_ j_ = σ k_ j_) ∧ (True)) := by
  refine dk_enter hGd (by decide) (fun av σ hpre hok => ?_)
  subst hpre
  refine ⟨Nat.le_of_ble_eq_true rfl, fun E hE hR _ => ?_⟩
  have hi_a : dk_i32 a := dk_oki (hok _ (by simp))
  have hi_b : dk_i32 b := dk_oki (hok _ (by simp))
  have hi_c : dk_i32 c := dk_oki (hok _ (by simp))
  show dk_PJ E 0 [(0, a), (0, b), (0, c)] [] 190 σ
  refine dk_iload_n (pc' := 1) hE dX11_two_0 rfl rfl rfl ?_
  refine dk_table (tgs := [161, 175, 175, 175, 124, 116, 175, 120, 175, 175, 175, 175, 175, 175, 175, 175, 175, 175, 175, 175, 175, 175, 128, 150, 139]) (td := 175) hE dX11_two_1 (by decide) (by decide) (by decide) (fun hc1 => ?_) (fun i2 t3 q4 hc1 => ?_)
  · skip
    refine dk_iload_n (pc' := 176) hE dX11_two_175 rfl rfl rfl ?_
    refine dk_if_ne (tgt := 183) (pc' := 179) hE dX11_two_176 (by decide) rfl (fun hc5 => ?_) (fun hc5 => ?_)
    · skip
      refine dk_iconst (pc' := 184) hE dX11_two_183 (by decide) rfl ?_
      refine dk_goto (tgt := 188) hE dX11_two_184 (by decide) ?_
      exact dk_iret (st := []) hE hR dX11_two_188 ⟨_, rfl, (fun k_ j_ h_ => rfl), trivial⟩
    · skip
      refine dk_iload_n (pc' := 180) hE dX11_two_179 rfl rfl rfl ?_
      refine dk_if_eq (tgt := 187) (pc' := 183) hE dX11_two_180 (by decide) rfl (fun hc6 => ?_) (fun hc6 => ?_)
      · skip
        refine dk_iconst (pc' := 188) hE dX11_two_187 (by decide) rfl ?_
        exact dk_iret (st := []) hE hR dX11_two_188 ⟨_, rfl, (fun k_ j_ h_ => rfl), trivial⟩
      · skip
        refine dk_iconst (pc' := 184) hE dX11_two_183 (by decide) rfl ?_
        refine dk_goto (tgt := 188) hE dX11_two_184 (by decide) ?_
        exact dk_iret (st := []) hE hR dX11_two_188 ⟨_, rfl, (fun k_ j_ h_ => rfl), trivial⟩
  · have i2l : i2 < 25 := (List.getElem?_eq_some_iff.mp q4).1
    rcases (show i2 = 0 ∨ i2 = 1 ∨ i2 = 2 ∨ i2 = 3 ∨ i2 = 4 ∨ i2 = 5 ∨ i2 = 6 ∨ i2 = 7 ∨ i2 = 8 ∨ i2 = 9 ∨ i2 = 10 ∨ i2 = 11 ∨ i2 = 12 ∨ i2 = 13 ∨ i2 = 14 ∨ i2 = 15 ∨ i2 = 16 ∨ i2 = 17 ∨ i2 = 18 ∨ i2 = 19 ∨ i2 = 20 ∨ i2 = 21 ∨ i2 = 22 ∨ i2 = 23 ∨ i2 = 24 by omega) with rfl | rfl | rfl | rfl | rfl | rfl | rfl | rfl | rfl | rfl | rfl | rfl | rfl | rfl | rfl | rfl | rfl | rfl | rfl | rfl | rfl | rfl | rfl | rfl | rfl
    · cases q4
      refine dk_iload_n (pc' := 162) hE dX11_two_161 rfl rfl rfl ?_
      refine dk_if_eq (tgt := 173) (pc' := 165) hE dX11_two_162 (by decide) rfl (fun hc7 => ?_) (fun hc7 => ?_)
      · skip
        refine dk_iconst (pc' := 174) hE dX11_two_173 (by decide) rfl ?_
        exact dk_iret (st := []) hE hR dX11_two_174 ⟨_, rfl, (fun k_ j_ h_ => rfl), trivial⟩
      · skip
        refine dk_iload_n (pc' := 166) hE dX11_two_165 rfl rfl rfl ?_
        refine dk_if_eq (tgt := 173) (pc' := 169) hE dX11_two_166 (by decide) rfl (fun hc8 => ?_) (fun hc8 => ?_)
        · skip
          refine dk_iconst (pc' := 174) hE dX11_two_173 (by decide) rfl ?_
          exact dk_iret (st := []) hE hR dX11_two_174 ⟨_, rfl, (fun k_ j_ h_ => rfl), trivial⟩
        · skip
          refine dk_iconst (pc' := 170) hE dX11_two_169 (by decide) rfl ?_
          refine dk_goto (tgt := 174) hE dX11_two_170 (by decide) ?_
          exact dk_iret (st := []) hE hR dX11_two_174 ⟨_, rfl, (fun k_ j_ h_ => rfl), trivial⟩
    · cases q4
      refine dk_iload_n (pc' := 176) hE dX11_two_175 rfl rfl rfl ?_
      refine dk_if_ne (tgt := 183) (pc' := 179) hE dX11_two_176 (by decide) rfl (fun hc9 => ?_) (fun hc9 => ?_)
      · skip
        refine dk_iconst (pc' := 184) hE dX11_two_183 (by decide) rfl ?_
        refine dk_goto (tgt := 188) hE dX11_two_184 (by decide) ?_
        exact dk_iret (st := []) hE hR dX11_two_188 ⟨_, rfl, (fun k_ j_ h_ => rfl), trivial⟩
      · skip
        refine dk_iload_n (pc' := 180) hE dX11_two_179 rfl rfl rfl ?_
        refine dk_if_eq (tgt := 187) (pc' := 183) hE dX11_two_180 (by decide) rfl (fun hc10 => ?_) (fun hc10 => ?_)
        · skip
          refine dk_iconst (pc' := 188) hE dX11_two_187 (by decide) rfl ?_
          exact dk_iret (st := []) hE hR dX11_two_188 ⟨_, rfl, (fun k_ j_ h_ => rfl), trivial⟩
        · skip
          refine dk_iconst (pc' := 184) hE dX11_two_183 (by decide) rfl ?_
          refine dk_goto (tgt := 188) hE dX11_two_184 (by decide) ?_
          exact dk_iret (st := []) hE hR dX11_two_188 ⟨_, rfl, (fun k_ j_ h_ => rfl), trivial⟩
    · cases q4
      refine dk_iload_n (pc' := 176) hE dX11_two_175 rfl rfl rfl ?_
      refine dk_if_ne (tgt := 183) (pc' := 179) hE dX11_two_176 (by decide) rfl (fun hc11 => ?_) (fun hc11 => ?_)
      · skip
        refine dk_iconst (pc' := 184) hE dX11_two_183 (by decide) rfl ?_
        refine dk_goto (tgt := 188) hE dX11_two_184 (by decide) ?_
        exact dk_iret (st := []) hE hR dX11_two_188 ⟨_, rfl, (fun k_ j_ h_ => rfl), trivial⟩
      · skip
        refine dk_iload_n (pc' := 180) hE dX11_two_179 rfl rfl rfl ?_
        refine dk_if_eq (tgt := 187) (pc' := 183) hE dX11_two_180 (by decide) rfl (fun hc12 => ?_) (fun hc12 => ?_)
        · skip
          refine dk_iconst (pc' := 188) hE dX11_two_187 (by decide) rfl ?_
          exact dk_iret (st := []) hE hR dX11_two_188 ⟨_, rfl, (fun k_ j_ h_ => rfl), trivial⟩
        · skip
          refine dk_iconst (pc' := 184) hE dX11_two_183 (by decide) rfl ?_
          refine dk_goto (tgt := 188) hE dX11_two_184 (by decide) ?_
          exact dk_iret (st := []) hE hR dX11_two_188 ⟨_, rfl, (fun k_ j_ h_ => rfl), trivial⟩
    · cases q4
      refine dk_iload_n (pc' := 176) hE dX11_two_175 rfl rfl rfl ?_
      refine dk_if_ne (tgt := 183) (pc' := 179) hE dX11_two_176 (by decide) rfl (fun hc13 => ?_) (fun hc13 => ?_)
      · skip
        refine dk_iconst (pc' := 184) hE dX11_two_183 (by decide) rfl ?_
        refine dk_goto (tgt := 188) hE dX11_two_184 (by decide) ?_
        exact dk_iret (st := []) hE hR dX11_two_188 ⟨_, rfl, (fun k_ j_ h_ => rfl), trivial⟩
      · skip
        refine dk_iload_n (pc' := 180) hE dX11_two_179 rfl rfl rfl ?_
        refine dk_if_eq (tgt := 187) (pc' := 183) hE dX11_two_180 (by decide) rfl (fun hc14 => ?_) (fun hc14 => ?_)
        · skip
          refine dk_iconst (pc' := 188) hE dX11_two_187 (by decide) rfl ?_
          exact dk_iret (st := []) hE hR dX11_two_188 ⟨_, rfl, (fun k_ j_ h_ => rfl), trivial⟩
        · skip
          refine dk_iconst (pc' := 184) hE dX11_two_183 (by decide) rfl ?_
          refine dk_goto (tgt := 188) hE dX11_two_184 (by decide) ?_
          exact dk_iret (st := []) hE hR dX11_two_188 ⟨_, rfl, (fun k_ j_ h_ => rfl), trivial⟩
    · cases q4
      refine dk_iload_n (pc' := 125) hE dX11_two_124 rfl rfl rfl ?_
      refine dk_iload_n (pc' := 126) hE dX11_two_125 rfl rfl rfl ?_
      refine dk_imulW (pc' := 127) hE dX11_two_126 rfl (fun v15 hv15 _ => ?_)
      exact dk_iret (st := []) hE hR dX11_two_127 ⟨_, rfl, (fun k_ j_ h_ => rfl), trivial⟩
    · cases q4
      refine dk_iload_n (pc' := 117) hE dX11_two_116 rfl rfl rfl ?_
      refine dk_iload_n (pc' := 118) hE dX11_two_117 rfl rfl rfl ?_
      refine dk_iaddW (pc' := 119) hE dX11_two_118 rfl (fun v16 hv16 _ => ?_)
      exact dk_iret (st := []) hE hR dX11_two_119 ⟨_, rfl, (fun k_ j_ h_ => rfl), trivial⟩
    · cases q4
      refine dk_iload_n (pc' := 176) hE dX11_two_175 rfl rfl rfl ?_
      refine dk_if_ne (tgt := 183) (pc' := 179) hE dX11_two_176 (by decide) rfl (fun hc17 => ?_) (fun hc17 => ?_)
      · skip
        refine dk_iconst (pc' := 184) hE dX11_two_183 (by decide) rfl ?_
        refine dk_goto (tgt := 188) hE dX11_two_184 (by decide) ?_
        exact dk_iret (st := []) hE hR dX11_two_188 ⟨_, rfl, (fun k_ j_ h_ => rfl), trivial⟩
      · skip
        refine dk_iload_n (pc' := 180) hE dX11_two_179 rfl rfl rfl ?_
        refine dk_if_eq (tgt := 187) (pc' := 183) hE dX11_two_180 (by decide) rfl (fun hc18 => ?_) (fun hc18 => ?_)
        · skip
          refine dk_iconst (pc' := 188) hE dX11_two_187 (by decide) rfl ?_
          exact dk_iret (st := []) hE hR dX11_two_188 ⟨_, rfl, (fun k_ j_ h_ => rfl), trivial⟩
        · skip
          refine dk_iconst (pc' := 184) hE dX11_two_183 (by decide) rfl ?_
          refine dk_goto (tgt := 188) hE dX11_two_184 (by decide) ?_
          exact dk_iret (st := []) hE hR dX11_two_188 ⟨_, rfl, (fun k_ j_ h_ => rfl), trivial⟩
    · cases q4
      refine dk_iload_n (pc' := 121) hE dX11_two_120 rfl rfl rfl ?_
      refine dk_iload_n (pc' := 122) hE dX11_two_121 rfl rfl rfl ?_
      refine dk_isubW (pc' := 123) hE dX11_two_122 rfl (fun v19 hv19 _ => ?_)
      exact dk_iret (st := []) hE hR dX11_two_123 ⟨_, rfl, (fun k_ j_ h_ => rfl), trivial⟩
    · cases q4
      refine dk_iload_n (pc' := 176) hE dX11_two_175 rfl rfl rfl ?_
      refine dk_if_ne (tgt := 183) (pc' := 179) hE dX11_two_176 (by decide) rfl (fun hc20 => ?_) (fun hc20 => ?_)
      · skip
        refine dk_iconst (pc' := 184) hE dX11_two_183 (by decide) rfl ?_
        refine dk_goto (tgt := 188) hE dX11_two_184 (by decide) ?_
        exact dk_iret (st := []) hE hR dX11_two_188 ⟨_, rfl, (fun k_ j_ h_ => rfl), trivial⟩
      · skip
        refine dk_iload_n (pc' := 180) hE dX11_two_179 rfl rfl rfl ?_
        refine dk_if_eq (tgt := 187) (pc' := 183) hE dX11_two_180 (by decide) rfl (fun hc21 => ?_) (fun hc21 => ?_)
        · skip
          refine dk_iconst (pc' := 188) hE dX11_two_187 (by decide) rfl ?_
          exact dk_iret (st := []) hE hR dX11_two_188 ⟨_, rfl, (fun k_ j_ h_ => rfl), trivial⟩
        · skip
          refine dk_iconst (pc' := 184) hE dX11_two_183 (by decide) rfl ?_
          refine dk_goto (tgt := 188) hE dX11_two_184 (by decide) ?_
          exact dk_iret (st := []) hE hR dX11_two_188 ⟨_, rfl, (fun k_ j_ h_ => rfl), trivial⟩
    · cases q4
      refine dk_iload_n (pc' := 176) hE dX11_two_175 rfl rfl rfl ?_
      refine dk_if_ne (tgt := 183) (pc' := 179) hE dX11_two_176 (by decide) rfl (fun hc22 => ?_) (fun hc22 => ?_)
      · skip
        refine dk_iconst (pc' := 184) hE dX11_two_183 (by decide) rfl ?_
        refine dk_goto (tgt := 188) hE dX11_two_184 (by decide) ?_
        exact dk_iret (st := []) hE hR dX11_two_188 ⟨_, rfl, (fun k_ j_ h_ => rfl), trivial⟩
      · skip
        refine dk_iload_n (pc' := 180) hE dX11_two_179 rfl rfl rfl ?_
        refine dk_if_eq (tgt := 187) (pc' := 183) hE dX11_two_180 (by decide) rfl (fun hc23 => ?_) (fun hc23 => ?_)
        · skip
          refine dk_iconst (pc' := 188) hE dX11_two_187 (by decide) rfl ?_
          exact dk_iret (st := []) hE hR dX11_two_188 ⟨_, rfl, (fun k_ j_ h_ => rfl), trivial⟩
        · skip
          refine dk_iconst (pc' := 184) hE dX11_two_183 (by decide) rfl ?_
          refine dk_goto (tgt := 188) hE dX11_two_184 (by decide) ?_
          exact dk_iret (st := []) hE hR dX11_two_188 ⟨_, rfl, (fun k_ j_ h_ => rfl), trivial⟩
    · cases q4
      refine dk_iload_n (pc' := 176) hE dX11_two_175 rfl rfl rfl ?_
      refine dk_if_ne (tgt := 183) (pc' := 179) hE dX11_two_176 (by decide) rfl (fun hc24 => ?_) (fun hc24 => ?_)
      · skip
        refine dk_iconst (pc' := 184) hE dX11_two_183 (by decide) rfl ?_
        refine dk_goto (tgt := 188) hE dX11_two_184 (by decide) ?_
        exact dk_iret (st := []) hE hR dX11_two_188 ⟨_, rfl, (fun k_ j_ h_ => rfl), trivial⟩
      · skip
        refine dk_iload_n (pc' := 180) hE dX11_two_179 rfl rfl rfl ?_
        refine dk_if_eq (tgt := 187) (pc' := 183) hE dX11_two_180 (by decide) rfl (fun hc25 => ?_) (fun hc25 => ?_)
        · skip
          refine dk_iconst (pc' := 188) hE dX11_two_187 (by decide) rfl ?_
          exact dk_iret (st := []) hE hR dX11_two_188 ⟨_, rfl, (fun k_ j_ h_ => rfl), trivial⟩
        · skip
          refine dk_iconst (pc' := 184) hE dX11_two_183 (by decide) rfl ?_
          refine dk_goto (tgt := 188) hE dX11_two_184 (by decide) ?_
          exact dk_iret (st := []) hE hR dX11_two_188 ⟨_, rfl, (fun k_ j_ h_ => rfl), trivial⟩
    · cases q4
      refine dk_iload_n (pc' := 176) hE dX11_two_175 rfl rfl rfl ?_
      refine dk_if_ne (tgt := 183) (pc' := 179) hE dX11_two_176 (by decide) rfl (fun hc26 => ?_) (fun hc26 => ?_)
      · skip
        refine dk_iconst (pc' := 184) hE dX11_two_183 (by decide) rfl ?_
        refine dk_goto (tgt := 188) hE dX11_two_184 (by decide) ?_
        exact dk_iret (st := []) hE hR dX11_two_188 ⟨_, rfl, (fun k_ j_ h_ => rfl), trivial⟩
      · skip
        refine dk_iload_n (pc' := 180) hE dX11_two_179 rfl rfl rfl ?_
        refine dk_if_eq (tgt := 187) (pc' := 183) hE dX11_two_180 (by decide) rfl (fun hc27 => ?_) (fun hc27 => ?_)
        · skip
          refine dk_iconst (pc' := 188) hE dX11_two_187 (by decide) rfl ?_
          exact dk_iret (st := []) hE hR dX11_two_188 ⟨_, rfl, (fun k_ j_ h_ => rfl), trivial⟩
        · skip
          refine dk_iconst (pc' := 184) hE dX11_two_183 (by decide) rfl ?_
          refine dk_goto (tgt := 188) hE dX11_two_184 (by decide) ?_
          exact dk_iret (st := []) hE hR dX11_two_188 ⟨_, rfl, (fun k_ j_ h_ => rfl), trivial⟩
    · cases q4
      refine dk_iload_n (pc' := 176) hE dX11_two_175 rfl rfl rfl ?_
      refine dk_if_ne (tgt := 183) (pc' := 179) hE dX11_two_176 (by decide) rfl (fun hc28 => ?_) (fun hc28 => ?_)
      · skip
        refine dk_iconst (pc' := 184) hE dX11_two_183 (by decide) rfl ?_
        refine dk_goto (tgt := 188) hE dX11_two_184 (by decide) ?_
        exact dk_iret (st := []) hE hR dX11_two_188 ⟨_, rfl, (fun k_ j_ h_ => rfl), trivial⟩
      · skip
        refine dk_iload_n (pc' := 180) hE dX11_two_179 rfl rfl rfl ?_
        refine dk_if_eq (tgt := 187) (pc' := 183) hE dX11_two_180 (by decide) rfl (fun hc29 => ?_) (fun hc29 => ?_)
        · skip
          refine dk_iconst (pc' := 188) hE dX11_two_187 (by decide) rfl ?_
          exact dk_iret (st := []) hE hR dX11_two_188 ⟨_, rfl, (fun k_ j_ h_ => rfl), trivial⟩
        · skip
          refine dk_iconst (pc' := 184) hE dX11_two_183 (by decide) rfl ?_
          refine dk_goto (tgt := 188) hE dX11_two_184 (by decide) ?_
          exact dk_iret (st := []) hE hR dX11_two_188 ⟨_, rfl, (fun k_ j_ h_ => rfl), trivial⟩
    · cases q4
      refine dk_iload_n (pc' := 176) hE dX11_two_175 rfl rfl rfl ?_
      refine dk_if_ne (tgt := 183) (pc' := 179) hE dX11_two_176 (by decide) rfl (fun hc30 => ?_) (fun hc30 => ?_)
      · skip
        refine dk_iconst (pc' := 184) hE dX11_two_183 (by decide) rfl ?_
        refine dk_goto (tgt := 188) hE dX11_two_184 (by decide) ?_
        exact dk_iret (st := []) hE hR dX11_two_188 ⟨_, rfl, (fun k_ j_ h_ => rfl), trivial⟩
      · skip
        refine dk_iload_n (pc' := 180) hE dX11_two_179 rfl rfl rfl ?_
        refine dk_if_eq (tgt := 187) (pc' := 183) hE dX11_two_180 (by decide) rfl (fun hc31 => ?_) (fun hc31 => ?_)
        · skip
          refine dk_iconst (pc' := 188) hE dX11_two_187 (by decide) rfl ?_
          exact dk_iret (st := []) hE hR dX11_two_188 ⟨_, rfl, (fun k_ j_ h_ => rfl), trivial⟩
        · skip
          refine dk_iconst (pc' := 184) hE dX11_two_183 (by decide) rfl ?_
          refine dk_goto (tgt := 188) hE dX11_two_184 (by decide) ?_
          exact dk_iret (st := []) hE hR dX11_two_188 ⟨_, rfl, (fun k_ j_ h_ => rfl), trivial⟩
    · cases q4
      refine dk_iload_n (pc' := 176) hE dX11_two_175 rfl rfl rfl ?_
      refine dk_if_ne (tgt := 183) (pc' := 179) hE dX11_two_176 (by decide) rfl (fun hc32 => ?_) (fun hc32 => ?_)
      · skip
        refine dk_iconst (pc' := 184) hE dX11_two_183 (by decide) rfl ?_
        refine dk_goto (tgt := 188) hE dX11_two_184 (by decide) ?_
        exact dk_iret (st := []) hE hR dX11_two_188 ⟨_, rfl, (fun k_ j_ h_ => rfl), trivial⟩
      · skip
        refine dk_iload_n (pc' := 180) hE dX11_two_179 rfl rfl rfl ?_
        refine dk_if_eq (tgt := 187) (pc' := 183) hE dX11_two_180 (by decide) rfl (fun hc33 => ?_) (fun hc33 => ?_)
        · skip
          refine dk_iconst (pc' := 188) hE dX11_two_187 (by decide) rfl ?_
          exact dk_iret (st := []) hE hR dX11_two_188 ⟨_, rfl, (fun k_ j_ h_ => rfl), trivial⟩
        · skip
          refine dk_iconst (pc' := 184) hE dX11_two_183 (by decide) rfl ?_
          refine dk_goto (tgt := 188) hE dX11_two_184 (by decide) ?_
          exact dk_iret (st := []) hE hR dX11_two_188 ⟨_, rfl, (fun k_ j_ h_ => rfl), trivial⟩
    · cases q4
      refine dk_iload_n (pc' := 176) hE dX11_two_175 rfl rfl rfl ?_
      refine dk_if_ne (tgt := 183) (pc' := 179) hE dX11_two_176 (by decide) rfl (fun hc34 => ?_) (fun hc34 => ?_)
      · skip
        refine dk_iconst (pc' := 184) hE dX11_two_183 (by decide) rfl ?_
        refine dk_goto (tgt := 188) hE dX11_two_184 (by decide) ?_
        exact dk_iret (st := []) hE hR dX11_two_188 ⟨_, rfl, (fun k_ j_ h_ => rfl), trivial⟩
      · skip
        refine dk_iload_n (pc' := 180) hE dX11_two_179 rfl rfl rfl ?_
        refine dk_if_eq (tgt := 187) (pc' := 183) hE dX11_two_180 (by decide) rfl (fun hc35 => ?_) (fun hc35 => ?_)
        · skip
          refine dk_iconst (pc' := 188) hE dX11_two_187 (by decide) rfl ?_
          exact dk_iret (st := []) hE hR dX11_two_188 ⟨_, rfl, (fun k_ j_ h_ => rfl), trivial⟩
        · skip
          refine dk_iconst (pc' := 184) hE dX11_two_183 (by decide) rfl ?_
          refine dk_goto (tgt := 188) hE dX11_two_184 (by decide) ?_
          exact dk_iret (st := []) hE hR dX11_two_188 ⟨_, rfl, (fun k_ j_ h_ => rfl), trivial⟩
    · cases q4
      refine dk_iload_n (pc' := 176) hE dX11_two_175 rfl rfl rfl ?_
      refine dk_if_ne (tgt := 183) (pc' := 179) hE dX11_two_176 (by decide) rfl (fun hc36 => ?_) (fun hc36 => ?_)
      · skip
        refine dk_iconst (pc' := 184) hE dX11_two_183 (by decide) rfl ?_
        refine dk_goto (tgt := 188) hE dX11_two_184 (by decide) ?_
        exact dk_iret (st := []) hE hR dX11_two_188 ⟨_, rfl, (fun k_ j_ h_ => rfl), trivial⟩
      · skip
        refine dk_iload_n (pc' := 180) hE dX11_two_179 rfl rfl rfl ?_
        refine dk_if_eq (tgt := 187) (pc' := 183) hE dX11_two_180 (by decide) rfl (fun hc37 => ?_) (fun hc37 => ?_)
        · skip
          refine dk_iconst (pc' := 188) hE dX11_two_187 (by decide) rfl ?_
          exact dk_iret (st := []) hE hR dX11_two_188 ⟨_, rfl, (fun k_ j_ h_ => rfl), trivial⟩
        · skip
          refine dk_iconst (pc' := 184) hE dX11_two_183 (by decide) rfl ?_
          refine dk_goto (tgt := 188) hE dX11_two_184 (by decide) ?_
          exact dk_iret (st := []) hE hR dX11_two_188 ⟨_, rfl, (fun k_ j_ h_ => rfl), trivial⟩
    · cases q4
      refine dk_iload_n (pc' := 176) hE dX11_two_175 rfl rfl rfl ?_
      refine dk_if_ne (tgt := 183) (pc' := 179) hE dX11_two_176 (by decide) rfl (fun hc38 => ?_) (fun hc38 => ?_)
      · skip
        refine dk_iconst (pc' := 184) hE dX11_two_183 (by decide) rfl ?_
        refine dk_goto (tgt := 188) hE dX11_two_184 (by decide) ?_
        exact dk_iret (st := []) hE hR dX11_two_188 ⟨_, rfl, (fun k_ j_ h_ => rfl), trivial⟩
      · skip
        refine dk_iload_n (pc' := 180) hE dX11_two_179 rfl rfl rfl ?_
        refine dk_if_eq (tgt := 187) (pc' := 183) hE dX11_two_180 (by decide) rfl (fun hc39 => ?_) (fun hc39 => ?_)
        · skip
          refine dk_iconst (pc' := 188) hE dX11_two_187 (by decide) rfl ?_
          exact dk_iret (st := []) hE hR dX11_two_188 ⟨_, rfl, (fun k_ j_ h_ => rfl), trivial⟩
        · skip
          refine dk_iconst (pc' := 184) hE dX11_two_183 (by decide) rfl ?_
          refine dk_goto (tgt := 188) hE dX11_two_184 (by decide) ?_
          exact dk_iret (st := []) hE hR dX11_two_188 ⟨_, rfl, (fun k_ j_ h_ => rfl), trivial⟩
    · cases q4
      refine dk_iload_n (pc' := 176) hE dX11_two_175 rfl rfl rfl ?_
      refine dk_if_ne (tgt := 183) (pc' := 179) hE dX11_two_176 (by decide) rfl (fun hc40 => ?_) (fun hc40 => ?_)
      · skip
        refine dk_iconst (pc' := 184) hE dX11_two_183 (by decide) rfl ?_
        refine dk_goto (tgt := 188) hE dX11_two_184 (by decide) ?_
        exact dk_iret (st := []) hE hR dX11_two_188 ⟨_, rfl, (fun k_ j_ h_ => rfl), trivial⟩
      · skip
        refine dk_iload_n (pc' := 180) hE dX11_two_179 rfl rfl rfl ?_
        refine dk_if_eq (tgt := 187) (pc' := 183) hE dX11_two_180 (by decide) rfl (fun hc41 => ?_) (fun hc41 => ?_)
        · skip
          refine dk_iconst (pc' := 188) hE dX11_two_187 (by decide) rfl ?_
          exact dk_iret (st := []) hE hR dX11_two_188 ⟨_, rfl, (fun k_ j_ h_ => rfl), trivial⟩
        · skip
          refine dk_iconst (pc' := 184) hE dX11_two_183 (by decide) rfl ?_
          refine dk_goto (tgt := 188) hE dX11_two_184 (by decide) ?_
          exact dk_iret (st := []) hE hR dX11_two_188 ⟨_, rfl, (fun k_ j_ h_ => rfl), trivial⟩
    · cases q4
      refine dk_iload_n (pc' := 176) hE dX11_two_175 rfl rfl rfl ?_
      refine dk_if_ne (tgt := 183) (pc' := 179) hE dX11_two_176 (by decide) rfl (fun hc42 => ?_) (fun hc42 => ?_)
      · skip
        refine dk_iconst (pc' := 184) hE dX11_two_183 (by decide) rfl ?_
        refine dk_goto (tgt := 188) hE dX11_two_184 (by decide) ?_
        exact dk_iret (st := []) hE hR dX11_two_188 ⟨_, rfl, (fun k_ j_ h_ => rfl), trivial⟩
      · skip
        refine dk_iload_n (pc' := 180) hE dX11_two_179 rfl rfl rfl ?_
        refine dk_if_eq (tgt := 187) (pc' := 183) hE dX11_two_180 (by decide) rfl (fun hc43 => ?_) (fun hc43 => ?_)
        · skip
          refine dk_iconst (pc' := 188) hE dX11_two_187 (by decide) rfl ?_
          exact dk_iret (st := []) hE hR dX11_two_188 ⟨_, rfl, (fun k_ j_ h_ => rfl), trivial⟩
        · skip
          refine dk_iconst (pc' := 184) hE dX11_two_183 (by decide) rfl ?_
          refine dk_goto (tgt := 188) hE dX11_two_184 (by decide) ?_
          exact dk_iret (st := []) hE hR dX11_two_188 ⟨_, rfl, (fun k_ j_ h_ => rfl), trivial⟩
    · cases q4
      refine dk_iload_n (pc' := 176) hE dX11_two_175 rfl rfl rfl ?_
      refine dk_if_ne (tgt := 183) (pc' := 179) hE dX11_two_176 (by decide) rfl (fun hc44 => ?_) (fun hc44 => ?_)
      · skip
        refine dk_iconst (pc' := 184) hE dX11_two_183 (by decide) rfl ?_
        refine dk_goto (tgt := 188) hE dX11_two_184 (by decide) ?_
        exact dk_iret (st := []) hE hR dX11_two_188 ⟨_, rfl, (fun k_ j_ h_ => rfl), trivial⟩
      · skip
        refine dk_iload_n (pc' := 180) hE dX11_two_179 rfl rfl rfl ?_
        refine dk_if_eq (tgt := 187) (pc' := 183) hE dX11_two_180 (by decide) rfl (fun hc45 => ?_) (fun hc45 => ?_)
        · skip
          refine dk_iconst (pc' := 188) hE dX11_two_187 (by decide) rfl ?_
          exact dk_iret (st := []) hE hR dX11_two_188 ⟨_, rfl, (fun k_ j_ h_ => rfl), trivial⟩
        · skip
          refine dk_iconst (pc' := 184) hE dX11_two_183 (by decide) rfl ?_
          refine dk_goto (tgt := 188) hE dX11_two_184 (by decide) ?_
          exact dk_iret (st := []) hE hR dX11_two_188 ⟨_, rfl, (fun k_ j_ h_ => rfl), trivial⟩
    · cases q4
      refine dk_iload_n (pc' := 176) hE dX11_two_175 rfl rfl rfl ?_
      refine dk_if_ne (tgt := 183) (pc' := 179) hE dX11_two_176 (by decide) rfl (fun hc46 => ?_) (fun hc46 => ?_)
      · skip
        refine dk_iconst (pc' := 184) hE dX11_two_183 (by decide) rfl ?_
        refine dk_goto (tgt := 188) hE dX11_two_184 (by decide) ?_
        exact dk_iret (st := []) hE hR dX11_two_188 ⟨_, rfl, (fun k_ j_ h_ => rfl), trivial⟩
      · skip
        refine dk_iload_n (pc' := 180) hE dX11_two_179 rfl rfl rfl ?_
        refine dk_if_eq (tgt := 187) (pc' := 183) hE dX11_two_180 (by decide) rfl (fun hc47 => ?_) (fun hc47 => ?_)
        · skip
          refine dk_iconst (pc' := 188) hE dX11_two_187 (by decide) rfl ?_
          exact dk_iret (st := []) hE hR dX11_two_188 ⟨_, rfl, (fun k_ j_ h_ => rfl), trivial⟩
        · skip
          refine dk_iconst (pc' := 184) hE dX11_two_183 (by decide) rfl ?_
          refine dk_goto (tgt := 188) hE dX11_two_184 (by decide) ?_
          exact dk_iret (st := []) hE hR dX11_two_188 ⟨_, rfl, (fun k_ j_ h_ => rfl), trivial⟩
    · cases q4
      refine dk_iload_n (pc' := 129) hE dX11_two_128 rfl rfl rfl ?_
      refine dk_iload_n (pc' := 130) hE dX11_two_129 rfl rfl rfl ?_
      refine dk_icmp_ge (tgt := 137) (pc' := 133) hE dX11_two_130 (by decide) rfl (fun hc48 => ?_) (fun hc48 => ?_)
      · skip
        refine dk_iconst (pc' := 138) hE dX11_two_137 (by decide) rfl ?_
        exact dk_iret (st := []) hE hR dX11_two_138 ⟨_, rfl, (fun k_ j_ h_ => rfl), trivial⟩
      · skip
        refine dk_iconst (pc' := 134) hE dX11_two_133 (by decide) rfl ?_
        refine dk_goto (tgt := 138) hE dX11_two_134 (by decide) ?_
        exact dk_iret (st := []) hE hR dX11_two_138 ⟨_, rfl, (fun k_ j_ h_ => rfl), trivial⟩
    · cases q4
      refine dk_iload_n (pc' := 151) hE dX11_two_150 rfl rfl rfl ?_
      refine dk_iload_n (pc' := 152) hE dX11_two_151 rfl rfl rfl ?_
      refine dk_icmp_ne (tgt := 159) (pc' := 155) hE dX11_two_152 (by decide) rfl (fun hc49 => ?_) (fun hc49 => ?_)
      · skip
        refine dk_iconst (pc' := 160) hE dX11_two_159 (by decide) rfl ?_
        exact dk_iret (st := []) hE hR dX11_two_160 ⟨_, rfl, (fun k_ j_ h_ => rfl), trivial⟩
      · skip
        refine dk_iconst (pc' := 156) hE dX11_two_155 (by decide) rfl ?_
        refine dk_goto (tgt := 160) hE dX11_two_156 (by decide) ?_
        exact dk_iret (st := []) hE hR dX11_two_160 ⟨_, rfl, (fun k_ j_ h_ => rfl), trivial⟩
    · cases q4
      refine dk_iload_n (pc' := 140) hE dX11_two_139 rfl rfl rfl ?_
      refine dk_iload_n (pc' := 141) hE dX11_two_140 rfl rfl rfl ?_
      refine dk_icmp_le (tgt := 148) (pc' := 144) hE dX11_two_141 (by decide) rfl (fun hc50 => ?_) (fun hc50 => ?_)
      · skip
        refine dk_iconst (pc' := 149) hE dX11_two_148 (by decide) rfl ?_
        exact dk_iret (st := []) hE hR dX11_two_149 ⟨_, rfl, (fun k_ j_ h_ => rfl), trivial⟩
      · skip
        refine dk_iconst (pc' := 145) hE dX11_two_144 (by decide) rfl ?_
        refine dk_goto (tgt := 149) hE dX11_two_145 (by decide) ?_
        exact dk_iret (st := []) hE hR dX11_two_149 ⟨_, rfl, (fun k_ j_ h_ => rfl), trivial⟩
set_option maxHeartbeats 4000000 in
set_option maxRecDepth 20000 in
theorem ct_X11_work (l : Launch) (G : dkG) (hGd : dk_Gd G) (a b : Int) : dk_Ct l G dk_Ty yX11_work cX11_work 7 (some .int) 5 190 190 (fun av σ => av = [(4, 141), (0, a), (0, b)] ∧ (MI σ) ∧ (0 ≤ a ∧ a ≤ 2)) (fun _ σ r_ σ' => ∃ z : Int, r_ = some (0, z) ∧ (∀ k_ j_ : Int, ¬ (k_ = 168) → σ' k_ j_ = σ k_ j_) ∧ (True)) := by
  refine dk_enter hGd (by decide) (fun av σ hpre hok => ?_)
  obtain ⟨rfl, hG, ha⟩ := hpre
  refine ⟨Nat.le_of_ble_eq_true rfl, fun E hE hR _ => ?_⟩
  have hi_a : dk_i32 a := dk_oki (hok _ (by simp))
  have hi_b : dk_i32 b := dk_oki (hok _ (by simp))
  show dk_PJ E 0 [(4, 141), (0, a), (0, b), (9, 0), (9, 0), (9, 0), (9, 0)] [] 190 σ
  refine dk_aload_n (pc' := 1) hE dX11_work_0 rfl rfl rfl ?_
  refine dk_aload_n (pc' := 2) hE dX11_work_1 rfl rfl rfl ?_
  refine gf_11_61 (pc' := 5) hE fl_X11_440 dX11_work_2 is_141 rfl (fun v1 hv1 htv1 hbv1 => ?_)
  refine dk_cV (pc' := 8) (as := [(0, v1)]) hE lk_X11_459 (ct_X11_inForce l G hGd v1) dX11_work_5 rfl is_141 rfl (by decide) (Nat.le_of_ble_eq_true rfl) rfl rfl (fun r3 σ2 hr3 hor3 => ?_)
  obtain ⟨v4, rfl, hfσ2, hpr3⟩ := hr3
  have hsσ2 : σ = σ2 := (funext (fun k => funext (fun j => hfσ2 k j not_false))).symm
  subst hsσ2
  refine dk_istore_n (pc' := 9) (ls' := [(4, 141), (0, a), (0, b), (0, v4), (9, 0), (9, 0), (9, 0)]) hE dX11_work_8 rfl rfl (by decide) rfl ?_
  refine dk_iload_n (pc' := 10) hE dX11_work_9 rfl rfl rfl ?_
  refine dk_if_lt (tgt := 26) (pc' := 13) hE dX11_work_10 (by decide) rfl (fun hc5 => ?_) (fun hc5 => ?_)
  · skip
    refine dk_iload_n (pc' := 27) hE dX11_work_26 rfl rfl rfl ?_
    exact dk_iret (st := []) hE hR dX11_work_27 ⟨_, rfl, (fun k_ j_ h_ => rfl), trivial⟩
  · skip
    refine dk_aload_n (pc' := 14) hE dX11_work_13 rfl rfl rfl ?_
    refine gf_11_40 (pc' := 17) (w := 169) hE fl_X11_98 dX11_work_14 is_141 rfl rfl ?_
    refine dk_iconst (pc' := 18) hE dX11_work_17 (by decide) rfl ?_
    refine dk_iload_n (pc' := 19) hE dX11_work_18 rfl rfl rfl ?_
    obtain ⟨v6, hv6⟩ : ∃ z : Int, z = 3 * v4 := ⟨_, rfl⟩
    refine dk_imul (pc' := 20) hE dX11_work_19 hv6.symm (by omega) rfl ?_
    refine dk_iload_n (pc' := 21) hE dX11_work_20 rfl rfl rfl ?_
    obtain ⟨v7, hv7⟩ : ∃ z : Int, z = v6 + a := ⟨_, rfl⟩
    refine dk_iadd (pc' := 22) hE dX11_work_21 hv7.symm (by omega) rfl ?_
    refine ga_97 (pc' := 23) hE dX11_work_22 is_169 (by omega) rfl (fun v8 hv8 htv8 hbv8 => ?_)
    refine dk_if_ne (tgt := 28) (pc' := 26) hE dX11_work_23 (by decide) rfl (fun hc9 => ?_) (fun hc9 => ?_)
    · skip
      refine dk_iconst (pc' := 29) hE dX11_work_28 (by decide) rfl ?_
      refine dk_istore (pc' := 31) (ls' := [(4, 141), (0, a), (0, b), (0, v4), (0, 0), (9, 0), (9, 0)]) hE dX11_work_29 rfl (by decide) rfl ?_
      refine dk_sipush (pc' := 34) hE dX11_work_31 (by decide) rfl ?_
      refine dk_iload_n (pc' := 35) hE dX11_work_34 rfl rfl rfl ?_
      obtain ⟨v10, hv10⟩ : ∃ z : Int, z = 600 * v4 := ⟨_, rfl⟩
      refine dk_imul (pc' := 36) hE dX11_work_35 hv10.symm (by omega) rfl ?_
      refine dk_aload_n (pc' := 37) hE dX11_work_36 rfl rfl rfl ?_
      refine gf_11_33 (pc' := 40) (w := 162) hE fl_X11_77 dX11_work_37 is_141 rfl rfl ?_
      refine dk_iconst (pc' := 41) hE dX11_work_40 (by decide) rfl ?_
      refine dk_iload_n (pc' := 42) hE dX11_work_41 rfl rfl rfl ?_
      obtain ⟨v11, hv11⟩ : ∃ z : Int, z = 3 * v4 := ⟨_, rfl⟩
      refine dk_imul (pc' := 43) hE dX11_work_42 hv11.symm (by omega) rfl ?_
      refine dk_iload_n (pc' := 44) hE dX11_work_43 rfl rfl rfl ?_
      obtain ⟨v12, hv12⟩ : ∃ z : Int, z = v11 + a := ⟨_, rfl⟩
      refine dk_iadd (pc' := 45) hE dX11_work_44 hv12.symm (by omega) rfl ?_
      have hrnv12 : v7 = v12 := by omega
      subst hrnv12
      refine ga_90 (pc' := 46) hE dX11_work_45 is_162 (by omega) rfl (fun v13 hv13 htv13 hbv13 => ?_)
      have hC := hG.2.2 v4 a (by omega) (by omega) (by omega) (by omega) (by rw [show 3 * v4 + a = v7 by omega]; omega)
      rw [show 3 * v4 + a = v7 by omega, ← hv13] at hC
      obtain ⟨u, hu⟩ : ∃ u : Int, u = σ 163 v7 := ⟨_, rfl⟩
      rw [← hu] at hC
      obtain ⟨B, hBB⟩ : ∃ B : Int, B = 600 * v4 + v13 := ⟨_, rfl⟩
      rw [← hBB] at hC
      have hC1 := hC.1
      have hC2 := hC.2.1
      have gi14 : MI σ := hG
      obtain ⟨v15, hv15⟩ : ∃ z : Int, z = v10 + v13 := ⟨_, rfl⟩
      refine dk_iadd (pc' := 47) hE dX11_work_46 hv15.symm (by omega) rfl ?_
      have hrnv15 : B = v15 := by omega
      subst hrnv15
      refine dk_istore (pc' := 49) (ls' := [(4, 141), (0, a), (0, b), (0, v4), (0, 0), (0, B), (9, 0)]) hE dX11_work_47 rfl (by decide) rfl ?_
      have lp49 : ∀ (N_ : Nat) (n k : Int) (σ49c : dkS), (2147483648 - k).toNat < N_ → ((∀ k_ j_ : Int, ¬ (k_ = 168) → σ49c k_ j_ = σ k_ j_)) → (n = hp σ B (k - B).toNat) → (B ≤ k ∧ (k = B ∨ k ≤ B + (u - v13))) → dk_PJ E 49 [(4, 141), (0, a), (0, b), (0, v4), (0, n), (0, k), (9, 0)] [] 190 σ49c := by
        intro N49
        induction N49 with
        | zero => intro n k σ49c hm; exact absurd hm (Nat.not_lt_zero _)
        | succ N49 ih49 =>
          intro n k σ49c hm49 hF49 hn hkb
          refine dk_iload (pc' := 51) hE dX11_work_49 rfl rfl ?_
          refine dk_sipush (pc' := 54) hE dX11_work_51 (by decide) rfl ?_
          refine dk_iload_n (pc' := 55) hE dX11_work_54 rfl rfl rfl ?_
          obtain ⟨v16, hv16⟩ : ∃ z : Int, z = 600 * v4 := ⟨_, rfl⟩
          refine dk_imul (pc' := 56) hE dX11_work_55 hv16.symm (by omega) rfl ?_
          refine dk_aload_n (pc' := 57) hE dX11_work_56 rfl rfl rfl ?_
          refine gf_11_34 (pc' := 60) (w := 163) hE fl_X11_80 dX11_work_57 is_141 rfl rfl ?_
          refine dk_iconst (pc' := 61) hE dX11_work_60 (by decide) rfl ?_
          refine dk_iload_n (pc' := 62) hE dX11_work_61 rfl rfl rfl ?_
          obtain ⟨v17, hv17⟩ : ∃ z : Int, z = 3 * v4 := ⟨_, rfl⟩
          refine dk_imul (pc' := 63) hE dX11_work_62 hv17.symm (by omega) rfl ?_
          refine dk_iload_n (pc' := 64) hE dX11_work_63 rfl rfl rfl ?_
          obtain ⟨v18, hv18⟩ : ∃ z : Int, z = v17 + a := ⟨_, rfl⟩
          refine dk_iadd (pc' := 65) hE dX11_work_64 hv18.symm (by omega) rfl ?_
          have hrnv18 : v7 = v18 := by omega
          subst hrnv18
          refine ga_91 (pc' := 66) hE dX11_work_65 is_163 (by omega) rfl (fun v19 hv19 htv19 hbv19 => ?_)
          have hv65 : v19 = u := by rw [hv19, hF49 163 v7 (by omega)]; exact hu.symm
          obtain ⟨v20, hv20⟩ : ∃ z : Int, z = v16 + v19 := ⟨_, rfl⟩
          refine dk_iadd (pc' := 67) hE dX11_work_66 hv20.symm (by omega) rfl ?_
          refine dk_icmp_ge (tgt := 188) (pc' := 70) hE dX11_work_67 (by decide) rfl (fun hc21 => ?_) (fun hc21 => ?_)
          · skip
            refine dk_aload_n (pc' := 189) hE dX11_work_188 rfl rfl rfl ?_
            refine gf_11_39 (pc' := 192) (w := 168) hE fl_X11_95 dX11_work_189 is_141 rfl rfl ?_
            refine dk_iconst (pc' := 193) hE dX11_work_192 (by decide) rfl ?_
            refine ga_96 (pc' := 194) hE dX11_work_193 is_168 (by omega) rfl (fun v22 hv22 htv22 hbv22 => ?_)
            exact dk_iret (st := []) hE hR dX11_work_194 ⟨_, rfl, (fun k_ j_ h_ => by rw [hF49 k_ j_ (fun w_ => h_ (w_))]), trivial⟩
          · skip
            refine dk_aload_n (pc' := 71) hE dX11_work_70 rfl rfl rfl ?_
            refine gf_11_35 (pc' := 74) (w := 164) hE fl_X11_83 dX11_work_71 is_141 rfl rfl ?_
            refine dk_iload (pc' := 76) hE dX11_work_74 rfl rfl ?_
            refine ga_92 (pc' := 77) hE dX11_work_76 is_164 (by omega) rfl (fun v23 hv23 htv23 hbv23 => ?_)
            have hc76 : σ 164 (B + (k - B)) = v23 := by rw [show B + (k - B) = k by omega, hv23, hF49 164 k (by omega)]
            have hs76 := hp_s (σ := σ) (b := B) (n := k - B) (by omega)
            rw [hc76, ← hn] at hs76
            have hd76 := hC.2.2 (k - B + 1).toNat (by omega) (by omega)
            have hr76 := hp_c hs76
            clear hs76
            refine dk_istore (pc' := 79) (ls' := [(4, 141), (0, a), (0, b), (0, v4), (0, n), (0, k), (0, v23)]) hE dX11_work_77 rfl (by decide) rfl ?_
            refine dk_iload (pc' := 81) hE dX11_work_79 rfl rfl ?_
            refine dk_bipush (pc' := 83) hE dX11_work_81 (by decide) rfl ?_
            refine dk_icmp_ne (tgt := 115) (pc' := 86) hE dX11_work_83 (by decide) rfl (fun hc24 => ?_) (fun hc24 => ?_)
            · skip
              refine dk_iload (pc' := 117) hE dX11_work_115 rfl rfl ?_
              refine dk_cS (pc' := 120) (as := [(0, v23)]) hE lk_X11_225 (ct_X11_isLetter l G hGd v23) dX11_work_117 rfl rfl (by decide) (Nat.le_of_ble_eq_true rfl) rfl rfl (fun r26 σ25 hr26 hor26 => ?_)
              obtain ⟨v27, rfl, hfσ25, hpr26⟩ := hr26
              have hsσ25 : σ49c = σ25 := (funext (fun k => funext (fun j => hfσ25 k j not_false))).symm
              subst hsσ25
              rcases hpr26 with ⟨rfl, hpr26⟩ | ⟨rfl, hpr26⟩
              · skip
                refine dk_if_eq (tgt := 149) (pc' := 123) hE dX11_work_120 (by decide) rfl (fun hc28 => absurd hc28 (by decide)) (fun hc28 => ?_)
                refine dk_aload_n (pc' := 124) hE dX11_work_123 rfl rfl rfl ?_
                refine gf_11_39 (pc' := 127) (w := 168) hE fl_X11_95 dX11_work_124 is_141 rfl rfl ?_
                refine dk_iload (pc' := 129) hE dX11_work_127 rfl rfl ?_
                refine dk_aload_n (pc' := 130) hE dX11_work_129 rfl rfl rfl ?_
                refine dk_iload (pc' := 132) hE dX11_work_130 rfl rfl ?_
                refine dk_aload_n (pc' := 133) hE dX11_work_132 rfl rfl rfl ?_
                refine gf_11_36 (pc' := 136) (w := 165) hE fl_X11_86 dX11_work_133 is_141 rfl rfl ?_
                refine dk_iload (pc' := 138) hE dX11_work_136 rfl rfl ?_
                refine ga_93 (pc' := 139) hE dX11_work_138 is_165 (by omega) rfl (fun v29 hv29 htv29 hbv29 => ?_)
                refine dk_cV (pc' := 142) (as := [(0, v23), (0, v29)]) hE lk_X11_462 (ct_X11_term l G hGd v23 v29) dX11_work_139 rfl is_141 rfl (by decide) (Nat.le_of_ble_eq_true rfl) rfl rfl (fun r31 σ30 hr31 hor31 => ?_)
                obtain ⟨v32, rfl, hfσ30, hpr31⟩ := hr31
                have hkv32 := dk_oki (hor31 _ rfl)
                have hsσ30 : σ49c = σ30 := (funext (fun k => funext (fun j => hfσ30 k j not_false))).symm
                subst hsσ30
                refine pa_96 (pc' := 143) hE dX11_work_142 is_168 (by omega) trivial rfl (fun σ33 eσ33 => ?_)
                obtain ⟨v34, hv34⟩ : ∃ z : Int, z = n + 1 := ⟨_, rfl⟩
                refine dk_iinc (pc' := 146) (ls' := [(4, 141), (0, a), (0, b), (0, v4), (0, v34), (0, k), (0, v23)]) hE dX11_work_143 rfl hv34.symm (by omega) rfl (by decide) rfl ?_
                refine dk_goto (tgt := 182) hE dX11_work_146 (by decide) ?_
                obtain ⟨v35, hv35⟩ : ∃ z : Int, z = k + 1 := ⟨_, rfl⟩
                refine dk_iinc (pc' := 185) (ls' := [(4, 141), (0, a), (0, b), (0, v4), (0, v34), (0, v35), (0, v23)]) hE dX11_work_182 rfl hv35.symm (by omega) rfl (by decide) rfl ?_
                refine dk_goto (tgt := 49) hE dX11_work_185 (by decide) ?_
                refine dk_drop (ls' := [(4, 141), (0, a), (0, b), (0, v4), (0, v34), (0, v35), (9, 0)]) [true, true, true, true, true, true, false] rfl ?_
                exact ih49 v34 v35 σ33 (by omega) (fun k_ j_ h_ => by rw [eσ33, dk_up_n (show ¬ (k_ = 168 ∧ j_ = n) from fun q_ => h_ (q_.1)), hF49 k_ j_ (fun w_ => h_ (w_))]) (by first | (rw [show (B - B).toNat = 0 by omega]; rfl) | (rw [show (v35 - B).toNat = (k - B + 1).toNat by omega]; omega)) (by omega)
              · skip
                refine dk_if_eq (tgt := 149) (pc' := 123) hE dX11_work_120 (by decide) rfl (fun hc36 => ?_) (fun hc36 => absurd hc36 (by decide))
                obtain ⟨v37, hv37⟩ : ∃ z : Int, z = n + (-1) := ⟨_, rfl⟩
                refine dk_iinc (pc' := 152) (ls' := [(4, 141), (0, a), (0, b), (0, v4), (0, v37), (0, k), (0, v23)]) hE dX11_work_149 rfl hv37.symm (by omega) rfl (by decide) rfl ?_
                refine dk_aload_n (pc' := 153) hE dX11_work_152 rfl rfl rfl ?_
                refine gf_11_39 (pc' := 156) (w := 168) hE fl_X11_95 dX11_work_153 is_141 rfl rfl ?_
                refine dk_iload (pc' := 158) hE dX11_work_156 rfl rfl ?_
                refine dk_iconst (pc' := 159) hE dX11_work_158 (by decide) rfl ?_
                obtain ⟨v38, hv38⟩ : ∃ z : Int, z = v37 - 1 := ⟨_, rfl⟩
                refine dk_isub (pc' := 160) hE dX11_work_159 hv38.symm (by omega) rfl ?_
                refine dk_iload (pc' := 162) hE dX11_work_160 rfl rfl ?_
                refine dk_aload_n (pc' := 163) hE dX11_work_162 rfl rfl rfl ?_
                refine gf_11_39 (pc' := 166) (w := 168) hE fl_X11_95 dX11_work_163 is_141 rfl rfl ?_
                refine dk_iload (pc' := 168) hE dX11_work_166 rfl rfl ?_
                refine dk_iconst (pc' := 169) hE dX11_work_168 (by decide) rfl ?_
                obtain ⟨v39, hv39⟩ : ∃ z : Int, z = v37 - 1 := ⟨_, rfl⟩
                refine dk_isub (pc' := 170) hE dX11_work_169 hv39.symm (by omega) rfl ?_
                refine ga_96 (pc' := 171) hE dX11_work_170 is_168 (by omega) rfl (fun v40 hv40 htv40 hbv40 => ?_)
                refine dk_aload_n (pc' := 172) hE dX11_work_171 rfl rfl rfl ?_
                refine gf_11_39 (pc' := 175) (w := 168) hE fl_X11_95 dX11_work_172 is_141 rfl rfl ?_
                refine dk_iload (pc' := 177) hE dX11_work_175 rfl rfl ?_
                refine ga_96 (pc' := 178) hE dX11_work_177 is_168 (by omega) rfl (fun v41 hv41 htv41 hbv41 => ?_)
                refine dk_cS (pc' := 181) (as := [(0, v23), (0, v40), (0, v41)]) hE lk_X11_465 (ct_X11_two l G hGd v23 v40 v41) dX11_work_178 rfl rfl (by decide) (Nat.le_of_ble_eq_true rfl) rfl rfl (fun r43 σ42 hr43 hor43 => ?_)
                obtain ⟨v44, rfl, hfσ42, hpr43⟩ := hr43
                have hkv44 := dk_oki (hor43 _ rfl)
                have hsσ42 : σ49c = σ42 := (funext (fun k => funext (fun j => hfσ42 k j not_false))).symm
                subst hsσ42
                refine pa_96 (pc' := 182) hE dX11_work_181 is_168 (by omega) trivial rfl (fun σ45 eσ45 => ?_)
                obtain ⟨v46, hv46⟩ : ∃ z : Int, z = k + 1 := ⟨_, rfl⟩
                refine dk_iinc (pc' := 185) (ls' := [(4, 141), (0, a), (0, b), (0, v4), (0, v37), (0, v46), (0, v23)]) hE dX11_work_182 rfl hv46.symm (by omega) rfl (by decide) rfl ?_
                refine dk_goto (tgt := 49) hE dX11_work_185 (by decide) ?_
                refine dk_drop (ls' := [(4, 141), (0, a), (0, b), (0, v4), (0, v37), (0, v46), (9, 0)]) [true, true, true, true, true, true, false] rfl ?_
                exact ih49 v37 v46 σ45 (by omega) (fun k_ j_ h_ => by rw [eσ45, dk_up_n (show ¬ (k_ = 168 ∧ j_ = v38) from fun q_ => h_ (q_.1)), hF49 k_ j_ (fun w_ => h_ (w_))]) (by first | (rw [show (B - B).toNat = 0 by omega]; rfl) | (rw [show (v46 - B).toNat = (k - B + 1).toNat by omega]; omega)) (by omega)
            · skip
              refine dk_aload_n (pc' := 87) hE dX11_work_86 rfl rfl rfl ?_
              refine gf_11_39 (pc' := 90) (w := 168) hE fl_X11_95 dX11_work_87 is_141 rfl rfl ?_
              refine dk_iload (pc' := 92) hE dX11_work_90 rfl rfl ?_
              refine dk_iconst (pc' := 93) hE dX11_work_92 (by decide) rfl ?_
              obtain ⟨v47, hv47⟩ : ∃ z : Int, z = n - 1 := ⟨_, rfl⟩
              refine dk_isub (pc' := 94) hE dX11_work_93 hv47.symm (by omega) rfl ?_
              refine dk_aload_n (pc' := 95) hE dX11_work_94 rfl rfl rfl ?_
              refine gf_11_39 (pc' := 98) (w := 168) hE fl_X11_95 dX11_work_95 is_141 rfl rfl ?_
              refine dk_iload (pc' := 100) hE dX11_work_98 rfl rfl ?_
              refine dk_iconst (pc' := 101) hE dX11_work_100 (by decide) rfl ?_
              obtain ⟨v48, hv48⟩ : ∃ z : Int, z = n - 1 := ⟨_, rfl⟩
              refine dk_isub (pc' := 102) hE dX11_work_101 hv48.symm (by omega) rfl ?_
              refine ga_96 (pc' := 103) hE dX11_work_102 is_168 (by omega) rfl (fun v49 hv49 htv49 hbv49 => ?_)
              refine dk_if_ne (tgt := 110) (pc' := 106) hE dX11_work_103 (by decide) rfl (fun hc50 => ?_) (fun hc50 => ?_)
              · skip
                refine dk_iconst (pc' := 111) hE dX11_work_110 (by decide) rfl ?_
                refine pa_96 (pc' := 112) hE dX11_work_111 is_168 (by omega) trivial rfl (fun σ51 eσ51 => ?_)
                refine dk_goto (tgt := 182) hE dX11_work_112 (by decide) ?_
                obtain ⟨v52, hv52⟩ : ∃ z : Int, z = k + 1 := ⟨_, rfl⟩
                refine dk_iinc (pc' := 185) (ls' := [(4, 141), (0, a), (0, b), (0, v4), (0, n), (0, v52), (0, v23)]) hE dX11_work_182 rfl hv52.symm (by omega) rfl (by decide) rfl ?_
                refine dk_goto (tgt := 49) hE dX11_work_185 (by decide) ?_
                refine dk_drop (ls' := [(4, 141), (0, a), (0, b), (0, v4), (0, n), (0, v52), (9, 0)]) [true, true, true, true, true, true, false] rfl ?_
                exact ih49 n v52 σ51 (by omega) (fun k_ j_ h_ => by rw [eσ51, dk_up_n (show ¬ (k_ = 168 ∧ j_ = v47) from fun q_ => h_ (q_.1)), hF49 k_ j_ (fun w_ => h_ (w_))]) (by first | (rw [show (B - B).toNat = 0 by omega]; rfl) | (rw [show (v52 - B).toNat = (k - B + 1).toNat by omega]; omega)) (by omega)
              · skip
                refine dk_iconst (pc' := 107) hE dX11_work_106 (by decide) rfl ?_
                refine dk_goto (tgt := 111) hE dX11_work_107 (by decide) ?_
                refine pa_96 (pc' := 112) hE dX11_work_111 is_168 (by omega) trivial rfl (fun σ53 eσ53 => ?_)
                refine dk_goto (tgt := 182) hE dX11_work_112 (by decide) ?_
                obtain ⟨v54, hv54⟩ : ∃ z : Int, z = k + 1 := ⟨_, rfl⟩
                refine dk_iinc (pc' := 185) (ls' := [(4, 141), (0, a), (0, b), (0, v4), (0, n), (0, v54), (0, v23)]) hE dX11_work_182 rfl hv54.symm (by omega) rfl (by decide) rfl ?_
                refine dk_goto (tgt := 49) hE dX11_work_185 (by decide) ?_
                refine dk_drop (ls' := [(4, 141), (0, a), (0, b), (0, v4), (0, n), (0, v54), (9, 0)]) [true, true, true, true, true, true, false] rfl ?_
                exact ih49 n v54 σ53 (by omega) (fun k_ j_ h_ => by rw [eσ53, dk_up_n (show ¬ (k_ = 168 ∧ j_ = v47) from fun q_ => h_ (q_.1)), hF49 k_ j_ (fun w_ => h_ (w_))]) (by first | (rw [show (B - B).toNat = 0 by omega]; rfl) | (rw [show (v54 - B).toNat = (k - B + 1).toNat by omega]; omega)) (by omega)
      exact lp49 _ 0 B σ (Nat.lt_succ_self _) (fun k_ j_ h_ => rfl) (by first | (rw [show (B - B).toNat = 0 by omega]; rfl) | (rw [show (B - B).toNat = (k - B + 1).toNat by omega]; omega)) (by omega)
    · skip
      refine dk_iload_n (pc' := 27) hE dX11_work_26 rfl rfl rfl ?_
      exact dk_iret (st := []) hE hR dX11_work_27 ⟨_, rfl, (fun k_ j_ h_ => rfl), trivial⟩
set_option maxHeartbeats 4000000 in
set_option maxRecDepth 20000 in
theorem ct_X11_canBe (l : Launch) (G : dkG) (hGd : dk_Gd G) (b p d k : Int) : dk_Ct l G dk_Ty yX11_canBe cX11_canBe 5 (some .boolean) 6 190 190 (fun av σ => av = [(4, 141), (0, b), (0, p), (0, d), (0, k)] ∧ (MI σ) ∧ (0 ≤ p ∧ p < 12)) (fun _ σ r_ σ' => ∃ z : Int, r_ = some (0, z) ∧ (∀ k_ j_ : Int, ¬ ((k_ = 141 ∧ j_ = 55) ∨ (k_ = 141 ∧ j_ = 56) ∨ (k_ = 141 ∧ j_ = 57) ∨ (k_ = 141 ∧ j_ = 58) ∨ (k_ = 141 ∧ j_ = 59) ∨ (k_ = 141 ∧ j_ = 60) ∨ (k_ = 141 ∧ j_ = 61) ∨ k_ = 168) → σ' k_ j_ = σ k_ j_) ∧ (0 ≤ z ∧ z ≤ 1)) := by
  refine dk_enter hGd (by decide) (fun av σ hpre hok => ?_)
  obtain ⟨rfl, hG, hp⟩ := hpre
  refine ⟨Nat.le_of_ble_eq_true rfl, fun E hE hR _ => ?_⟩
  have hi_b : dk_i32 b := dk_oki (hok _ (by simp))
  have hi_p : dk_i32 p := dk_oki (hok _ (by simp))
  have hi_d : dk_i32 d := dk_oki (hok _ (by simp))
  have hi_k : dk_i32 k := dk_oki (hok _ (by simp))
  show dk_PJ E 0 [(4, 141), (0, b), (0, p), (0, d), (0, k)] [] 190 σ
  refine dk_aload_n (pc' := 1) hE dX11_canBe_0 rfl rfl rfl ?_
  refine dk_iload_n (pc' := 2) hE dX11_canBe_1 rfl rfl rfl ?_
  refine dk_iload_n (pc' := 3) hE dX11_canBe_2 rfl rfl rfl ?_
  refine dk_iload_n (pc' := 4) hE dX11_canBe_3 rfl rfl rfl ?_
  refine dk_iload (pc' := 6) hE dX11_canBe_4 rfl rfl ?_
  refine dk_cV (pc' := 9) (as := [(0, b), (0, p), (0, d), (0, k)]) hE lk_X11_468 (ct_X11_knowsIt l G hGd b p d k) dX11_canBe_6 rfl is_141 rfl (by decide) (Nat.le_of_ble_eq_true rfl) rfl rfl (fun r2 σ1 hr2 hor2 => ?_)
  obtain ⟨v3, rfl, hfσ1, hpr2⟩ := hr2
  have hsσ1 : σ = σ1 := (funext (fun k => funext (fun j => hfσ1 k j not_false))).symm
  subst hsσ1
  refine dk_if_eq (tgt := 34) (pc' := 12) hE dX11_canBe_9 (by decide) rfl (fun hc4 => ?_) (fun hc4 => ?_)
  · skip
    refine dk_iconst (pc' := 35) hE dX11_canBe_34 (by decide) rfl ?_
    exact dk_zret (st := []) hE hR dX11_canBe_35 (by omega) ⟨_, rfl, (fun k_ j_ h_ => rfl), by omega⟩
  · skip
    refine dk_aload_n (pc' := 13) hE dX11_canBe_12 rfl rfl rfl ?_
    refine dk_iload_n (pc' := 14) hE dX11_canBe_13 rfl rfl rfl ?_
    refine dk_iload_n (pc' := 15) hE dX11_canBe_14 rfl rfl rfl ?_
    refine dk_iload (pc' := 17) hE dX11_canBe_15 rfl rfl ?_
    refine dk_cV (pc' := 20) (as := [(0, b), (0, d), (0, k)]) hE lk_X11_471 (ct_X11_isOut l G hGd b d k) dX11_canBe_17 rfl is_141 rfl (by decide) (Nat.le_of_ble_eq_true rfl) rfl rfl (fun r6 σ5 hr6 hor6 => ?_)
    obtain ⟨v7, rfl, hfσ5, hpr6⟩ := hr6
    have hsσ5 : σ = σ5 := (funext (fun k => funext (fun j => hfσ5 k j not_false))).symm
    subst hsσ5
    refine dk_if_ne (tgt := 34) (pc' := 23) hE dX11_canBe_20 (by decide) rfl (fun hc8 => ?_) (fun hc8 => ?_)
    · skip
      refine dk_iconst (pc' := 35) hE dX11_canBe_34 (by decide) rfl ?_
      exact dk_zret (st := []) hE hR dX11_canBe_35 (by omega) ⟨_, rfl, (fun k_ j_ h_ => rfl), by omega⟩
    · skip
      refine dk_aload_n (pc' := 24) hE dX11_canBe_23 rfl rfl rfl ?_
      refine dk_iload_n (pc' := 25) hE dX11_canBe_24 rfl rfl rfl ?_
      refine dk_iload_n (pc' := 26) hE dX11_canBe_25 rfl rfl rfl ?_
      refine dk_iload (pc' := 28) hE dX11_canBe_26 rfl rfl ?_
      refine dk_cV (pc' := 31) (as := [(0, b), (0, d), (0, k)]) hE lk_X11_474 (ct_X11_isGone l G hGd b d k) dX11_canBe_28 rfl is_141 rfl (by decide) (Nat.le_of_ble_eq_true rfl) rfl rfl (fun r10 σ9 hr10 hor10 => ?_)
      obtain ⟨v11, rfl, hfσ9, hpr10⟩ := hr10
      have hsσ9 : σ = σ9 := (funext (fun k => funext (fun j => hfσ9 k j not_false))).symm
      subst hsσ9
      refine dk_if_eq (tgt := 36) (pc' := 34) hE dX11_canBe_31 (by decide) rfl (fun hc12 => ?_) (fun hc12 => ?_)
      · skip
        refine dk_aload_n (pc' := 37) hE dX11_canBe_36 rfl rfl rfl ?_
        refine dk_iload_n (pc' := 38) hE dX11_canBe_37 rfl rfl rfl ?_
        refine dk_iload_n (pc' := 39) hE dX11_canBe_38 rfl rfl rfl ?_
        refine dk_iload_n (pc' := 40) hE dX11_canBe_39 rfl rfl rfl ?_
        refine dk_iload (pc' := 42) hE dX11_canBe_40 rfl rfl ?_
        refine dk_cV (pc' := 45) (as := [(0, b), (0, p), (0, d), (0, k)]) hE lk_X11_455 (ct_X11_ask l G hGd b p d k) dX11_canBe_42 rfl is_141 rfl (by decide) (Nat.le_of_ble_eq_true rfl) ⟨rfl, hG, (by omega)⟩ rfl (fun r14 σ13 hr14 hor14 => ?_)
        obtain ⟨rfl, hfσ13, hpr14⟩ := hr14
        refine dk_aload_n (pc' := 46) hE dX11_canBe_45 rfl rfl rfl ?_
        refine dk_iconst (pc' := 47) hE dX11_canBe_46 (by decide) rfl ?_
        refine dk_iconst (pc' := 48) hE dX11_canBe_47 (by decide) rfl ?_
        have gi15 : MI σ13 := MI_fr hG (fun k_ j_ h_ => by rw [hfσ13 k_ j_ (fpw31_2804642510 k_ j_ h_)])
        refine dk_cV (pc' := 51) (as := [(0, 0), (0, 1)]) hE lk_X11_477 (ct_X11_work l G hGd 0 1) dX11_canBe_48 rfl is_141 rfl (by decide) (Nat.le_of_ble_eq_true rfl) ⟨rfl, gi15, (by omega)⟩ rfl (fun r17 σ16 hr17 hor17 => ?_)
        obtain ⟨v18, rfl, hfσ16, hpr17⟩ := hr17
        have hkv18 := dk_oki (hor17 _ rfl)
        refine dk_if_eq (tgt := 58) (pc' := 54) hE dX11_canBe_51 (by decide) rfl (fun hc19 => ?_) (fun hc19 => ?_)
        · skip
          refine dk_iconst (pc' := 59) hE dX11_canBe_58 (by decide) rfl ?_
          exact dk_zret (st := []) hE hR dX11_canBe_59 (by omega) ⟨_, rfl, (fun k_ j_ h_ => by rw [hfσ16 k_ j_ (fun w_ => h_ (Or.inr (Or.inr (Or.inr (Or.inr (Or.inr (Or.inr (Or.inr (w_))))))))), hfσ13 k_ j_ (fun w_ => h_ (w_.elim (fun x0_ => Or.inl (x0_)) (fun y0_ => y0_.elim (fun x1_ => Or.inr (Or.inl (x1_))) (fun y1_ => y1_.elim (fun x2_ => Or.inr (Or.inr (Or.inl (x2_)))) (fun y2_ => y2_.elim (fun x3_ => Or.inr (Or.inr (Or.inr (Or.inl (x3_))))) (fun y3_ => y3_.elim (fun x4_ => Or.inr (Or.inr (Or.inr (Or.inr (Or.inl (x4_)))))) (fun y4_ => y4_.elim (fun x5_ => Or.inr (Or.inr (Or.inr (Or.inr (Or.inr (Or.inl (x5_))))))) (fun y5_ => Or.inr (Or.inr (Or.inr (Or.inr (Or.inr (Or.inr (Or.inl (y5_)))))))))))))))]), by omega⟩
        · skip
          refine dk_iconst (pc' := 55) hE dX11_canBe_54 (by decide) rfl ?_
          refine dk_goto (tgt := 59) hE dX11_canBe_55 (by decide) ?_
          exact dk_zret (st := []) hE hR dX11_canBe_59 (by omega) ⟨_, rfl, (fun k_ j_ h_ => by rw [hfσ16 k_ j_ (fun w_ => h_ (Or.inr (Or.inr (Or.inr (Or.inr (Or.inr (Or.inr (Or.inr (w_))))))))), hfσ13 k_ j_ (fun w_ => h_ (w_.elim (fun x0_ => Or.inl (x0_)) (fun y0_ => y0_.elim (fun x1_ => Or.inr (Or.inl (x1_))) (fun y1_ => y1_.elim (fun x2_ => Or.inr (Or.inr (Or.inl (x2_)))) (fun y2_ => y2_.elim (fun x3_ => Or.inr (Or.inr (Or.inr (Or.inl (x3_))))) (fun y3_ => y3_.elim (fun x4_ => Or.inr (Or.inr (Or.inr (Or.inr (Or.inl (x4_)))))) (fun y4_ => y4_.elim (fun x5_ => Or.inr (Or.inr (Or.inr (Or.inr (Or.inr (Or.inl (x5_))))))) (fun y5_ => Or.inr (Or.inr (Or.inr (Or.inr (Or.inr (Or.inr (Or.inl (y5_)))))))))))))))]), by omega⟩
      · skip
        refine dk_iconst (pc' := 35) hE dX11_canBe_34 (by decide) rfl ?_
        exact dk_zret (st := []) hE hR dX11_canBe_35 (by omega) ⟨_, rfl, (fun k_ j_ h_ => rfl), by omega⟩
set_option maxHeartbeats 4000000 in
set_option maxRecDepth 20000 in
theorem ct_X11_can (l : Launch) (G : dkG) (hGd : dk_Gd G) (b p d k : Int) : dk_Ct l G dk_Ty yX11_can cX11_can 5 (some .int) 7 190 190 (fun av σ => av = [(4, 141), (0, b), (0, p), (0, d), (0, k)] ∧ (MI σ)) (fun _ σ r_ σ' => ∃ z : Int, r_ = some (0, z) ∧ (∀ k_ j_ : Int, ¬ ((k_ = 141 ∧ j_ = 55) ∨ (k_ = 141 ∧ j_ = 56) ∨ (k_ = 141 ∧ j_ = 57) ∨ (k_ = 141 ∧ j_ = 58) ∨ (k_ = 141 ∧ j_ = 59) ∨ (k_ = 141 ∧ j_ = 60) ∨ (k_ = 141 ∧ j_ = 61) ∨ k_ = 168) → σ' k_ j_ = σ k_ j_) ∧ (True)) := by
  refine dk_enter hGd (by decide) (fun av σ hpre hok => ?_)
  obtain ⟨rfl, hG⟩ := hpre
  refine ⟨Nat.le_of_ble_eq_true rfl, fun E hE hR _ => ?_⟩
  have hi_b : dk_i32 b := dk_oki (hok _ (by simp))
  have hi_p : dk_i32 p := dk_oki (hok _ (by simp))
  have hi_d : dk_i32 d := dk_oki (hok _ (by simp))
  have hi_k : dk_i32 k := dk_oki (hok _ (by simp))
  show dk_PJ E 0 [(4, 141), (0, b), (0, p), (0, d), (0, k)] [] 190 σ
  refine dk_aload_n (pc' := 1) hE dX11_can_0 rfl rfl rfl ?_
  refine dk_iload_n (pc' := 2) hE dX11_can_1 rfl rfl rfl ?_
  refine dk_cV (pc' := 5) (as := [(0, b)]) hE lk_X11_422 (ct_X11_isBody l G hGd b) dX11_can_2 rfl is_141 rfl (by decide) (Nat.le_of_ble_eq_true rfl) rfl rfl (fun r2 σ1 hr2 hor2 => ?_)
  obtain ⟨v3, rfl, hfσ1, hpr2⟩ := hr2
  have hsσ1 : σ = σ1 := (funext (fun k => funext (fun j => hfσ1 k j not_false))).symm
  subst hsσ1
  rcases hpr2 with ⟨rfl, hpr2⟩ | rfl
  · skip
    refine dk_if_eq (tgt := 43) (pc' := 8) hE dX11_can_5 (by decide) rfl (fun hc4 => absurd hc4 (by decide)) (fun hc4 => ?_)
    refine dk_aload_n (pc' := 9) hE dX11_can_8 rfl rfl rfl ?_
    refine dk_iload_n (pc' := 10) hE dX11_can_9 rfl rfl rfl ?_
    refine dk_cV (pc' := 13) (as := [(0, p)]) hE lk_X11_333 (ct_X11_isPart l G hGd p) dX11_can_10 rfl is_141 rfl (by decide) (Nat.le_of_ble_eq_true rfl) rfl rfl (fun r6 σ5 hr6 hor6 => ?_)
    obtain ⟨v7, rfl, hfσ5, hpr6⟩ := hr6
    have hsσ5 : σ = σ5 := (funext (fun k => funext (fun j => hfσ5 k j not_false))).symm
    subst hsσ5
    rcases hpr6 with ⟨rfl, hpr6⟩ | rfl
    · skip
      refine dk_if_eq (tgt := 43) (pc' := 16) hE dX11_can_13 (by decide) rfl (fun hc8 => absurd hc8 (by decide)) (fun hc8 => ?_)
      refine dk_iload_n (pc' := 17) hE dX11_can_16 rfl rfl rfl ?_
      refine dk_cS (pc' := 20) (as := [(0, d)]) hE lk_X11_371 (ct_X11_isDay l G hGd d) dX11_can_17 rfl rfl (by decide) (Nat.le_of_ble_eq_true rfl) rfl rfl (fun r10 σ9 hr10 hor10 => ?_)
      obtain ⟨v11, rfl, hfσ9, hpr10⟩ := hr10
      have hsσ9 : σ = σ9 := (funext (fun k => funext (fun j => hfσ9 k j not_false))).symm
      subst hsσ9
      rcases hpr10 with ⟨rfl, hpr10⟩ | ⟨rfl, hpr10⟩
      · skip
        refine dk_if_eq (tgt := 43) (pc' := 23) hE dX11_can_20 (by decide) rfl (fun hc12 => absurd hc12 (by decide)) (fun hc12 => ?_)
        refine dk_aload_n (pc' := 24) hE dX11_can_23 rfl rfl rfl ?_
        refine dk_iload_n (pc' := 25) hE dX11_can_24 rfl rfl rfl ?_
        refine dk_iload_n (pc' := 26) hE dX11_can_25 rfl rfl rfl ?_
        refine dk_iload_n (pc' := 27) hE dX11_can_26 rfl rfl rfl ?_
        refine dk_iload (pc' := 29) hE dX11_can_27 rfl rfl ?_
        refine dk_cV (pc' := 32) (as := [(0, b), (0, p), (0, d), (0, k)]) hE lk_X11_480 (ct_X11_canBe l G hGd b p d k) dX11_can_29 rfl is_141 rfl (by decide) (Nat.le_of_ble_eq_true rfl) ⟨rfl, hG, (by omega)⟩ rfl (fun r14 σ13 hr14 hor14 => ?_)
        obtain ⟨v15, rfl, hfσ13, hpr14⟩ := hr14
        refine dk_if_eq (tgt := 39) (pc' := 35) hE dX11_can_32 (by decide) rfl (fun hc16 => ?_) (fun hc16 => ?_)
        · skip
          refine dk_iconst (pc' := 40) hE dX11_can_39 (by decide) rfl ?_
          refine dk_goto (tgt := 44) hE dX11_can_40 (by decide) ?_
          exact dk_iret (st := []) hE hR dX11_can_44 ⟨_, rfl, (fun k_ j_ h_ => by rw [hfσ13 k_ j_ (fun w_ => h_ (w_.elim (fun x0_ => Or.inl (x0_)) (fun y0_ => y0_.elim (fun x1_ => Or.inr (Or.inl (x1_))) (fun y1_ => y1_.elim (fun x2_ => Or.inr (Or.inr (Or.inl (x2_)))) (fun y2_ => y2_.elim (fun x3_ => Or.inr (Or.inr (Or.inr (Or.inl (x3_))))) (fun y3_ => y3_.elim (fun x4_ => Or.inr (Or.inr (Or.inr (Or.inr (Or.inl (x4_)))))) (fun y4_ => y4_.elim (fun x5_ => Or.inr (Or.inr (Or.inr (Or.inr (Or.inr (Or.inl (x5_))))))) (fun y5_ => y5_.elim (fun x6_ => Or.inr (Or.inr (Or.inr (Or.inr (Or.inr (Or.inr (Or.inl (x6_)))))))) (fun y6_ => Or.inr (Or.inr (Or.inr (Or.inr (Or.inr (Or.inr (Or.inr (y6_))))))))))))))))]), trivial⟩
        · skip
          refine dk_iconst (pc' := 36) hE dX11_can_35 (by decide) rfl ?_
          refine dk_goto (tgt := 44) hE dX11_can_36 (by decide) ?_
          exact dk_iret (st := []) hE hR dX11_can_44 ⟨_, rfl, (fun k_ j_ h_ => by rw [hfσ13 k_ j_ (fun w_ => h_ (w_.elim (fun x0_ => Or.inl (x0_)) (fun y0_ => y0_.elim (fun x1_ => Or.inr (Or.inl (x1_))) (fun y1_ => y1_.elim (fun x2_ => Or.inr (Or.inr (Or.inl (x2_)))) (fun y2_ => y2_.elim (fun x3_ => Or.inr (Or.inr (Or.inr (Or.inl (x3_))))) (fun y3_ => y3_.elim (fun x4_ => Or.inr (Or.inr (Or.inr (Or.inr (Or.inl (x4_)))))) (fun y4_ => y4_.elim (fun x5_ => Or.inr (Or.inr (Or.inr (Or.inr (Or.inr (Or.inl (x5_))))))) (fun y5_ => y5_.elim (fun x6_ => Or.inr (Or.inr (Or.inr (Or.inr (Or.inr (Or.inr (Or.inl (x6_)))))))) (fun y6_ => Or.inr (Or.inr (Or.inr (Or.inr (Or.inr (Or.inr (Or.inr (y6_))))))))))))))))]), trivial⟩
      · skip
        refine dk_if_eq (tgt := 43) (pc' := 23) hE dX11_can_20 (by decide) rfl (fun hc17 => ?_) (fun hc17 => absurd hc17 (by decide))
        refine dk_iconst (pc' := 44) hE dX11_can_43 (by decide) rfl ?_
        exact dk_iret (st := []) hE hR dX11_can_44 ⟨_, rfl, (fun k_ j_ h_ => rfl), trivial⟩
    · skip
      refine dk_if_eq (tgt := 43) (pc' := 16) hE dX11_can_13 (by decide) rfl (fun hc18 => ?_) (fun hc18 => absurd hc18 (by decide))
      refine dk_iconst (pc' := 44) hE dX11_can_43 (by decide) rfl ?_
      exact dk_iret (st := []) hE hR dX11_can_44 ⟨_, rfl, (fun k_ j_ h_ => rfl), trivial⟩
  · skip
    refine dk_if_eq (tgt := 43) (pc' := 8) hE dX11_can_5 (by decide) rfl (fun hc19 => ?_) (fun hc19 => absurd hc19 (by decide))
    refine dk_iconst (pc' := 44) hE dX11_can_43 (by decide) rfl ?_
    exact dk_iret (st := []) hE hR dX11_can_44 ⟨_, rfl, (fun k_ j_ h_ => rfl), trivial⟩
set_option maxHeartbeats 4000000 in
set_option maxRecDepth 20000 in
theorem ct_X11_weigh (l : Launch) (G : dkG) (hGd : dk_Gd G) (w d k : Int) : dk_Ct l G dk_Ty yX11_weigh cX11_weigh 6 (none) 7 190 190 (fun av σ => av = [(4, 141), (0, w), (0, d), (0, k)] ∧ (MI σ) ∧ (0 ≤ w ∧ w ≤ 3)) (fun _ σ r_ σ' => r_ = none ∧ (∀ k_ j_ : Int, ¬ ((k_ = 141 ∧ j_ = 55) ∨ (k_ = 141 ∧ j_ = 56) ∨ (k_ = 141 ∧ j_ = 57) ∨ (k_ = 141 ∧ j_ = 58) ∨ (k_ = 141 ∧ j_ = 59) ∨ (k_ = 141 ∧ j_ = 60) ∨ (k_ = 141 ∧ j_ = 61) ∨ k_ = 168 ∨ (k_ = 141 ∧ j_ = 70) ∨ (176 ≤ k_ ∧ k_ ≤ 177) ∨ k_ = 180) → σ' k_ j_ = σ k_ j_) ∧ (True)) := by
  refine dk_enter hGd (by decide) (fun av σ hpre hok => ?_)
  obtain ⟨rfl, hG, hw⟩ := hpre
  refine ⟨Nat.le_of_ble_eq_true rfl, fun E hE hR _ => ?_⟩
  have hi_w : dk_i32 w := dk_oki (hok _ (by simp))
  have hi_d : dk_i32 d := dk_oki (hok _ (by simp))
  have hi_k : dk_i32 k := dk_oki (hok _ (by simp))
  show dk_PJ E 0 [(4, 141), (0, w), (0, d), (0, k), (9, 0), (9, 0)] [] 190 σ
  refine dk_aload_n (pc' := 1) hE dX11_weigh_0 rfl rfl rfl ?_
  refine dk_iconst (pc' := 2) hE dX11_weigh_1 (by decide) rfl ?_
  refine pf_11_70 (pc' := 5) hE fl_X11_483 dX11_weigh_2 is_141 (by omega) rfl (fun σ1 eσ1 => ?_)
  refine dk_iconst (pc' := 6) hE dX11_weigh_5 (by decide) rfl ?_
  refine dk_istore (pc' := 8) (ls' := [(4, 141), (0, w), (0, d), (0, k), (0, 0), (9, 0)]) hE dX11_weigh_6 rfl (by decide) rfl ?_
  have lp8 : ∀ (N_ : Nat) (p : Int) (σ8c : dkS), (2147483648 - p).toNat < N_ → ((∀ k_ j_ : Int, ¬ ((k_ = 141 ∧ j_ = 55) ∨ (k_ = 141 ∧ j_ = 56) ∨ (k_ = 141 ∧ j_ = 57) ∨ (k_ = 141 ∧ j_ = 58) ∨ (k_ = 141 ∧ j_ = 59) ∨ (k_ = 141 ∧ j_ = 60) ∨ (k_ = 141 ∧ j_ = 61) ∨ k_ = 168 ∨ (k_ = 141 ∧ j_ = 70) ∨ (176 ≤ k_ ∧ k_ ≤ 177) ∨ k_ = 180) → σ8c k_ j_ = σ1 k_ j_)) → (0 ≤ p) → (σ8c 141 70 = cw σ (12 * σ 141 27) w p.toNat) → dk_PJ E 8 [(4, 141), (0, w), (0, d), (0, k), (0, p), (9, 0)] [] 190 σ8c := by
    intro N8
    induction N8 with
    | zero => intro p σ8c hm; exact absurd hm (Nat.not_lt_zero _)
    | succ N8 ih8 =>
      intro p σ8c hm8 hF8 hp hm
      refine dk_iload (pc' := 10) hE dX11_weigh_8 rfl rfl ?_
      refine dk_aload_n (pc' := 11) hE dX11_weigh_10 rfl rfl rfl ?_
      refine dk_cV (pc' := 14) (as := []) hE lk_X11_319 (ct_X11_parts l G hGd) dX11_weigh_11 rfl is_141 rfl (by decide) (Nat.le_of_ble_eq_true rfl) rfl rfl (fun r3 σ2 hr3 hor3 => ?_)
      obtain ⟨v4, rfl, hfσ2, hpr3⟩ := hr3
      have hsσ2 : σ8c = σ2 := (funext (fun k => funext (fun j => hfσ2 k j not_false))).symm
      subst hsσ2
      have e27 : σ8c 141 27 = σ 141 27 := by rw [hF8 141 27 (by omega), eσ1, dk_up_n (show ¬ (141 = 141 ∧ 27 = 70) by omega)]
      have e146 : ∀ j_ : Int, σ8c 146 j_ = σ 146 j_ := fun j_ => by rw [hF8 146 j_ (by omega), eσ1, dk_up_n (show ¬ (146 = 141 ∧ j_ = 70) by omega)]
      have e11 := hpr3.1
      rw [e27, e146] at e11
      refine dk_icmp_ge (tgt := 137) (pc' := 17) hE dX11_weigh_14 (by decide) rfl (fun hc5 => ?_) (fun hc5 => ?_)
      · skip
        exact dk_vret (st := []) hE hR dX11_weigh_137 ⟨rfl, (fun k_ j_ h_ => by rw [hF8 k_ j_ (fun w_ => h_ (w_.elim (fun x0_ => Or.inl (x0_)) (fun y0_ => y0_.elim (fun x1_ => Or.inr (Or.inl (x1_))) (fun y1_ => y1_.elim (fun x2_ => Or.inr (Or.inr (Or.inl (x2_)))) (fun y2_ => y2_.elim (fun x3_ => Or.inr (Or.inr (Or.inr (Or.inl (x3_))))) (fun y3_ => y3_.elim (fun x4_ => Or.inr (Or.inr (Or.inr (Or.inr (Or.inl (x4_)))))) (fun y4_ => y4_.elim (fun x5_ => Or.inr (Or.inr (Or.inr (Or.inr (Or.inr (Or.inl (x5_))))))) (fun y5_ => y5_.elim (fun x6_ => Or.inr (Or.inr (Or.inr (Or.inr (Or.inr (Or.inr (Or.inl (x6_)))))))) (fun y6_ => y6_.elim (fun x7_ => Or.inr (Or.inr (Or.inr (Or.inr (Or.inr (Or.inr (Or.inr (Or.inl (x7_))))))))) (fun y7_ => y7_.elim (fun x8_ => Or.inr (Or.inr (Or.inr (Or.inr (Or.inr (Or.inr (Or.inr (Or.inr (Or.inl (x8_)))))))))) (fun y8_ => y8_.elim (fun x9_ => Or.inr (Or.inr (Or.inr (Or.inr (Or.inr (Or.inr (Or.inr (Or.inr (Or.inr (Or.inl (x9_))))))))))) (fun y9_ => Or.inr (Or.inr (Or.inr (Or.inr (Or.inr (Or.inr (Or.inr (Or.inr (Or.inr (Or.inr (y9_)))))))))))))))))))))), eσ1, dk_up_n (show ¬ (k_ = 141 ∧ j_ = 70) from fun q_ => h_ (Or.inr (Or.inr (Or.inr (Or.inr (Or.inr (Or.inr (Or.inr (Or.inr (Or.inl (q_)))))))))))]), trivial⟩
      · skip
        refine dk_aload_n (pc' := 18) hE dX11_weigh_17 rfl rfl rfl ?_
        refine dk_iload (pc' := 20) hE dX11_weigh_18 rfl rfl ?_
        refine dk_cV (pc' := 23) (as := [(0, p)]) hE lk_X11_336 (ct_X11_workOf l G hGd p) dX11_weigh_20 rfl is_141 rfl (by decide) (Nat.le_of_ble_eq_true rfl) ⟨rfl, (by omega)⟩ rfl (fun r7 σ6 hr7 hor7 => ?_)
        obtain ⟨v8, rfl, hfσ6, hpr7⟩ := hr7
        have hsσ6 : σ8c = σ6 := (funext (fun k => funext (fun j => hfσ6 k j not_false))).symm
        subst hsσ6
        have e151 : ∀ j_ : Int, σ8c 151 j_ = σ 151 j_ := fun j_ => by rw [hF8 151 j_ (by omega), eσ1, dk_up_n (show ¬ (151 = 141 ∧ j_ = 70) by omega)]
        have e20 := hpr7.1
        rw [e27, e151] at e20
        refine dk_iload_n (pc' := 24) hE dX11_weigh_23 rfl rfl rfl ?_
        refine dk_icmp_eq (tgt := 30) (pc' := 27) hE dX11_weigh_24 (by decide) rfl (fun hc9 => ?_) (fun hc9 => ?_)
        · skip
          have gi10 : MI σ8c := MI_fr hG (fun k_ j_ h_ => by rw [hF8 k_ j_ (fpw31_549955260 k_ j_ h_), eσ1, dk_up_n (show ¬ (k_ = 141 ∧ j_ = 70) from fun q_ => fpj31_70 q_ h_)])
          have hP := cw_put hG.2.1 hw (p := p) (by omega) (by omega)
          have gi11 : MI σ8c := gi10
          refine dk_aload_n (pc' := 31) hE dX11_weigh_30 rfl rfl rfl ?_
          refine gf_11_66 (pc' := 34) (w := 180) hE fl_X11_131 dX11_weigh_31 is_141 rfl rfl ?_
          refine dk_aload_n (pc' := 35) hE dX11_weigh_34 rfl rfl rfl ?_
          refine gf_11_70 (pc' := 38) hE fl_X11_483 dX11_weigh_35 is_141 rfl (fun v12 hv12 htv12 hbv12 => ?_)
          refine dk_iload (pc' := 40) hE dX11_weigh_38 rfl rfl ?_
          refine pa_108 (pc' := 41) hE dX11_weigh_40 is_180 (by omega) (by omega) rfl (fun σ13 eσ13 => ?_)
          refine dk_aload_n (pc' := 42) hE dX11_weigh_41 rfl rfl rfl ?_
          refine dk_dup (pc' := 43) hE dX11_weigh_42 (show (4 : Nat) ≠ 3 by decide) rfl ?_
          refine gf_11_70 (pc' := 46) hE fl_X11_483 dX11_weigh_43 is_141 rfl (fun v14 hv14 htv14 hbv14 => ?_)
          have hq14 : v12 = v14 := (show v14 = v12 by rw [hv14, eσ13, dk_up_n (show ¬ (141 = 180 ∧ 70 = v12) by omega), hv12]).symm
          subst hq14
          clear htv14 hbv14
          refine dk_iconst (pc' := 47) hE dX11_weigh_46 (by decide) rfl ?_
          obtain ⟨v15, hv15⟩ : ∃ z : Int, z = v12 + 1 := ⟨_, rfl⟩
          refine dk_iadd (pc' := 48) hE dX11_weigh_47 hv15.symm (by omega) rfl ?_
          refine pf_11_70 (pc' := 51) hE fl_X11_483 dX11_weigh_48 is_141 (by omega) rfl (fun σ16 eσ16 => ?_)
          refine dk_iconst (pc' := 52) hE dX11_weigh_51 (by decide) rfl ?_
          refine dk_istore (pc' := 54) (ls' := [(4, 141), (0, w), (0, d), (0, k), (0, p), (0, 0)]) hE dX11_weigh_52 rfl (by decide) rfl ?_
          have lp54 : ∀ (N_ : Nat) (b : Int) (σ54c : dkS), (2147483648 - b).toNat < N_ → ((∀ k_ j_ : Int, ¬ ((k_ = 141 ∧ j_ = 55) ∨ (k_ = 141 ∧ j_ = 56) ∨ (k_ = 141 ∧ j_ = 57) ∨ (k_ = 141 ∧ j_ = 58) ∨ (k_ = 141 ∧ j_ = 59) ∨ (k_ = 141 ∧ j_ = 60) ∨ (k_ = 141 ∧ j_ = 61) ∨ k_ = 168 ∨ (176 ≤ k_ ∧ k_ ≤ 177)) → σ54c k_ j_ = σ16 k_ j_)) → (0 ≤ b) → (σ54c 141 70 = cw σ (12 * σ 141 27) w (p + 1).toNat) → dk_PJ E 54 [(4, 141), (0, w), (0, d), (0, k), (0, p), (0, b)] [] 190 σ54c := by
            intro N54
            induction N54 with
            | zero => intro b σ54c hm; exact absurd hm (Nat.not_lt_zero _)
            | succ N54 ih54 =>
              intro b σ54c hm54 hF54 hb hm2
              refine dk_iload (pc' := 56) hE dX11_weigh_54 rfl rfl ?_
              refine dk_aload_n (pc' := 57) hE dX11_weigh_56 rfl rfl rfl ?_
              refine gf_11_52 (pc' := 60) hE fl_X11_416 dX11_weigh_57 is_141 rfl (fun v17 hv17 htv17 hbv17 => ?_)
              refine dk_icmp_ge (tgt := 131) (pc' := 63) hE dX11_weigh_60 (by decide) rfl (fun hc18 => ?_) (fun hc18 => ?_)
              · skip
                obtain ⟨v19, hv19⟩ : ∃ z : Int, z = p + 1 := ⟨_, rfl⟩
                refine dk_iinc (pc' := 134) (ls' := [(4, 141), (0, w), (0, d), (0, k), (0, v19), (0, b)]) hE dX11_weigh_131 rfl hv19.symm (by omega) rfl (by decide) rfl ?_
                refine dk_goto (tgt := 8) hE dX11_weigh_134 (by decide) ?_
                refine dk_drop (ls' := [(4, 141), (0, w), (0, d), (0, k), (0, v19), (9, 0)]) [true, true, true, true, true, false] rfl ?_
                have hz19_141_70 : σ54c 141 70 = v15 := by rw [hF54 141 70 (by omega), eσ16, dk_up_s]
                exact ih8 v19 σ54c (by omega) (fun k_ j_ h_ => by rw [hF54 k_ j_ (fun w_ => h_ (w_.elim (fun x0_ => Or.inl (x0_)) (fun y0_ => y0_.elim (fun x1_ => Or.inr (Or.inl (x1_))) (fun y1_ => y1_.elim (fun x2_ => Or.inr (Or.inr (Or.inl (x2_)))) (fun y2_ => y2_.elim (fun x3_ => Or.inr (Or.inr (Or.inr (Or.inl (x3_))))) (fun y3_ => y3_.elim (fun x4_ => Or.inr (Or.inr (Or.inr (Or.inr (Or.inl (x4_)))))) (fun y4_ => y4_.elim (fun x5_ => Or.inr (Or.inr (Or.inr (Or.inr (Or.inr (Or.inl (x5_))))))) (fun y5_ => y5_.elim (fun x6_ => Or.inr (Or.inr (Or.inr (Or.inr (Or.inr (Or.inr (Or.inl (x6_)))))))) (fun y6_ => y6_.elim (fun x7_ => Or.inr (Or.inr (Or.inr (Or.inr (Or.inr (Or.inr (Or.inr (Or.inl (x7_))))))))) (fun y7_ => Or.inr (Or.inr (Or.inr (Or.inr (Or.inr (Or.inr (Or.inr (Or.inr (Or.inr (Or.inl (y7_)))))))))))))))))))), eσ16, dk_up_n (show ¬ (k_ = 141 ∧ j_ = 70) from fun q_ => h_ (Or.inr (Or.inr (Or.inr (Or.inr (Or.inr (Or.inr (Or.inr (Or.inr (Or.inl (q_))))))))))), eσ13, dk_up_n (show ¬ (k_ = 180 ∧ j_ = v12) from fun q_ => h_ (Or.inr (Or.inr (Or.inr (Or.inr (Or.inr (Or.inr (Or.inr (Or.inr (Or.inr (Or.inr (q_.1)))))))))))), hF8 k_ j_ (fun w_ => h_ (w_.elim (fun x0_ => Or.inl (x0_)) (fun y0_ => y0_.elim (fun x1_ => Or.inr (Or.inl (x1_))) (fun y1_ => y1_.elim (fun x2_ => Or.inr (Or.inr (Or.inl (x2_)))) (fun y2_ => y2_.elim (fun x3_ => Or.inr (Or.inr (Or.inr (Or.inl (x3_))))) (fun y3_ => y3_.elim (fun x4_ => Or.inr (Or.inr (Or.inr (Or.inr (Or.inl (x4_)))))) (fun y4_ => y4_.elim (fun x5_ => Or.inr (Or.inr (Or.inr (Or.inr (Or.inr (Or.inl (x5_))))))) (fun y5_ => y5_.elim (fun x6_ => Or.inr (Or.inr (Or.inr (Or.inr (Or.inr (Or.inr (Or.inl (x6_)))))))) (fun y6_ => y6_.elim (fun x7_ => Or.inr (Or.inr (Or.inr (Or.inr (Or.inr (Or.inr (Or.inr (Or.inl (x7_))))))))) (fun y7_ => y7_.elim (fun x8_ => Or.inr (Or.inr (Or.inr (Or.inr (Or.inr (Or.inr (Or.inr (Or.inr (Or.inl (x8_)))))))))) (fun y8_ => y8_.elim (fun x9_ => Or.inr (Or.inr (Or.inr (Or.inr (Or.inr (Or.inr (Or.inr (Or.inr (Or.inr (Or.inl (x9_))))))))))) (fun y9_ => Or.inr (Or.inr (Or.inr (Or.inr (Or.inr (Or.inr (Or.inr (Or.inr (Or.inr (Or.inr (y9_))))))))))))))))))))))]) (by omega) (by first | (rw [show (0 : Int).toNat = 0 from rfl, cw]; omega) | (rw [show (v19).toNat = (p + 1).toNat by omega]; exact hm2) | (rw [show (v19).toNat = (p + 1).toNat by omega, cw_skip (by omega) (by omega)]; exact hm))
              · skip
                refine dk_aload_n (pc' := 64) hE dX11_weigh_63 rfl rfl rfl ?_
                refine gf_11_62 (pc' := 67) (w := 176) hE fl_X11_119 dX11_weigh_64 is_141 rfl rfl ?_
                refine dk_bipush (pc' := 69) hE dX11_weigh_67 (by decide) rfl ?_
                refine dk_iload (pc' := 71) hE dX11_weigh_69 rfl rfl ?_
                obtain ⟨v21, hv21⟩ : ∃ z : Int, z = 10 * p := ⟨_, rfl⟩
                refine dk_imul (pc' := 72) hE dX11_weigh_71 hv21.symm (by omega) rfl ?_
                refine dk_iload (pc' := 74) hE dX11_weigh_72 rfl rfl ?_
                obtain ⟨v22, hv22⟩ : ∃ z : Int, z = v21 + b := ⟨_, rfl⟩
                refine dk_iadd (pc' := 75) hE dX11_weigh_74 hv22.symm (by omega) rfl ?_
                refine dk_aload_n (pc' := 76) hE dX11_weigh_75 rfl rfl rfl ?_
                refine dk_iload (pc' := 78) hE dX11_weigh_76 rfl rfl ?_
                refine dk_iload (pc' := 80) hE dX11_weigh_78 rfl rfl ?_
                refine dk_iload_n (pc' := 81) hE dX11_weigh_80 rfl rfl rfl ?_
                refine dk_iload_n (pc' := 82) hE dX11_weigh_81 rfl rfl rfl ?_
                have gi23 : MI σ54c := MI_fr gi11 (fun k_ j_ h_ => by rw [hF54 k_ j_ (fpw31_999371632 k_ j_ h_), eσ16, dk_up_n (show ¬ (k_ = 141 ∧ j_ = 70) from fun q_ => fpj31_70 q_ h_), eσ13, dk_up_n (show ¬ (k_ = 180 ∧ j_ = v12) from fun q_ => fpn31_180 q_.1 h_)])
                refine dk_cV (pc' := 85) (as := [(0, b), (0, p), (0, d), (0, k)]) hE lk_X11_480 (ct_X11_canBe l G hGd b p d k) dX11_weigh_82 rfl is_141 rfl (by decide) (Nat.le_of_ble_eq_true rfl) ⟨rfl, gi23, (by omega)⟩ rfl (fun r25 σ24 hr25 hor25 => ?_)
                obtain ⟨v26, rfl, hfσ24, hpr25⟩ := hr25
                refine pa_104 (pc' := 86) hE dX11_weigh_85 is_176 (by omega) (by omega) trivial rfl (fun σ27 eσ27 => ?_)
                refine dk_aload_n (pc' := 87) hE dX11_weigh_86 rfl rfl rfl ?_
                refine gf_11_63 (pc' := 90) (w := 177) hE fl_X11_122 dX11_weigh_87 is_141 rfl rfl ?_
                refine dk_bipush (pc' := 92) hE dX11_weigh_90 (by decide) rfl ?_
                refine dk_iload (pc' := 94) hE dX11_weigh_92 rfl rfl ?_
                obtain ⟨v28, hv28⟩ : ∃ z : Int, z = 10 * p := ⟨_, rfl⟩
                refine dk_imul (pc' := 95) hE dX11_weigh_94 hv28.symm (by omega) rfl ?_
                refine dk_iload (pc' := 97) hE dX11_weigh_95 rfl rfl ?_
                obtain ⟨v29, hv29⟩ : ∃ z : Int, z = v28 + b := ⟨_, rfl⟩
                refine dk_iadd (pc' := 98) hE dX11_weigh_97 hv29.symm (by omega) rfl ?_
                refine dk_aload_n (pc' := 99) hE dX11_weigh_98 rfl rfl rfl ?_
                refine gf_11_62 (pc' := 102) (w := 176) hE fl_X11_119 dX11_weigh_99 is_141 rfl rfl ?_
                refine dk_bipush (pc' := 104) hE dX11_weigh_102 (by decide) rfl ?_
                refine dk_iload (pc' := 106) hE dX11_weigh_104 rfl rfl ?_
                obtain ⟨v30, hv30⟩ : ∃ z : Int, z = 10 * p := ⟨_, rfl⟩
                refine dk_imul (pc' := 107) hE dX11_weigh_106 hv30.symm (by omega) rfl ?_
                refine dk_iload (pc' := 109) hE dX11_weigh_107 rfl rfl ?_
                obtain ⟨v31, hv31⟩ : ∃ z : Int, z = v30 + b := ⟨_, rfl⟩
                refine dk_iadd (pc' := 110) hE dX11_weigh_109 hv31.symm (by omega) rfl ?_
                refine ga_104 (pc' := 111) hE dX11_weigh_110 is_176 (by omega) rfl (fun v32 hv32 htv32 hbv32 => ?_)
                refine dk_if_eq (tgt := 123) (pc' := 114) hE dX11_weigh_111 (by decide) rfl (fun hc33 => ?_) (fun hc33 => ?_)
                · skip
                  refine dk_iconst (pc' := 124) hE dX11_weigh_123 (by decide) rfl ?_
                  refine pa_105 (pc' := 125) hE dX11_weigh_124 is_177 (by omega) trivial rfl (fun σ34 eσ34 => ?_)
                  obtain ⟨v35, hv35⟩ : ∃ z : Int, z = b + 1 := ⟨_, rfl⟩
                  refine dk_iinc (pc' := 128) (ls' := [(4, 141), (0, w), (0, d), (0, k), (0, p), (0, v35)]) hE dX11_weigh_125 rfl hv35.symm (by omega) rfl (by decide) rfl ?_
                  refine dk_goto (tgt := 54) hE dX11_weigh_128 (by decide) ?_
                  have hz35_141_70 := (show σ34 141 70 = _ by rw [eσ34, dk_up_n (show ¬ (141 = 177 ∧ 70 = v29) by omega), eσ27, dk_up_n (show ¬ (141 = 176 ∧ 70 = v22) by omega), hfσ24 141 70 (by omega)])
                  exact ih54 v35 σ34 (by omega) (fun k_ j_ h_ => by rw [eσ34, dk_up_n (show ¬ (k_ = 177 ∧ j_ = v29) from fun q_ => h_ (Or.inr (Or.inr (Or.inr (Or.inr (Or.inr (Or.inr (Or.inr (Or.inr (dk_wr (lo := 176) (hi := 177) q_.1 (by decide))))))))))), eσ27, dk_up_n (show ¬ (k_ = 176 ∧ j_ = v22) from fun q_ => h_ (Or.inr (Or.inr (Or.inr (Or.inr (Or.inr (Or.inr (Or.inr (Or.inr (dk_wr (lo := 176) (hi := 177) q_.1 (by decide))))))))))), hfσ24 k_ j_ (fun w_ => h_ (w_.elim (fun x0_ => Or.inl (x0_)) (fun y0_ => y0_.elim (fun x1_ => Or.inr (Or.inl (x1_))) (fun y1_ => y1_.elim (fun x2_ => Or.inr (Or.inr (Or.inl (x2_)))) (fun y2_ => y2_.elim (fun x3_ => Or.inr (Or.inr (Or.inr (Or.inl (x3_))))) (fun y3_ => y3_.elim (fun x4_ => Or.inr (Or.inr (Or.inr (Or.inr (Or.inl (x4_)))))) (fun y4_ => y4_.elim (fun x5_ => Or.inr (Or.inr (Or.inr (Or.inr (Or.inr (Or.inl (x5_))))))) (fun y5_ => y5_.elim (fun x6_ => Or.inr (Or.inr (Or.inr (Or.inr (Or.inr (Or.inr (Or.inl (x6_)))))))) (fun y6_ => Or.inr (Or.inr (Or.inr (Or.inr (Or.inr (Or.inr (Or.inr (Or.inl (y6_))))))))))))))))), hF54 k_ j_ (fun w_ => h_ (w_.elim (fun x0_ => Or.inl (x0_)) (fun y0_ => y0_.elim (fun x1_ => Or.inr (Or.inl (x1_))) (fun y1_ => y1_.elim (fun x2_ => Or.inr (Or.inr (Or.inl (x2_)))) (fun y2_ => y2_.elim (fun x3_ => Or.inr (Or.inr (Or.inr (Or.inl (x3_))))) (fun y3_ => y3_.elim (fun x4_ => Or.inr (Or.inr (Or.inr (Or.inr (Or.inl (x4_)))))) (fun y4_ => y4_.elim (fun x5_ => Or.inr (Or.inr (Or.inr (Or.inr (Or.inr (Or.inl (x5_))))))) (fun y5_ => y5_.elim (fun x6_ => Or.inr (Or.inr (Or.inr (Or.inr (Or.inr (Or.inr (Or.inl (x6_)))))))) (fun y6_ => y6_.elim (fun x7_ => Or.inr (Or.inr (Or.inr (Or.inr (Or.inr (Or.inr (Or.inr (Or.inl (x7_))))))))) (fun y7_ => Or.inr (Or.inr (Or.inr (Or.inr (Or.inr (Or.inr (Or.inr (Or.inr (y7_))))))))))))))))))]) (by omega) (by omega)
                · skip
                  refine dk_aload_n (pc' := 115) hE dX11_weigh_114 rfl rfl rfl ?_
                  refine dk_iconst (pc' := 116) hE dX11_weigh_115 (by decide) rfl ?_
                  refine dk_iconst (pc' := 117) hE dX11_weigh_116 (by decide) rfl ?_
                  have gi37 : MI σ27 := MI_fr gi23 (fun k_ j_ h_ => by rw [eσ27, dk_up_n (show ¬ (k_ = 176 ∧ j_ = v22) from fun q_ => fpn31_176 q_.1 h_), hfσ24 k_ j_ (fpw31_238380992 k_ j_ h_)])
                  refine dk_cV (pc' := 120) (as := [(0, 2), (0, 0)]) hE lk_X11_477 (ct_X11_work l G hGd 2 0) dX11_weigh_117 rfl is_141 rfl (by decide) (Nat.le_of_ble_eq_true rfl) ⟨rfl, gi37, (by omega)⟩ rfl (fun r39 σ38 hr39 hor39 => ?_)
                  obtain ⟨v40, rfl, hfσ38, hpr39⟩ := hr39
                  have hkv40 := dk_oki (hor39 _ rfl)
                  refine dk_goto (tgt := 124) hE dX11_weigh_120 (by decide) ?_
                  refine pa_105 (pc' := 125) hE dX11_weigh_124 is_177 (by omega) trivial rfl (fun σ41 eσ41 => ?_)
                  obtain ⟨v42, hv42⟩ : ∃ z : Int, z = b + 1 := ⟨_, rfl⟩
                  refine dk_iinc (pc' := 128) (ls' := [(4, 141), (0, w), (0, d), (0, k), (0, p), (0, v42)]) hE dX11_weigh_125 rfl hv42.symm (by omega) rfl (by decide) rfl ?_
                  refine dk_goto (tgt := 54) hE dX11_weigh_128 (by decide) ?_
                  have hz42_141_70 := (show σ41 141 70 = _ by rw [eσ41, dk_up_n (show ¬ (141 = 177 ∧ 70 = v29) by omega), hfσ38 141 70 (by omega), eσ27, dk_up_n (show ¬ (141 = 176 ∧ 70 = v22) by omega), hfσ24 141 70 (by omega)])
                  exact ih54 v42 σ41 (by omega) (fun k_ j_ h_ => by rw [eσ41, dk_up_n (show ¬ (k_ = 177 ∧ j_ = v29) from fun q_ => h_ (Or.inr (Or.inr (Or.inr (Or.inr (Or.inr (Or.inr (Or.inr (Or.inr (dk_wr (lo := 176) (hi := 177) q_.1 (by decide))))))))))), hfσ38 k_ j_ (fun w_ => h_ (Or.inr (Or.inr (Or.inr (Or.inr (Or.inr (Or.inr (Or.inr (Or.inl (w_)))))))))), eσ27, dk_up_n (show ¬ (k_ = 176 ∧ j_ = v22) from fun q_ => h_ (Or.inr (Or.inr (Or.inr (Or.inr (Or.inr (Or.inr (Or.inr (Or.inr (dk_wr (lo := 176) (hi := 177) q_.1 (by decide))))))))))), hfσ24 k_ j_ (fun w_ => h_ (w_.elim (fun x0_ => Or.inl (x0_)) (fun y0_ => y0_.elim (fun x1_ => Or.inr (Or.inl (x1_))) (fun y1_ => y1_.elim (fun x2_ => Or.inr (Or.inr (Or.inl (x2_)))) (fun y2_ => y2_.elim (fun x3_ => Or.inr (Or.inr (Or.inr (Or.inl (x3_))))) (fun y3_ => y3_.elim (fun x4_ => Or.inr (Or.inr (Or.inr (Or.inr (Or.inl (x4_)))))) (fun y4_ => y4_.elim (fun x5_ => Or.inr (Or.inr (Or.inr (Or.inr (Or.inr (Or.inl (x5_))))))) (fun y5_ => y5_.elim (fun x6_ => Or.inr (Or.inr (Or.inr (Or.inr (Or.inr (Or.inr (Or.inl (x6_)))))))) (fun y6_ => Or.inr (Or.inr (Or.inr (Or.inr (Or.inr (Or.inr (Or.inr (Or.inl (y6_))))))))))))))))), hF54 k_ j_ (fun w_ => h_ (w_.elim (fun x0_ => Or.inl (x0_)) (fun y0_ => y0_.elim (fun x1_ => Or.inr (Or.inl (x1_))) (fun y1_ => y1_.elim (fun x2_ => Or.inr (Or.inr (Or.inl (x2_)))) (fun y2_ => y2_.elim (fun x3_ => Or.inr (Or.inr (Or.inr (Or.inl (x3_))))) (fun y3_ => y3_.elim (fun x4_ => Or.inr (Or.inr (Or.inr (Or.inr (Or.inl (x4_)))))) (fun y4_ => y4_.elim (fun x5_ => Or.inr (Or.inr (Or.inr (Or.inr (Or.inr (Or.inl (x5_))))))) (fun y5_ => y5_.elim (fun x6_ => Or.inr (Or.inr (Or.inr (Or.inr (Or.inr (Or.inr (Or.inl (x6_)))))))) (fun y6_ => y6_.elim (fun x7_ => Or.inr (Or.inr (Or.inr (Or.inr (Or.inr (Or.inr (Or.inr (Or.inl (x7_))))))))) (fun y7_ => Or.inr (Or.inr (Or.inr (Or.inr (Or.inr (Or.inr (Or.inr (Or.inr (y7_))))))))))))))))))]) (by omega) (by omega)
          have hz44 : σ16 141 70 = v15 := by rw [eσ16, dk_up_s]
          have hz44_141_70 : σ16 141 70 = v15 := by rw [eσ16, dk_up_s]
          exact lp54 _ 0 σ16 (Nat.lt_succ_self _) (fun k_ j_ h_ => rfl) (by omega) (by omega)
        · skip
          refine dk_goto (tgt := 131) hE dX11_weigh_27 (by decide) ?_
          obtain ⟨v46, hv46⟩ : ∃ z : Int, z = p + 1 := ⟨_, rfl⟩
          refine dk_iinc (pc' := 134) (ls' := [(4, 141), (0, w), (0, d), (0, k), (0, v46), (9, 0)]) hE dX11_weigh_131 rfl hv46.symm (by omega) rfl (by decide) rfl ?_
          refine dk_goto (tgt := 8) hE dX11_weigh_134 (by decide) ?_
          exact ih8 v46 σ8c (by omega) (fun k_ j_ h_ => by rw [hF8 k_ j_ (fun w_ => h_ (w_.elim (fun x0_ => Or.inl (x0_)) (fun y0_ => y0_.elim (fun x1_ => Or.inr (Or.inl (x1_))) (fun y1_ => y1_.elim (fun x2_ => Or.inr (Or.inr (Or.inl (x2_)))) (fun y2_ => y2_.elim (fun x3_ => Or.inr (Or.inr (Or.inr (Or.inl (x3_))))) (fun y3_ => y3_.elim (fun x4_ => Or.inr (Or.inr (Or.inr (Or.inr (Or.inl (x4_)))))) (fun y4_ => y4_.elim (fun x5_ => Or.inr (Or.inr (Or.inr (Or.inr (Or.inr (Or.inl (x5_))))))) (fun y5_ => y5_.elim (fun x6_ => Or.inr (Or.inr (Or.inr (Or.inr (Or.inr (Or.inr (Or.inl (x6_)))))))) (fun y6_ => y6_.elim (fun x7_ => Or.inr (Or.inr (Or.inr (Or.inr (Or.inr (Or.inr (Or.inr (Or.inl (x7_))))))))) (fun y7_ => y7_.elim (fun x8_ => Or.inr (Or.inr (Or.inr (Or.inr (Or.inr (Or.inr (Or.inr (Or.inr (Or.inl (x8_)))))))))) (fun y8_ => y8_.elim (fun x9_ => Or.inr (Or.inr (Or.inr (Or.inr (Or.inr (Or.inr (Or.inr (Or.inr (Or.inr (Or.inl (x9_))))))))))) (fun y9_ => Or.inr (Or.inr (Or.inr (Or.inr (Or.inr (Or.inr (Or.inr (Or.inr (Or.inr (Or.inr (y9_))))))))))))))))))))))]) (by omega) (by first | (rw [show (0 : Int).toNat = 0 from rfl, cw]; omega) | (rw [show (v46).toNat = (p + 1).toNat by omega]; exact hm2) | (rw [show (v46).toNat = (p + 1).toNat by omega, cw_skip (by omega) (by omega)]; exact hm))
  have hz48 : σ1 141 70 = 0 := by rw [eσ1, dk_up_s]
  have hz48_141_70 : σ1 141 70 = 0 := by rw [eσ1, dk_up_s]
  exact lp8 _ 0 σ1 (Nat.lt_succ_self _) (fun k_ j_ h_ => rfl) (by omega) (by first | (rw [show (0 : Int).toNat = 0 from rfl, cw]; omega) | (rw [show (0).toNat = (p + 1).toNat by omega]; exact hm2) | (rw [show (0).toNat = (p + 1).toNat by omega, cw_skip (by omega) (by omega)]; exact hm))
