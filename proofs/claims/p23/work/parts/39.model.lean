theorem dk_cs {N j : Nat} {P : Nat → Prop} (h : j < N + 1) (a : P N) (b : j < N → P j) : P j := by
  by_cases e : j = N
  · subst e; exact a
  · exact b (by omega)
theorem dk_ci {lo hi a : Int} {P : Int → Prop} (h : lo ≤ a) (e : lo + 1 = hi) (x : P lo) (y : hi ≤ a → P a) : P a := by
  by_cases q : a = lo
  · subst q; exact x
  · exact y (by omega)
/-- a write: (true, cell, slot, value), or a new cell: (false, cell, 0, 0); the last one first -/
abbrev dkU : Type := Bool × Int × Int × Int
def dk_ap (σ : dkS) : dkU → dkS
  | (true, k, j, v) => dk_up σ k j v
  | (false, n, _, _) => dk_nw σ n
def dk_fr (σ : dkS) : List dkU → dkS
  | [] => σ
  | u :: r => dk_ap (dk_fr σ r) u
def dk_lk : List dkU → Int → Int → Option Int
  | [], _, _ => none
  | (true, a, b, v) :: r, k, j => if k = a ∧ j = b then some v else dk_lk r k j
  | (false, n, _, _) :: r, k, j => if k = n then some (dk_dz (dk_stc (dk_site n) j.toNat)) else dk_lk r k j
def dk_zc : List dkU → Int → Bool
  | [], _ => false
  | (true, a, _, _) :: r, c => if a = c then false else dk_zc r c
  | (false, n, _, _) :: r, c => if n = c then true else dk_zc r c
def dk_in (K lo hi : Int) (u : dkU) : Bool := decide (u.2.1 = K ∨ (lo ≤ u.2.1 ∧ u.2.1 < hi))
theorem dk_lk_ok {σ : dkS} {k j v : Int} : ∀ {L : List dkU}, dk_lk L k j = some v → dk_fr σ L k j = v
  | [], h => by cases h
  | (true, a, b, w) :: r, h => by
    show dk_up (dk_fr σ r) a b w k j = v
    unfold dk_lk at h
    by_cases c : k = a ∧ j = b
    · rw [if_pos c] at h
      obtain ⟨rfl, rfl⟩ := c
      rw [dk_up_s]
      exact Option.some.inj h
    · rw [if_neg c] at h
      rw [dk_up_n c]
      exact dk_lk_ok h
  | (false, n, _, _) :: r, h => by
    show dk_nw (dk_fr σ r) n k j = v
    unfold dk_lk at h
    by_cases c : k = n
    · rw [if_pos c] at h
      subst c
      rw [dk_nw_s]
      exact Option.some.inj h
    · rw [if_neg c] at h
      rw [dk_nw_n c]
      exact dk_lk_ok h
theorem dk_lk_no {σ : dkS} {k j : Int} : ∀ {L : List dkU}, dk_lk L k j = none → dk_fr σ L k j = σ k j
  | [], _ => rfl
  | (true, a, b, w) :: r, h => by
    show dk_up (dk_fr σ r) a b w k j = _
    unfold dk_lk at h
    by_cases c : k = a ∧ j = b
    · rw [if_pos c] at h; cases h
    · rw [if_neg c] at h
      rw [dk_up_n c]
      exact dk_lk_no h
  | (false, n, _, _) :: r, h => by
    show dk_nw (dk_fr σ r) n k j = _
    unfold dk_lk at h
    by_cases c : k = n
    · rw [if_pos c] at h; cases h
    · rw [if_neg c] at h
      rw [dk_nw_n c]
      exact dk_lk_no h
theorem dk_zc_ok {σ : dkS} {c : Int} : ∀ {L : List dkU}, dk_zc L c = true → ∀ j : Int, dk_fr σ L c j = dk_dz (dk_stc (dk_site c) j.toNat)
  | [], h, _ => by cases h
  | (true, a, b, w) :: r, h, j => by
    show dk_up (dk_fr σ r) a b w c j = _
    unfold dk_zc at h
    by_cases q : a = c
    · rw [if_pos q] at h; cases h
    · rw [if_neg q] at h
      rw [dk_up_k (fun e => q e.symm)]
      exact dk_zc_ok h j
  | (false, n, _, _) :: r, h, j => by
    show dk_nw (dk_fr σ r) n c j = _
    unfold dk_zc at h
    by_cases q : n = c
    · subst q
      rw [dk_nw_s]
    · rw [if_neg q] at h
      rw [dk_nw_n (fun e => q e.symm)]
      exact dk_zc_ok h j
theorem dk_fr_out {σ : dkS} {K lo hi a j : Int} (h1 : a ≠ K) (h2 : ¬ (lo ≤ a ∧ a < hi)) : ∀ {L : List dkU}, L.all (dk_in K lo hi) = true → dk_fr σ L a j = σ a j
  | [], _ => rfl
  | u :: r, h => by
    rw [List.all_cons, Bool.and_eq_true] at h
    have q : u.2.1 = K ∨ (lo ≤ u.2.1 ∧ u.2.1 < hi) := of_decide_eq_true h.1
    have ih := dk_fr_out (σ := σ) (j := j) h1 h2 h.2
    have ne : a ≠ u.2.1 := by omega
    obtain ⟨b, n, x, y⟩ := u
    cases b
    · show dk_nw (dk_fr σ r) n a j = _
      rw [dk_nw_n ne]; exact ih
    · show dk_up (dk_fr σ r) n x y a j = _
      rw [dk_up_k ne]; exact ih
def md_141 : List dkU := [(true, 141, 80, 2), (true, 141, 78, 189), (false, 189, 0, 0), (true, 141, 77, 188), (false, 188, 0, 0), (true, 141, 76, 187), (false, 187, 0, 0), (true, 141, 75, 186), (false, 186, 0, 0), (true, 141, 74, 185), (false, 185, 0, 0), (true, 141, 73, 184), (false, 184, 0, 0), (true, 141, 69, 183), (false, 183, 0, 0), (true, 141, 68, 182), (false, 182, 0, 0), (true, 141, 67, 181), (false, 181, 0, 0), (true, 141, 66, 180), (false, 180, 0, 0), (true, 141, 65, 179), (false, 179, 0, 0), (true, 141, 64, 178), (false, 178, 0, 0), (true, 141, 63, 177), (false, 177, 0, 0), (true, 141, 62, 176), (false, 176, 0, 0), (true, 141, 51, 175), (false, 175, 0, 0), (true, 141, 50, 174), (false, 174, 0, 0), (true, 141, 49, 173), (false, 173, 0, 0), (true, 141, 48, 172), (false, 172, 0, 0), (true, 141, 47, 171), (false, 171, 0, 0), (true, 141, 46, 170), (false, 170, 0, 0), (true, 141, 40, 169), (false, 169, 0, 0), (true, 141, 39, 168), (false, 168, 0, 0), (true, 141, 38, 167), (false, 167, 0, 0), (true, 141, 37, 166), (false, 166, 0, 0), (true, 141, 36, 165), (false, 165, 0, 0), (true, 141, 35, 164), (false, 164, 0, 0), (true, 141, 34, 163), (false, 163, 0, 0), (true, 141, 33, 162), (false, 162, 0, 0), (true, 141, 32, 161), (false, 161, 0, 0), (true, 141, 29, 160), (true, 160, 15, 4), (true, 160, 14, 4), (true, 160, 13, 5), (true, 160, 12, 4), (true, 160, 11, 3), (true, 160, 10, 2), (true, 160, 9, 1), (true, 160, 8, 0), (true, 160, 7, 4), (true, 160, 6, 4), (true, 160, 5, 5), (true, 160, 4, 4), (true, 160, 3, 3), (true, 160, 2, 2), (true, 160, 1, 1), (true, 160, 0, 0), (false, 160, 0, 0), (true, 141, 26, 159), (false, 159, 0, 0), (true, 141, 25, 158), (false, 158, 0, 0), (true, 141, 24, 157), (false, 157, 0, 0), (true, 141, 23, 156), (false, 156, 0, 0), (true, 141, 22, 155), (false, 155, 0, 0), (true, 141, 21, 154), (false, 154, 0, 0), (true, 141, 20, 153), (false, 153, 0, 0), (true, 141, 19, 152), (false, 152, 0, 0), (true, 141, 18, 151), (false, 151, 0, 0), (true, 141, 17, 150), (false, 150, 0, 0), (true, 141, 16, 149), (true, 149, 1, 10), (true, 149, 0, 10), (false, 149, 0, 0), (true, 141, 15, 148), (true, 148, 1, 10), (true, 148, 0, 10), (false, 148, 0, 0), (true, 141, 14, 147), (false, 147, 0, 0), (true, 141, 13, 146), (false, 146, 0, 0), (true, 141, 12, 145), (false, 145, 0, 0), (true, 141, 11, 144), (false, 144, 0, 0), (true, 141, 5, (-1)), (true, 141, 1, 143), (false, 143, 0, 0), (true, 141, 0, 142), (false, 142, 0, 0)]
set_option maxHeartbeats 8000000 in
set_option maxRecDepth 20000 in
theorem ci_11_141 (l : Launch) (G : dkG) (hGd : dk_Gd G) (hGn : dk_Gn G) : dk_Ct l G dk_T0 yX11_init cX11_init 1 none 1 142 190 (fun av σ => av = [(4, 141)] ∧ dk_fsh σ 141) (fun _ σ r_ σ' => r_ = none ∧ dk_cp 141 142 190 σ σ' ∧ MI σ' ∧ σ' 141 52 = 0 ∧ σ' 141 54 = 0) := by
  refine dk_enter hGd (by decide) (fun av σ hpre hok => ?_)
  obtain ⟨rfl, hF⟩ := hpre
  refine ⟨Nat.le_of_ble_eq_true rfl, fun E hE hR hI => ?_⟩
  have hi := hI rfl
  show dk_PJ E 0 [(4, 141)] [] 142 σ
  refine dk_aload_n (pc' := 1) hE dX11_init_0 rfl rfl rfl ?_
  refine dk_obj (pc' := 4) hE wd_1299 wd_128 wc_obj dX11_init_1 (by decide) (by decide) rfl ?_
  refine dk_aload_n (pc' := 5) hE dX11_init_4 rfl rfl rfl ?_
  refine dk_sipush (pc' := 8) hE dX11_init_5 (by decide) rfl ?_
  refine dk_newa (ay := .byte) (pc' := 10) (n' := 143) (S := 70) (tc := 1) (len := 1420) hE wa_byte rfl (by decide) dX11_init_8 rfl rfl (by decide) rfl (by decide) ⟨by decide, by rw [tt_142, tt_190] <;> decide, by rw [tt_142] <;> decide, by rw [tt_143, tt_142]⟩ (by decide) rfl (fun σ1 eσ1 => ?_)
  refine dk_putF (pc' := 13) hE fl_X11_7 dX11_init_10 hi ⟨_, rfl, rfl⟩ ⟨by decide, by decide, by decide⟩ rfl (fun _ => trivial) trivial rfl ?_
  obtain ⟨σ2, eσ2⟩ : ∃ q : dkS, q = dk_up σ1 141 0 142 := ⟨_, rfl⟩
  show dk_PJ E 13 [(4, 141)] [] 143 (dk_up σ1 141 0 142)
  rw [← eσ2]
  refine dk_aload_n (pc' := 14) hE dX11_init_13 rfl rfl rfl ?_
  refine dk_sipush (pc' := 17) hE dX11_init_14 (by decide) rfl ?_
  refine dk_newa (ay := .byte) (pc' := 19) (n' := 144) (S := 71) (tc := 1) (len := 1400) hE wa_byte rfl (by decide) dX11_init_17 rfl rfl (by decide) rfl (by decide) ⟨by decide, by rw [tt_143, tt_142, tt_190] <;> decide, by rw [tt_142, tt_143] <;> decide, by rw [tt_144, tt_143]⟩ (by decide) rfl (fun σ3 eσ3 => ?_)
  refine dk_putF (pc' := 22) hE fl_X11_13 dX11_init_19 hi ⟨_, rfl, rfl⟩ ⟨by decide, by decide, by decide⟩ rfl (fun _ => trivial) trivial rfl ?_
  obtain ⟨σ4, eσ4⟩ : ∃ q : dkS, q = dk_up σ3 141 1 143 := ⟨_, rfl⟩
  show dk_PJ E 22 [(4, 141)] [] 144 (dk_up σ3 141 1 143)
  rw [← eσ4]
  refine dk_aload_n (pc' := 23) hE dX11_init_22 rfl rfl rfl ?_
  refine dk_iconst (pc' := 24) hE dX11_init_23 (by decide) rfl ?_
  refine dk_putf (pc' := 27) hE fl_X11_16 dX11_init_24 ⟨by decide, by decide, by decide⟩ rfl (fun h => h.1 rfl) trivial rfl ?_
  obtain ⟨σ5, eσ5⟩ : ∃ q : dkS, q = dk_up σ4 141 5 (-1) := ⟨_, rfl⟩
  show dk_PJ E 27 [(4, 141)] [] 144 (dk_up σ4 141 5 (-1))
  rw [← eσ5]
  refine dk_aload_n (pc' := 28) hE dX11_init_27 rfl rfl rfl ?_
  refine dk_iconst (pc' := 29) hE dX11_init_28 (by decide) rfl ?_
  refine dk_newa (ay := .int) (pc' := 31) (n' := 145) (S := 72) (tc := 0) (len := 2) hE wa_int rfl (by decide) dX11_init_29 rfl rfl (by decide) rfl (by decide) ⟨by decide, by rw [tt_144, tt_142, tt_190] <;> decide, by rw [tt_142, tt_144] <;> decide, by rw [tt_145, tt_144]⟩ (by decide) rfl (fun σ6 eσ6 => ?_)
  refine dk_putF (pc' := 34) hE fl_X11_20 dX11_init_31 hi ⟨_, rfl, rfl⟩ ⟨by decide, by decide, by decide⟩ rfl (fun _ => trivial) trivial rfl ?_
  obtain ⟨σ7, eσ7⟩ : ∃ q : dkS, q = dk_up σ6 141 11 144 := ⟨_, rfl⟩
  show dk_PJ E 34 [(4, 141)] [] 145 (dk_up σ6 141 11 144)
  rw [← eσ7]
  refine dk_aload_n (pc' := 35) hE dX11_init_34 rfl rfl rfl ?_
  refine dk_iconst (pc' := 36) hE dX11_init_35 (by decide) rfl ?_
  refine dk_newa (ay := .int) (pc' := 38) (n' := 146) (S := 73) (tc := 0) (len := 2) hE wa_int rfl (by decide) dX11_init_36 rfl rfl (by decide) rfl (by decide) ⟨by decide, by rw [tt_145, tt_142, tt_190] <;> decide, by rw [tt_142, tt_145] <;> decide, by rw [tt_146, tt_145]⟩ (by decide) rfl (fun σ8 eσ8 => ?_)
  refine dk_putF (pc' := 41) hE fl_X11_24 dX11_init_38 hi ⟨_, rfl, rfl⟩ ⟨by decide, by decide, by decide⟩ rfl (fun _ => trivial) trivial rfl ?_
  obtain ⟨σ9, eσ9⟩ : ∃ q : dkS, q = dk_up σ8 141 12 145 := ⟨_, rfl⟩
  show dk_PJ E 41 [(4, 141)] [] 146 (dk_up σ8 141 12 145)
  rw [← eσ9]
  refine dk_aload_n (pc' := 42) hE dX11_init_41 rfl rfl rfl ?_
  refine dk_iconst (pc' := 43) hE dX11_init_42 (by decide) rfl ?_
  refine dk_newa (ay := .int) (pc' := 45) (n' := 147) (S := 74) (tc := 0) (len := 2) hE wa_int rfl (by decide) dX11_init_43 rfl rfl (by decide) rfl (by decide) ⟨by decide, by rw [tt_146, tt_142, tt_190] <;> decide, by rw [tt_142, tt_146] <;> decide, by rw [tt_147, tt_146]⟩ (by decide) rfl (fun σ10 eσ10 => ?_)
  refine dk_putF (pc' := 48) hE fl_X11_27 dX11_init_45 hi ⟨_, rfl, rfl⟩ ⟨by decide, by decide, by decide⟩ rfl (fun _ => trivial) trivial rfl ?_
  obtain ⟨σ11, eσ11⟩ : ∃ q : dkS, q = dk_up σ10 141 13 146 := ⟨_, rfl⟩
  show dk_PJ E 48 [(4, 141)] [] 147 (dk_up σ10 141 13 146)
  rw [← eσ11]
  refine dk_aload_n (pc' := 49) hE dX11_init_48 rfl rfl rfl ?_
  refine dk_iconst (pc' := 50) hE dX11_init_49 (by decide) rfl ?_
  refine dk_newa (ay := .int) (pc' := 52) (n' := 148) (S := 75) (tc := 0) (len := 2) hE wa_int rfl (by decide) dX11_init_50 rfl rfl (by decide) rfl (by decide) ⟨by decide, by rw [tt_147, tt_142, tt_190] <;> decide, by rw [tt_142, tt_147] <;> decide, by rw [tt_148, tt_147]⟩ (by decide) rfl (fun σ12 eσ12 => ?_)
  refine dk_putF (pc' := 55) hE fl_X11_30 dX11_init_52 hi ⟨_, rfl, rfl⟩ ⟨by decide, by decide, by decide⟩ rfl (fun _ => trivial) trivial rfl ?_
  obtain ⟨σ13, eσ13⟩ : ∃ q : dkS, q = dk_up σ12 141 14 147 := ⟨_, rfl⟩
  show dk_PJ E 55 [(4, 141)] [] 148 (dk_up σ12 141 14 147)
  rw [← eσ13]
  refine dk_aload_n (pc' := 56) hE dX11_init_55 rfl rfl rfl ?_
  refine dk_iconst (pc' := 57) hE dX11_init_56 (by decide) rfl ?_
  refine dk_newa (ay := .int) (pc' := 59) (n' := 149) (S := 76) (tc := 0) (len := 2) hE wa_int rfl (by decide) dX11_init_57 rfl rfl (by decide) rfl (by decide) ⟨by decide, by rw [tt_148, tt_142, tt_190] <;> decide, by rw [tt_142, tt_148] <;> decide, by rw [tt_149, tt_148]⟩ (by decide) rfl (fun σ14 eσ14 => ?_)
  refine dk_dup (pc' := 60) hE dX11_init_59 (show (4 : Nat) ≠ 3 by decide) rfl ?_
  refine dk_iconst (pc' := 61) hE dX11_init_60 (by decide) rfl ?_
  refine dk_bipush (pc' := 63) hE dX11_init_61 (by decide) rfl ?_
  refine dk_iast (pc' := 64) (S := 76) hE dX11_init_63 ⟨by decide, by decide, by decide⟩ rfl (by decide) (fun h => h.1 rfl) trivial rfl ?_
  obtain ⟨σ15, eσ15⟩ : ∃ q : dkS, q = dk_up σ14 148 0 10 := ⟨_, rfl⟩
  rw [← eσ15]
  refine dk_dup (pc' := 65) hE dX11_init_64 (show (4 : Nat) ≠ 3 by decide) rfl ?_
  refine dk_iconst (pc' := 66) hE dX11_init_65 (by decide) rfl ?_
  refine dk_bipush (pc' := 68) hE dX11_init_66 (by decide) rfl ?_
  refine dk_iast (pc' := 69) (S := 76) hE dX11_init_68 ⟨by decide, by decide, by decide⟩ rfl (by decide) (fun h => h.1 rfl) trivial rfl ?_
  obtain ⟨σ16, eσ16⟩ : ∃ q : dkS, q = dk_up σ15 148 1 10 := ⟨_, rfl⟩
  rw [← eσ16]
  refine dk_putF (pc' := 72) hE fl_X11_33 dX11_init_69 hi ⟨_, rfl, rfl⟩ ⟨by decide, by decide, by decide⟩ rfl (fun _ => trivial) trivial rfl ?_
  obtain ⟨σ17, eσ17⟩ : ∃ q : dkS, q = dk_up σ16 141 15 148 := ⟨_, rfl⟩
  show dk_PJ E 72 [(4, 141)] [] 149 (dk_up σ16 141 15 148)
  rw [← eσ17]
  refine dk_aload_n (pc' := 73) hE dX11_init_72 rfl rfl rfl ?_
  refine dk_iconst (pc' := 74) hE dX11_init_73 (by decide) rfl ?_
  refine dk_newa (ay := .int) (pc' := 76) (n' := 150) (S := 77) (tc := 0) (len := 2) hE wa_int rfl (by decide) dX11_init_74 rfl rfl (by decide) rfl (by decide) ⟨by decide, by rw [tt_149, tt_142, tt_190] <;> decide, by rw [tt_142, tt_149] <;> decide, by rw [tt_150, tt_149]⟩ (by decide) rfl (fun σ18 eσ18 => ?_)
  refine dk_dup (pc' := 77) hE dX11_init_76 (show (4 : Nat) ≠ 3 by decide) rfl ?_
  refine dk_iconst (pc' := 78) hE dX11_init_77 (by decide) rfl ?_
  refine dk_bipush (pc' := 80) hE dX11_init_78 (by decide) rfl ?_
  refine dk_iast (pc' := 81) (S := 77) hE dX11_init_80 ⟨by decide, by decide, by decide⟩ rfl (by decide) (fun h => h.1 rfl) trivial rfl ?_
  obtain ⟨σ19, eσ19⟩ : ∃ q : dkS, q = dk_up σ18 149 0 10 := ⟨_, rfl⟩
  rw [← eσ19]
  refine dk_dup (pc' := 82) hE dX11_init_81 (show (4 : Nat) ≠ 3 by decide) rfl ?_
  refine dk_iconst (pc' := 83) hE dX11_init_82 (by decide) rfl ?_
  refine dk_bipush (pc' := 85) hE dX11_init_83 (by decide) rfl ?_
  refine dk_iast (pc' := 86) (S := 77) hE dX11_init_85 ⟨by decide, by decide, by decide⟩ rfl (by decide) (fun h => h.1 rfl) trivial rfl ?_
  obtain ⟨σ20, eσ20⟩ : ∃ q : dkS, q = dk_up σ19 149 1 10 := ⟨_, rfl⟩
  rw [← eσ20]
  refine dk_putF (pc' := 89) hE fl_X11_36 dX11_init_86 hi ⟨_, rfl, rfl⟩ ⟨by decide, by decide, by decide⟩ rfl (fun _ => trivial) trivial rfl ?_
  obtain ⟨σ21, eσ21⟩ : ∃ q : dkS, q = dk_up σ20 141 16 149 := ⟨_, rfl⟩
  show dk_PJ E 89 [(4, 141)] [] 150 (dk_up σ20 141 16 149)
  rw [← eσ21]
  refine dk_aload_n (pc' := 90) hE dX11_init_89 rfl rfl rfl ?_
  refine dk_iconst (pc' := 91) hE dX11_init_90 (by decide) rfl ?_
  refine dk_newa (ay := .int) (pc' := 93) (n' := 151) (S := 78) (tc := 0) (len := 2) hE wa_int rfl (by decide) dX11_init_91 rfl rfl (by decide) rfl (by decide) ⟨by decide, by rw [tt_150, tt_142, tt_190] <;> decide, by rw [tt_142, tt_150] <;> decide, by rw [tt_151, tt_150]⟩ (by decide) rfl (fun σ22 eσ22 => ?_)
  refine dk_putF (pc' := 96) hE fl_X11_39 dX11_init_93 hi ⟨_, rfl, rfl⟩ ⟨by decide, by decide, by decide⟩ rfl (fun _ => trivial) trivial rfl ?_
  obtain ⟨σ23, eσ23⟩ : ∃ q : dkS, q = dk_up σ22 141 17 150 := ⟨_, rfl⟩
  show dk_PJ E 96 [(4, 141)] [] 151 (dk_up σ22 141 17 150)
  rw [← eσ23]
  refine dk_aload_n (pc' := 97) hE dX11_init_96 rfl rfl rfl ?_
  refine dk_bipush (pc' := 99) hE dX11_init_97 (by decide) rfl ?_
  refine dk_newa (ay := .int) (pc' := 101) (n' := 152) (S := 79) (tc := 0) (len := 24) hE wa_int rfl (by decide) dX11_init_99 rfl rfl (by decide) rfl (by decide) ⟨by decide, by rw [tt_151, tt_142, tt_190] <;> decide, by rw [tt_142, tt_151] <;> decide, by rw [tt_152, tt_151]⟩ (by decide) rfl (fun σ24 eσ24 => ?_)
  refine dk_putF (pc' := 104) hE fl_X11_42 dX11_init_101 hi ⟨_, rfl, rfl⟩ ⟨by decide, by decide, by decide⟩ rfl (fun _ => trivial) trivial rfl ?_
  obtain ⟨σ25, eσ25⟩ : ∃ q : dkS, q = dk_up σ24 141 18 151 := ⟨_, rfl⟩
  show dk_PJ E 104 [(4, 141)] [] 152 (dk_up σ24 141 18 151)
  rw [← eσ25]
  refine dk_aload_n (pc' := 105) hE dX11_init_104 rfl rfl rfl ?_
  refine dk_bipush (pc' := 107) hE dX11_init_105 (by decide) rfl ?_
  refine dk_newa (ay := .int) (pc' := 109) (n' := 153) (S := 80) (tc := 0) (len := 24) hE wa_int rfl (by decide) dX11_init_107 rfl rfl (by decide) rfl (by decide) ⟨by decide, by rw [tt_152, tt_142, tt_190] <;> decide, by rw [tt_142, tt_152] <;> decide, by rw [tt_153, tt_152]⟩ (by decide) rfl (fun σ26 eσ26 => ?_)
  refine dk_putF (pc' := 112) hE fl_X11_45 dX11_init_109 hi ⟨_, rfl, rfl⟩ ⟨by decide, by decide, by decide⟩ rfl (fun _ => trivial) trivial rfl ?_
  obtain ⟨σ27, eσ27⟩ : ∃ q : dkS, q = dk_up σ26 141 19 152 := ⟨_, rfl⟩
  show dk_PJ E 112 [(4, 141)] [] 153 (dk_up σ26 141 19 152)
  rw [← eσ27]
  refine dk_aload_n (pc' := 113) hE dX11_init_112 rfl rfl rfl ?_
  refine dk_bipush (pc' := 115) hE dX11_init_113 (by decide) rfl ?_
  refine dk_newa (ay := .int) (pc' := 117) (n' := 154) (S := 81) (tc := 0) (len := 24) hE wa_int rfl (by decide) dX11_init_115 rfl rfl (by decide) rfl (by decide) ⟨by decide, by rw [tt_153, tt_142, tt_190] <;> decide, by rw [tt_142, tt_153] <;> decide, by rw [tt_154, tt_153]⟩ (by decide) rfl (fun σ28 eσ28 => ?_)
  refine dk_putF (pc' := 120) hE fl_X11_48 dX11_init_117 hi ⟨_, rfl, rfl⟩ ⟨by decide, by decide, by decide⟩ rfl (fun _ => trivial) trivial rfl ?_
  obtain ⟨σ29, eσ29⟩ : ∃ q : dkS, q = dk_up σ28 141 20 153 := ⟨_, rfl⟩
  show dk_PJ E 120 [(4, 141)] [] 154 (dk_up σ28 141 20 153)
  rw [← eσ29]
  refine dk_aload_n (pc' := 121) hE dX11_init_120 rfl rfl rfl ?_
  refine dk_bipush (pc' := 123) hE dX11_init_121 (by decide) rfl ?_
  refine dk_newa (ay := .int) (pc' := 125) (n' := 155) (S := 82) (tc := 0) (len := 24) hE wa_int rfl (by decide) dX11_init_123 rfl rfl (by decide) rfl (by decide) ⟨by decide, by rw [tt_154, tt_142, tt_190] <;> decide, by rw [tt_142, tt_154] <;> decide, by rw [tt_155, tt_154]⟩ (by decide) rfl (fun σ30 eσ30 => ?_)
  refine dk_putF (pc' := 128) hE fl_X11_51 dX11_init_125 hi ⟨_, rfl, rfl⟩ ⟨by decide, by decide, by decide⟩ rfl (fun _ => trivial) trivial rfl ?_
  obtain ⟨σ31, eσ31⟩ : ∃ q : dkS, q = dk_up σ30 141 21 154 := ⟨_, rfl⟩
  show dk_PJ E 128 [(4, 141)] [] 155 (dk_up σ30 141 21 154)
  rw [← eσ31]
  refine dk_aload_n (pc' := 129) hE dX11_init_128 rfl rfl rfl ?_
  refine dk_sipush (pc' := 132) hE dX11_init_129 (by decide) rfl ?_
  refine dk_newa (ay := .int) (pc' := 134) (n' := 156) (S := 83) (tc := 0) (len := 768) hE wa_int rfl (by decide) dX11_init_132 rfl rfl (by decide) rfl (by decide) ⟨by decide, by rw [tt_155, tt_142, tt_190] <;> decide, by rw [tt_142, tt_155] <;> decide, by rw [tt_156, tt_155]⟩ (by decide) rfl (fun σ32 eσ32 => ?_)
  refine dk_putF (pc' := 137) hE fl_X11_54 dX11_init_134 hi ⟨_, rfl, rfl⟩ ⟨by decide, by decide, by decide⟩ rfl (fun _ => trivial) trivial rfl ?_
  obtain ⟨σ33, eσ33⟩ : ∃ q : dkS, q = dk_up σ32 141 22 155 := ⟨_, rfl⟩
  show dk_PJ E 137 [(4, 141)] [] 156 (dk_up σ32 141 22 155)
  rw [← eσ33]
  refine dk_aload_n (pc' := 138) hE dX11_init_137 rfl rfl rfl ?_
  refine dk_bipush (pc' := 140) hE dX11_init_138 (by decide) rfl ?_
  refine dk_newa (ay := .int) (pc' := 142) (n' := 157) (S := 84) (tc := 0) (len := 8) hE wa_int rfl (by decide) dX11_init_140 rfl rfl (by decide) rfl (by decide) ⟨by decide, by rw [tt_156, tt_142, tt_190] <;> decide, by rw [tt_142, tt_156] <;> decide, by rw [tt_157, tt_156]⟩ (by decide) rfl (fun σ34 eσ34 => ?_)
  refine dk_putF (pc' := 145) hE fl_X11_57 dX11_init_142 hi ⟨_, rfl, rfl⟩ ⟨by decide, by decide, by decide⟩ rfl (fun _ => trivial) trivial rfl ?_
  obtain ⟨σ35, eσ35⟩ : ∃ q : dkS, q = dk_up σ34 141 23 156 := ⟨_, rfl⟩
  show dk_PJ E 145 [(4, 141)] [] 157 (dk_up σ34 141 23 156)
  rw [← eσ35]
  refine dk_aload_n (pc' := 146) hE dX11_init_145 rfl rfl rfl ?_
  refine dk_bipush (pc' := 148) hE dX11_init_146 (by decide) rfl ?_
  refine dk_newa (ay := .boolean) (pc' := 150) (n' := 158) (S := 85) (tc := 2) (len := 24) hE wa_boolean rfl (by decide) dX11_init_148 rfl rfl (by decide) rfl (by decide) ⟨by decide, by rw [tt_157, tt_142, tt_190] <;> decide, by rw [tt_142, tt_157] <;> decide, by rw [tt_158, tt_157]⟩ (by decide) rfl (fun σ36 eσ36 => ?_)
  refine dk_putF (pc' := 153) hE fl_X11_60 dX11_init_150 hi ⟨_, rfl, rfl⟩ ⟨by decide, by decide, by decide⟩ rfl (fun _ => trivial) trivial rfl ?_
  obtain ⟨σ37, eσ37⟩ : ∃ q : dkS, q = dk_up σ36 141 24 157 := ⟨_, rfl⟩
  show dk_PJ E 153 [(4, 141)] [] 158 (dk_up σ36 141 24 157)
  rw [← eσ37]
  refine dk_aload_n (pc' := 154) hE dX11_init_153 rfl rfl rfl ?_
  refine dk_iconst (pc' := 155) hE dX11_init_154 (by decide) rfl ?_
  refine dk_newa (ay := .boolean) (pc' := 157) (n' := 159) (S := 86) (tc := 2) (len := 2) hE wa_boolean rfl (by decide) dX11_init_155 rfl rfl (by decide) rfl (by decide) ⟨by decide, by rw [tt_158, tt_142, tt_190] <;> decide, by rw [tt_142, tt_158] <;> decide, by rw [tt_159, tt_158]⟩ (by decide) rfl (fun σ38 eσ38 => ?_)
  refine dk_putF (pc' := 160) hE fl_X11_64 dX11_init_157 hi ⟨_, rfl, rfl⟩ ⟨by decide, by decide, by decide⟩ rfl (fun _ => trivial) trivial rfl ?_
  obtain ⟨σ39, eσ39⟩ : ∃ q : dkS, q = dk_up σ38 141 25 158 := ⟨_, rfl⟩
  show dk_PJ E 160 [(4, 141)] [] 159 (dk_up σ38 141 25 158)
  rw [← eσ39]
  refine dk_aload_n (pc' := 161) hE dX11_init_160 rfl rfl rfl ?_
  refine dk_bipush (pc' := 163) hE dX11_init_161 (by decide) rfl ?_
  refine dk_newa (ay := .long) (pc' := 165) (n' := 160) (S := 87) (tc := 3) (len := 32) hE wa_long rfl (by decide) dX11_init_163 rfl rfl (by decide) rfl (by decide) ⟨by decide, by rw [tt_159, tt_142, tt_190] <;> decide, by rw [tt_142, tt_159] <;> decide, by rw [tt_160, tt_159]⟩ (by decide) rfl (fun σ40 eσ40 => ?_)
  refine dk_putF (pc' := 168) hE fl_X11_67 dX11_init_165 hi ⟨_, rfl, rfl⟩ ⟨by decide, by decide, by decide⟩ rfl (fun _ => trivial) trivial rfl ?_
  obtain ⟨σ41, eσ41⟩ : ∃ q : dkS, q = dk_up σ40 141 26 159 := ⟨_, rfl⟩
  show dk_PJ E 168 [(4, 141)] [] 160 (dk_up σ40 141 26 159)
  rw [← eσ41]
  refine dk_aload_n (pc' := 169) hE dX11_init_168 rfl rfl rfl ?_
  refine dk_bipush (pc' := 171) hE dX11_init_169 (by decide) rfl ?_
  refine dk_newa (ay := .int) (pc' := 173) (n' := 161) (S := 88) (tc := 0) (len := 16) hE wa_int rfl (by decide) dX11_init_171 rfl rfl (by decide) rfl (by decide) ⟨by decide, by rw [tt_160, tt_142, tt_190] <;> decide, by rw [tt_142, tt_160] <;> decide, by rw [tt_161, tt_160]⟩ (by decide) rfl (fun σ42 eσ42 => ?_)
  refine dk_dup (pc' := 174) hE dX11_init_173 (show (4 : Nat) ≠ 3 by decide) rfl ?_
  refine dk_iconst (pc' := 175) hE dX11_init_174 (by decide) rfl ?_
  refine dk_iconst (pc' := 176) hE dX11_init_175 (by decide) rfl ?_
  refine dk_iast (pc' := 177) (S := 88) hE dX11_init_176 ⟨by decide, by decide, by decide⟩ rfl (by decide) (fun h => h.1 rfl) trivial rfl ?_
  obtain ⟨σ43, eσ43⟩ : ∃ q : dkS, q = dk_up σ42 160 0 0 := ⟨_, rfl⟩
  rw [← eσ43]
  refine dk_dup (pc' := 178) hE dX11_init_177 (show (4 : Nat) ≠ 3 by decide) rfl ?_
  refine dk_iconst (pc' := 179) hE dX11_init_178 (by decide) rfl ?_
  refine dk_iconst (pc' := 180) hE dX11_init_179 (by decide) rfl ?_
  refine dk_iast (pc' := 181) (S := 88) hE dX11_init_180 ⟨by decide, by decide, by decide⟩ rfl (by decide) (fun h => h.1 rfl) trivial rfl ?_
  obtain ⟨σ44, eσ44⟩ : ∃ q : dkS, q = dk_up σ43 160 1 1 := ⟨_, rfl⟩
  rw [← eσ44]
  refine dk_dup (pc' := 182) hE dX11_init_181 (show (4 : Nat) ≠ 3 by decide) rfl ?_
  refine dk_iconst (pc' := 183) hE dX11_init_182 (by decide) rfl ?_
  refine dk_iconst (pc' := 184) hE dX11_init_183 (by decide) rfl ?_
  refine dk_iast (pc' := 185) (S := 88) hE dX11_init_184 ⟨by decide, by decide, by decide⟩ rfl (by decide) (fun h => h.1 rfl) trivial rfl ?_
  obtain ⟨σ45, eσ45⟩ : ∃ q : dkS, q = dk_up σ44 160 2 2 := ⟨_, rfl⟩
  rw [← eσ45]
  refine dk_dup (pc' := 186) hE dX11_init_185 (show (4 : Nat) ≠ 3 by decide) rfl ?_
  refine dk_iconst (pc' := 187) hE dX11_init_186 (by decide) rfl ?_
  refine dk_iconst (pc' := 188) hE dX11_init_187 (by decide) rfl ?_
  refine dk_iast (pc' := 189) (S := 88) hE dX11_init_188 ⟨by decide, by decide, by decide⟩ rfl (by decide) (fun h => h.1 rfl) trivial rfl ?_
  obtain ⟨σ46, eσ46⟩ : ∃ q : dkS, q = dk_up σ45 160 3 3 := ⟨_, rfl⟩
  rw [← eσ46]
  refine dk_dup (pc' := 190) hE dX11_init_189 (show (4 : Nat) ≠ 3 by decide) rfl ?_
  refine dk_iconst (pc' := 191) hE dX11_init_190 (by decide) rfl ?_
  refine dk_iconst (pc' := 192) hE dX11_init_191 (by decide) rfl ?_
  refine dk_iast (pc' := 193) (S := 88) hE dX11_init_192 ⟨by decide, by decide, by decide⟩ rfl (by decide) (fun h => h.1 rfl) trivial rfl ?_
  obtain ⟨σ47, eσ47⟩ : ∃ q : dkS, q = dk_up σ46 160 4 4 := ⟨_, rfl⟩
  rw [← eσ47]
  refine dk_dup (pc' := 194) hE dX11_init_193 (show (4 : Nat) ≠ 3 by decide) rfl ?_
  refine dk_iconst (pc' := 195) hE dX11_init_194 (by decide) rfl ?_
  refine dk_iconst (pc' := 196) hE dX11_init_195 (by decide) rfl ?_
  refine dk_iast (pc' := 197) (S := 88) hE dX11_init_196 ⟨by decide, by decide, by decide⟩ rfl (by decide) (fun h => h.1 rfl) trivial rfl ?_
  obtain ⟨σ48, eσ48⟩ : ∃ q : dkS, q = dk_up σ47 160 5 5 := ⟨_, rfl⟩
  rw [← eσ48]
  refine dk_dup (pc' := 198) hE dX11_init_197 (show (4 : Nat) ≠ 3 by decide) rfl ?_
  refine dk_bipush (pc' := 200) hE dX11_init_198 (by decide) rfl ?_
  refine dk_iconst (pc' := 201) hE dX11_init_200 (by decide) rfl ?_
  refine dk_iast (pc' := 202) (S := 88) hE dX11_init_201 ⟨by decide, by decide, by decide⟩ rfl (by decide) (fun h => h.1 rfl) trivial rfl ?_
  obtain ⟨σ49, eσ49⟩ : ∃ q : dkS, q = dk_up σ48 160 6 4 := ⟨_, rfl⟩
  rw [← eσ49]
  refine dk_dup (pc' := 203) hE dX11_init_202 (show (4 : Nat) ≠ 3 by decide) rfl ?_
  refine dk_bipush (pc' := 205) hE dX11_init_203 (by decide) rfl ?_
  refine dk_iconst (pc' := 206) hE dX11_init_205 (by decide) rfl ?_
  refine dk_iast (pc' := 207) (S := 88) hE dX11_init_206 ⟨by decide, by decide, by decide⟩ rfl (by decide) (fun h => h.1 rfl) trivial rfl ?_
  obtain ⟨σ50, eσ50⟩ : ∃ q : dkS, q = dk_up σ49 160 7 4 := ⟨_, rfl⟩
  rw [← eσ50]
  refine dk_dup (pc' := 208) hE dX11_init_207 (show (4 : Nat) ≠ 3 by decide) rfl ?_
  refine dk_bipush (pc' := 210) hE dX11_init_208 (by decide) rfl ?_
  refine dk_iconst (pc' := 211) hE dX11_init_210 (by decide) rfl ?_
  refine dk_iast (pc' := 212) (S := 88) hE dX11_init_211 ⟨by decide, by decide, by decide⟩ rfl (by decide) (fun h => h.1 rfl) trivial rfl ?_
  obtain ⟨σ51, eσ51⟩ : ∃ q : dkS, q = dk_up σ50 160 8 0 := ⟨_, rfl⟩
  rw [← eσ51]
  refine dk_dup (pc' := 213) hE dX11_init_212 (show (4 : Nat) ≠ 3 by decide) rfl ?_
  refine dk_bipush (pc' := 215) hE dX11_init_213 (by decide) rfl ?_
  refine dk_iconst (pc' := 216) hE dX11_init_215 (by decide) rfl ?_
  refine dk_iast (pc' := 217) (S := 88) hE dX11_init_216 ⟨by decide, by decide, by decide⟩ rfl (by decide) (fun h => h.1 rfl) trivial rfl ?_
  obtain ⟨σ52, eσ52⟩ : ∃ q : dkS, q = dk_up σ51 160 9 1 := ⟨_, rfl⟩
  rw [← eσ52]
  refine dk_dup (pc' := 218) hE dX11_init_217 (show (4 : Nat) ≠ 3 by decide) rfl ?_
  refine dk_bipush (pc' := 220) hE dX11_init_218 (by decide) rfl ?_
  refine dk_iconst (pc' := 221) hE dX11_init_220 (by decide) rfl ?_
  refine dk_iast (pc' := 222) (S := 88) hE dX11_init_221 ⟨by decide, by decide, by decide⟩ rfl (by decide) (fun h => h.1 rfl) trivial rfl ?_
  obtain ⟨σ53, eσ53⟩ : ∃ q : dkS, q = dk_up σ52 160 10 2 := ⟨_, rfl⟩
  rw [← eσ53]
  refine dk_dup (pc' := 223) hE dX11_init_222 (show (4 : Nat) ≠ 3 by decide) rfl ?_
  refine dk_bipush (pc' := 225) hE dX11_init_223 (by decide) rfl ?_
  refine dk_iconst (pc' := 226) hE dX11_init_225 (by decide) rfl ?_
  refine dk_iast (pc' := 227) (S := 88) hE dX11_init_226 ⟨by decide, by decide, by decide⟩ rfl (by decide) (fun h => h.1 rfl) trivial rfl ?_
  obtain ⟨σ54, eσ54⟩ : ∃ q : dkS, q = dk_up σ53 160 11 3 := ⟨_, rfl⟩
  rw [← eσ54]
  refine dk_dup (pc' := 228) hE dX11_init_227 (show (4 : Nat) ≠ 3 by decide) rfl ?_
  refine dk_bipush (pc' := 230) hE dX11_init_228 (by decide) rfl ?_
  refine dk_iconst (pc' := 231) hE dX11_init_230 (by decide) rfl ?_
  refine dk_iast (pc' := 232) (S := 88) hE dX11_init_231 ⟨by decide, by decide, by decide⟩ rfl (by decide) (fun h => h.1 rfl) trivial rfl ?_
  obtain ⟨σ55, eσ55⟩ : ∃ q : dkS, q = dk_up σ54 160 12 4 := ⟨_, rfl⟩
  rw [← eσ55]
  refine dk_dup (pc' := 233) hE dX11_init_232 (show (4 : Nat) ≠ 3 by decide) rfl ?_
  refine dk_bipush (pc' := 235) hE dX11_init_233 (by decide) rfl ?_
  refine dk_iconst (pc' := 236) hE dX11_init_235 (by decide) rfl ?_
  refine dk_iast (pc' := 237) (S := 88) hE dX11_init_236 ⟨by decide, by decide, by decide⟩ rfl (by decide) (fun h => h.1 rfl) trivial rfl ?_
  obtain ⟨σ56, eσ56⟩ : ∃ q : dkS, q = dk_up σ55 160 13 5 := ⟨_, rfl⟩
  rw [← eσ56]
  refine dk_dup (pc' := 238) hE dX11_init_237 (show (4 : Nat) ≠ 3 by decide) rfl ?_
  refine dk_bipush (pc' := 240) hE dX11_init_238 (by decide) rfl ?_
  refine dk_iconst (pc' := 241) hE dX11_init_240 (by decide) rfl ?_
  refine dk_iast (pc' := 242) (S := 88) hE dX11_init_241 ⟨by decide, by decide, by decide⟩ rfl (by decide) (fun h => h.1 rfl) trivial rfl ?_
  obtain ⟨σ57, eσ57⟩ : ∃ q : dkS, q = dk_up σ56 160 14 4 := ⟨_, rfl⟩
  rw [← eσ57]
  refine dk_dup (pc' := 243) hE dX11_init_242 (show (4 : Nat) ≠ 3 by decide) rfl ?_
  refine dk_bipush (pc' := 245) hE dX11_init_243 (by decide) rfl ?_
  refine dk_iconst (pc' := 246) hE dX11_init_245 (by decide) rfl ?_
  refine dk_iast (pc' := 247) (S := 88) hE dX11_init_246 ⟨by decide, by decide, by decide⟩ rfl (by decide) (fun h => h.1 rfl) trivial rfl ?_
  obtain ⟨σ58, eσ58⟩ : ∃ q : dkS, q = dk_up σ57 160 15 4 := ⟨_, rfl⟩
  rw [← eσ58]
  refine dk_putF (pc' := 250) hE fl_X11_71 dX11_init_247 hi ⟨_, rfl, rfl⟩ ⟨by decide, by decide, by decide⟩ rfl (fun _ => trivial) trivial rfl ?_
  obtain ⟨σ59, eσ59⟩ : ∃ q : dkS, q = dk_up σ58 141 29 160 := ⟨_, rfl⟩
  show dk_PJ E 250 [(4, 141)] [] 161 (dk_up σ58 141 29 160)
  rw [← eσ59]
  refine dk_aload_n (pc' := 251) hE dX11_init_250 rfl rfl rfl ?_
  refine dk_bipush (pc' := 253) hE dX11_init_251 (by decide) rfl ?_
  refine dk_newa (ay := .int) (pc' := 255) (n' := 162) (S := 89) (tc := 0) (len := 7) hE wa_int rfl (by decide) dX11_init_253 rfl rfl (by decide) rfl (by decide) ⟨by decide, by rw [tt_161, tt_142, tt_190] <;> decide, by rw [tt_142, tt_161] <;> decide, by rw [tt_162, tt_161]⟩ (by decide) rfl (fun σ60 eσ60 => ?_)
  refine dk_putF (pc' := 258) hE fl_X11_74 dX11_init_255 hi ⟨_, rfl, rfl⟩ ⟨by decide, by decide, by decide⟩ rfl (fun _ => trivial) trivial rfl ?_
  obtain ⟨σ61, eσ61⟩ : ∃ q : dkS, q = dk_up σ60 141 32 161 := ⟨_, rfl⟩
  show dk_PJ E 258 [(4, 141)] [] 162 (dk_up σ60 141 32 161)
  rw [← eσ61]
  refine dk_aload_n (pc' := 259) hE dX11_init_258 rfl rfl rfl ?_
  refine dk_bipush (pc' := 261) hE dX11_init_259 (by decide) rfl ?_
  refine dk_newa (ay := .int) (pc' := 263) (n' := 163) (S := 90) (tc := 0) (len := 21) hE wa_int rfl (by decide) dX11_init_261 rfl rfl (by decide) rfl (by decide) ⟨by decide, by rw [tt_162, tt_142, tt_190] <;> decide, by rw [tt_142, tt_162] <;> decide, by rw [tt_163, tt_162]⟩ (by decide) rfl (fun σ62 eσ62 => ?_)
  refine dk_putF (pc' := 266) hE fl_X11_77 dX11_init_263 hi ⟨_, rfl, rfl⟩ ⟨by decide, by decide, by decide⟩ rfl (fun _ => trivial) trivial rfl ?_
  obtain ⟨σ63, eσ63⟩ : ∃ q : dkS, q = dk_up σ62 141 33 162 := ⟨_, rfl⟩
  show dk_PJ E 266 [(4, 141)] [] 163 (dk_up σ62 141 33 162)
  rw [← eσ63]
  refine dk_aload_n (pc' := 267) hE dX11_init_266 rfl rfl rfl ?_
  refine dk_bipush (pc' := 269) hE dX11_init_267 (by decide) rfl ?_
  refine dk_newa (ay := .int) (pc' := 271) (n' := 164) (S := 91) (tc := 0) (len := 21) hE wa_int rfl (by decide) dX11_init_269 rfl rfl (by decide) rfl (by decide) ⟨by decide, by rw [tt_163, tt_142, tt_190] <;> decide, by rw [tt_142, tt_163] <;> decide, by rw [tt_164, tt_163]⟩ (by decide) rfl (fun σ64 eσ64 => ?_)
  refine dk_putF (pc' := 274) hE fl_X11_80 dX11_init_271 hi ⟨_, rfl, rfl⟩ ⟨by decide, by decide, by decide⟩ rfl (fun _ => trivial) trivial rfl ?_
  obtain ⟨σ65, eσ65⟩ : ∃ q : dkS, q = dk_up σ64 141 34 163 := ⟨_, rfl⟩
  show dk_PJ E 274 [(4, 141)] [] 164 (dk_up σ64 141 34 163)
  rw [← eσ65]
  refine dk_aload_n (pc' := 275) hE dX11_init_274 rfl rfl rfl ?_
  refine dk_sipush (pc' := 278) hE dX11_init_275 (by decide) rfl ?_
  refine dk_newa (ay := .int) (pc' := 280) (n' := 165) (S := 92) (tc := 0) (len := 4200) hE wa_int rfl (by decide) dX11_init_278 rfl rfl (by decide) rfl (by decide) ⟨by decide, by rw [tt_164, tt_142, tt_190] <;> decide, by rw [tt_142, tt_164] <;> decide, by rw [tt_165, tt_164]⟩ (by decide) rfl (fun σ66 eσ66 => ?_)
  refine dk_putF (pc' := 283) hE fl_X11_83 dX11_init_280 hi ⟨_, rfl, rfl⟩ ⟨by decide, by decide, by decide⟩ rfl (fun _ => trivial) trivial rfl ?_
  obtain ⟨σ67, eσ67⟩ : ∃ q : dkS, q = dk_up σ66 141 35 164 := ⟨_, rfl⟩
  show dk_PJ E 283 [(4, 141)] [] 165 (dk_up σ66 141 35 164)
  rw [← eσ67]
  refine dk_aload_n (pc' := 284) hE dX11_init_283 rfl rfl rfl ?_
  refine dk_sipush (pc' := 287) hE dX11_init_284 (by decide) rfl ?_
  refine dk_newa (ay := .int) (pc' := 289) (n' := 166) (S := 93) (tc := 0) (len := 4200) hE wa_int rfl (by decide) dX11_init_287 rfl rfl (by decide) rfl (by decide) ⟨by decide, by rw [tt_165, tt_142, tt_190] <;> decide, by rw [tt_142, tt_165] <;> decide, by rw [tt_166, tt_165]⟩ (by decide) rfl (fun σ68 eσ68 => ?_)
  refine dk_putF (pc' := 292) hE fl_X11_86 dX11_init_289 hi ⟨_, rfl, rfl⟩ ⟨by decide, by decide, by decide⟩ rfl (fun _ => trivial) trivial rfl ?_
  obtain ⟨σ69, eσ69⟩ : ∃ q : dkS, q = dk_up σ68 141 36 165 := ⟨_, rfl⟩
  show dk_PJ E 292 [(4, 141)] [] 166 (dk_up σ68 141 36 165)
  rw [← eσ69]
  refine dk_aload_n (pc' := 293) hE dX11_init_292 rfl rfl rfl ?_
  refine dk_bipush (pc' := 295) hE dX11_init_293 (by decide) rfl ?_
  refine dk_newa (ay := .int) (pc' := 297) (n' := 167) (S := 94) (tc := 0) (len := 80) hE wa_int rfl (by decide) dX11_init_295 rfl rfl (by decide) rfl (by decide) ⟨by decide, by rw [tt_166, tt_142, tt_190] <;> decide, by rw [tt_142, tt_166] <;> decide, by rw [tt_167, tt_166]⟩ (by decide) rfl (fun σ70 eσ70 => ?_)
  refine dk_putF (pc' := 300) hE fl_X11_89 dX11_init_297 hi ⟨_, rfl, rfl⟩ ⟨by decide, by decide, by decide⟩ rfl (fun _ => trivial) trivial rfl ?_
  obtain ⟨σ71, eσ71⟩ : ∃ q : dkS, q = dk_up σ70 141 37 166 := ⟨_, rfl⟩
  show dk_PJ E 300 [(4, 141)] [] 167 (dk_up σ70 141 37 166)
  rw [← eσ71]
  refine dk_aload_n (pc' := 301) hE dX11_init_300 rfl rfl rfl ?_
  refine dk_bipush (pc' := 303) hE dX11_init_301 (by decide) rfl ?_
  refine dk_newa (ay := .int) (pc' := 305) (n' := 168) (S := 95) (tc := 0) (len := 80) hE wa_int rfl (by decide) dX11_init_303 rfl rfl (by decide) rfl (by decide) ⟨by decide, by rw [tt_167, tt_142, tt_190] <;> decide, by rw [tt_142, tt_167] <;> decide, by rw [tt_168, tt_167]⟩ (by decide) rfl (fun σ72 eσ72 => ?_)
  refine dk_putF (pc' := 308) hE fl_X11_92 dX11_init_305 hi ⟨_, rfl, rfl⟩ ⟨by decide, by decide, by decide⟩ rfl (fun _ => trivial) trivial rfl ?_
  obtain ⟨σ73, eσ73⟩ : ∃ q : dkS, q = dk_up σ72 141 38 167 := ⟨_, rfl⟩
  show dk_PJ E 308 [(4, 141)] [] 168 (dk_up σ72 141 38 167)
  rw [← eσ73]
  refine dk_aload_n (pc' := 309) hE dX11_init_308 rfl rfl rfl ?_
  refine dk_bipush (pc' := 311) hE dX11_init_309 (by decide) rfl ?_
  refine dk_newa (ay := .int) (pc' := 313) (n' := 169) (S := 96) (tc := 0) (len := 90) hE wa_int rfl (by decide) dX11_init_311 rfl rfl (by decide) rfl (by decide) ⟨by decide, by rw [tt_168, tt_142, tt_190] <;> decide, by rw [tt_142, tt_168] <;> decide, by rw [tt_169, tt_168]⟩ (by decide) rfl (fun σ74 eσ74 => ?_)
  refine dk_putF (pc' := 316) hE fl_X11_95 dX11_init_313 hi ⟨_, rfl, rfl⟩ ⟨by decide, by decide, by decide⟩ rfl (fun _ => trivial) trivial rfl ?_
  obtain ⟨σ75, eσ75⟩ : ∃ q : dkS, q = dk_up σ74 141 39 168 := ⟨_, rfl⟩
  show dk_PJ E 316 [(4, 141)] [] 169 (dk_up σ74 141 39 168)
  rw [← eσ75]
  refine dk_aload_n (pc' := 317) hE dX11_init_316 rfl rfl rfl ?_
  refine dk_bipush (pc' := 319) hE dX11_init_317 (by decide) rfl ?_
  refine dk_newa (ay := .boolean) (pc' := 321) (n' := 170) (S := 97) (tc := 2) (len := 21) hE wa_boolean rfl (by decide) dX11_init_319 rfl rfl (by decide) rfl (by decide) ⟨by decide, by rw [tt_169, tt_142, tt_190] <;> decide, by rw [tt_142, tt_169] <;> decide, by rw [tt_170, tt_169]⟩ (by decide) rfl (fun σ76 eσ76 => ?_)
  refine dk_putF (pc' := 324) hE fl_X11_98 dX11_init_321 hi ⟨_, rfl, rfl⟩ ⟨by decide, by decide, by decide⟩ rfl (fun _ => trivial) trivial rfl ?_
  obtain ⟨σ77, eσ77⟩ : ∃ q : dkS, q = dk_up σ76 141 40 169 := ⟨_, rfl⟩
  show dk_PJ E 324 [(4, 141)] [] 170 (dk_up σ76 141 40 169)
  rw [← eσ77]
  refine dk_aload_n (pc' := 325) hE dX11_init_324 rfl rfl rfl ?_
  refine dk_sipush (pc' := 328) hE dX11_init_325 (by decide) rfl ?_
  refine dk_newa (ay := .int) (pc' := 330) (n' := 171) (S := 98) (tc := 0) (len := 200) hE wa_int rfl (by decide) dX11_init_328 rfl rfl (by decide) rfl (by decide) ⟨by decide, by rw [tt_170, tt_142, tt_190] <;> decide, by rw [tt_142, tt_170] <;> decide, by rw [tt_171, tt_170]⟩ (by decide) rfl (fun σ78 eσ78 => ?_)
  refine dk_putF (pc' := 333) hE fl_X11_101 dX11_init_330 hi ⟨_, rfl, rfl⟩ ⟨by decide, by decide, by decide⟩ rfl (fun _ => trivial) trivial rfl ?_
  obtain ⟨σ79, eσ79⟩ : ∃ q : dkS, q = dk_up σ78 141 46 170 := ⟨_, rfl⟩
  show dk_PJ E 333 [(4, 141)] [] 171 (dk_up σ78 141 46 170)
  rw [← eσ79]
  refine dk_aload_n (pc' := 334) hE dX11_init_333 rfl rfl rfl ?_
  refine dk_sipush (pc' := 337) hE dX11_init_334 (by decide) rfl ?_
  refine dk_newa (ay := .int) (pc' := 339) (n' := 172) (S := 99) (tc := 0) (len := 200) hE wa_int rfl (by decide) dX11_init_337 rfl rfl (by decide) rfl (by decide) ⟨by decide, by rw [tt_171, tt_142, tt_190] <;> decide, by rw [tt_142, tt_171] <;> decide, by rw [tt_172, tt_171]⟩ (by decide) rfl (fun σ80 eσ80 => ?_)
  refine dk_putF (pc' := 342) hE fl_X11_104 dX11_init_339 hi ⟨_, rfl, rfl⟩ ⟨by decide, by decide, by decide⟩ rfl (fun _ => trivial) trivial rfl ?_
  obtain ⟨σ81, eσ81⟩ : ∃ q : dkS, q = dk_up σ80 141 47 171 := ⟨_, rfl⟩
  show dk_PJ E 342 [(4, 141)] [] 172 (dk_up σ80 141 47 171)
  rw [← eσ81]
  refine dk_aload_n (pc' := 343) hE dX11_init_342 rfl rfl rfl ?_
  refine dk_sipush (pc' := 346) hE dX11_init_343 (by decide) rfl ?_
  refine dk_newa (ay := .int) (pc' := 348) (n' := 173) (S := 100) (tc := 0) (len := 200) hE wa_int rfl (by decide) dX11_init_346 rfl rfl (by decide) rfl (by decide) ⟨by decide, by rw [tt_172, tt_142, tt_190] <;> decide, by rw [tt_142, tt_172] <;> decide, by rw [tt_173, tt_172]⟩ (by decide) rfl (fun σ82 eσ82 => ?_)
  refine dk_putF (pc' := 351) hE fl_X11_107 dX11_init_348 hi ⟨_, rfl, rfl⟩ ⟨by decide, by decide, by decide⟩ rfl (fun _ => trivial) trivial rfl ?_
  obtain ⟨σ83, eσ83⟩ : ∃ q : dkS, q = dk_up σ82 141 48 172 := ⟨_, rfl⟩
  show dk_PJ E 351 [(4, 141)] [] 173 (dk_up σ82 141 48 172)
  rw [← eσ83]
  refine dk_aload_n (pc' := 352) hE dX11_init_351 rfl rfl rfl ?_
  refine dk_sipush (pc' := 355) hE dX11_init_352 (by decide) rfl ?_
  refine dk_newa (ay := .int) (pc' := 357) (n' := 174) (S := 101) (tc := 0) (len := 200) hE wa_int rfl (by decide) dX11_init_355 rfl rfl (by decide) rfl (by decide) ⟨by decide, by rw [tt_173, tt_142, tt_190] <;> decide, by rw [tt_142, tt_173] <;> decide, by rw [tt_174, tt_173]⟩ (by decide) rfl (fun σ84 eσ84 => ?_)
  refine dk_putF (pc' := 360) hE fl_X11_110 dX11_init_357 hi ⟨_, rfl, rfl⟩ ⟨by decide, by decide, by decide⟩ rfl (fun _ => trivial) trivial rfl ?_
  obtain ⟨σ85, eσ85⟩ : ∃ q : dkS, q = dk_up σ84 141 49 173 := ⟨_, rfl⟩
  show dk_PJ E 360 [(4, 141)] [] 174 (dk_up σ84 141 49 173)
  rw [← eσ85]
  refine dk_aload_n (pc' := 361) hE dX11_init_360 rfl rfl rfl ?_
  refine dk_sipush (pc' := 364) hE dX11_init_361 (by decide) rfl ?_
  refine dk_newa (ay := .int) (pc' := 366) (n' := 175) (S := 102) (tc := 0) (len := 200) hE wa_int rfl (by decide) dX11_init_364 rfl rfl (by decide) rfl (by decide) ⟨by decide, by rw [tt_174, tt_142, tt_190] <;> decide, by rw [tt_142, tt_174] <;> decide, by rw [tt_175, tt_174]⟩ (by decide) rfl (fun σ86 eσ86 => ?_)
  refine dk_putF (pc' := 369) hE fl_X11_113 dX11_init_366 hi ⟨_, rfl, rfl⟩ ⟨by decide, by decide, by decide⟩ rfl (fun _ => trivial) trivial rfl ?_
  obtain ⟨σ87, eσ87⟩ : ∃ q : dkS, q = dk_up σ86 141 50 174 := ⟨_, rfl⟩
  show dk_PJ E 369 [(4, 141)] [] 175 (dk_up σ86 141 50 174)
  rw [← eσ87]
  refine dk_aload_n (pc' := 370) hE dX11_init_369 rfl rfl rfl ?_
  refine dk_sipush (pc' := 373) hE dX11_init_370 (by decide) rfl ?_
  refine dk_newa (ay := .int) (pc' := 375) (n' := 176) (S := 103) (tc := 0) (len := 200) hE wa_int rfl (by decide) dX11_init_373 rfl rfl (by decide) rfl (by decide) ⟨by decide, by rw [tt_175, tt_142, tt_190] <;> decide, by rw [tt_142, tt_175] <;> decide, by rw [tt_176, tt_175]⟩ (by decide) rfl (fun σ88 eσ88 => ?_)
  refine dk_putF (pc' := 378) hE fl_X11_116 dX11_init_375 hi ⟨_, rfl, rfl⟩ ⟨by decide, by decide, by decide⟩ rfl (fun _ => trivial) trivial rfl ?_
  obtain ⟨σ89, eσ89⟩ : ∃ q : dkS, q = dk_up σ88 141 51 175 := ⟨_, rfl⟩
  show dk_PJ E 378 [(4, 141)] [] 176 (dk_up σ88 141 51 175)
  rw [← eσ89]
  refine dk_aload_n (pc' := 379) hE dX11_init_378 rfl rfl rfl ?_
  refine dk_bipush (pc' := 381) hE dX11_init_379 (by decide) rfl ?_
  refine dk_newa (ay := .boolean) (pc' := 383) (n' := 177) (S := 104) (tc := 2) (len := 120) hE wa_boolean rfl (by decide) dX11_init_381 rfl rfl (by decide) rfl (by decide) ⟨by decide, by rw [tt_176, tt_142, tt_190] <;> decide, by rw [tt_142, tt_176] <;> decide, by rw [tt_177, tt_176]⟩ (by decide) rfl (fun σ90 eσ90 => ?_)
  refine dk_putF (pc' := 386) hE fl_X11_119 dX11_init_383 hi ⟨_, rfl, rfl⟩ ⟨by decide, by decide, by decide⟩ rfl (fun _ => trivial) trivial rfl ?_
  obtain ⟨σ91, eσ91⟩ : ∃ q : dkS, q = dk_up σ90 141 62 176 := ⟨_, rfl⟩
  show dk_PJ E 386 [(4, 141)] [] 177 (dk_up σ90 141 62 176)
  rw [← eσ91]
  refine dk_aload_n (pc' := 387) hE dX11_init_386 rfl rfl rfl ?_
  refine dk_bipush (pc' := 389) hE dX11_init_387 (by decide) rfl ?_
  refine dk_newa (ay := .int) (pc' := 391) (n' := 178) (S := 105) (tc := 0) (len := 120) hE wa_int rfl (by decide) dX11_init_389 rfl rfl (by decide) rfl (by decide) ⟨by decide, by rw [tt_177, tt_142, tt_190] <;> decide, by rw [tt_142, tt_177] <;> decide, by rw [tt_178, tt_177]⟩ (by decide) rfl (fun σ92 eσ92 => ?_)
  refine dk_putF (pc' := 394) hE fl_X11_122 dX11_init_391 hi ⟨_, rfl, rfl⟩ ⟨by decide, by decide, by decide⟩ rfl (fun _ => trivial) trivial rfl ?_
  obtain ⟨σ93, eσ93⟩ : ∃ q : dkS, q = dk_up σ92 141 63 177 := ⟨_, rfl⟩
  show dk_PJ E 394 [(4, 141)] [] 178 (dk_up σ92 141 63 177)
  rw [← eσ93]
  refine dk_aload_n (pc' := 395) hE dX11_init_394 rfl rfl rfl ?_
  refine dk_bipush (pc' := 397) hE dX11_init_395 (by decide) rfl ?_
  refine dk_newa (ay := .int) (pc' := 399) (n' := 179) (S := 106) (tc := 0) (len := 12) hE wa_int rfl (by decide) dX11_init_397 rfl rfl (by decide) rfl (by decide) ⟨by decide, by rw [tt_178, tt_142, tt_190] <;> decide, by rw [tt_142, tt_178] <;> decide, by rw [tt_179, tt_178]⟩ (by decide) rfl (fun σ94 eσ94 => ?_)
  refine dk_putF (pc' := 402) hE fl_X11_125 dX11_init_399 hi ⟨_, rfl, rfl⟩ ⟨by decide, by decide, by decide⟩ rfl (fun _ => trivial) trivial rfl ?_
  obtain ⟨σ95, eσ95⟩ : ∃ q : dkS, q = dk_up σ94 141 64 178 := ⟨_, rfl⟩
  show dk_PJ E 402 [(4, 141)] [] 179 (dk_up σ94 141 64 178)
  rw [← eσ95]
  refine dk_aload_n (pc' := 403) hE dX11_init_402 rfl rfl rfl ?_
  refine dk_bipush (pc' := 405) hE dX11_init_403 (by decide) rfl ?_
  refine dk_newa (ay := .int) (pc' := 407) (n' := 180) (S := 107) (tc := 0) (len := 12) hE wa_int rfl (by decide) dX11_init_405 rfl rfl (by decide) rfl (by decide) ⟨by decide, by rw [tt_179, tt_142, tt_190] <;> decide, by rw [tt_142, tt_179] <;> decide, by rw [tt_180, tt_179]⟩ (by decide) rfl (fun σ96 eσ96 => ?_)
  refine dk_putF (pc' := 410) hE fl_X11_128 dX11_init_407 hi ⟨_, rfl, rfl⟩ ⟨by decide, by decide, by decide⟩ rfl (fun _ => trivial) trivial rfl ?_
  obtain ⟨σ97, eσ97⟩ : ∃ q : dkS, q = dk_up σ96 141 65 179 := ⟨_, rfl⟩
  show dk_PJ E 410 [(4, 141)] [] 180 (dk_up σ96 141 65 179)
  rw [← eσ97]
  refine dk_aload_n (pc' := 411) hE dX11_init_410 rfl rfl rfl ?_
  refine dk_bipush (pc' := 413) hE dX11_init_411 (by decide) rfl ?_
  refine dk_newa (ay := .int) (pc' := 415) (n' := 181) (S := 108) (tc := 0) (len := 8) hE wa_int rfl (by decide) dX11_init_413 rfl rfl (by decide) rfl (by decide) ⟨by decide, by rw [tt_180, tt_142, tt_190] <;> decide, by rw [tt_142, tt_180] <;> decide, by rw [tt_181, tt_180]⟩ (by decide) rfl (fun σ98 eσ98 => ?_)
  refine dk_putF (pc' := 418) hE fl_X11_131 dX11_init_415 hi ⟨_, rfl, rfl⟩ ⟨by decide, by decide, by decide⟩ rfl (fun _ => trivial) trivial rfl ?_
  obtain ⟨σ99, eσ99⟩ : ∃ q : dkS, q = dk_up σ98 141 66 180 := ⟨_, rfl⟩
  show dk_PJ E 418 [(4, 141)] [] 181 (dk_up σ98 141 66 180)
  rw [← eσ99]
  refine dk_aload_n (pc' := 419) hE dX11_init_418 rfl rfl rfl ?_
  refine dk_sipush (pc' := 422) hE dX11_init_419 (by decide) rfl ?_
  refine dk_newa (ay := .int) (pc' := 424) (n' := 182) (S := 109) (tc := 0) (len := 8192) hE wa_int rfl (by decide) dX11_init_422 rfl rfl (by decide) rfl (by decide) ⟨by decide, by rw [tt_181, tt_142, tt_190] <;> decide, by rw [tt_142, tt_181] <;> decide, by rw [tt_182, tt_181]⟩ (by decide) rfl (fun σ100 eσ100 => ?_)
  refine dk_putF (pc' := 427) hE fl_X11_134 dX11_init_424 hi ⟨_, rfl, rfl⟩ ⟨by decide, by decide, by decide⟩ rfl (fun _ => trivial) trivial rfl ?_
  obtain ⟨σ101, eσ101⟩ : ∃ q : dkS, q = dk_up σ100 141 67 181 := ⟨_, rfl⟩
  show dk_PJ E 427 [(4, 141)] [] 182 (dk_up σ100 141 67 181)
  rw [← eσ101]
  refine dk_aload_n (pc' := 428) hE dX11_init_427 rfl rfl rfl ?_
  refine dk_sipush (pc' := 431) hE dX11_init_428 (by decide) rfl ?_
  refine dk_newa (ay := .long) (pc' := 433) (n' := 183) (S := 110) (tc := 3) (len := 9216) hE wa_long rfl (by decide) dX11_init_431 rfl rfl (by decide) rfl (by decide) ⟨by decide, by rw [tt_182, tt_142, tt_190] <;> decide, by rw [tt_142, tt_182] <;> decide, by rw [tt_183, tt_182]⟩ (by decide) rfl (fun σ102 eσ102 => ?_)
  refine dk_putF (pc' := 436) hE fl_X11_137 dX11_init_433 hi ⟨_, rfl, rfl⟩ ⟨by decide, by decide, by decide⟩ rfl (fun _ => trivial) trivial rfl ?_
  obtain ⟨σ103, eσ103⟩ : ∃ q : dkS, q = dk_up σ102 141 68 182 := ⟨_, rfl⟩
  show dk_PJ E 436 [(4, 141)] [] 183 (dk_up σ102 141 68 182)
  rw [← eσ103]
  refine dk_aload_n (pc' := 437) hE dX11_init_436 rfl rfl rfl ?_
  refine dk_sipush (pc' := 440) hE dX11_init_437 (by decide) rfl ?_
  refine dk_newa (ay := .int) (pc' := 442) (n' := 184) (S := 111) (tc := 0) (len := 9216) hE wa_int rfl (by decide) dX11_init_440 rfl rfl (by decide) rfl (by decide) ⟨by decide, by rw [tt_183, tt_142, tt_190] <;> decide, by rw [tt_142, tt_183] <;> decide, by rw [tt_184, tt_183]⟩ (by decide) rfl (fun σ104 eσ104 => ?_)
  refine dk_putF (pc' := 445) hE fl_X11_140 dX11_init_442 hi ⟨_, rfl, rfl⟩ ⟨by decide, by decide, by decide⟩ rfl (fun _ => trivial) trivial rfl ?_
  obtain ⟨σ105, eσ105⟩ : ∃ q : dkS, q = dk_up σ104 141 69 183 := ⟨_, rfl⟩
  show dk_PJ E 445 [(4, 141)] [] 184 (dk_up σ104 141 69 183)
  rw [← eσ105]
  refine dk_aload_n (pc' := 446) hE dX11_init_445 rfl rfl rfl ?_
  refine dk_bipush (pc' := 448) hE dX11_init_446 (by decide) rfl ?_
  refine dk_newa (ay := .int) (pc' := 450) (n' := 185) (S := 112) (tc := 0) (len := 9) hE wa_int rfl (by decide) dX11_init_448 rfl rfl (by decide) rfl (by decide) ⟨by decide, by rw [tt_184, tt_142, tt_190] <;> decide, by rw [tt_142, tt_184] <;> decide, by rw [tt_185, tt_184]⟩ (by decide) rfl (fun σ106 eσ106 => ?_)
  refine dk_putF (pc' := 453) hE fl_X11_143 dX11_init_450 hi ⟨_, rfl, rfl⟩ ⟨by decide, by decide, by decide⟩ rfl (fun _ => trivial) trivial rfl ?_
  obtain ⟨σ107, eσ107⟩ : ∃ q : dkS, q = dk_up σ106 141 73 184 := ⟨_, rfl⟩
  show dk_PJ E 453 [(4, 141)] [] 185 (dk_up σ106 141 73 184)
  rw [← eσ107]
  refine dk_aload_n (pc' := 454) hE dX11_init_453 rfl rfl rfl ?_
  refine dk_bipush (pc' := 456) hE dX11_init_454 (by decide) rfl ?_
  refine dk_newa (ay := .int) (pc' := 458) (n' := 186) (S := 113) (tc := 0) (len := 9) hE wa_int rfl (by decide) dX11_init_456 rfl rfl (by decide) rfl (by decide) ⟨by decide, by rw [tt_185, tt_142, tt_190] <;> decide, by rw [tt_142, tt_185] <;> decide, by rw [tt_186, tt_185]⟩ (by decide) rfl (fun σ108 eσ108 => ?_)
  refine dk_putF (pc' := 461) hE fl_X11_146 dX11_init_458 hi ⟨_, rfl, rfl⟩ ⟨by decide, by decide, by decide⟩ rfl (fun _ => trivial) trivial rfl ?_
  obtain ⟨σ109, eσ109⟩ : ∃ q : dkS, q = dk_up σ108 141 74 185 := ⟨_, rfl⟩
  show dk_PJ E 461 [(4, 141)] [] 186 (dk_up σ108 141 74 185)
  rw [← eσ109]
  refine dk_aload_n (pc' := 462) hE dX11_init_461 rfl rfl rfl ?_
  refine dk_bipush (pc' := 464) hE dX11_init_462 (by decide) rfl ?_
  refine dk_newa (ay := .int) (pc' := 466) (n' := 187) (S := 114) (tc := 0) (len := 9) hE wa_int rfl (by decide) dX11_init_464 rfl rfl (by decide) rfl (by decide) ⟨by decide, by rw [tt_186, tt_142, tt_190] <;> decide, by rw [tt_142, tt_186] <;> decide, by rw [tt_187, tt_186]⟩ (by decide) rfl (fun σ110 eσ110 => ?_)
  refine dk_putF (pc' := 469) hE fl_X11_149 dX11_init_466 hi ⟨_, rfl, rfl⟩ ⟨by decide, by decide, by decide⟩ rfl (fun _ => trivial) trivial rfl ?_
  obtain ⟨σ111, eσ111⟩ : ∃ q : dkS, q = dk_up σ110 141 75 186 := ⟨_, rfl⟩
  show dk_PJ E 469 [(4, 141)] [] 187 (dk_up σ110 141 75 186)
  rw [← eσ111]
  refine dk_aload_n (pc' := 470) hE dX11_init_469 rfl rfl rfl ?_
  refine dk_bipush (pc' := 472) hE dX11_init_470 (by decide) rfl ?_
  refine dk_newa (ay := .int) (pc' := 474) (n' := 188) (S := 115) (tc := 0) (len := 9) hE wa_int rfl (by decide) dX11_init_472 rfl rfl (by decide) rfl (by decide) ⟨by decide, by rw [tt_187, tt_142, tt_190] <;> decide, by rw [tt_142, tt_187] <;> decide, by rw [tt_188, tt_187]⟩ (by decide) rfl (fun σ112 eσ112 => ?_)
  refine dk_putF (pc' := 477) hE fl_X11_152 dX11_init_474 hi ⟨_, rfl, rfl⟩ ⟨by decide, by decide, by decide⟩ rfl (fun _ => trivial) trivial rfl ?_
  obtain ⟨σ113, eσ113⟩ : ∃ q : dkS, q = dk_up σ112 141 76 187 := ⟨_, rfl⟩
  show dk_PJ E 477 [(4, 141)] [] 188 (dk_up σ112 141 76 187)
  rw [← eσ113]
  refine dk_aload_n (pc' := 478) hE dX11_init_477 rfl rfl rfl ?_
  refine dk_bipush (pc' := 480) hE dX11_init_478 (by decide) rfl ?_
  refine dk_newa (ay := .int) (pc' := 482) (n' := 189) (S := 116) (tc := 0) (len := 9) hE wa_int rfl (by decide) dX11_init_480 rfl rfl (by decide) rfl (by decide) ⟨by decide, by rw [tt_188, tt_142, tt_190] <;> decide, by rw [tt_142, tt_188] <;> decide, by rw [tt_189, tt_188]⟩ (by decide) rfl (fun σ114 eσ114 => ?_)
  refine dk_putF (pc' := 485) hE fl_X11_155 dX11_init_482 hi ⟨_, rfl, rfl⟩ ⟨by decide, by decide, by decide⟩ rfl (fun _ => trivial) trivial rfl ?_
  obtain ⟨σ115, eσ115⟩ : ∃ q : dkS, q = dk_up σ114 141 77 188 := ⟨_, rfl⟩
  show dk_PJ E 485 [(4, 141)] [] 189 (dk_up σ114 141 77 188)
  rw [← eσ115]
  refine dk_aload_n (pc' := 486) hE dX11_init_485 rfl rfl rfl ?_
  refine dk_bipush (pc' := 488) hE dX11_init_486 (by decide) rfl ?_
  refine dk_newa (ay := .int) (pc' := 490) (n' := 190) (S := 117) (tc := 0) (len := 9) hE wa_int rfl (by decide) dX11_init_488 rfl rfl (by decide) rfl (by decide) ⟨by decide, by rw [tt_189, tt_142, tt_190] <;> decide, by rw [tt_142, tt_189] <;> decide, by rw [tt_190, tt_189]⟩ (by decide) rfl (fun σ116 eσ116 => ?_)
  refine dk_putF (pc' := 493) hE fl_X11_158 dX11_init_490 hi ⟨_, rfl, rfl⟩ ⟨by decide, by decide, by decide⟩ rfl (fun _ => trivial) trivial rfl ?_
  obtain ⟨σ117, eσ117⟩ : ∃ q : dkS, q = dk_up σ116 141 78 189 := ⟨_, rfl⟩
  show dk_PJ E 493 [(4, 141)] [] 190 (dk_up σ116 141 78 189)
  rw [← eσ117]
  refine dk_aload_n (pc' := 494) hE dX11_init_493 rfl rfl rfl ?_
  refine dk_iconst (pc' := 495) hE dX11_init_494 (by decide) rfl ?_
  refine dk_putf (pc' := 498) hE fl_X11_161 dX11_init_495 ⟨by decide, by decide, by decide⟩ rfl (fun h => h.1 rfl) trivial rfl ?_
  obtain ⟨σ118, eσ118⟩ : ∃ q : dkS, q = dk_up σ117 141 80 2 := ⟨_, rfl⟩
  show dk_PJ E 498 [(4, 141)] [] 190 (dk_up σ117 141 80 2)
  rw [← eσ118]
  have hσ : σ118 = dk_fr σ md_141 := by
    rw [eσ118, eσ117, eσ116, eσ115, eσ114, eσ113, eσ112, eσ111, eσ110, eσ109, eσ108, eσ107, eσ106, eσ105, eσ104, eσ103, eσ102, eσ101, eσ100, eσ99, eσ98, eσ97, eσ96, eσ95, eσ94, eσ93, eσ92, eσ91, eσ90, eσ89, eσ88, eσ87, eσ86, eσ85, eσ84, eσ83, eσ82, eσ81, eσ80, eσ79, eσ78, eσ77, eσ76, eσ75, eσ74, eσ73, eσ72, eσ71, eσ70, eσ69, eσ68, eσ67, eσ66, eσ65, eσ64, eσ63, eσ62, eσ61, eσ60, eσ59, eσ58, eσ57, eσ56, eσ55, eσ54, eσ53, eσ52, eσ51, eσ50, eσ49, eσ48, eσ47, eσ46, eσ45, eσ44, eσ43, eσ42, eσ41, eσ40, eσ39, eσ38, eσ37, eσ36, eσ35, eσ34, eσ33, eσ32, eσ31, eσ30, eσ29, eσ28, eσ27, eσ26, eσ25, eσ24, eσ23, eσ22, eσ21, eσ20, eσ19, eσ18, eσ17, eσ16, eσ15, eσ14, eσ13, eσ12, eσ11, eσ10, eσ9, eσ8, eσ7, eσ6, eσ5, eσ4, eσ3, eσ2, eσ1]
    rfl
  have hl : ∀ k j v : Int, dk_lk md_141 k j = some v → σ118 k j = v := fun k j v q => by rw [hσ]; exact dk_lk_ok q
  have hn : ∀ j : Int, dk_lk md_141 141 j = none → σ118 141 j = dk_dz (dk_stc (dk_site 141) j.toNat) := fun j q => by rw [hσ, dk_lk_no q]; exact hF j
  have hz : ∀ c : Int, dk_zc md_141 c = true → ∀ j : Int, σ118 c j = dk_dz (dk_stc (dk_site c) j.toNat) := fun c q j => by rw [hσ]; exact dk_zc_ok q j
  have ho : ∀ a j : Int, a ≠ 141 → ¬ (142 ≤ a ∧ a < 190) → σ118 a j = σ a j := fun a j h1 h2 => by rw [hσ]; exact dk_fr_out h1 h2 (by decide +kernel)
  clear eσ118 eσ117 eσ116 eσ115 eσ114 eσ113 eσ112 eσ111 eσ110 eσ109 eσ108 eσ107 eσ106 eσ105 eσ104 eσ103 eσ102 eσ101 eσ100 eσ99 eσ98 eσ97 eσ96 eσ95 eσ94 eσ93 eσ92 eσ91 eσ90 eσ89 eσ88 eσ87 eσ86 eσ85 eσ84 eσ83 eσ82 eσ81 eσ80 eσ79 eσ78 eσ77 eσ76 eσ75 eσ74 eσ73 eσ72 eσ71 eσ70 eσ69 eσ68 eσ67 eσ66 eσ65 eσ64 eσ63 eσ62 eσ61 eσ60 eσ59 eσ58 eσ57 eσ56 eσ55 eσ54 eσ53 eσ52 eσ51 eσ50 eσ49 eσ48 eσ47 eσ46 eσ45 eσ44 eσ43 eσ42 eσ41 eσ40 eσ39 eσ38 eσ37 eσ36 eσ35 eσ34 eσ33 eσ32 eσ31 eσ30 eσ29 eσ28 eσ27 eσ26 eσ25 eσ24 eσ23 eσ22 eσ21 eσ20 eσ19 eσ18 eσ17 eσ16 eσ15 eσ14 eσ13 eσ12 eσ11 eσ10 eσ9 eσ8 eσ7 eσ6 eσ5 eσ4 eσ3 eσ2 eσ1 hσ
  have hT141 : ∀ j : Nat, j < dk_len (dk_site 141) → dk_Ty 141 j (σ118 141 j) := fun j hj => by
    have hj : j < 82 := hj
    refine dk_cs (P := fun j : Nat => dk_Ty 141 (j : Int) (σ118 141 (j : Int))) (N := 81) hj ?_ (fun hj => ?_)
    · exact (ty_11_81 is_141).mpr trivial
    refine dk_cs (P := fun j : Nat => dk_Ty 141 (j : Int) (σ118 141 (j : Int))) (N := 80) hj ?_ (fun hj => ?_)
    · exact (ty_11_80 is_141).mpr (by rw [show σ118 141 ((80 : Nat) : Int) = 2 from (hl 141 80 2 (by decide +kernel))] <;> decide)
    refine dk_cs (P := fun j : Nat => dk_Ty 141 (j : Int) (σ118 141 (j : Int))) (N := 79) hj ?_ (fun hj => ?_)
    · exact (ty_11_79 is_141).mpr (by rw [show σ118 141 ((79 : Nat) : Int) = 0 from ((hn 79 (by decide +kernel)).trans rfl)] <;> decide)
    refine dk_cs (P := fun j : Nat => dk_Ty 141 (j : Int) (σ118 141 (j : Int))) (N := 78) hj ?_ (fun hj => ?_)
    · exact (ty_11_78 is_141).mpr (by rw [show σ118 141 ((78 : Nat) : Int) = 189 from (hl 141 78 189 (by decide +kernel))] <;> decide)
    refine dk_cs (P := fun j : Nat => dk_Ty 141 (j : Int) (σ118 141 (j : Int))) (N := 77) hj ?_ (fun hj => ?_)
    · exact (ty_11_77 is_141).mpr (by rw [show σ118 141 ((77 : Nat) : Int) = 188 from (hl 141 77 188 (by decide +kernel))] <;> decide)
    refine dk_cs (P := fun j : Nat => dk_Ty 141 (j : Int) (σ118 141 (j : Int))) (N := 76) hj ?_ (fun hj => ?_)
    · exact (ty_11_76 is_141).mpr (by rw [show σ118 141 ((76 : Nat) : Int) = 187 from (hl 141 76 187 (by decide +kernel))] <;> decide)
    refine dk_cs (P := fun j : Nat => dk_Ty 141 (j : Int) (σ118 141 (j : Int))) (N := 75) hj ?_ (fun hj => ?_)
    · exact (ty_11_75 is_141).mpr (by rw [show σ118 141 ((75 : Nat) : Int) = 186 from (hl 141 75 186 (by decide +kernel))] <;> decide)
    refine dk_cs (P := fun j : Nat => dk_Ty 141 (j : Int) (σ118 141 (j : Int))) (N := 74) hj ?_ (fun hj => ?_)
    · exact (ty_11_74 is_141).mpr (by rw [show σ118 141 ((74 : Nat) : Int) = 185 from (hl 141 74 185 (by decide +kernel))] <;> decide)
    refine dk_cs (P := fun j : Nat => dk_Ty 141 (j : Int) (σ118 141 (j : Int))) (N := 73) hj ?_ (fun hj => ?_)
    · exact (ty_11_73 is_141).mpr (by rw [show σ118 141 ((73 : Nat) : Int) = 184 from (hl 141 73 184 (by decide +kernel))] <;> decide)
    refine dk_cs (P := fun j : Nat => dk_Ty 141 (j : Int) (σ118 141 (j : Int))) (N := 72) hj ?_ (fun hj => ?_)
    · exact (ty_11_72 is_141).mpr trivial
    refine dk_cs (P := fun j : Nat => dk_Ty 141 (j : Int) (σ118 141 (j : Int))) (N := 71) hj ?_ (fun hj => ?_)
    · exact (ty_11_71 is_141).mpr trivial
    refine dk_cs (P := fun j : Nat => dk_Ty 141 (j : Int) (σ118 141 (j : Int))) (N := 70) hj ?_ (fun hj => ?_)
    · exact (ty_11_70 is_141).mpr (by rw [show σ118 141 ((70 : Nat) : Int) = 0 from ((hn 70 (by decide +kernel)).trans rfl)] <;> decide)
    refine dk_cs (P := fun j : Nat => dk_Ty 141 (j : Int) (σ118 141 (j : Int))) (N := 69) hj ?_ (fun hj => ?_)
    · exact (ty_11_69 is_141).mpr (by rw [show σ118 141 ((69 : Nat) : Int) = 183 from (hl 141 69 183 (by decide +kernel))] <;> decide)
    refine dk_cs (P := fun j : Nat => dk_Ty 141 (j : Int) (σ118 141 (j : Int))) (N := 68) hj ?_ (fun hj => ?_)
    · exact (ty_11_68 is_141).mpr (by rw [show σ118 141 ((68 : Nat) : Int) = 182 from (hl 141 68 182 (by decide +kernel))] <;> decide)
    refine dk_cs (P := fun j : Nat => dk_Ty 141 (j : Int) (σ118 141 (j : Int))) (N := 67) hj ?_ (fun hj => ?_)
    · exact (ty_11_67 is_141).mpr (by rw [show σ118 141 ((67 : Nat) : Int) = 181 from (hl 141 67 181 (by decide +kernel))] <;> decide)
    refine dk_cs (P := fun j : Nat => dk_Ty 141 (j : Int) (σ118 141 (j : Int))) (N := 66) hj ?_ (fun hj => ?_)
    · exact (ty_11_66 is_141).mpr (by rw [show σ118 141 ((66 : Nat) : Int) = 180 from (hl 141 66 180 (by decide +kernel))] <;> decide)
    refine dk_cs (P := fun j : Nat => dk_Ty 141 (j : Int) (σ118 141 (j : Int))) (N := 65) hj ?_ (fun hj => ?_)
    · exact (ty_11_65 is_141).mpr (by rw [show σ118 141 ((65 : Nat) : Int) = 179 from (hl 141 65 179 (by decide +kernel))] <;> decide)
    refine dk_cs (P := fun j : Nat => dk_Ty 141 (j : Int) (σ118 141 (j : Int))) (N := 64) hj ?_ (fun hj => ?_)
    · exact (ty_11_64 is_141).mpr (by rw [show σ118 141 ((64 : Nat) : Int) = 178 from (hl 141 64 178 (by decide +kernel))] <;> decide)
    refine dk_cs (P := fun j : Nat => dk_Ty 141 (j : Int) (σ118 141 (j : Int))) (N := 63) hj ?_ (fun hj => ?_)
    · exact (ty_11_63 is_141).mpr (by rw [show σ118 141 ((63 : Nat) : Int) = 177 from (hl 141 63 177 (by decide +kernel))] <;> decide)
    refine dk_cs (P := fun j : Nat => dk_Ty 141 (j : Int) (σ118 141 (j : Int))) (N := 62) hj ?_ (fun hj => ?_)
    · exact (ty_11_62 is_141).mpr (by rw [show σ118 141 ((62 : Nat) : Int) = 176 from (hl 141 62 176 (by decide +kernel))] <;> decide)
    refine dk_cs (P := fun j : Nat => dk_Ty 141 (j : Int) (σ118 141 (j : Int))) (N := 61) hj ?_ (fun hj => ?_)
    · exact (ty_11_61 is_141).mpr trivial
    refine dk_cs (P := fun j : Nat => dk_Ty 141 (j : Int) (σ118 141 (j : Int))) (N := 60) hj ?_ (fun hj => ?_)
    · exact (ty_11_60 is_141).mpr trivial
    refine dk_cs (P := fun j : Nat => dk_Ty 141 (j : Int) (σ118 141 (j : Int))) (N := 59) hj ?_ (fun hj => ?_)
    · exact (ty_11_59 is_141).mpr trivial
    refine dk_cs (P := fun j : Nat => dk_Ty 141 (j : Int) (σ118 141 (j : Int))) (N := 58) hj ?_ (fun hj => ?_)
    · exact (ty_11_58 is_141).mpr trivial
    refine dk_cs (P := fun j : Nat => dk_Ty 141 (j : Int) (σ118 141 (j : Int))) (N := 57) hj ?_ (fun hj => ?_)
    · exact (ty_11_57 is_141).mpr trivial
    refine dk_cs (P := fun j : Nat => dk_Ty 141 (j : Int) (σ118 141 (j : Int))) (N := 56) hj ?_ (fun hj => ?_)
    · exact (ty_11_56 is_141).mpr (by rw [show σ118 141 ((56 : Nat) : Int) = 0 from ((hn 56 (by decide +kernel)).trans rfl)] <;> decide)
    refine dk_cs (P := fun j : Nat => dk_Ty 141 (j : Int) (σ118 141 (j : Int))) (N := 55) hj ?_ (fun hj => ?_)
    · exact (ty_11_55 is_141).mpr trivial
    refine dk_cs (P := fun j : Nat => dk_Ty 141 (j : Int) (σ118 141 (j : Int))) (N := 54) hj ?_ (fun hj => ?_)
    · exact (ty_11_54 is_141).mpr (by rw [show σ118 141 ((54 : Nat) : Int) = 0 from ((hn 54 (by decide +kernel)).trans rfl)] <;> decide)
    refine dk_cs (P := fun j : Nat => dk_Ty 141 (j : Int) (σ118 141 (j : Int))) (N := 53) hj ?_ (fun hj => ?_)
    · exact (ty_11_53 is_141).mpr (by rw [show σ118 141 ((53 : Nat) : Int) = 0 from ((hn 53 (by decide +kernel)).trans rfl)] <;> decide)
    refine dk_cs (P := fun j : Nat => dk_Ty 141 (j : Int) (σ118 141 (j : Int))) (N := 52) hj ?_ (fun hj => ?_)
    · exact (ty_11_52 is_141).mpr (by rw [show σ118 141 ((52 : Nat) : Int) = 0 from ((hn 52 (by decide +kernel)).trans rfl)] <;> decide)
    refine dk_cs (P := fun j : Nat => dk_Ty 141 (j : Int) (σ118 141 (j : Int))) (N := 51) hj ?_ (fun hj => ?_)
    · exact (ty_11_51 is_141).mpr (by rw [show σ118 141 ((51 : Nat) : Int) = 175 from (hl 141 51 175 (by decide +kernel))] <;> decide)
    refine dk_cs (P := fun j : Nat => dk_Ty 141 (j : Int) (σ118 141 (j : Int))) (N := 50) hj ?_ (fun hj => ?_)
    · exact (ty_11_50 is_141).mpr (by rw [show σ118 141 ((50 : Nat) : Int) = 174 from (hl 141 50 174 (by decide +kernel))] <;> decide)
    refine dk_cs (P := fun j : Nat => dk_Ty 141 (j : Int) (σ118 141 (j : Int))) (N := 49) hj ?_ (fun hj => ?_)
    · exact (ty_11_49 is_141).mpr (by rw [show σ118 141 ((49 : Nat) : Int) = 173 from (hl 141 49 173 (by decide +kernel))] <;> decide)
    refine dk_cs (P := fun j : Nat => dk_Ty 141 (j : Int) (σ118 141 (j : Int))) (N := 48) hj ?_ (fun hj => ?_)
    · exact (ty_11_48 is_141).mpr (by rw [show σ118 141 ((48 : Nat) : Int) = 172 from (hl 141 48 172 (by decide +kernel))] <;> decide)
    refine dk_cs (P := fun j : Nat => dk_Ty 141 (j : Int) (σ118 141 (j : Int))) (N := 47) hj ?_ (fun hj => ?_)
    · exact (ty_11_47 is_141).mpr (by rw [show σ118 141 ((47 : Nat) : Int) = 171 from (hl 141 47 171 (by decide +kernel))] <;> decide)
    refine dk_cs (P := fun j : Nat => dk_Ty 141 (j : Int) (σ118 141 (j : Int))) (N := 46) hj ?_ (fun hj => ?_)
    · exact (ty_11_46 is_141).mpr (by rw [show σ118 141 ((46 : Nat) : Int) = 170 from (hl 141 46 170 (by decide +kernel))] <;> decide)
    refine dk_cs (P := fun j : Nat => dk_Ty 141 (j : Int) (σ118 141 (j : Int))) (N := 45) hj ?_ (fun hj => ?_)
    · exact (ty_11_45 is_141).mpr (by rw [show σ118 141 ((45 : Nat) : Int) = 0 from ((hn 45 (by decide +kernel)).trans rfl)] <;> decide)
    refine dk_cs (P := fun j : Nat => dk_Ty 141 (j : Int) (σ118 141 (j : Int))) (N := 44) hj ?_ (fun hj => ?_)
    · exact (ty_11_44 is_141).mpr trivial
    refine dk_cs (P := fun j : Nat => dk_Ty 141 (j : Int) (σ118 141 (j : Int))) (N := 43) hj ?_ (fun hj => ?_)
    · exact (ty_11_43 is_141).mpr (by rw [show σ118 141 ((43 : Nat) : Int) = 0 from ((hn 43 (by decide +kernel)).trans rfl)] <;> decide)
    refine dk_cs (P := fun j : Nat => dk_Ty 141 (j : Int) (σ118 141 (j : Int))) (N := 42) hj ?_ (fun hj => ?_)
    · exact (ty_11_42 is_141).mpr (by rw [show σ118 141 ((42 : Nat) : Int) = 0 from ((hn 42 (by decide +kernel)).trans rfl)] <;> decide)
    refine dk_cs (P := fun j : Nat => dk_Ty 141 (j : Int) (σ118 141 (j : Int))) (N := 41) hj ?_ (fun hj => ?_)
    · exact (ty_11_41 is_141).mpr (by rw [show σ118 141 ((41 : Nat) : Int) = 0 from ((hn 41 (by decide +kernel)).trans rfl)] <;> decide)
    refine dk_cs (P := fun j : Nat => dk_Ty 141 (j : Int) (σ118 141 (j : Int))) (N := 40) hj ?_ (fun hj => ?_)
    · exact (ty_11_40 is_141).mpr (by rw [show σ118 141 ((40 : Nat) : Int) = 169 from (hl 141 40 169 (by decide +kernel))] <;> decide)
    refine dk_cs (P := fun j : Nat => dk_Ty 141 (j : Int) (σ118 141 (j : Int))) (N := 39) hj ?_ (fun hj => ?_)
    · exact (ty_11_39 is_141).mpr (by rw [show σ118 141 ((39 : Nat) : Int) = 168 from (hl 141 39 168 (by decide +kernel))] <;> decide)
    refine dk_cs (P := fun j : Nat => dk_Ty 141 (j : Int) (σ118 141 (j : Int))) (N := 38) hj ?_ (fun hj => ?_)
    · exact (ty_11_38 is_141).mpr (by rw [show σ118 141 ((38 : Nat) : Int) = 167 from (hl 141 38 167 (by decide +kernel))] <;> decide)
    refine dk_cs (P := fun j : Nat => dk_Ty 141 (j : Int) (σ118 141 (j : Int))) (N := 37) hj ?_ (fun hj => ?_)
    · exact (ty_11_37 is_141).mpr (by rw [show σ118 141 ((37 : Nat) : Int) = 166 from (hl 141 37 166 (by decide +kernel))] <;> decide)
    refine dk_cs (P := fun j : Nat => dk_Ty 141 (j : Int) (σ118 141 (j : Int))) (N := 36) hj ?_ (fun hj => ?_)
    · exact (ty_11_36 is_141).mpr (by rw [show σ118 141 ((36 : Nat) : Int) = 165 from (hl 141 36 165 (by decide +kernel))] <;> decide)
    refine dk_cs (P := fun j : Nat => dk_Ty 141 (j : Int) (σ118 141 (j : Int))) (N := 35) hj ?_ (fun hj => ?_)
    · exact (ty_11_35 is_141).mpr (by rw [show σ118 141 ((35 : Nat) : Int) = 164 from (hl 141 35 164 (by decide +kernel))] <;> decide)
    refine dk_cs (P := fun j : Nat => dk_Ty 141 (j : Int) (σ118 141 (j : Int))) (N := 34) hj ?_ (fun hj => ?_)
    · exact (ty_11_34 is_141).mpr (by rw [show σ118 141 ((34 : Nat) : Int) = 163 from (hl 141 34 163 (by decide +kernel))] <;> decide)
    refine dk_cs (P := fun j : Nat => dk_Ty 141 (j : Int) (σ118 141 (j : Int))) (N := 33) hj ?_ (fun hj => ?_)
    · exact (ty_11_33 is_141).mpr (by rw [show σ118 141 ((33 : Nat) : Int) = 162 from (hl 141 33 162 (by decide +kernel))] <;> decide)
    refine dk_cs (P := fun j : Nat => dk_Ty 141 (j : Int) (σ118 141 (j : Int))) (N := 32) hj ?_ (fun hj => ?_)
    · exact (ty_11_32 is_141).mpr (by rw [show σ118 141 ((32 : Nat) : Int) = 161 from (hl 141 32 161 (by decide +kernel))] <;> decide)
    refine dk_cs (P := fun j : Nat => dk_Ty 141 (j : Int) (σ118 141 (j : Int))) (N := 31) hj ?_ (fun hj => ?_)
    · exact (ty_11_31 is_141).mpr trivial
    refine dk_cs (P := fun j : Nat => dk_Ty 141 (j : Int) (σ118 141 (j : Int))) (N := 30) hj ?_ (fun hj => ?_)
    · exact (ty_11_30 is_141).mpr trivial
    refine dk_cs (P := fun j : Nat => dk_Ty 141 (j : Int) (σ118 141 (j : Int))) (N := 29) hj ?_ (fun hj => ?_)
    · exact (ty_11_29 is_141).mpr (by rw [show σ118 141 ((29 : Nat) : Int) = 160 from (hl 141 29 160 (by decide +kernel))] <;> decide)
    refine dk_cs (P := fun j : Nat => dk_Ty 141 (j : Int) (σ118 141 (j : Int))) (N := 28) hj ?_ (fun hj => ?_)
    · exact (ty_11_28 is_141).mpr (by rw [show σ118 141 ((28 : Nat) : Int) = 0 from ((hn 28 (by decide +kernel)).trans rfl)] <;> decide)
    refine dk_cs (P := fun j : Nat => dk_Ty 141 (j : Int) (σ118 141 (j : Int))) (N := 27) hj ?_ (fun hj => ?_)
    · exact (ty_11_27 is_141).mpr (by rw [show σ118 141 ((27 : Nat) : Int) = 0 from ((hn 27 (by decide +kernel)).trans rfl)] <;> decide)
    refine dk_cs (P := fun j : Nat => dk_Ty 141 (j : Int) (σ118 141 (j : Int))) (N := 26) hj ?_ (fun hj => ?_)
    · exact (ty_11_26 is_141).mpr (by rw [show σ118 141 ((26 : Nat) : Int) = 159 from (hl 141 26 159 (by decide +kernel))] <;> decide)
    refine dk_cs (P := fun j : Nat => dk_Ty 141 (j : Int) (σ118 141 (j : Int))) (N := 25) hj ?_ (fun hj => ?_)
    · exact (ty_11_25 is_141).mpr (by rw [show σ118 141 ((25 : Nat) : Int) = 158 from (hl 141 25 158 (by decide +kernel))] <;> decide)
    refine dk_cs (P := fun j : Nat => dk_Ty 141 (j : Int) (σ118 141 (j : Int))) (N := 24) hj ?_ (fun hj => ?_)
    · exact (ty_11_24 is_141).mpr (by rw [show σ118 141 ((24 : Nat) : Int) = 157 from (hl 141 24 157 (by decide +kernel))] <;> decide)
    refine dk_cs (P := fun j : Nat => dk_Ty 141 (j : Int) (σ118 141 (j : Int))) (N := 23) hj ?_ (fun hj => ?_)
    · exact (ty_11_23 is_141).mpr (by rw [show σ118 141 ((23 : Nat) : Int) = 156 from (hl 141 23 156 (by decide +kernel))] <;> decide)
    refine dk_cs (P := fun j : Nat => dk_Ty 141 (j : Int) (σ118 141 (j : Int))) (N := 22) hj ?_ (fun hj => ?_)
    · exact (ty_11_22 is_141).mpr (by rw [show σ118 141 ((22 : Nat) : Int) = 155 from (hl 141 22 155 (by decide +kernel))] <;> decide)
    refine dk_cs (P := fun j : Nat => dk_Ty 141 (j : Int) (σ118 141 (j : Int))) (N := 21) hj ?_ (fun hj => ?_)
    · exact (ty_11_21 is_141).mpr (by rw [show σ118 141 ((21 : Nat) : Int) = 154 from (hl 141 21 154 (by decide +kernel))] <;> decide)
    refine dk_cs (P := fun j : Nat => dk_Ty 141 (j : Int) (σ118 141 (j : Int))) (N := 20) hj ?_ (fun hj => ?_)
    · exact (ty_11_20 is_141).mpr (by rw [show σ118 141 ((20 : Nat) : Int) = 153 from (hl 141 20 153 (by decide +kernel))] <;> decide)
    refine dk_cs (P := fun j : Nat => dk_Ty 141 (j : Int) (σ118 141 (j : Int))) (N := 19) hj ?_ (fun hj => ?_)
    · exact (ty_11_19 is_141).mpr (by rw [show σ118 141 ((19 : Nat) : Int) = 152 from (hl 141 19 152 (by decide +kernel))] <;> decide)
    refine dk_cs (P := fun j : Nat => dk_Ty 141 (j : Int) (σ118 141 (j : Int))) (N := 18) hj ?_ (fun hj => ?_)
    · exact (ty_11_18 is_141).mpr (by rw [show σ118 141 ((18 : Nat) : Int) = 151 from (hl 141 18 151 (by decide +kernel))] <;> decide)
    refine dk_cs (P := fun j : Nat => dk_Ty 141 (j : Int) (σ118 141 (j : Int))) (N := 17) hj ?_ (fun hj => ?_)
    · exact (ty_11_17 is_141).mpr (by rw [show σ118 141 ((17 : Nat) : Int) = 150 from (hl 141 17 150 (by decide +kernel))] <;> decide)
    refine dk_cs (P := fun j : Nat => dk_Ty 141 (j : Int) (σ118 141 (j : Int))) (N := 16) hj ?_ (fun hj => ?_)
    · exact (ty_11_16 is_141).mpr (by rw [show σ118 141 ((16 : Nat) : Int) = 149 from (hl 141 16 149 (by decide +kernel))] <;> decide)
    refine dk_cs (P := fun j : Nat => dk_Ty 141 (j : Int) (σ118 141 (j : Int))) (N := 15) hj ?_ (fun hj => ?_)
    · exact (ty_11_15 is_141).mpr (by rw [show σ118 141 ((15 : Nat) : Int) = 148 from (hl 141 15 148 (by decide +kernel))] <;> decide)
    refine dk_cs (P := fun j : Nat => dk_Ty 141 (j : Int) (σ118 141 (j : Int))) (N := 14) hj ?_ (fun hj => ?_)
    · exact (ty_11_14 is_141).mpr (by rw [show σ118 141 ((14 : Nat) : Int) = 147 from (hl 141 14 147 (by decide +kernel))] <;> decide)
    refine dk_cs (P := fun j : Nat => dk_Ty 141 (j : Int) (σ118 141 (j : Int))) (N := 13) hj ?_ (fun hj => ?_)
    · exact (ty_11_13 is_141).mpr (by rw [show σ118 141 ((13 : Nat) : Int) = 146 from (hl 141 13 146 (by decide +kernel))] <;> decide)
    refine dk_cs (P := fun j : Nat => dk_Ty 141 (j : Int) (σ118 141 (j : Int))) (N := 12) hj ?_ (fun hj => ?_)
    · exact (ty_11_12 is_141).mpr (by rw [show σ118 141 ((12 : Nat) : Int) = 145 from (hl 141 12 145 (by decide +kernel))] <;> decide)
    refine dk_cs (P := fun j : Nat => dk_Ty 141 (j : Int) (σ118 141 (j : Int))) (N := 11) hj ?_ (fun hj => ?_)
    · exact (ty_11_11 is_141).mpr (by rw [show σ118 141 ((11 : Nat) : Int) = 144 from (hl 141 11 144 (by decide +kernel))] <;> decide)
    refine dk_cs (P := fun j : Nat => dk_Ty 141 (j : Int) (σ118 141 (j : Int))) (N := 10) hj ?_ (fun hj => ?_)
    · exact (ty_11_10 is_141).mpr trivial
    refine dk_cs (P := fun j : Nat => dk_Ty 141 (j : Int) (σ118 141 (j : Int))) (N := 9) hj ?_ (fun hj => ?_)
    · exact (ty_11_9 is_141).mpr (by rw [show σ118 141 ((9 : Nat) : Int) = 0 from ((hn 9 (by decide +kernel)).trans rfl)] <;> decide)
    refine dk_cs (P := fun j : Nat => dk_Ty 141 (j : Int) (σ118 141 (j : Int))) (N := 8) hj ?_ (fun hj => ?_)
    · exact (ty_11_8 is_141).mpr (by rw [show σ118 141 ((8 : Nat) : Int) = 0 from ((hn 8 (by decide +kernel)).trans rfl)] <;> decide)
    refine dk_cs (P := fun j : Nat => dk_Ty 141 (j : Int) (σ118 141 (j : Int))) (N := 7) hj ?_ (fun hj => ?_)
    · exact (ty_11_7 is_141).mpr (by rw [show σ118 141 ((7 : Nat) : Int) = 0 from ((hn 7 (by decide +kernel)).trans rfl)] <;> decide)
    refine dk_cs (P := fun j : Nat => dk_Ty 141 (j : Int) (σ118 141 (j : Int))) (N := 6) hj ?_ (fun hj => ?_)
    · exact (ty_11_6 is_141).mpr (by rw [show σ118 141 ((6 : Nat) : Int) = 0 from ((hn 6 (by decide +kernel)).trans rfl)] <;> decide)
    refine dk_cs (P := fun j : Nat => dk_Ty 141 (j : Int) (σ118 141 (j : Int))) (N := 5) hj ?_ (fun hj => ?_)
    · exact (ty_11_5 is_141).mpr trivial
    refine dk_cs (P := fun j : Nat => dk_Ty 141 (j : Int) (σ118 141 (j : Int))) (N := 4) hj ?_ (fun hj => ?_)
    · exact (ty_11_4 is_141).mpr (by rw [show σ118 141 ((4 : Nat) : Int) = 0 from ((hn 4 (by decide +kernel)).trans rfl)] <;> decide)
    refine dk_cs (P := fun j : Nat => dk_Ty 141 (j : Int) (σ118 141 (j : Int))) (N := 3) hj ?_ (fun hj => ?_)
    · exact (ty_11_3 is_141).mpr (by rw [show σ118 141 ((3 : Nat) : Int) = 0 from ((hn 3 (by decide +kernel)).trans rfl)] <;> decide)
    refine dk_cs (P := fun j : Nat => dk_Ty 141 (j : Int) (σ118 141 (j : Int))) (N := 2) hj ?_ (fun hj => ?_)
    · exact (ty_11_2 is_141).mpr (by rw [show σ118 141 ((2 : Nat) : Int) = 0 from ((hn 2 (by decide +kernel)).trans rfl)] <;> decide)
    refine dk_cs (P := fun j : Nat => dk_Ty 141 (j : Int) (σ118 141 (j : Int))) (N := 1) hj ?_ (fun hj => ?_)
    · exact (ty_11_1 is_141).mpr (by rw [show σ118 141 ((1 : Nat) : Int) = 143 from (hl 141 1 143 (by decide +kernel))] <;> decide)
    refine dk_cs (P := fun j : Nat => dk_Ty 141 (j : Int) (σ118 141 (j : Int))) (N := 0) hj ?_ (fun hj => ?_)
    · exact (ty_11_0 is_141).mpr (by rw [show σ118 141 ((0 : Nat) : Int) = 142 from (hl 141 0 142 (by decide +kernel))] <;> decide)
    exact absurd hj (Nat.not_lt_zero _)
  have hS142 : ∀ j : Nat, j < dk_len (dk_site 142) → dk_Ty 142 j (σ118 142 j) := fun j hj => by
    exact (ta_70 is_142).mpr trivial
  have hS143 : ∀ j : Nat, j < dk_len (dk_site 143) → dk_Ty 143 j (σ118 143 j) := fun j hj => by
    exact (ta_71 is_143).mpr trivial
  have hS144 : ∀ j : Nat, j < dk_len (dk_site 144) → dk_Ty 144 j (σ118 144 j) := fun j hj => by
    exact (ta_72 is_144).mpr trivial
  have hS145 : ∀ j : Nat, j < dk_len (dk_site 145) → dk_Ty 145 j (σ118 145 j) := fun j hj => by
    have e_ : σ118 145 (j : Int) = 0 := (hz 145 (by decide +kernel) j).trans rfl
    exact (ta_73 is_145).mpr (by rw [e_] <;> decide)
  have hS146 : ∀ j : Nat, j < dk_len (dk_site 146) → dk_Ty 146 j (σ118 146 j) := fun j hj => by
    have e_ : σ118 146 (j : Int) = 0 := (hz 146 (by decide +kernel) j).trans rfl
    exact (ta_74 is_146).mpr (by rw [e_] <;> decide)
  have hS147 : ∀ j : Nat, j < dk_len (dk_site 147) → dk_Ty 147 j (σ118 147 j) := fun j hj => by
    have e_ : σ118 147 (j : Int) = 0 := (hz 147 (by decide +kernel) j).trans rfl
    exact (ta_75 is_147).mpr (by rw [e_] <;> decide)
  have hS148 : ∀ j : Nat, j < dk_len (dk_site 148) → dk_Ty 148 j (σ118 148 j) := fun j hj => by
    exact (ta_76 is_148).mpr trivial
  have hS149 : ∀ j : Nat, j < dk_len (dk_site 149) → dk_Ty 149 j (σ118 149 j) := fun j hj => by
    exact (ta_77 is_149).mpr trivial
  have hS150 : ∀ j : Nat, j < dk_len (dk_site 150) → dk_Ty 150 j (σ118 150 j) := fun j hj => by
    have e_ : σ118 150 (j : Int) = 0 := (hz 150 (by decide +kernel) j).trans rfl
    exact (ta_78 is_150).mpr (by rw [e_] <;> decide)
  have hS151 : ∀ j : Nat, j < dk_len (dk_site 151) → dk_Ty 151 j (σ118 151 j) := fun j hj => by
    have e_ : σ118 151 (j : Int) = 0 := (hz 151 (by decide +kernel) j).trans rfl
    exact (ta_79 is_151).mpr (by rw [e_] <;> decide)
  have hS152 : ∀ j : Nat, j < dk_len (dk_site 152) → dk_Ty 152 j (σ118 152 j) := fun j hj => by
    exact (ta_80 is_152).mpr trivial
  have hS153 : ∀ j : Nat, j < dk_len (dk_site 153) → dk_Ty 153 j (σ118 153 j) := fun j hj => by
    exact (ta_81 is_153).mpr trivial
  have hS154 : ∀ j : Nat, j < dk_len (dk_site 154) → dk_Ty 154 j (σ118 154 j) := fun j hj => by
    have e_ : σ118 154 (j : Int) = 0 := (hz 154 (by decide +kernel) j).trans rfl
    exact (ta_82 is_154).mpr (by rw [e_] <;> decide)
  have hS155 : ∀ j : Nat, j < dk_len (dk_site 155) → dk_Ty 155 j (σ118 155 j) := fun j hj => by
    have e_ : σ118 155 (j : Int) = 0 := (hz 155 (by decide +kernel) j).trans rfl
    exact (ta_83 is_155).mpr (by rw [e_] <;> decide)
  have hS156 : ∀ j : Nat, j < dk_len (dk_site 156) → dk_Ty 156 j (σ118 156 j) := fun j hj => by
    exact (ta_84 is_156).mpr trivial
  have hS157 : ∀ j : Nat, j < dk_len (dk_site 157) → dk_Ty 157 j (σ118 157 j) := fun j hj => by
    exact (ta_85 is_157).mpr trivial
  have hS158 : ∀ j : Nat, j < dk_len (dk_site 158) → dk_Ty 158 j (σ118 158 j) := fun j hj => by
    exact (ta_86 is_158).mpr trivial
  have hS159 : ∀ j : Nat, j < dk_len (dk_site 159) → dk_Ty 159 j (σ118 159 j) := fun j hj => by
    exact (ta_87 is_159).mpr trivial
  have hS160 : ∀ j : Nat, j < dk_len (dk_site 160) → dk_Ty 160 j (σ118 160 j) := fun j hj => by
    have hj : j < 16 := hj
    refine dk_cs (P := fun j : Nat => dk_Ty 160 (j : Int) (σ118 160 (j : Int))) (N := 15) hj ?_ (fun hj => ?_)
    · exact (ta_88 is_160).mpr (by rw [show σ118 160 ((15 : Nat) : Int) = 4 from (hl 160 15 4 (by decide +kernel))] <;> decide)
    refine dk_cs (P := fun j : Nat => dk_Ty 160 (j : Int) (σ118 160 (j : Int))) (N := 14) hj ?_ (fun hj => ?_)
    · exact (ta_88 is_160).mpr (by rw [show σ118 160 ((14 : Nat) : Int) = 4 from (hl 160 14 4 (by decide +kernel))] <;> decide)
    refine dk_cs (P := fun j : Nat => dk_Ty 160 (j : Int) (σ118 160 (j : Int))) (N := 13) hj ?_ (fun hj => ?_)
    · exact (ta_88 is_160).mpr (by rw [show σ118 160 ((13 : Nat) : Int) = 5 from (hl 160 13 5 (by decide +kernel))] <;> decide)
    refine dk_cs (P := fun j : Nat => dk_Ty 160 (j : Int) (σ118 160 (j : Int))) (N := 12) hj ?_ (fun hj => ?_)
    · exact (ta_88 is_160).mpr (by rw [show σ118 160 ((12 : Nat) : Int) = 4 from (hl 160 12 4 (by decide +kernel))] <;> decide)
    refine dk_cs (P := fun j : Nat => dk_Ty 160 (j : Int) (σ118 160 (j : Int))) (N := 11) hj ?_ (fun hj => ?_)
    · exact (ta_88 is_160).mpr (by rw [show σ118 160 ((11 : Nat) : Int) = 3 from (hl 160 11 3 (by decide +kernel))] <;> decide)
    refine dk_cs (P := fun j : Nat => dk_Ty 160 (j : Int) (σ118 160 (j : Int))) (N := 10) hj ?_ (fun hj => ?_)
    · exact (ta_88 is_160).mpr (by rw [show σ118 160 ((10 : Nat) : Int) = 2 from (hl 160 10 2 (by decide +kernel))] <;> decide)
    refine dk_cs (P := fun j : Nat => dk_Ty 160 (j : Int) (σ118 160 (j : Int))) (N := 9) hj ?_ (fun hj => ?_)
    · exact (ta_88 is_160).mpr (by rw [show σ118 160 ((9 : Nat) : Int) = 1 from (hl 160 9 1 (by decide +kernel))] <;> decide)
    refine dk_cs (P := fun j : Nat => dk_Ty 160 (j : Int) (σ118 160 (j : Int))) (N := 8) hj ?_ (fun hj => ?_)
    · exact (ta_88 is_160).mpr (by rw [show σ118 160 ((8 : Nat) : Int) = 0 from (hl 160 8 0 (by decide +kernel))] <;> decide)
    refine dk_cs (P := fun j : Nat => dk_Ty 160 (j : Int) (σ118 160 (j : Int))) (N := 7) hj ?_ (fun hj => ?_)
    · exact (ta_88 is_160).mpr (by rw [show σ118 160 ((7 : Nat) : Int) = 4 from (hl 160 7 4 (by decide +kernel))] <;> decide)
    refine dk_cs (P := fun j : Nat => dk_Ty 160 (j : Int) (σ118 160 (j : Int))) (N := 6) hj ?_ (fun hj => ?_)
    · exact (ta_88 is_160).mpr (by rw [show σ118 160 ((6 : Nat) : Int) = 4 from (hl 160 6 4 (by decide +kernel))] <;> decide)
    refine dk_cs (P := fun j : Nat => dk_Ty 160 (j : Int) (σ118 160 (j : Int))) (N := 5) hj ?_ (fun hj => ?_)
    · exact (ta_88 is_160).mpr (by rw [show σ118 160 ((5 : Nat) : Int) = 5 from (hl 160 5 5 (by decide +kernel))] <;> decide)
    refine dk_cs (P := fun j : Nat => dk_Ty 160 (j : Int) (σ118 160 (j : Int))) (N := 4) hj ?_ (fun hj => ?_)
    · exact (ta_88 is_160).mpr (by rw [show σ118 160 ((4 : Nat) : Int) = 4 from (hl 160 4 4 (by decide +kernel))] <;> decide)
    refine dk_cs (P := fun j : Nat => dk_Ty 160 (j : Int) (σ118 160 (j : Int))) (N := 3) hj ?_ (fun hj => ?_)
    · exact (ta_88 is_160).mpr (by rw [show σ118 160 ((3 : Nat) : Int) = 3 from (hl 160 3 3 (by decide +kernel))] <;> decide)
    refine dk_cs (P := fun j : Nat => dk_Ty 160 (j : Int) (σ118 160 (j : Int))) (N := 2) hj ?_ (fun hj => ?_)
    · exact (ta_88 is_160).mpr (by rw [show σ118 160 ((2 : Nat) : Int) = 2 from (hl 160 2 2 (by decide +kernel))] <;> decide)
    refine dk_cs (P := fun j : Nat => dk_Ty 160 (j : Int) (σ118 160 (j : Int))) (N := 1) hj ?_ (fun hj => ?_)
    · exact (ta_88 is_160).mpr (by rw [show σ118 160 ((1 : Nat) : Int) = 1 from (hl 160 1 1 (by decide +kernel))] <;> decide)
    refine dk_cs (P := fun j : Nat => dk_Ty 160 (j : Int) (σ118 160 (j : Int))) (N := 0) hj ?_ (fun hj => ?_)
    · exact (ta_88 is_160).mpr (by rw [show σ118 160 ((0 : Nat) : Int) = 0 from (hl 160 0 0 (by decide +kernel))] <;> decide)
    exact absurd hj (Nat.not_lt_zero _)
  have hS161 : ∀ j : Nat, j < dk_len (dk_site 161) → dk_Ty 161 j (σ118 161 j) := fun j hj => by
    exact (ta_89 is_161).mpr trivial
  have hS162 : ∀ j : Nat, j < dk_len (dk_site 162) → dk_Ty 162 j (σ118 162 j) := fun j hj => by
    exact (ta_90 is_162).mpr trivial
  have hS163 : ∀ j : Nat, j < dk_len (dk_site 163) → dk_Ty 163 j (σ118 163 j) := fun j hj => by
    exact (ta_91 is_163).mpr trivial
  have hS164 : ∀ j : Nat, j < dk_len (dk_site 164) → dk_Ty 164 j (σ118 164 j) := fun j hj => by
    exact (ta_92 is_164).mpr trivial
  have hS165 : ∀ j : Nat, j < dk_len (dk_site 165) → dk_Ty 165 j (σ118 165 j) := fun j hj => by
    exact (ta_93 is_165).mpr trivial
  have hS166 : ∀ j : Nat, j < dk_len (dk_site 166) → dk_Ty 166 j (σ118 166 j) := fun j hj => by
    exact (ta_94 is_166).mpr trivial
  have hS167 : ∀ j : Nat, j < dk_len (dk_site 167) → dk_Ty 167 j (σ118 167 j) := fun j hj => by
    exact (ta_95 is_167).mpr trivial
  have hS168 : ∀ j : Nat, j < dk_len (dk_site 168) → dk_Ty 168 j (σ118 168 j) := fun j hj => by
    exact (ta_96 is_168).mpr trivial
  have hS169 : ∀ j : Nat, j < dk_len (dk_site 169) → dk_Ty 169 j (σ118 169 j) := fun j hj => by
    exact (ta_97 is_169).mpr trivial
  have hS170 : ∀ j : Nat, j < dk_len (dk_site 170) → dk_Ty 170 j (σ118 170 j) := fun j hj => by
    have e_ : σ118 170 (j : Int) = 0 := (hz 170 (by decide +kernel) j).trans rfl
    exact (ta_98 is_170).mpr (by rw [e_] <;> decide)
  have hS171 : ∀ j : Nat, j < dk_len (dk_site 171) → dk_Ty 171 j (σ118 171 j) := fun j hj => by
    exact (ta_99 is_171).mpr trivial
  have hS172 : ∀ j : Nat, j < dk_len (dk_site 172) → dk_Ty 172 j (σ118 172 j) := fun j hj => by
    have e_ : σ118 172 (j : Int) = 0 := (hz 172 (by decide +kernel) j).trans rfl
    exact (ta_100 is_172).mpr (by rw [e_] <;> decide)
  have hS173 : ∀ j : Nat, j < dk_len (dk_site 173) → dk_Ty 173 j (σ118 173 j) := fun j hj => by
    have e_ : σ118 173 (j : Int) = 0 := (hz 173 (by decide +kernel) j).trans rfl
    exact (ta_101 is_173).mpr (by rw [e_] <;> decide)
  have hS174 : ∀ j : Nat, j < dk_len (dk_site 174) → dk_Ty 174 j (σ118 174 j) := fun j hj => by
    exact (ta_102 is_174).mpr trivial
  have hS175 : ∀ j : Nat, j < dk_len (dk_site 175) → dk_Ty 175 j (σ118 175 j) := fun j hj => by
    exact (ta_103 is_175).mpr trivial
  have hS176 : ∀ j : Nat, j < dk_len (dk_site 176) → dk_Ty 176 j (σ118 176 j) := fun j hj => by
    exact (ta_104 is_176).mpr trivial
  have hS177 : ∀ j : Nat, j < dk_len (dk_site 177) → dk_Ty 177 j (σ118 177 j) := fun j hj => by
    exact (ta_105 is_177).mpr trivial
  have hS178 : ∀ j : Nat, j < dk_len (dk_site 178) → dk_Ty 178 j (σ118 178 j) := fun j hj => by
    exact (ta_106 is_178).mpr trivial
  have hS179 : ∀ j : Nat, j < dk_len (dk_site 179) → dk_Ty 179 j (σ118 179 j) := fun j hj => by
    exact (ta_107 is_179).mpr trivial
  have hS180 : ∀ j : Nat, j < dk_len (dk_site 180) → dk_Ty 180 j (σ118 180 j) := fun j hj => by
    have e_ : σ118 180 (j : Int) = 0 := (hz 180 (by decide +kernel) j).trans rfl
    exact (ta_108 is_180).mpr (by rw [e_] <;> decide)
  have hS181 : ∀ j : Nat, j < dk_len (dk_site 181) → dk_Ty 181 j (σ118 181 j) := fun j hj => by
    have e_ : σ118 181 (j : Int) = 0 := (hz 181 (by decide +kernel) j).trans rfl
    exact (ta_109 is_181).mpr (by rw [e_] <;> decide)
  have hS182 : ∀ j : Nat, j < dk_len (dk_site 182) → dk_Ty 182 j (σ118 182 j) := fun j hj => by
    exact (ta_110 is_182).mpr trivial
  have hS183 : ∀ j : Nat, j < dk_len (dk_site 183) → dk_Ty 183 j (σ118 183 j) := fun j hj => by
    exact (ta_111 is_183).mpr trivial
  have hS184 : ∀ j : Nat, j < dk_len (dk_site 184) → dk_Ty 184 j (σ118 184 j) := fun j hj => by
    have e_ : σ118 184 (j : Int) = 0 := (hz 184 (by decide +kernel) j).trans rfl
    exact (ta_112 is_184).mpr (by rw [e_] <;> decide)
  have hS185 : ∀ j : Nat, j < dk_len (dk_site 185) → dk_Ty 185 j (σ118 185 j) := fun j hj => by
    have e_ : σ118 185 (j : Int) = 0 := (hz 185 (by decide +kernel) j).trans rfl
    exact (ta_113 is_185).mpr (by rw [e_] <;> decide)
  have hS186 : ∀ j : Nat, j < dk_len (dk_site 186) → dk_Ty 186 j (σ118 186 j) := fun j hj => by
    exact (ta_114 is_186).mpr trivial
  have hS187 : ∀ j : Nat, j < dk_len (dk_site 187) → dk_Ty 187 j (σ118 187 j) := fun j hj => by
    have e_ : σ118 187 (j : Int) = 0 := (hz 187 (by decide +kernel) j).trans rfl
    exact (ta_115 is_187).mpr (by rw [e_] <;> decide)
  have hS188 : ∀ j : Nat, j < dk_len (dk_site 188) → dk_Ty 188 j (σ118 188 j) := fun j hj => by
    exact (ta_116 is_188).mpr trivial
  have hS189 : ∀ j : Nat, j < dk_len (dk_site 189) → dk_Ty 189 j (σ118 189 j) := fun j hj => by
    exact (ta_117 is_189).mpr trivial
  refine dk_vret (st := []) hE hR dX11_init_498 ⟨rfl, ⟨ho, fun a ha j hj => ?_⟩, ?_⟩
  · skip
    by_cases qK : a = 141
    · subst qK; exact hT141 j hj
    have h_ : 142 ≤ a := by omega
    have h2_ : a < 190 := by omega
    revert j
    show (fun a : Int => ∀ j : Nat, j < dk_len (dk_site a) → dk_Ty a (j : Int) (σ118 a (j : Int))) a
    refine dk_ci (P := fun a : Int => ∀ j : Nat, j < dk_len (dk_site a) → dk_Ty a (j : Int) (σ118 a (j : Int))) (lo := 142) (hi := 143) h_ (by decide) (hS142) (fun h_ => ?_)
    refine dk_ci (P := fun a : Int => ∀ j : Nat, j < dk_len (dk_site a) → dk_Ty a (j : Int) (σ118 a (j : Int))) (lo := 143) (hi := 144) h_ (by decide) (hS143) (fun h_ => ?_)
    refine dk_ci (P := fun a : Int => ∀ j : Nat, j < dk_len (dk_site a) → dk_Ty a (j : Int) (σ118 a (j : Int))) (lo := 144) (hi := 145) h_ (by decide) (hS144) (fun h_ => ?_)
    refine dk_ci (P := fun a : Int => ∀ j : Nat, j < dk_len (dk_site a) → dk_Ty a (j : Int) (σ118 a (j : Int))) (lo := 145) (hi := 146) h_ (by decide) (hS145) (fun h_ => ?_)
    refine dk_ci (P := fun a : Int => ∀ j : Nat, j < dk_len (dk_site a) → dk_Ty a (j : Int) (σ118 a (j : Int))) (lo := 146) (hi := 147) h_ (by decide) (hS146) (fun h_ => ?_)
    refine dk_ci (P := fun a : Int => ∀ j : Nat, j < dk_len (dk_site a) → dk_Ty a (j : Int) (σ118 a (j : Int))) (lo := 147) (hi := 148) h_ (by decide) (hS147) (fun h_ => ?_)
    refine dk_ci (P := fun a : Int => ∀ j : Nat, j < dk_len (dk_site a) → dk_Ty a (j : Int) (σ118 a (j : Int))) (lo := 148) (hi := 149) h_ (by decide) (hS148) (fun h_ => ?_)
    refine dk_ci (P := fun a : Int => ∀ j : Nat, j < dk_len (dk_site a) → dk_Ty a (j : Int) (σ118 a (j : Int))) (lo := 149) (hi := 150) h_ (by decide) (hS149) (fun h_ => ?_)
    refine dk_ci (P := fun a : Int => ∀ j : Nat, j < dk_len (dk_site a) → dk_Ty a (j : Int) (σ118 a (j : Int))) (lo := 150) (hi := 151) h_ (by decide) (hS150) (fun h_ => ?_)
    refine dk_ci (P := fun a : Int => ∀ j : Nat, j < dk_len (dk_site a) → dk_Ty a (j : Int) (σ118 a (j : Int))) (lo := 151) (hi := 152) h_ (by decide) (hS151) (fun h_ => ?_)
    refine dk_ci (P := fun a : Int => ∀ j : Nat, j < dk_len (dk_site a) → dk_Ty a (j : Int) (σ118 a (j : Int))) (lo := 152) (hi := 153) h_ (by decide) (hS152) (fun h_ => ?_)
    refine dk_ci (P := fun a : Int => ∀ j : Nat, j < dk_len (dk_site a) → dk_Ty a (j : Int) (σ118 a (j : Int))) (lo := 153) (hi := 154) h_ (by decide) (hS153) (fun h_ => ?_)
    refine dk_ci (P := fun a : Int => ∀ j : Nat, j < dk_len (dk_site a) → dk_Ty a (j : Int) (σ118 a (j : Int))) (lo := 154) (hi := 155) h_ (by decide) (hS154) (fun h_ => ?_)
    refine dk_ci (P := fun a : Int => ∀ j : Nat, j < dk_len (dk_site a) → dk_Ty a (j : Int) (σ118 a (j : Int))) (lo := 155) (hi := 156) h_ (by decide) (hS155) (fun h_ => ?_)
    refine dk_ci (P := fun a : Int => ∀ j : Nat, j < dk_len (dk_site a) → dk_Ty a (j : Int) (σ118 a (j : Int))) (lo := 156) (hi := 157) h_ (by decide) (hS156) (fun h_ => ?_)
    refine dk_ci (P := fun a : Int => ∀ j : Nat, j < dk_len (dk_site a) → dk_Ty a (j : Int) (σ118 a (j : Int))) (lo := 157) (hi := 158) h_ (by decide) (hS157) (fun h_ => ?_)
    refine dk_ci (P := fun a : Int => ∀ j : Nat, j < dk_len (dk_site a) → dk_Ty a (j : Int) (σ118 a (j : Int))) (lo := 158) (hi := 159) h_ (by decide) (hS158) (fun h_ => ?_)
    refine dk_ci (P := fun a : Int => ∀ j : Nat, j < dk_len (dk_site a) → dk_Ty a (j : Int) (σ118 a (j : Int))) (lo := 159) (hi := 160) h_ (by decide) (hS159) (fun h_ => ?_)
    refine dk_ci (P := fun a : Int => ∀ j : Nat, j < dk_len (dk_site a) → dk_Ty a (j : Int) (σ118 a (j : Int))) (lo := 160) (hi := 161) h_ (by decide) (hS160) (fun h_ => ?_)
    refine dk_ci (P := fun a : Int => ∀ j : Nat, j < dk_len (dk_site a) → dk_Ty a (j : Int) (σ118 a (j : Int))) (lo := 161) (hi := 162) h_ (by decide) (hS161) (fun h_ => ?_)
    refine dk_ci (P := fun a : Int => ∀ j : Nat, j < dk_len (dk_site a) → dk_Ty a (j : Int) (σ118 a (j : Int))) (lo := 162) (hi := 163) h_ (by decide) (hS162) (fun h_ => ?_)
    refine dk_ci (P := fun a : Int => ∀ j : Nat, j < dk_len (dk_site a) → dk_Ty a (j : Int) (σ118 a (j : Int))) (lo := 163) (hi := 164) h_ (by decide) (hS163) (fun h_ => ?_)
    refine dk_ci (P := fun a : Int => ∀ j : Nat, j < dk_len (dk_site a) → dk_Ty a (j : Int) (σ118 a (j : Int))) (lo := 164) (hi := 165) h_ (by decide) (hS164) (fun h_ => ?_)
    refine dk_ci (P := fun a : Int => ∀ j : Nat, j < dk_len (dk_site a) → dk_Ty a (j : Int) (σ118 a (j : Int))) (lo := 165) (hi := 166) h_ (by decide) (hS165) (fun h_ => ?_)
    refine dk_ci (P := fun a : Int => ∀ j : Nat, j < dk_len (dk_site a) → dk_Ty a (j : Int) (σ118 a (j : Int))) (lo := 166) (hi := 167) h_ (by decide) (hS166) (fun h_ => ?_)
    refine dk_ci (P := fun a : Int => ∀ j : Nat, j < dk_len (dk_site a) → dk_Ty a (j : Int) (σ118 a (j : Int))) (lo := 167) (hi := 168) h_ (by decide) (hS167) (fun h_ => ?_)
    refine dk_ci (P := fun a : Int => ∀ j : Nat, j < dk_len (dk_site a) → dk_Ty a (j : Int) (σ118 a (j : Int))) (lo := 168) (hi := 169) h_ (by decide) (hS168) (fun h_ => ?_)
    refine dk_ci (P := fun a : Int => ∀ j : Nat, j < dk_len (dk_site a) → dk_Ty a (j : Int) (σ118 a (j : Int))) (lo := 169) (hi := 170) h_ (by decide) (hS169) (fun h_ => ?_)
    refine dk_ci (P := fun a : Int => ∀ j : Nat, j < dk_len (dk_site a) → dk_Ty a (j : Int) (σ118 a (j : Int))) (lo := 170) (hi := 171) h_ (by decide) (hS170) (fun h_ => ?_)
    refine dk_ci (P := fun a : Int => ∀ j : Nat, j < dk_len (dk_site a) → dk_Ty a (j : Int) (σ118 a (j : Int))) (lo := 171) (hi := 172) h_ (by decide) (hS171) (fun h_ => ?_)
    refine dk_ci (P := fun a : Int => ∀ j : Nat, j < dk_len (dk_site a) → dk_Ty a (j : Int) (σ118 a (j : Int))) (lo := 172) (hi := 173) h_ (by decide) (hS172) (fun h_ => ?_)
    refine dk_ci (P := fun a : Int => ∀ j : Nat, j < dk_len (dk_site a) → dk_Ty a (j : Int) (σ118 a (j : Int))) (lo := 173) (hi := 174) h_ (by decide) (hS173) (fun h_ => ?_)
    refine dk_ci (P := fun a : Int => ∀ j : Nat, j < dk_len (dk_site a) → dk_Ty a (j : Int) (σ118 a (j : Int))) (lo := 174) (hi := 175) h_ (by decide) (hS174) (fun h_ => ?_)
    refine dk_ci (P := fun a : Int => ∀ j : Nat, j < dk_len (dk_site a) → dk_Ty a (j : Int) (σ118 a (j : Int))) (lo := 175) (hi := 176) h_ (by decide) (hS175) (fun h_ => ?_)
    refine dk_ci (P := fun a : Int => ∀ j : Nat, j < dk_len (dk_site a) → dk_Ty a (j : Int) (σ118 a (j : Int))) (lo := 176) (hi := 177) h_ (by decide) (hS176) (fun h_ => ?_)
    refine dk_ci (P := fun a : Int => ∀ j : Nat, j < dk_len (dk_site a) → dk_Ty a (j : Int) (σ118 a (j : Int))) (lo := 177) (hi := 178) h_ (by decide) (hS177) (fun h_ => ?_)
    refine dk_ci (P := fun a : Int => ∀ j : Nat, j < dk_len (dk_site a) → dk_Ty a (j : Int) (σ118 a (j : Int))) (lo := 178) (hi := 179) h_ (by decide) (hS178) (fun h_ => ?_)
    refine dk_ci (P := fun a : Int => ∀ j : Nat, j < dk_len (dk_site a) → dk_Ty a (j : Int) (σ118 a (j : Int))) (lo := 179) (hi := 180) h_ (by decide) (hS179) (fun h_ => ?_)
    refine dk_ci (P := fun a : Int => ∀ j : Nat, j < dk_len (dk_site a) → dk_Ty a (j : Int) (σ118 a (j : Int))) (lo := 180) (hi := 181) h_ (by decide) (hS180) (fun h_ => ?_)
    refine dk_ci (P := fun a : Int => ∀ j : Nat, j < dk_len (dk_site a) → dk_Ty a (j : Int) (σ118 a (j : Int))) (lo := 181) (hi := 182) h_ (by decide) (hS181) (fun h_ => ?_)
    refine dk_ci (P := fun a : Int => ∀ j : Nat, j < dk_len (dk_site a) → dk_Ty a (j : Int) (σ118 a (j : Int))) (lo := 182) (hi := 183) h_ (by decide) (hS182) (fun h_ => ?_)
    refine dk_ci (P := fun a : Int => ∀ j : Nat, j < dk_len (dk_site a) → dk_Ty a (j : Int) (σ118 a (j : Int))) (lo := 183) (hi := 184) h_ (by decide) (hS183) (fun h_ => ?_)
    refine dk_ci (P := fun a : Int => ∀ j : Nat, j < dk_len (dk_site a) → dk_Ty a (j : Int) (σ118 a (j : Int))) (lo := 184) (hi := 185) h_ (by decide) (hS184) (fun h_ => ?_)
    refine dk_ci (P := fun a : Int => ∀ j : Nat, j < dk_len (dk_site a) → dk_Ty a (j : Int) (σ118 a (j : Int))) (lo := 185) (hi := 186) h_ (by decide) (hS185) (fun h_ => ?_)
    refine dk_ci (P := fun a : Int => ∀ j : Nat, j < dk_len (dk_site a) → dk_Ty a (j : Int) (σ118 a (j : Int))) (lo := 186) (hi := 187) h_ (by decide) (hS186) (fun h_ => ?_)
    refine dk_ci (P := fun a : Int => ∀ j : Nat, j < dk_len (dk_site a) → dk_Ty a (j : Int) (σ118 a (j : Int))) (lo := 187) (hi := 188) h_ (by decide) (hS187) (fun h_ => ?_)
    refine dk_ci (P := fun a : Int => ∀ j : Nat, j < dk_len (dk_site a) → dk_Ty a (j : Int) (σ118 a (j : Int))) (lo := 188) (hi := 189) h_ (by decide) (hS188) (fun h_ => ?_)
    refine dk_ci (P := fun a : Int => ∀ j : Nat, j < dk_len (dk_site a) → dk_Ty a (j : Int) (σ118 a (j : Int))) (lo := 189) (hi := 190) h_ (by decide) (hS189) (fun h_ => ?_)
    exact absurd h_ (by omega)
  · have z27 : σ118 141 27 = 0 := ((hn 27 (by decide +kernel)).trans rfl)
    have z41 : σ118 141 41 = 0 := ((hn 41 (by decide +kernel)).trans rfl)
    have z53 : σ118 141 53 = 0 := ((hn 53 (by decide +kernel)).trans rfl)
    have z146 : ∀ j : Int, σ118 146 j = 0 := fun j => (hz 146 (by decide +kernel) j).trans rfl
    exact ⟨⟨fun f f0 f1 => by omega, ⟨by rw [z146]; decide, fun w _ _ => by rw [z146]; exact (by decide : (0 : Int) ≤ 8)⟩, fun r n r0 r1 => by omega⟩, (show σ118 141 52 = 0 from ((hn 52 (by decide +kernel)).trans rfl)), (show σ118 141 54 = 0 from ((hn 54 (by decide +kernel)).trans rfl))⟩
