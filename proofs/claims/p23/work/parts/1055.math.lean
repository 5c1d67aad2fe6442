theorem dk_mmax {E : dkE} {cc : ByteArray} {own : String} {d : Nat} {T : dkT} {l0 : Launch} {G0 : dkG} {n : Int} {nL0 mc ms : Nat} (hE : dk_Good E cc own d T l0 G0 n nL0 mc ms) {pc pc' : Nat} {ls st : List dkV} {σ : dkS} {x y : Int} {ix : Nat} (hl2 : Cond.methodLink own ix yJ9_max_7cf53 ∈ lw_g) (hd : decode cc pc = .ok (.invokestatic ix, 3)) (h8 : dk_cat3 st ≤ 8) (hdd : 1 ≤ d) (hp : pc + 3 = pc') (K : ∀ z : Int, ((z = x ∨ z = y) ∧ x ≤ z ∧ y ≤ z) → dk_PJ E pc' ls ((0, z) :: st) n σ) : dk_PJ E pc ls ((0, y) :: (0, x) :: st) n σ := by
  obtain ⟨p, l, e, R, s, m, args, below, meth, c, Q, G, Ty, n0, nL⟩ := E
  obtain ⟨hx, hb, hml, hown, hts, hdf, hdl, hG, hlk, hTy, hl0, hG0, hn0, hnL0, hmc, hms, hext⟩ := hE
  subst hTy hl0 hG0 hn0 hnL0
  subst hp
  intro H locs lsr hH hL hl o1 o2 hn
  obtain ⟨o2a, o2b, o2c⟩ := dk_c2 o2
  have hcat := Nat.le_trans (dk_cats G.1 st) h8
  have hX := dk_oki o2b
  have hY := dk_oki o2a
  have hcd : Cond.code Lib.Math.max.name Lib.Math.max.code 2 (some .int) ∈ lw_g := wd_706
  refine va_mmax (x := Int32.ofInt x) (y := Int32.ofInt y) hx hb (by rw [hl.1]; exact hml) hown (hts _ hl2) (hts _ wd_705) (hts _ wd_118) (hts _ hcd) (by omega) (by omega) (by omega) (by omega) hd ?_
  by_cases q : x < y
  · rw [if_pos ((dk_lt hX hY).mpr q)]
    exact K y (by omega) H locs lsr hH hL hl o1 (dk_cc o2a o2c) hn
  · rw [if_neg (fun w => q ((dk_lt hX hY).mp w))]
    exact K x (by omega) H locs lsr hH hL hl o1 (dk_cc o2b o2c) hn
theorem dk_mmin {E : dkE} {cc : ByteArray} {own : String} {d : Nat} {T : dkT} {l0 : Launch} {G0 : dkG} {n : Int} {nL0 mc ms : Nat} (hE : dk_Good E cc own d T l0 G0 n nL0 mc ms) {pc pc' : Nat} {ls st : List dkV} {σ : dkS} {x y : Int} {ix : Nat} (hl2 : Cond.methodLink own ix yJ9_min_7cf53 ∈ lw_g) (hd : decode cc pc = .ok (.invokestatic ix, 3)) (h8 : dk_cat3 st ≤ 8) (hdd : 1 ≤ d) (hp : pc + 3 = pc') (K : ∀ z : Int, ((z = x ∨ z = y) ∧ z ≤ x ∧ z ≤ y) → dk_PJ E pc' ls ((0, z) :: st) n σ) : dk_PJ E pc ls ((0, y) :: (0, x) :: st) n σ := by
  obtain ⟨p, l, e, R, s, m, args, below, meth, c, Q, G, Ty, n0, nL⟩ := E
  obtain ⟨hx, hb, hml, hown, hts, hdf, hdl, hG, hlk, hTy, hl0, hG0, hn0, hnL0, hmc, hms, hext⟩ := hE
  subst hTy hl0 hG0 hn0 hnL0
  subst hp
  intro H locs lsr hH hL hl o1 o2 hn
  obtain ⟨o2a, o2b, o2c⟩ := dk_c2 o2
  have hcat := Nat.le_trans (dk_cats G.1 st) h8
  have hX := dk_oki o2b
  have hY := dk_oki o2a
  have hcd : Cond.code Lib.Math.min.name Lib.Math.min.code 2 (some .int) ∈ lw_g := wd_709
  refine va_mmin (x := Int32.ofInt x) (y := Int32.ofInt y) hx hb (by rw [hl.1]; exact hml) hown (hts _ hl2) (hts _ wd_708) (hts _ wd_118) (hts _ hcd) (by omega) (by omega) (by omega) (by omega) hd ?_
  by_cases q : y < x
  · rw [if_pos ((dk_lt hY hX).mpr q)]
    exact K y (by omega) H locs lsr hH hL hl o1 (dk_cc o2a o2c) hn
  · rw [if_neg (fun w => q ((dk_lt hY hX).mp w))]
    exact K x (by omega) H locs lsr hH hL hl o1 (dk_cc o2b o2c) hn
theorem dk_lmin {E : dkE} {cc : ByteArray} {own : String} {d : Nat} {T : dkT} {l0 : Launch} {G0 : dkG} {n : Int} {nL0 mc ms : Nat} (hE : dk_Good E cc own d T l0 G0 n nL0 mc ms) {pc pc' : Nat} {ls st : List dkV} {σ : dkS} {x y : Int} {ix : Nat} (hl2 : Cond.methodLink own ix yJ9_min_f86c9 ∈ lw_g) (hd : decode cc pc = .ok (.invokestatic ix, 3)) (h8 : dk_cat3 st ≤ 8) (hdd : 1 ≤ d) (hp : pc + 3 = pc') (K : ∀ z : Int, (z = x ∨ z = y) → dk_PJ E pc' ls ((3, z) :: st) n σ) : dk_PJ E pc ls ((3, y) :: (3, x) :: st) n σ := by
  obtain ⟨p, l, e, R, s, m, args, below, meth, c, Q, G, Ty, n0, nL⟩ := E
  obtain ⟨hx, hb, hml, hown, hts, hdf, hdl, hG, hlk, hTy, hl0, hG0, hn0, hnL0, hmc, hms, hext⟩ := hE
  subst hTy hl0 hG0 hn0 hnL0
  subst hp
  intro H locs lsr hH hL hl o1 o2 hn
  obtain ⟨o2a, o2b, o2c⟩ := dk_c2 o2
  have hcat := Nat.le_trans (dk_cats G.1 st) h8
  have hcd : Cond.code Lib.MathLoose.min_long.x Lib.MathLoose.min_long.code 4 (some .long) ∈ lw_g := wd_1159
  intro TT hTT X
  obtain ⟨vm', X', stp⟩ := va_min_longV X hx hown (hts _ hl2) (hts _ wd_1158) (hts _ wd_118) (hts _ hcd) (g := F0 m pc lsr (((3, y) :: (3, x) :: st).map (dk_cv G.1))) rfl (by rw [hml]; exact hl.1) (a := Int64.ofInt x) (b := Int64.ofInt y) (rest := st.map (dk_cv G.1)) rfl (by rw [hb]; exact hd) (by omega) (by show 2 * 0 + _ + 15 ≤ _; omega) (by omega) (by omega)
  by_cases q : Int64.ofInt y < Int64.ofInt x
  · rw [if_pos q] at stp
    obtain ⟨t, a1, b1⟩ := K y (Or.inr rfl) H locs lsr hH hL hl o1 (dk_cc o2a o2c) hn (TT.setVm vm') hTT X'
    exact ⟨t, stp t a1, b1⟩
  · rw [if_neg q] at stp
    obtain ⟨t, a1, b1⟩ := K x (Or.inl rfl) H locs lsr hH hL hl o1 (dk_cc o2b o2c) hn (TT.setVm vm') hTT X'
    exact ⟨t, stp t a1, b1⟩
