/-! the script's ints by name -/
def dk_Scx (E : dkE) (L : Nat) (xs : Nat → Int32) : Prop := match E with
  | (p, l, e, R, s, m, args, below, meth, c, Q, G, Ty, n0, nL) => G.1 (-40) < G.2.1 ∧ va_X (G.1 (-40)) L xs s G.2.2.1
theorem dk_Scx.scr {E : dkE} {L : Nat} {xs : Nat → Int32} (h : dk_Scx E L xs) : dk_Scr E L := by
  obtain ⟨p, l, e, R, s, m, args, below, meth, c, Q, G, Ty, n0, nL⟩ := E
  exact ⟨h.1, xs, h.2⟩
theorem dk_sldx {E : dkE} {cc : ByteArray} {own : String} {d : Nat} {T : dkT} {l0 : Launch} {G0 : dkG} {n00 : Int} {nL0 mc ms : Nat} (hE : dk_Good E cc own d T l0 G0 n00 nL0 mc ms) {L : Nat} {xs : Nat → Int32} (hX : dk_Scx E L xs) {pc pc' : Nat} {ls st : List dkV} {n : Int} {σ : dkS} {i : Int} (hd : decode cc pc = .ok (.iaload, 1)) (hi : 0 ≤ i ∧ i < L) (hp : pc + 1 = pc') (K : ∀ z : Int, dk_i32 z → z = (xs i.toNat).toInt → dk_PJ E pc' ls ((0, z) :: st) n σ) : dk_PJ E pc ls ((0, i) :: (4, -40) :: st) n σ := by
  obtain ⟨p, l, e, R, s, m, args, below, meth, c, Q, G, Ty, n0, nL⟩ := E
  obtain ⟨hx, hb, hml, hown, hts, hdf, hdl, hG, hlk, hTy, hl0, hG0, hn0, hnL0, hmc, hms, hext⟩ := hE
  subst hTy hl0 hG0 hn0 hnL0
  subst hp
  intro H locs lsr hH hL hl o1 o2 hn
  obtain ⟨hlt, scr, h1, h2, h3, h4, h5⟩ := hX
  obtain ⟨o2a, o2b, o2c⟩ := dk_c2 o2
  obtain ⟨x1, x2⟩ := dk_ix hi (dk_oki o2a)
  have hcell : H[G.1 (-40)]? = some scr := by rw [hH.2.2.2.1 _ hlt]; exact h1
  have hW := K (xs i.toNat).toInt (dk_r32 _) rfl H locs lsr hH hL hl o1 (dk_cc (dk_iok (dk_r32 _)) o2c) hn
  rw [List.map_cons] at hW
  rw [List.map_cons, List.map_cons, dk_cv40]
  refine W.iald (v := .int (xs i.toNat)) hx hb hcell h2 h3 (by rw [h4]; exact x1) (by rw [x2]; exact h5 _ (by omega)) rfl rfl hd ?_
  have e1 : dk_cv G.1 (0, (xs i.toNat).toInt) = .int (xs i.toNat) := by
    show Value.int (Int32.ofInt _) = _
    rw [Int32.ofInt_toInt]
  rw [e1] at hW
  exact hW
