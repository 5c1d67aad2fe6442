/-! ===== the law: its script, its calls, its end ===== -/
def dk_Scr (E : dkE) (L : Nat) : Prop := match E with
  | (p, l, e, R, s, m, args, below, meth, c, Q, G, Ty, n0, nL) => G.1 (-40) < G.2.1 ∧ ∃ xs : Nat → Int32, va_X (G.1 (-40)) L xs s G.2.2.1
theorem dk_cv40 {ad : Int → Nat} : dk_cv ad (4, -40) = .ref (ad (-40)) := by
  show (if (-40 : Int) = -1 then Value.null else .ref (ad (-40))) = _
  rw [if_neg (by decide)]
theorem dk_sld {E : dkE} {cc : ByteArray} {own : String} {d : Nat} {T : dkT} {l0 : Launch} {G0 : dkG} {n00 : Int} {nL0 mc ms : Nat} (hE : dk_Good E cc own d T l0 G0 n00 nL0 mc ms) {L : Nat} (hX : dk_Scr E L) {pc pc' : Nat} {ls st : List dkV} {n : Int} {σ : dkS} {i : Int} (hd : decode cc pc = .ok (.iaload, 1)) (hi : 0 ≤ i ∧ i < L) (hp : pc + 1 = pc') (K : ∀ z : Int, dk_i32 z → dk_PJ E pc' ls ((0, z) :: st) n σ) : dk_PJ E pc ls ((0, i) :: (4, -40) :: st) n σ := by
  obtain ⟨p, l, e, R, s, m, args, below, meth, c, Q, G, Ty, n0, nL⟩ := E
  obtain ⟨hx, hb, hml, hown, hts, hdf, hdl, hG, hlk, hTy, hl0, hG0, hn0, hnL0, hmc, hms, hext⟩ := hE
  subst hTy hl0 hG0 hn0 hnL0
  subst hp
  intro H locs lsr hH hL hl o1 o2 hn
  obtain ⟨hlt, xs, scr, h1, h2, h3, h4, h5⟩ := hX
  obtain ⟨o2a, o2b, o2c⟩ := dk_c2 o2
  obtain ⟨x1, x2⟩ := dk_ix hi (dk_oki o2a)
  have hcell : H[G.1 (-40)]? = some scr := by rw [hH.2.2.2.1 _ hlt]; exact h1
  have hW := K (xs i.toNat).toInt (dk_r32 _) H locs lsr hH hL hl o1 (dk_cc (dk_iok (dk_r32 _)) o2c) hn
  rw [List.map_cons] at hW
  rw [List.map_cons, List.map_cons, dk_cv40]
  refine W.iald (v := .int (xs i.toNat)) hx hb hcell h2 h3 (by rw [h4]; exact x1) (by rw [x2]; exact h5 _ (by omega)) rfl rfl hd ?_
  have e1 : dk_cv G.1 (0, (xs i.toNat).toInt) = .int (xs i.toNat) := by
    show Value.int (Int32.ofInt _) = _
    rw [Int32.ofInt_toInt]
  rw [e1] at hW
  exact hW
theorem dk_slen {E : dkE} {cc : ByteArray} {own : String} {d : Nat} {T : dkT} {l0 : Launch} {G0 : dkG} {n00 : Int} {nL0 mc ms : Nat} (hE : dk_Good E cc own d T l0 G0 n00 nL0 mc ms) {L : Nat} (hX : dk_Scr E L) (hL0 : L ≤ 3072) {pc pc' : Nat} {ls st : List dkV} {n : Int} {σ : dkS} (hd : decode cc pc = .ok (.arraylength, 1)) (hp : pc + 1 = pc') (K : dk_PJ E pc' ls ((0, (L : Int)) :: st) n σ) : dk_PJ E pc ls ((4, -40) :: st) n σ := by
  obtain ⟨p, l, e, R, s, m, args, below, meth, c, Q, G, Ty, n0, nL⟩ := E
  obtain ⟨hx, hb, hml, hown, hts, hdf, hdl, hG, hlk, hTy, hl0, hG0, hn0, hnL0, hmc, hms, hext⟩ := hE
  subst hTy hl0 hG0 hn0 hnL0
  subst hp
  intro H locs lsr hH hL hl o1 o2 hn
  obtain ⟨hlt, xs, scr, h1, h2, h3, h4, h5⟩ := hX
  have hcell : H[G.1 (-40)]? = some scr := by rw [hH.2.2.2.1 _ hlt]; exact h1
  have hW := K H locs lsr hH hL hl o1 (dk_cc (dk_iok ⟨by omega, by omega⟩) (dk_c1 o2).2) hn
  rw [List.map_cons] at hW
  rw [List.map_cons, dk_cv40]
  refine W.alen (n := Int32.ofInt (L : Int)) hx hb hcell h2 (by rw [h4]; rfl) rfl rfl hd hW
/-- all cells are as their types say -/
theorem dk_retype {p : Program} {l : Launch} {e : Env} {R : Room} {s : State} {m : MethodId} {args : Array Value} {below : List Frame} {meth : Method} {c : Code} {Q : State → Prop} {G : dkG} {n0 : Int} {nL pc : Nat} {ls st : List dkV} {n : Int} {σ : dkS} (h : ∀ k : Int, 0 ≤ k → k < n → ∀ j : Nat, j < dk_len (dk_site k) → dk_Ty k (j : Int) (σ k (j : Int))) (K : dk_PJ (p, l, e, R, s, m, args, below, meth, c, Q, G, dk_Ty, n0, nL) pc ls st n σ) : dk_PJ (p, l, e, R, s, m, args, below, meth, c, Q, G, dk_T0, n0, nL) pc ls st n σ := by
  intro H locs lsr hH hL hl o1 o2 hn
  obtain ⟨a1, a2, a3, a4, a5⟩ := hH
  exact K H locs lsr ⟨a1, a2, a3, a4, fun k h0 hk => ⟨(a5 k h0 hk).1, fun j hj => ⟨((a5 k h0 hk).2 j hj).1, h k h0 hk j hj⟩⟩⟩ hL hl o1 o2 hn
/-- a call out of the law -/
theorem dk_cL {E : dkE} {cc : ByteArray} {own : String} {d : Nat} {l0 : Launch} {G0 : dkG} (hE : dk_Good E cc own d dk_Ty l0 G0 0 4 600000 7302250) {pc pc' : Nat} {ls st : List dkV} {σ : dkS} {as stk : List dkV} {k : Int} {ix cl dc na maxL : Nat} {y : MethodName} {cc2 : ByteArray} {ret : Option FieldType} {Pre : List dkV → dkS → Prop} {Post : List dkV → dkS → Option dkV → dkS → Prop} (hW : dk_LV own ix cl y cc2 maxL ret na) (hc : dk_Ct l0 G0 dk_Ty y cc2 maxL ret dc 190 190 Pre Post) (hd : decode cc pc = .ok (.invokevirtual ix, 3)) (hst : stk = as.reverse ++ (4, k) :: st) (hk : dk_is 190 cl k) (hna : as.length = na) (hdc : dc + 1 ≤ d) (h8 : dk_cat3 st ≤ 8) (hpre : Pre ((4, k) :: as) σ) (hp : pc + 3 = pc') (K : ∀ (r : Option dkV) (σ' : dkS), Post ((4, k) :: as) σ r σ' → (∀ v, r = some v → dk_ok v) → dk_PJ E pc' ls (r.toList ++ st) 190 σ') : dk_PJ E pc ls stk 190 σ :=
  dk_invV hE hW hc hd hst hk hna hdc h8 ⟨by decide, by rw [tt_190, tt_0]; decide⟩ (fun _ => Int.le_refl _) ⟨by rw [tt_190, tt_0]; decide, Nat.le_refl _⟩ hpre hp K
/-- what holds between the law's calls -/
def LI (σ : dkS) : Prop := GI σ ∧ dk_sc (σ 0 9) ∧ MI σ
def LX (σ : dkS) : Prop := LI σ ∧ σ 0 12 = σ 141 52 ∧ σ 37 8 = σ 141 54
