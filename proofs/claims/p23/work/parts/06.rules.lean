theorem dk_iconst {E : dkE} {cc : ByteArray} {own : String} {d : Nat} {T : dkT} {l0 : Launch} {G0 : dkG} {n00 : Int} {nL0 mc ms : Nat} (hE : dk_Good E cc own d T l0 G0 n00 nL0 mc ms) {pc pc' : Nat} {ls st : List dkV} {n : Int} {σ : dkS} {z : Int} (hd : decode cc pc = .ok (.iconst z, 1)) (hz : -128 ≤ z ∧ z ≤ 127) (hp : pc + 1 = pc') (k : dk_PJ E pc' ls ((0, z) :: st) n σ) : dk_PJ E pc ls st n σ := by
  obtain ⟨p, l, e, R, s, m, args, below, meth, c, Q, G, Ty, n0, nL⟩ := E
  obtain ⟨hx, hb, hml, hown, hts, hdf, hdl, hG, hlk, hTy, hl0, hG0, hn0, hnL0, hmc, hms, hext⟩ := hE
  subst hTy hl0 hG0 hn0 hnL0
  subst hp
  intro H locs lsr hH hL hl o1 o2 hn
  exact lv_iconst hx hb hd rfl (k H locs lsr hH hL hl o1 (dk_cc (dk_iok ⟨by omega, by omega⟩) o2) hn)
theorem dk_b8 {z : Int} (h : -128 ≤ z ∧ z ≤ 127) : (Int8.ofInt z).toInt32 = Int32.ofInt z := by
  rw [← Int32.toInt_inj, Int8.toInt_toInt32, dk_t32 ⟨by omega, by omega⟩, Int8.toInt_ofInt_of_le (by omega) (by omega)]
theorem dk_b16 {z : Int} (h : -32768 ≤ z ∧ z ≤ 32767) : (Int16.ofInt z).toInt32 = Int32.ofInt z := by
  rw [← Int32.toInt_inj, Int16.toInt_toInt32, dk_t32 ⟨by omega, by omega⟩, Int16.toInt_ofInt_of_le (by omega) (by omega)]
theorem dk_bipush {E : dkE} {cc : ByteArray} {own : String} {d : Nat} {T : dkT} {l0 : Launch} {G0 : dkG} {n00 : Int} {nL0 mc ms : Nat} (hE : dk_Good E cc own d T l0 G0 n00 nL0 mc ms) {pc pc' : Nat} {ls st : List dkV} {n : Int} {σ : dkS} {z : Int} (hd : decode cc pc = .ok (.bipush z, 2)) (hz : -128 ≤ z ∧ z ≤ 127) (hp : pc + 2 = pc') (k : dk_PJ E pc' ls ((0, z) :: st) n σ) : dk_PJ E pc ls st n σ := by
  obtain ⟨p, l, e, R, s, m, args, below, meth, c, Q, G, Ty, n0, nL⟩ := E
  obtain ⟨hx, hb, hml, hown, hts, hdf, hdl, hG, hlk, hTy, hl0, hG0, hn0, hnL0, hmc, hms, hext⟩ := hE
  subst hTy hl0 hG0 hn0 hnL0
  subst hp
  intro H locs lsr hH hL hl o1 o2 hn
  exact lv_bipush hx hb hd (dk_b8 hz) (k H locs lsr hH hL hl o1 (dk_cc (dk_iok ⟨by omega, by omega⟩) o2) hn)
theorem dk_sipush {E : dkE} {cc : ByteArray} {own : String} {d : Nat} {T : dkT} {l0 : Launch} {G0 : dkG} {n00 : Int} {nL0 mc ms : Nat} (hE : dk_Good E cc own d T l0 G0 n00 nL0 mc ms) {pc pc' : Nat} {ls st : List dkV} {n : Int} {σ : dkS} {z : Int} (hd : decode cc pc = .ok (.sipush z, 3)) (hz : -32768 ≤ z ∧ z ≤ 32767) (hp : pc + 3 = pc') (k : dk_PJ E pc' ls ((0, z) :: st) n σ) : dk_PJ E pc ls st n σ := by
  obtain ⟨p, l, e, R, s, m, args, below, meth, c, Q, G, Ty, n0, nL⟩ := E
  obtain ⟨hx, hb, hml, hown, hts, hdf, hdl, hG, hlk, hTy, hl0, hG0, hn0, hnL0, hmc, hms, hext⟩ := hE
  subst hTy hl0 hG0 hn0 hnL0
  subst hp
  intro H locs lsr hH hL hl o1 o2 hn
  exact lv_sipush hx hb hd (dk_b16 hz) (k H locs lsr hH hL hl o1 (dk_cc (dk_iok ⟨by omega, by omega⟩) o2) hn)
theorem dk_ldc {E : dkE} {cc : ByteArray} {own : String} {d : Nat} {T : dkT} {l0 : Launch} {G0 : dkG} {n00 : Int} {nL0 mc ms : Nat} (hE : dk_Good E cc own d T l0 G0 n00 nL0 mc ms) {pc pc' : Nat} {ls st : List dkV} {n : Int} {σ : dkS} {z : Int} {ix : Nat} (hd : decode cc pc = .ok (.ldc ix, 2)) (hw : Cond.constant own ix (Int32.ofInt z) ∈ lw_g) (hz : dk_i32 z) (hp : pc + 2 = pc') (k : dk_PJ E pc' ls ((0, z) :: st) n σ) : dk_PJ E pc ls st n σ := by
  obtain ⟨p, l, e, R, s, m, args, below, meth, c, Q, G, Ty, n0, nL⟩ := E
  obtain ⟨hx, hb, hml, hown, hts, hdf, hdl, hG, hlk, hTy, hl0, hG0, hn0, hnL0, hmc, hms, hext⟩ := hE
  subst hTy hl0 hG0 hn0 hnL0
  subst hp
  intro H locs lsr hH hL hl o1 o2 hn
  exact lv_ldc hx hb hown (hts _ hw) hd (k H locs lsr hH hL hl o1 (dk_cc (dk_iok hz) o2) hn)
theorem dk_ldcw {E : dkE} {cc : ByteArray} {own : String} {d : Nat} {T : dkT} {l0 : Launch} {G0 : dkG} {n00 : Int} {nL0 mc ms : Nat} (hE : dk_Good E cc own d T l0 G0 n00 nL0 mc ms) {pc pc' : Nat} {ls st : List dkV} {n : Int} {σ : dkS} {z : Int} {ix : Nat} (hd : decode cc pc = .ok (.ldc_w ix, 3)) (hw : Cond.constant own ix (Int32.ofInt z) ∈ lw_g) (hz : dk_i32 z) (hp : pc + 3 = pc') (k : dk_PJ E pc' ls ((0, z) :: st) n σ) : dk_PJ E pc ls st n σ := by
  obtain ⟨p, l, e, R, s, m, args, below, meth, c, Q, G, Ty, n0, nL⟩ := E
  obtain ⟨hx, hb, hml, hown, hts, hdf, hdl, hG, hlk, hTy, hl0, hG0, hn0, hnL0, hmc, hms, hext⟩ := hE
  subst hTy hl0 hG0 hn0 hnL0
  subst hp
  intro H locs lsr hH hL hl o1 o2 hn
  exact lv_ldcw hx hb hown (hts _ hw) hd (k H locs lsr hH hL hl o1 (dk_cc (dk_iok hz) o2) hn)
theorem dk_ldc2 {E : dkE} {cc : ByteArray} {own : String} {d : Nat} {T : dkT} {l0 : Launch} {G0 : dkG} {n00 : Int} {nL0 mc ms : Nat} (hE : dk_Good E cc own d T l0 G0 n00 nL0 mc ms) {pc pc' : Nat} {ls st : List dkV} {n : Int} {σ : dkS} {z : Int} {ix : Nat} (hd : decode cc pc = .ok (.ldc2_w ix, 3)) (hw : Cond.constantLong own ix (Int64.ofInt z) ∈ lw_g) (hz : dk_i64 z) (hp : pc + 3 = pc') (k : dk_PJ E pc' ls ((3, z) :: st) n σ) : dk_PJ E pc ls st n σ := by
  obtain ⟨p, l, e, R, s, m, args, below, meth, c, Q, G, Ty, n0, nL⟩ := E
  obtain ⟨hx, hb, hml, hown, hts, hdf, hdl, hG, hlk, hTy, hl0, hG0, hn0, hnL0, hmc, hms, hext⟩ := hE
  subst hTy hl0 hG0 hn0 hnL0
  subst hp
  intro H locs lsr hH hL hl o1 o2 hn
  exact lv_ldc2 hx hb hown (hts _ hw) hd (k H locs lsr hH hL hl o1 (dk_cc (dk_lok hz) o2) hn)
theorem dk_lconst {E : dkE} {cc : ByteArray} {own : String} {d : Nat} {T : dkT} {l0 : Launch} {G0 : dkG} {n00 : Int} {nL0 mc ms : Nat} (hE : dk_Good E cc own d T l0 G0 n00 nL0 mc ms) {pc pc' : Nat} {ls st : List dkV} {n : Int} {σ : dkS} {z : Fin 2} {w : Int} (hd : decode cc pc = .ok (.lconst z, 1)) (hw : ((z : Nat) : Int) = w) (hp : pc + 1 = pc') (k : dk_PJ E pc' ls ((3, w) :: st) n σ) : dk_PJ E pc ls st n σ := by
  obtain ⟨p, l, e, R, s, m, args, below, meth, c, Q, G, Ty, n0, nL⟩ := E
  obtain ⟨hx, hb, hml, hown, hts, hdf, hdl, hG, hlk, hTy, hl0, hG0, hn0, hnL0, hmc, hms, hext⟩ := hE
  subst hTy hl0 hG0 hn0 hnL0
  subst hp
  intro H locs lsr hH hL hl o1 o2 hn
  subst hw
  exact lv_lconst hx hb hd (by rfl) (k H locs lsr hH hL hl o1 (dk_cc (dk_lok ⟨by omega, by omega⟩) o2) hn)
theorem dk_null {E : dkE} {cc : ByteArray} {own : String} {d : Nat} {T : dkT} {l0 : Launch} {G0 : dkG} {n00 : Int} {nL0 mc ms : Nat} (hE : dk_Good E cc own d T l0 G0 n00 nL0 mc ms) {pc pc' : Nat} {ls st : List dkV} {n : Int} {σ : dkS} (hd : decode cc pc = .ok (.aconst_null, 1)) (hp : pc + 1 = pc') (k : dk_PJ E pc' ls ((4, -1) :: st) n σ) : dk_PJ E pc ls st n σ := by
  obtain ⟨p, l, e, R, s, m, args, below, meth, c, Q, G, Ty, n0, nL⟩ := E
  obtain ⟨hx, hb, hml, hown, hts, hdf, hdl, hG, hlk, hTy, hl0, hG0, hn0, hnL0, hmc, hms, hext⟩ := hE
  subst hTy hl0 hG0 hn0 hnL0
  subst hp
  intro H locs lsr hH hL hl o1 o2 hn
  exact lv_null hx hb hd (k H locs lsr hH hL hl o1 (dk_cc (dk_rok _) o2) hn)
theorem dk_iload_n {E : dkE} {cc : ByteArray} {own : String} {d : Nat} {T : dkT} {l0 : Launch} {G0 : dkG} {n00 : Int} {nL0 mc ms : Nat} (hE : dk_Good E cc own d T l0 G0 n00 nL0 mc ms) {pc pc' : Nat} {ls st : List dkV} {n : Int} {σ : dkS} {q : Fin 4} {i : Nat} {x : Int} (hd : decode cc pc = .ok (.iload_n q, 1)) (hi : (q : Nat) = i) (hg : ls[i]? = some (0, x)) (hp : pc + 1 = pc') (k : dk_PJ E pc' ls ((0, x) :: st) n σ) : dk_PJ E pc ls st n σ := by
  obtain ⟨p, l, e, R, s, m, args, below, meth, c, Q, G, Ty, n0, nL⟩ := E
  obtain ⟨hx, hb, hml, hown, hts, hdf, hdl, hG, hlk, hTy, hl0, hG0, hn0, hnL0, hmc, hms, hext⟩ := hE
  subst hTy hl0 hG0 hn0 hnL0
  subst hp
  intro H locs lsr hH hL hl o1 o2 hn
  exact lv_iload_n hx hb hd hi (hl.2.2 i _ hg (by simp)) (k H locs lsr hH hL hl o1 (dk_cc (o1 _ (List.mem_of_getElem? hg)) o2) hn)
theorem dk_iload {E : dkE} {cc : ByteArray} {own : String} {d : Nat} {T : dkT} {l0 : Launch} {G0 : dkG} {n00 : Int} {nL0 mc ms : Nat} (hE : dk_Good E cc own d T l0 G0 n00 nL0 mc ms) {pc pc' : Nat} {ls st : List dkV} {n : Int} {σ : dkS} {i : Nat} {x : Int} (hd : decode cc pc = .ok (.iload i, 2)) (hg : ls[i]? = some (0, x)) (hp : pc + 2 = pc') (k : dk_PJ E pc' ls ((0, x) :: st) n σ) : dk_PJ E pc ls st n σ := by
  obtain ⟨p, l, e, R, s, m, args, below, meth, c, Q, G, Ty, n0, nL⟩ := E
  obtain ⟨hx, hb, hml, hown, hts, hdf, hdl, hG, hlk, hTy, hl0, hG0, hn0, hnL0, hmc, hms, hext⟩ := hE
  subst hTy hl0 hG0 hn0 hnL0
  subst hp
  intro H locs lsr hH hL hl o1 o2 hn
  exact lv_iload hx hb hd (hl.2.2 i _ hg (by simp)) (k H locs lsr hH hL hl o1 (dk_cc (o1 _ (List.mem_of_getElem? hg)) o2) hn)
theorem dk_lload_n {E : dkE} {cc : ByteArray} {own : String} {d : Nat} {T : dkT} {l0 : Launch} {G0 : dkG} {n00 : Int} {nL0 mc ms : Nat} (hE : dk_Good E cc own d T l0 G0 n00 nL0 mc ms) {pc pc' : Nat} {ls st : List dkV} {n : Int} {σ : dkS} {q : Fin 4} {i : Nat} {x : Int} (hd : decode cc pc = .ok (.lload_n q, 1)) (hi : (q : Nat) = i) (hg : ls[i]? = some (3, x)) (hp : pc + 1 = pc') (k : dk_PJ E pc' ls ((3, x) :: st) n σ) : dk_PJ E pc ls st n σ := by
  obtain ⟨p, l, e, R, s, m, args, below, meth, c, Q, G, Ty, n0, nL⟩ := E
  obtain ⟨hx, hb, hml, hown, hts, hdf, hdl, hG, hlk, hTy, hl0, hG0, hn0, hnL0, hmc, hms, hext⟩ := hE
  subst hTy hl0 hG0 hn0 hnL0
  subst hp
  intro H locs lsr hH hL hl o1 o2 hn
  exact lv_lload_n hx hb hd hi (hl.2.2 i _ hg (by simp)) (k H locs lsr hH hL hl o1 (dk_cc (o1 _ (List.mem_of_getElem? hg)) o2) hn)
theorem dk_lload {E : dkE} {cc : ByteArray} {own : String} {d : Nat} {T : dkT} {l0 : Launch} {G0 : dkG} {n00 : Int} {nL0 mc ms : Nat} (hE : dk_Good E cc own d T l0 G0 n00 nL0 mc ms) {pc pc' : Nat} {ls st : List dkV} {n : Int} {σ : dkS} {i : Nat} {x : Int} (hd : decode cc pc = .ok (.lload i, 2)) (hg : ls[i]? = some (3, x)) (hp : pc + 2 = pc') (k : dk_PJ E pc' ls ((3, x) :: st) n σ) : dk_PJ E pc ls st n σ := by
  obtain ⟨p, l, e, R, s, m, args, below, meth, c, Q, G, Ty, n0, nL⟩ := E
  obtain ⟨hx, hb, hml, hown, hts, hdf, hdl, hG, hlk, hTy, hl0, hG0, hn0, hnL0, hmc, hms, hext⟩ := hE
  subst hTy hl0 hG0 hn0 hnL0
  subst hp
  intro H locs lsr hH hL hl o1 o2 hn
  exact lv_lload hx hb hd (hl.2.2 i _ hg (by simp)) (k H locs lsr hH hL hl o1 (dk_cc (o1 _ (List.mem_of_getElem? hg)) o2) hn)
theorem dk_cvr {ad : Int → Nat} {x : Int} : (x = -1 ∧ dk_cv ad (4, x) = .null) ∨ (x ≠ -1 ∧ dk_cv ad (4, x) = .ref (ad x)) := by
  by_cases h : x = -1
  · exact Or.inl ⟨h, by simp [dk_cv, h]⟩
  · exact Or.inr ⟨h, by simp [dk_cv, h]⟩
theorem dk_aload_n {E : dkE} {cc : ByteArray} {own : String} {d : Nat} {T : dkT} {l0 : Launch} {G0 : dkG} {n00 : Int} {nL0 mc ms : Nat} (hE : dk_Good E cc own d T l0 G0 n00 nL0 mc ms) {pc pc' : Nat} {ls st : List dkV} {n : Int} {σ : dkS} {q : Fin 4} {i : Nat} {x : Int} (hd : decode cc pc = .ok (.aload_n q, 1)) (hi : (q : Nat) = i) (hg : ls[i]? = some (4, x)) (hp : pc + 1 = pc') (k : dk_PJ E pc' ls ((4, x) :: st) n σ) : dk_PJ E pc ls st n σ := by
  obtain ⟨p, l, e, R, s, m, args, below, meth, c, Q, G, Ty, n0, nL⟩ := E
  obtain ⟨hx, hb, hml, hown, hts, hdf, hdl, hG, hlk, hTy, hl0, hG0, hn0, hnL0, hmc, hms, hext⟩ := hE
  subst hTy hl0 hG0 hn0 hnL0
  subst hp
  intro H locs lsr hH hL hl o1 o2 hn
  have h1 := hl.2.2 i _ hg (by simp)
  have h2 := k H locs lsr hH hL hl o1 (dk_cc (dk_rok x) o2) hn
  rw [List.map_cons] at h2
  rcases dk_cvr (ad := G.1) (x := x) with ⟨-, q⟩ | ⟨-, q⟩
  · rw [q] at h1 h2
    exact lv_aload_nN hx hb hd hi h1 h2
  · rw [q] at h1 h2
    exact lv_aload_n hx hb hd hi h1 h2
theorem dk_aload {E : dkE} {cc : ByteArray} {own : String} {d : Nat} {T : dkT} {l0 : Launch} {G0 : dkG} {n00 : Int} {nL0 mc ms : Nat} (hE : dk_Good E cc own d T l0 G0 n00 nL0 mc ms) {pc pc' : Nat} {ls st : List dkV} {n : Int} {σ : dkS} {i : Nat} {x : Int} (hd : decode cc pc = .ok (.aload i, 2)) (hg : ls[i]? = some (4, x)) (hp : pc + 2 = pc') (k : dk_PJ E pc' ls ((4, x) :: st) n σ) : dk_PJ E pc ls st n σ := by
  obtain ⟨p, l, e, R, s, m, args, below, meth, c, Q, G, Ty, n0, nL⟩ := E
  obtain ⟨hx, hb, hml, hown, hts, hdf, hdl, hG, hlk, hTy, hl0, hG0, hn0, hnL0, hmc, hms, hext⟩ := hE
  subst hTy hl0 hG0 hn0 hnL0
  subst hp
  intro H locs lsr hH hL hl o1 o2 hn
  have h1 := hl.2.2 i _ hg (by simp)
  have h2 := k H locs lsr hH hL hl o1 (dk_cc (dk_rok x) o2) hn
  rw [List.map_cons] at h2
  rcases dk_cvr (ad := G.1) (x := x) with ⟨-, q⟩ | ⟨-, q⟩
  · rw [q] at h1 h2
    exact lv_aloadN hx hb hd h1 h2
  · rw [q] at h1 h2
    exact lv_aload hx hb hd h1 h2
/-- a store: a long whose second half is overwritten is gone -/
def dk_st1 (ls : List dkV) (i : Nat) (v : dkV) : List dkV := match i with
  | 0 => ls.set 0 v
  | k + 1 => (cond (Nat.beq (ls.getD k (9, 0)).1 3) (ls.set k (9, 0)) ls).set (k + 1) v
def dk_st2 (ls : List dkV) (i : Nat) (v : dkV) : List dkV := (dk_st1 ls i v).set (i + 1) (9, 0)
def dk_lv (ad : Int → Nat) (ls : List dkV) : List (Nat × Value) := ((List.range ls.length).filter (fun i => !(Nat.beq (ls.getD i (9, 0)).1 9))).map (fun i => (i, dk_cv ad (ls.getD i (9, 0))))
theorem dk_gd {ls : List dkV} {i : Nat} {v : dkV} (h : ls[i]? = some v) : ls.getD i (9, 0) = v := by rw [List.getD_eq_getElem?_getD, h]; rfl
theorem dk_lv_in {ad : Int → Nat} {ls : List dkV} {i : Nat} {v : dkV} (h : ls[i]? = some v) (h9 : v.1 ≠ 9) : (i, dk_cv ad v) ∈ dk_lv ad ls := by
  refine List.mem_map.mpr ⟨i, List.mem_filter.mpr ⟨List.mem_range.mpr (List.getElem?_eq_some_iff.mp h).1, ?_⟩, by rw [dk_gd h]⟩
  rw [dk_gd h]
  cases q : Nat.beq v.1 9 with
  | false => rfl
  | true => exact absurd (Nat.eq_of_beq_eq_true q) h9
theorem dk_lv_has {ad : Int → Nat} {lsr : Array Slot} {nL : Nat} {ls : List dkV} (h : dk_lr ad lsr nL ls) : lv_has lsr nL (dk_lv ad ls) := by
  refine ⟨h.1, h.2.1, fun q hq => ?_⟩
  obtain ⟨i, hi, rfl⟩ := List.mem_map.mp hq
  obtain ⟨h1, h2⟩ := List.mem_filter.mp hi
  have h3 : ls[i]? = some (ls.getD i (9, 0)) := by
    rw [List.getD_eq_getElem?_getD, List.getElem?_eq_getElem (List.mem_range.mp h1)]; rfl
  exact h.2.2 i _ h3 (by intro q; rw [q] at h2; cases h2)
theorem dk_cat {ad : Int → Nat} {v : dkV} (h : (dk_cv ad v).category = 2) : v.1 = 3 := by
  obtain ⟨t, z⟩ := v
  match t, h with
  | 0, h => cases h
  | 1, h => rcases Decidable.em (z = -1) with q | q <;> simp [dk_cv, q, Value.category] at h
  | 2, h => rcases Decidable.em (z = -1) with q | q <;> simp [dk_cv, q, Value.category] at h
  | 3, h => rfl
  | k + 4, h => rcases Decidable.em (z = -1) with q | q <;> simp [dk_cv, q, Value.category] at h
theorem dk_st1_get {ls : List dkV} {i j : Nat} {v w : dkV} (h : (dk_st1 ls i v)[j]? = some w) (h9 : w.1 ≠ 9) : (j = i ∧ w = v) ∨ (j ≠ i ∧ ls[j]? = some w ∧ ¬ (j + 1 = i ∧ w.1 = 3)) := by
  by_cases hj : j = i
  · subst hj
    refine Or.inl ⟨rfl, ?_⟩
    cases j with
    | zero =>
      rw [dk_st1, List.getElem?_set_self'] at h
      cases q : ls[0]? with
      | none => rw [q] at h; cases h
      | some x => rw [q] at h; exact (Option.some.inj h).symm
    | succ k =>
      rw [dk_st1, List.getElem?_set_self'] at h
      cases q : (cond (Nat.beq (ls.getD k (9, 0)).1 3) (ls.set k (9, 0)) ls)[k + 1]? with
      | none => rw [q] at h; cases h
      | some x => rw [q] at h; exact (Option.some.inj h).symm
  · refine Or.inr ⟨hj, ?_⟩
    cases i with
    | zero =>
      rw [dk_st1, List.getElem?_set_ne (Ne.symm hj)] at h
      exact ⟨h, fun q => by omega⟩
    | succ k =>
      rw [dk_st1, List.getElem?_set_ne (Ne.symm hj)] at h
      cases hb : Nat.beq (ls.getD k (9, 0)).1 3 with
      | false =>
        rw [hb] at h
        refine ⟨h, fun q => ?_⟩
        have e : j = k := by omega
        subst e
        have h : ls[j]? = some w := h
        rw [dk_gd h, q.2] at hb
        cases hb
      | true =>
        rw [hb] at h
        have h : (ls.set k (9, 0))[j]? = some w := h
        by_cases e : j = k
        · subst e
          rw [List.getElem?_set_self'] at h
          cases q : ls[j]? with
          | none => rw [q] at h; cases h
          | some x =>
            rw [q] at h
            exact absurd (by rw [← Option.some.inj h]; rfl) h9
        · rw [List.getElem?_set_ne (Ne.symm e)] at h
          exact ⟨h, fun q => by omega⟩
theorem dk_st1_lr {ad : Int → Nat} {ls' : Array Slot} {nL i : Nat} {ls : List dkV} {v : dkV} (h : lv_has ls' nL ((i, dk_cv ad v) :: (dk_lv ad ls).filter (fun q => !(q.1 == i) && !(q.1 + 1 == i && q.2.category == 2)))) : dk_lr ad ls' nL (dk_st1 ls i v) := by
  refine ⟨h.1, h.2.1, fun j w hj h9 => ?_⟩
  rcases dk_st1_get hj h9 with ⟨rfl, rfl⟩ | ⟨h1, h2, h3⟩
  · exact h.2.2 (j, dk_cv ad w) (by simp)
  · refine h.2.2 (j, dk_cv ad w) (List.mem_cons_of_mem _ (List.mem_filter.mpr ⟨dk_lv_in h2 h9, ?_⟩))
    have g : ¬ (j + 1 = i ∧ (dk_cv ad w).category = 2) := fun q => h3 ⟨q.1, dk_cat q.2⟩
    by_cases hi : j + 1 = i
    · have : ¬ (dk_cv ad w).category = 2 := fun q => g ⟨hi, q⟩
      simp [h1, this]
    · simp [h1, hi]
theorem dk_st2_lr {ad : Int → Nat} {ls' : Array Slot} {nL i : Nat} {ls : List dkV} {v : dkV} (h : lv_has ls' nL ((i, dk_cv ad v) :: (dk_lv ad ls).filter (fun q => !(q.1 == i) && (!(q.1 == i + 1) && !(q.1 + 1 == i && q.2.category == 2))))) : dk_lr ad ls' nL (dk_st2 ls i v) := by
  refine ⟨h.1, h.2.1, fun j w hj h9 => ?_⟩
  have hj1 : j ≠ i + 1 := by
    intro q
    subst q
    rw [dk_st2, List.getElem?_set_self'] at hj
    cases q : (dk_st1 ls i v)[i + 1]? with
    | none => rw [q] at hj; cases hj
    | some x => rw [q] at hj; exact absurd (by rw [← Option.some.inj hj]; rfl) h9
  rw [dk_st2, List.getElem?_set_ne (Ne.symm hj1)] at hj
  rcases dk_st1_get hj h9 with ⟨rfl, rfl⟩ | ⟨h1, h2, h3⟩
  · exact h.2.2 (j, dk_cv ad w) (by simp)
  · refine h.2.2 (j, dk_cv ad w) (List.mem_cons_of_mem _ (List.mem_filter.mpr ⟨dk_lv_in h2 h9, ?_⟩))
    by_cases hi : j + 1 = i
    · have : ¬ (dk_cv ad w).category = 2 := fun q => h3 ⟨hi, dk_cat q⟩
      simp [h1, hj1, this]
    · simp [h1, hj1, hi]
theorem dk_ok9 : dk_ok (9, 0) := ⟨fun q => (by cases q), fun q => (by cases q)⟩
theorem dk_set_ok {ls : List dkV} {i : Nat} {v : dkV} (h : ∀ x ∈ ls, dk_ok x) (hv : dk_ok v) : ∀ x ∈ ls.set i v, dk_ok x := fun x hx => by
  rcases List.mem_or_eq_of_mem_set hx with q | rfl
  · exact h x q
  · exact hv
theorem dk_st1_ok {ls : List dkV} {i : Nat} {v : dkV} (h : ∀ x ∈ ls, dk_ok x) (hv : dk_ok v) : ∀ x ∈ dk_st1 ls i v, dk_ok x := by
  cases i with
  | zero => exact dk_set_ok h hv
  | succ k =>
    refine dk_set_ok ?_ hv
    cases Nat.beq (ls.getD k (9, 0)).1 3 with
    | true => exact dk_set_ok h dk_ok9
    | false => exact h
theorem dk_st2_ok {ls : List dkV} {i : Nat} {v : dkV} (h : ∀ x ∈ ls, dk_ok x) (hv : dk_ok v) : ∀ x ∈ dk_st2 ls i v, dk_ok x := dk_set_ok (dk_st1_ok h hv) dk_ok9
theorem dk_istore_n {E : dkE} {cc : ByteArray} {own : String} {d : Nat} {T : dkT} {l0 : Launch} {G0 : dkG} {n00 : Int} {nL0 mc ms : Nat} (hE : dk_Good E cc own d T l0 G0 n00 nL0 mc ms) {pc pc' : Nat} {ls st : List dkV} {n : Int} {σ : dkS} {q : Fin 4} {i : Nat} {x : Int} {ls' : List dkV} (hd : decode cc pc = .ok (.istore_n q, 1)) (hi : (q : Nat) = i) (hs : dk_st1 ls i (0, x) = ls') (hq : i < nL0) (hp : pc + 1 = pc') (k : dk_PJ E pc' ls' st n σ) : dk_PJ E pc ls ((0, x) :: st) n σ := by
  obtain ⟨p, l, e, R, s, m, args, below, meth, c, Q, G, Ty, n0, nL⟩ := E
  obtain ⟨hx, hb, hml, hown, hts, hdf, hdl, hG, hlk, hTy, hl0, hG0, hn0, hnL0, hmc, hms, hext⟩ := hE
  subst hTy hl0 hG0 hn0 hnL0
  subst hp
  intro H locs lsr hH hL hl o1 o2 hn
  subst hs
  obtain ⟨o2a, o2b⟩ := dk_c1 o2
  exact lv_istore_n hx hb hd hi (dk_lv_has hl) hq rfl (fun ls1 hl1 => k H locs ls1 hH hL (dk_st1_lr hl1) (dk_st1_ok o1 o2a) o2b hn)
theorem dk_istore {E : dkE} {cc : ByteArray} {own : String} {d : Nat} {T : dkT} {l0 : Launch} {G0 : dkG} {n00 : Int} {nL0 mc ms : Nat} (hE : dk_Good E cc own d T l0 G0 n00 nL0 mc ms) {pc pc' : Nat} {ls st : List dkV} {n : Int} {σ : dkS} {i : Nat} {x : Int} {ls' : List dkV} (hd : decode cc pc = .ok (.istore i, 2)) (hs : dk_st1 ls i (0, x) = ls') (hq : i < nL0) (hp : pc + 2 = pc') (k : dk_PJ E pc' ls' st n σ) : dk_PJ E pc ls ((0, x) :: st) n σ := by
  obtain ⟨p, l, e, R, s, m, args, below, meth, c, Q, G, Ty, n0, nL⟩ := E
  obtain ⟨hx, hb, hml, hown, hts, hdf, hdl, hG, hlk, hTy, hl0, hG0, hn0, hnL0, hmc, hms, hext⟩ := hE
  subst hTy hl0 hG0 hn0 hnL0
  subst hp
  intro H locs lsr hH hL hl o1 o2 hn
  subst hs
  obtain ⟨o2a, o2b⟩ := dk_c1 o2
  exact lv_istore hx hb hd (dk_lv_has hl) hq rfl (fun ls1 hl1 => k H locs ls1 hH hL (dk_st1_lr hl1) (dk_st1_ok o1 o2a) o2b hn)
theorem dk_lstore {E : dkE} {cc : ByteArray} {own : String} {d : Nat} {T : dkT} {l0 : Launch} {G0 : dkG} {n00 : Int} {nL0 mc ms : Nat} (hE : dk_Good E cc own d T l0 G0 n00 nL0 mc ms) {pc pc' : Nat} {ls st : List dkV} {n : Int} {σ : dkS} {i : Nat} {x : Int} {ls' : List dkV} (hd : decode cc pc = .ok (.lstore i, 2)) (hs : dk_st2 ls i (3, x) = ls') (hq : i + 1 < nL0) (hp : pc + 2 = pc') (k : dk_PJ E pc' ls' st n σ) : dk_PJ E pc ls ((3, x) :: st) n σ := by
  obtain ⟨p, l, e, R, s, m, args, below, meth, c, Q, G, Ty, n0, nL⟩ := E
  obtain ⟨hx, hb, hml, hown, hts, hdf, hdl, hG, hlk, hTy, hl0, hG0, hn0, hnL0, hmc, hms, hext⟩ := hE
  subst hTy hl0 hG0 hn0 hnL0
  subst hp
  intro H locs lsr hH hL hl o1 o2 hn
  subst hs
  obtain ⟨o2a, o2b⟩ := dk_c1 o2
  exact lv_lstore hx hb hd (dk_lv_has hl) hq rfl (fun ls1 hl1 => k H locs ls1 hH hL (dk_st2_lr hl1) (dk_st2_ok o1 o2a) o2b hn)
theorem dk_astore_n {E : dkE} {cc : ByteArray} {own : String} {d : Nat} {T : dkT} {l0 : Launch} {G0 : dkG} {n00 : Int} {nL0 mc ms : Nat} (hE : dk_Good E cc own d T l0 G0 n00 nL0 mc ms) {pc pc' : Nat} {ls st : List dkV} {n : Int} {σ : dkS} {q : Fin 4} {i : Nat} {x : Int} {ls' : List dkV} (hd : decode cc pc = .ok (.astore_n q, 1)) (hi : (q : Nat) = i) (hs : dk_st1 ls i (4, x) = ls') (hq : i < nL0) (hp : pc + 1 = pc') (k : dk_PJ E pc' ls' st n σ) : dk_PJ E pc ls ((4, x) :: st) n σ := by
  obtain ⟨p, l, e, R, s, m, args, below, meth, c, Q, G, Ty, n0, nL⟩ := E
  obtain ⟨hx, hb, hml, hown, hts, hdf, hdl, hG, hlk, hTy, hl0, hG0, hn0, hnL0, hmc, hms, hext⟩ := hE
  subst hTy hl0 hG0 hn0 hnL0
  subst hp
  intro H locs lsr hH hL hl o1 o2 hn
  subst hs
  obtain ⟨o2a, o2b⟩ := dk_c1 o2
  have h2 := fun ls1 h => k H locs ls1 hH hL (dk_st1_lr (v := (4, x)) h) (dk_st1_ok o1 o2a) o2b hn
  rw [List.map_cons]
  rcases dk_cvr (ad := G.1) (x := x) with ⟨-, q⟩ | ⟨-, q⟩
  · rw [q] at h2 ⊢
    exact lv_astore_nN hx hb hd hi (dk_lv_has hl) hq rfl h2
  · rw [q] at h2 ⊢
    exact lv_astore_n hx hb hd hi (dk_lv_has hl) hq rfl h2
theorem dk_astore {E : dkE} {cc : ByteArray} {own : String} {d : Nat} {T : dkT} {l0 : Launch} {G0 : dkG} {n00 : Int} {nL0 mc ms : Nat} (hE : dk_Good E cc own d T l0 G0 n00 nL0 mc ms) {pc pc' : Nat} {ls st : List dkV} {n : Int} {σ : dkS} {i : Nat} {x : Int} {ls' : List dkV} (hd : decode cc pc = .ok (.astore i, 2)) (hs : dk_st1 ls i (4, x) = ls') (hq : i < nL0) (hp : pc + 2 = pc') (k : dk_PJ E pc' ls' st n σ) : dk_PJ E pc ls ((4, x) :: st) n σ := by
  obtain ⟨p, l, e, R, s, m, args, below, meth, c, Q, G, Ty, n0, nL⟩ := E
  obtain ⟨hx, hb, hml, hown, hts, hdf, hdl, hG, hlk, hTy, hl0, hG0, hn0, hnL0, hmc, hms, hext⟩ := hE
  subst hTy hl0 hG0 hn0 hnL0
  subst hp
  intro H locs lsr hH hL hl o1 o2 hn
  subst hs
  obtain ⟨o2a, o2b⟩ := dk_c1 o2
  have h2 := fun ls1 h => k H locs ls1 hH hL (dk_st1_lr (v := (4, x)) h) (dk_st1_ok o1 o2a) o2b hn
  rw [List.map_cons]
  rcases dk_cvr (ad := G.1) (x := x) with ⟨-, q⟩ | ⟨-, q⟩
  · rw [q] at h2 ⊢
    exact lv_astoreN hx hb hd (dk_lv_has hl) hq rfl h2
  · rw [q] at h2 ⊢
    exact lv_astore hx hb hd (dk_lv_has hl) hq rfl h2
theorem dk_lv_at {ad : Int → Nat} {ls : List dkV} {i : Nat} {v : dkV} (h : ls[i]? = some v) (h9 : v.1 ≠ 9) : ∃ k : Nat, (dk_lv ad ls)[k]? = some (i, dk_cv ad v) := List.getElem?_of_mem (dk_lv_in h h9)
theorem dk_iinc {E : dkE} {cc : ByteArray} {own : String} {d : Nat} {T : dkT} {l0 : Launch} {G0 : dkG} {n00 : Int} {nL0 mc ms : Nat} (hE : dk_Good E cc own d T l0 G0 n00 nL0 mc ms) {pc pc' : Nat} {ls st : List dkV} {n : Int} {σ : dkS} {i : Nat} {x y : Int} {z : Int} {ls' : List dkV} (hd : decode cc pc = .ok (.iinc i z, 3)) (hg : ls[i]? = some (0, x)) (hy : x + z = y) (hv : dk_i32 y) (hs : dk_st1 ls i (0, y) = ls') (hq : i < nL0) (hp : pc + 3 = pc') (k : dk_PJ E pc' ls' st n σ) : dk_PJ E pc ls st n σ := by
  obtain ⟨p, l, e, R, s, m, args, below, meth, c, Q, G, Ty, n0, nL⟩ := E
  obtain ⟨hx, hb, hml, hown, hts, hdf, hdl, hG, hlk, hTy, hl0, hG0, hn0, hnL0, hmc, hms, hext⟩ := hE
  subst hTy hl0 hG0 hn0 hnL0
  subst hp
  intro H locs lsr hH hL hl o1 o2 hn
  subst hs
  subst hy
  obtain ⟨q, hq2⟩ := dk_lv_at (ad := G.1) hg (by simp)
  exact lv_iinc (v := Int32.ofInt (x + z)) (x := Int32.ofInt x) hx hb hd (dk_lv_has hl) hq2 (Int32.ofInt_add x z).symm hq rfl (fun ls1 hl1 => k H locs ls1 hH hL (dk_st1_lr (v := (0, x + z)) hl1) (dk_st1_ok o1 (dk_iok hv)) o2 hn)
theorem dk_iadd {E : dkE} {cc : ByteArray} {own : String} {d : Nat} {T : dkT} {l0 : Launch} {G0 : dkG} {n00 : Int} {nL0 mc ms : Nat} (hE : dk_Good E cc own d T l0 G0 n00 nL0 mc ms) {pc pc' : Nat} {ls st : List dkV} {n : Int} {σ : dkS} {x y z : Int} (hd : decode cc pc = .ok (.iadd, 1)) (hz : x + y = z) (hv : dk_i32 z) (hp : pc + 1 = pc') (k : dk_PJ E pc' ls ((0, z) :: st) n σ) : dk_PJ E pc ls ((0, y) :: (0, x) :: st) n σ := by
  obtain ⟨p, l, e, R, s, m, args, below, meth, c, Q, G, Ty, n0, nL⟩ := E
  obtain ⟨hx, hb, hml, hown, hts, hdf, hdl, hG, hlk, hTy, hl0, hG0, hn0, hnL0, hmc, hms, hext⟩ := hE
  subst hTy hl0 hG0 hn0 hnL0
  subst hp
  intro H locs lsr hH hL hl o1 o2 hn
  subst hz
  obtain ⟨o2a, o2b, o2c⟩ := dk_c2 o2
  refine lv_iadd (x := Int32.ofInt x) (y := Int32.ofInt y) hx hb hd ?_
  rw [← Int32.ofInt_add]
  exact k H locs lsr hH hL hl o1 (dk_cc (dk_iok hv) o2c) hn
theorem dk_iaddW {E : dkE} {cc : ByteArray} {own : String} {d : Nat} {T : dkT} {l0 : Launch} {G0 : dkG} {n00 : Int} {nL0 mc ms : Nat} (hE : dk_Good E cc own d T l0 G0 n00 nL0 mc ms) {pc pc' : Nat} {ls st : List dkV} {n : Int} {σ : dkS} {x y : Int} (hd : decode cc pc = .ok (.iadd, 1)) (hp : pc + 1 = pc') (k : ∀ z : Int, dk_i32 z → z = (Int32.ofInt (x + y)).toInt → dk_PJ E pc' ls ((0, z) :: st) n σ) : dk_PJ E pc ls ((0, y) :: (0, x) :: st) n σ := by
  obtain ⟨p, l, e, R, s, m, args, below, meth, c, Q, G, Ty, n0, nL⟩ := E
  obtain ⟨hx, hb, hml, hown, hts, hdf, hdl, hG, hlk, hTy, hl0, hG0, hn0, hnL0, hmc, hms, hext⟩ := hE
  subst hTy hl0 hG0 hn0 hnL0
  subst hp
  intro H locs lsr hH hL hl o1 o2 hn
  obtain ⟨o2a, o2b, o2c⟩ := dk_c2 o2
  refine lv_iadd (x := Int32.ofInt x) (y := Int32.ofInt y) hx hb hd ?_
  rw [← Int32.ofInt_add]
  have h := k _ (dk_r32 _) rfl H locs lsr hH hL hl o1 (dk_cc (dk_iok (dk_r32 (Int32.ofInt (x + y)))) o2c) hn
  have e : dk_cv G.1 (0, (Int32.ofInt (x + y)).toInt) = .int (Int32.ofInt (x + y)) := congrArg Value.int (Int32.ofInt_toInt _)
  rw [List.map_cons, e] at h
  exact h
theorem dk_isub {E : dkE} {cc : ByteArray} {own : String} {d : Nat} {T : dkT} {l0 : Launch} {G0 : dkG} {n00 : Int} {nL0 mc ms : Nat} (hE : dk_Good E cc own d T l0 G0 n00 nL0 mc ms) {pc pc' : Nat} {ls st : List dkV} {n : Int} {σ : dkS} {x y z : Int} (hd : decode cc pc = .ok (.isub, 1)) (hz : x - y = z) (hv : dk_i32 z) (hp : pc + 1 = pc') (k : dk_PJ E pc' ls ((0, z) :: st) n σ) : dk_PJ E pc ls ((0, y) :: (0, x) :: st) n σ := by
  obtain ⟨p, l, e, R, s, m, args, below, meth, c, Q, G, Ty, n0, nL⟩ := E
  obtain ⟨hx, hb, hml, hown, hts, hdf, hdl, hG, hlk, hTy, hl0, hG0, hn0, hnL0, hmc, hms, hext⟩ := hE
  subst hTy hl0 hG0 hn0 hnL0
  subst hp
  intro H locs lsr hH hL hl o1 o2 hn
  subst hz
  obtain ⟨o2a, o2b, o2c⟩ := dk_c2 o2
  refine lv_isub (x := Int32.ofInt x) (y := Int32.ofInt y) hx hb hd ?_
  rw [← Int32.ofInt_sub]
  exact k H locs lsr hH hL hl o1 (dk_cc (dk_iok hv) o2c) hn
theorem dk_isubW {E : dkE} {cc : ByteArray} {own : String} {d : Nat} {T : dkT} {l0 : Launch} {G0 : dkG} {n00 : Int} {nL0 mc ms : Nat} (hE : dk_Good E cc own d T l0 G0 n00 nL0 mc ms) {pc pc' : Nat} {ls st : List dkV} {n : Int} {σ : dkS} {x y : Int} (hd : decode cc pc = .ok (.isub, 1)) (hp : pc + 1 = pc') (k : ∀ z : Int, dk_i32 z → z = (Int32.ofInt (x - y)).toInt → dk_PJ E pc' ls ((0, z) :: st) n σ) : dk_PJ E pc ls ((0, y) :: (0, x) :: st) n σ := by
  obtain ⟨p, l, e, R, s, m, args, below, meth, c, Q, G, Ty, n0, nL⟩ := E
  obtain ⟨hx, hb, hml, hown, hts, hdf, hdl, hG, hlk, hTy, hl0, hG0, hn0, hnL0, hmc, hms, hext⟩ := hE
  subst hTy hl0 hG0 hn0 hnL0
  subst hp
  intro H locs lsr hH hL hl o1 o2 hn
  obtain ⟨o2a, o2b, o2c⟩ := dk_c2 o2
  refine lv_isub (x := Int32.ofInt x) (y := Int32.ofInt y) hx hb hd ?_
  rw [← Int32.ofInt_sub]
  have h := k _ (dk_r32 _) rfl H locs lsr hH hL hl o1 (dk_cc (dk_iok (dk_r32 (Int32.ofInt (x - y)))) o2c) hn
  have e : dk_cv G.1 (0, (Int32.ofInt (x - y)).toInt) = .int (Int32.ofInt (x - y)) := congrArg Value.int (Int32.ofInt_toInt _)
  rw [List.map_cons, e] at h
  exact h
theorem dk_imul {E : dkE} {cc : ByteArray} {own : String} {d : Nat} {T : dkT} {l0 : Launch} {G0 : dkG} {n00 : Int} {nL0 mc ms : Nat} (hE : dk_Good E cc own d T l0 G0 n00 nL0 mc ms) {pc pc' : Nat} {ls st : List dkV} {n : Int} {σ : dkS} {x y z : Int} (hd : decode cc pc = .ok (.imul, 1)) (hz : x * y = z) (hv : dk_i32 z) (hp : pc + 1 = pc') (k : dk_PJ E pc' ls ((0, z) :: st) n σ) : dk_PJ E pc ls ((0, y) :: (0, x) :: st) n σ := by
  obtain ⟨p, l, e, R, s, m, args, below, meth, c, Q, G, Ty, n0, nL⟩ := E
  obtain ⟨hx, hb, hml, hown, hts, hdf, hdl, hG, hlk, hTy, hl0, hG0, hn0, hnL0, hmc, hms, hext⟩ := hE
  subst hTy hl0 hG0 hn0 hnL0
  subst hp
  intro H locs lsr hH hL hl o1 o2 hn
  subst hz
  obtain ⟨o2a, o2b, o2c⟩ := dk_c2 o2
  refine lv_imul (x := Int32.ofInt x) (y := Int32.ofInt y) hx hb hd ?_
  rw [← Int32.ofInt_mul]
  exact k H locs lsr hH hL hl o1 (dk_cc (dk_iok hv) o2c) hn
theorem dk_imulW {E : dkE} {cc : ByteArray} {own : String} {d : Nat} {T : dkT} {l0 : Launch} {G0 : dkG} {n00 : Int} {nL0 mc ms : Nat} (hE : dk_Good E cc own d T l0 G0 n00 nL0 mc ms) {pc pc' : Nat} {ls st : List dkV} {n : Int} {σ : dkS} {x y : Int} (hd : decode cc pc = .ok (.imul, 1)) (hp : pc + 1 = pc') (k : ∀ z : Int, dk_i32 z → z = (Int32.ofInt (x * y)).toInt → dk_PJ E pc' ls ((0, z) :: st) n σ) : dk_PJ E pc ls ((0, y) :: (0, x) :: st) n σ := by
  obtain ⟨p, l, e, R, s, m, args, below, meth, c, Q, G, Ty, n0, nL⟩ := E
  obtain ⟨hx, hb, hml, hown, hts, hdf, hdl, hG, hlk, hTy, hl0, hG0, hn0, hnL0, hmc, hms, hext⟩ := hE
  subst hTy hl0 hG0 hn0 hnL0
  subst hp
  intro H locs lsr hH hL hl o1 o2 hn
  obtain ⟨o2a, o2b, o2c⟩ := dk_c2 o2
  refine lv_imul (x := Int32.ofInt x) (y := Int32.ofInt y) hx hb hd ?_
  rw [← Int32.ofInt_mul]
  have h := k _ (dk_r32 _) rfl H locs lsr hH hL hl o1 (dk_cc (dk_iok (dk_r32 (Int32.ofInt (x * y)))) o2c) hn
  have e : dk_cv G.1 (0, (Int32.ofInt (x * y)).toInt) = .int (Int32.ofInt (x * y)) := congrArg Value.int (Int32.ofInt_toInt _)
  rw [List.map_cons, e] at h
  exact h
def dk_and (x y : Int) : Int := (Int32.ofInt x &&& Int32.ofInt y).toInt
def dk_or (x y : Int) : Int := (Int32.ofInt x ||| Int32.ofInt y).toInt
def dk_xor (x y : Int) : Int := (Int32.ofInt x ^^^ Int32.ofInt y).toInt
def dk_shl (x y : Int) : Int := (Int32.ofInt x <<< (Int32.ofInt y &&& 31)).toInt
def dk_shr (x y : Int) : Int := (Int32.ofInt x >>> (Int32.ofInt y &&& 31)).toInt
theorem dk_iand {E : dkE} {cc : ByteArray} {own : String} {d : Nat} {T : dkT} {l0 : Launch} {G0 : dkG} {n00 : Int} {nL0 mc ms : Nat} (hE : dk_Good E cc own d T l0 G0 n00 nL0 mc ms) {pc pc' : Nat} {ls st : List dkV} {n : Int} {σ : dkS} {x y : Int} (hd : decode cc pc = .ok (.iand, 1)) (hp : pc + 1 = pc') (k : ∀ z : Int, dk_i32 z → z = dk_and x y → dk_PJ E pc' ls ((0, z) :: st) n σ) : dk_PJ E pc ls ((0, y) :: (0, x) :: st) n σ := by
  obtain ⟨p, l, e, R, s, m, args, below, meth, c, Q, G, Ty, n0, nL⟩ := E
  obtain ⟨hx, hb, hml, hown, hts, hdf, hdl, hG, hlk, hTy, hl0, hG0, hn0, hnL0, hmc, hms, hext⟩ := hE
  subst hTy hl0 hG0 hn0 hnL0
  subst hp
  intro H locs lsr hH hL hl o1 o2 hn
  obtain ⟨o2a, o2b, o2c⟩ := dk_c2 o2
  refine lv_iand (x := Int32.ofInt x) (y := Int32.ofInt y) hx hb hd ?_
  have h := k (dk_and x y) (dk_r32 _) rfl H locs lsr hH hL hl o1 (dk_cc (dk_iok (dk_r32 _)) o2c) hn
  have e : dk_cv G.1 (0, dk_and x y) = .int (Int32.ofInt (dk_and x y)) := rfl
  rw [List.map_cons, e, dk_and, Int32.ofInt_toInt] at h
  exact h
theorem dk_ior {E : dkE} {cc : ByteArray} {own : String} {d : Nat} {T : dkT} {l0 : Launch} {G0 : dkG} {n00 : Int} {nL0 mc ms : Nat} (hE : dk_Good E cc own d T l0 G0 n00 nL0 mc ms) {pc pc' : Nat} {ls st : List dkV} {n : Int} {σ : dkS} {x y : Int} (hd : decode cc pc = .ok (.ior, 1)) (hp : pc + 1 = pc') (k : ∀ z : Int, dk_i32 z → z = dk_or x y → dk_PJ E pc' ls ((0, z) :: st) n σ) : dk_PJ E pc ls ((0, y) :: (0, x) :: st) n σ := by
  obtain ⟨p, l, e, R, s, m, args, below, meth, c, Q, G, Ty, n0, nL⟩ := E
  obtain ⟨hx, hb, hml, hown, hts, hdf, hdl, hG, hlk, hTy, hl0, hG0, hn0, hnL0, hmc, hms, hext⟩ := hE
  subst hTy hl0 hG0 hn0 hnL0
  subst hp
  intro H locs lsr hH hL hl o1 o2 hn
  obtain ⟨o2a, o2b, o2c⟩ := dk_c2 o2
  refine lv_ior (x := Int32.ofInt x) (y := Int32.ofInt y) hx hb hd ?_
  have h := k (dk_or x y) (dk_r32 _) rfl H locs lsr hH hL hl o1 (dk_cc (dk_iok (dk_r32 _)) o2c) hn
  have e : dk_cv G.1 (0, dk_or x y) = .int (Int32.ofInt (dk_or x y)) := rfl
  rw [List.map_cons, e, dk_or, Int32.ofInt_toInt] at h
  exact h
theorem dk_ixor {E : dkE} {cc : ByteArray} {own : String} {d : Nat} {T : dkT} {l0 : Launch} {G0 : dkG} {n00 : Int} {nL0 mc ms : Nat} (hE : dk_Good E cc own d T l0 G0 n00 nL0 mc ms) {pc pc' : Nat} {ls st : List dkV} {n : Int} {σ : dkS} {x y : Int} (hd : decode cc pc = .ok (.ixor, 1)) (hp : pc + 1 = pc') (k : ∀ z : Int, dk_i32 z → z = dk_xor x y → dk_PJ E pc' ls ((0, z) :: st) n σ) : dk_PJ E pc ls ((0, y) :: (0, x) :: st) n σ := by
  obtain ⟨p, l, e, R, s, m, args, below, meth, c, Q, G, Ty, n0, nL⟩ := E
  obtain ⟨hx, hb, hml, hown, hts, hdf, hdl, hG, hlk, hTy, hl0, hG0, hn0, hnL0, hmc, hms, hext⟩ := hE
  subst hTy hl0 hG0 hn0 hnL0
  subst hp
  intro H locs lsr hH hL hl o1 o2 hn
  obtain ⟨o2a, o2b, o2c⟩ := dk_c2 o2
  refine lv_ixor (x := Int32.ofInt x) (y := Int32.ofInt y) hx hb hd ?_
  have h := k (dk_xor x y) (dk_r32 _) rfl H locs lsr hH hL hl o1 (dk_cc (dk_iok (dk_r32 _)) o2c) hn
  have e : dk_cv G.1 (0, dk_xor x y) = .int (Int32.ofInt (dk_xor x y)) := rfl
  rw [List.map_cons, e, dk_xor, Int32.ofInt_toInt] at h
  exact h
theorem dk_ishl {E : dkE} {cc : ByteArray} {own : String} {d : Nat} {T : dkT} {l0 : Launch} {G0 : dkG} {n00 : Int} {nL0 mc ms : Nat} (hE : dk_Good E cc own d T l0 G0 n00 nL0 mc ms) {pc pc' : Nat} {ls st : List dkV} {n : Int} {σ : dkS} {x y : Int} (hd : decode cc pc = .ok (.ishl, 1)) (hp : pc + 1 = pc') (k : ∀ z : Int, dk_i32 z → z = dk_shl x y → dk_PJ E pc' ls ((0, z) :: st) n σ) : dk_PJ E pc ls ((0, y) :: (0, x) :: st) n σ := by
  obtain ⟨p, l, e, R, s, m, args, below, meth, c, Q, G, Ty, n0, nL⟩ := E
  obtain ⟨hx, hb, hml, hown, hts, hdf, hdl, hG, hlk, hTy, hl0, hG0, hn0, hnL0, hmc, hms, hext⟩ := hE
  subst hTy hl0 hG0 hn0 hnL0
  subst hp
  intro H locs lsr hH hL hl o1 o2 hn
  obtain ⟨o2a, o2b, o2c⟩ := dk_c2 o2
  refine lv_ishl (x := Int32.ofInt x) (y := Int32.ofInt y) hx hb hd ?_
  have h := k (dk_shl x y) (dk_r32 _) rfl H locs lsr hH hL hl o1 (dk_cc (dk_iok (dk_r32 _)) o2c) hn
  have e : dk_cv G.1 (0, dk_shl x y) = .int (Int32.ofInt (dk_shl x y)) := rfl
  rw [List.map_cons, e, dk_shl, Int32.ofInt_toInt] at h
  exact h
theorem dk_ishr {E : dkE} {cc : ByteArray} {own : String} {d : Nat} {T : dkT} {l0 : Launch} {G0 : dkG} {n00 : Int} {nL0 mc ms : Nat} (hE : dk_Good E cc own d T l0 G0 n00 nL0 mc ms) {pc pc' : Nat} {ls st : List dkV} {n : Int} {σ : dkS} {x y : Int} (hd : decode cc pc = .ok (.ishr, 1)) (hp : pc + 1 = pc') (k : ∀ z : Int, dk_i32 z → z = dk_shr x y → dk_PJ E pc' ls ((0, z) :: st) n σ) : dk_PJ E pc ls ((0, y) :: (0, x) :: st) n σ := by
  obtain ⟨p, l, e, R, s, m, args, below, meth, c, Q, G, Ty, n0, nL⟩ := E
  obtain ⟨hx, hb, hml, hown, hts, hdf, hdl, hG, hlk, hTy, hl0, hG0, hn0, hnL0, hmc, hms, hext⟩ := hE
  subst hTy hl0 hG0 hn0 hnL0
  subst hp
  intro H locs lsr hH hL hl o1 o2 hn
  obtain ⟨o2a, o2b, o2c⟩ := dk_c2 o2
  refine lv_ishr (x := Int32.ofInt x) (y := Int32.ofInt y) hx hb hd ?_
  have h := k (dk_shr x y) (dk_r32 _) rfl H locs lsr hH hL hl o1 (dk_cc (dk_iok (dk_r32 _)) o2c) hn
  have e : dk_cv G.1 (0, dk_shr x y) = .int (Int32.ofInt (dk_shr x y)) := rfl
  rw [List.map_cons, e, dk_shr, Int32.ofInt_toInt] at h
  exact h
def dk_div (x y : Int) : Int := (Int32.ofInt x / Int32.ofInt y).toInt
theorem dk_idiv {E : dkE} {cc : ByteArray} {own : String} {d : Nat} {T : dkT} {l0 : Launch} {G0 : dkG} {n00 : Int} {nL0 mc ms : Nat} (hE : dk_Good E cc own d T l0 G0 n00 nL0 mc ms) {pc pc' : Nat} {ls st : List dkV} {n : Int} {σ : dkS} {x y : Int} (hd : decode cc pc = .ok (.idiv, 1)) (hy : y ≠ 0) (hp : pc + 1 = pc') (k : ∀ z : Int, dk_i32 z → z = dk_div x y → dk_PJ E pc' ls ((0, z) :: st) n σ) : dk_PJ E pc ls ((0, y) :: (0, x) :: st) n σ := by
  obtain ⟨p, l, e, R, s, m, args, below, meth, c, Q, G, Ty, n0, nL⟩ := E
  obtain ⟨hx, hb, hml, hown, hts, hdf, hdl, hG, hlk, hTy, hl0, hG0, hn0, hnL0, hmc, hms, hext⟩ := hE
  subst hTy hl0 hG0 hn0 hnL0
  subst hp
  intro H locs lsr hH hL hl o1 o2 hn
  obtain ⟨o2a, o2b, o2c⟩ := dk_c2 o2
  refine lv_idiv (x := Int32.ofInt x) (y := Int32.ofInt y) hx hb hd (fun q => hy ?_) ?_
  · have h1 := dk_t32 (dk_oki o2a)
    rw [q, Int32.toInt_zero] at h1
    exact h1.symm
  · have h := k (dk_div x y) (dk_r32 _) rfl H locs lsr hH hL hl o1 (dk_cc (dk_iok (dk_r32 _)) o2c) hn
    have e : dk_cv G.1 (0, dk_div x y) = .int (Int32.ofInt (dk_div x y)) := rfl
    rw [List.map_cons, e, dk_div, Int32.ofInt_toInt] at h
    exact h
theorem dk_i2l {E : dkE} {cc : ByteArray} {own : String} {d : Nat} {T : dkT} {l0 : Launch} {G0 : dkG} {n00 : Int} {nL0 mc ms : Nat} (hE : dk_Good E cc own d T l0 G0 n00 nL0 mc ms) {pc pc' : Nat} {ls st : List dkV} {n : Int} {σ : dkS} {x : Int} (hd : decode cc pc = .ok (.i2l, 1)) (hp : pc + 1 = pc') (k : dk_PJ E pc' ls ((3, x) :: st) n σ) : dk_PJ E pc ls ((0, x) :: st) n σ := by
  obtain ⟨p, l, e, R, s, m, args, below, meth, c, Q, G, Ty, n0, nL⟩ := E
  obtain ⟨hx, hb, hml, hown, hts, hdf, hdl, hG, hlk, hTy, hl0, hG0, hn0, hnL0, hmc, hms, hext⟩ := hE
  subst hTy hl0 hG0 hn0 hnL0
  subst hp
  intro H locs lsr hH hL hl o1 o2 hn
  obtain ⟨o2a, o2b⟩ := dk_c1 o2
  have h1 := dk_oki o2a
  exact lv_i2l (v := Int64.ofInt x) hx hb hd (by rw [← Int64.toInt_inj, Int32.toInt_toInt64, dk_t32 h1, dk_t64 ⟨by have := h1.1; omega, by have := h1.2; omega⟩]) (k H locs lsr hH hL hl o1 (dk_cc (dk_lok ⟨by have := h1.1; omega, by have := h1.2; omega⟩) o2b) hn)
def dk_b (x : Int) : Int := (Int32.ofInt x).toInt8.toInt32.toInt
def dk_c (x : Int) : Int := ((Int32.ofInt x).toUInt32 % 65536).toInt32.toInt
theorem dk_i2b {E : dkE} {cc : ByteArray} {own : String} {d : Nat} {T : dkT} {l0 : Launch} {G0 : dkG} {n00 : Int} {nL0 mc ms : Nat} (hE : dk_Good E cc own d T l0 G0 n00 nL0 mc ms) {pc pc' : Nat} {ls st : List dkV} {n : Int} {σ : dkS} {x : Int} (hd : decode cc pc = .ok (.i2b, 1)) (hp : pc + 1 = pc') (k : ∀ z : Int, dk_i32 z → z = dk_b x → dk_PJ E pc' ls ((0, z) :: st) n σ) : dk_PJ E pc ls ((0, x) :: st) n σ := by
  obtain ⟨p, l, e, R, s, m, args, below, meth, c, Q, G, Ty, n0, nL⟩ := E
  obtain ⟨hx, hb, hml, hown, hts, hdf, hdl, hG, hlk, hTy, hl0, hG0, hn0, hnL0, hmc, hms, hext⟩ := hE
  subst hTy hl0 hG0 hn0 hnL0
  subst hp
  intro H locs lsr hH hL hl o1 o2 hn
  obtain ⟨o2a, o2b⟩ := dk_c1 o2
  refine lv_i2b (x := Int32.ofInt x) hx hb hd rfl ?_
  have h := k (dk_b x) (dk_r32 _) rfl H locs lsr hH hL hl o1 (dk_cc (dk_iok (dk_r32 _)) o2b) hn
  have e : dk_cv G.1 (0, dk_b x) = .int (Int32.ofInt (dk_b x)) := rfl
  rw [List.map_cons, e, dk_b, Int32.ofInt_toInt] at h
  exact h
theorem dk_i2c {E : dkE} {cc : ByteArray} {own : String} {d : Nat} {T : dkT} {l0 : Launch} {G0 : dkG} {n00 : Int} {nL0 mc ms : Nat} (hE : dk_Good E cc own d T l0 G0 n00 nL0 mc ms) {pc pc' : Nat} {ls st : List dkV} {n : Int} {σ : dkS} {x : Int} (hd : decode cc pc = .ok (.i2c, 1)) (hp : pc + 1 = pc') (k : ∀ z : Int, dk_i32 z → z = dk_c x → dk_PJ E pc' ls ((0, z) :: st) n σ) : dk_PJ E pc ls ((0, x) :: st) n σ := by
  obtain ⟨p, l, e, R, s, m, args, below, meth, c, Q, G, Ty, n0, nL⟩ := E
  obtain ⟨hx, hb, hml, hown, hts, hdf, hdl, hG, hlk, hTy, hl0, hG0, hn0, hnL0, hmc, hms, hext⟩ := hE
  subst hTy hl0 hG0 hn0 hnL0
  subst hp
  intro H locs lsr hH hL hl o1 o2 hn
  obtain ⟨o2a, o2b⟩ := dk_c1 o2
  refine lv_i2c (x := Int32.ofInt x) hx hb hd rfl ?_
  have h := k (dk_c x) (dk_r32 _) rfl H locs lsr hH hL hl o1 (dk_cc (dk_iok (dk_r32 _)) o2b) hn
  have e : dk_cv G.1 (0, dk_c x) = .int (Int32.ofInt (dk_c x)) := rfl
  rw [List.map_cons, e, dk_c, Int32.ofInt_toInt] at h
  exact h
theorem dk_ladd {E : dkE} {cc : ByteArray} {own : String} {d : Nat} {T : dkT} {l0 : Launch} {G0 : dkG} {n00 : Int} {nL0 mc ms : Nat} (hE : dk_Good E cc own d T l0 G0 n00 nL0 mc ms) {pc pc' : Nat} {ls st : List dkV} {n : Int} {σ : dkS} {x y : Int} (hd : decode cc pc = .ok (.ladd, 1)) (hp : pc + 1 = pc') (k : ∀ z : Int, dk_i64 z → (dk_i64 (x + y) → z = x + y) → dk_PJ E pc' ls ((3, z) :: st) n σ) : dk_PJ E pc ls ((3, y) :: (3, x) :: st) n σ := by
  obtain ⟨p, l, e, R, s, m, args, below, meth, c, Q, G, Ty, n0, nL⟩ := E
  obtain ⟨hx, hb, hml, hown, hts, hdf, hdl, hG, hlk, hTy, hl0, hG0, hn0, hnL0, hmc, hms, hext⟩ := hE
  subst hTy hl0 hG0 hn0 hnL0
  subst hp
  intro H locs lsr hH hL hl o1 o2 hn
  obtain ⟨o2a, o2b, o2c⟩ := dk_c2 o2
  refine lv_ladd (x := Int64.ofInt x) (y := Int64.ofInt y) hx hb hd ?_
  rw [← Int64.ofInt_add]
  have h := k _ (dk_r64 _) (fun q => dk_t64 q) H locs lsr hH hL hl o1 (dk_cc (dk_lok (dk_r64 (Int64.ofInt (x + y)))) o2c) hn
  have e : dk_cv G.1 (3, (Int64.ofInt (x + y)).toInt) = .long (Int64.ofInt (x + y)) := congrArg Value.long (Int64.ofInt_toInt _)
  rw [List.map_cons, e] at h
  exact h
theorem dk_lor {E : dkE} {cc : ByteArray} {own : String} {d : Nat} {T : dkT} {l0 : Launch} {G0 : dkG} {n00 : Int} {nL0 mc ms : Nat} (hE : dk_Good E cc own d T l0 G0 n00 nL0 mc ms) {pc pc' : Nat} {ls st : List dkV} {n : Int} {σ : dkS} {x y : Int} (hd : decode cc pc = .ok (.lor, 1)) (hp : pc + 1 = pc') (k : ∀ z : Int, dk_i64 z → dk_PJ E pc' ls ((3, z) :: st) n σ) : dk_PJ E pc ls ((3, y) :: (3, x) :: st) n σ := by
  obtain ⟨p, l, e, R, s, m, args, below, meth, c, Q, G, Ty, n0, nL⟩ := E
  obtain ⟨hx, hb, hml, hown, hts, hdf, hdl, hG, hlk, hTy, hl0, hG0, hn0, hnL0, hmc, hms, hext⟩ := hE
  subst hTy hl0 hG0 hn0 hnL0
  subst hp
  intro H locs lsr hH hL hl o1 o2 hn
  obtain ⟨o2a, o2b, o2c⟩ := dk_c2 o2
  refine lv_lor (x := Int64.ofInt x) (y := Int64.ofInt y) hx hb hd ?_
  have h := k _ (dk_r64 (Int64.ofInt x ||| Int64.ofInt y)) H locs lsr hH hL hl o1 (dk_cc (dk_lok (dk_r64 (Int64.ofInt x ||| Int64.ofInt y))) o2c) hn
  have e : dk_cv G.1 (3, (Int64.ofInt x ||| Int64.ofInt y).toInt) = .long (Int64.ofInt x ||| Int64.ofInt y) := congrArg Value.long (Int64.ofInt_toInt _)
  rw [List.map_cons, e] at h
  exact h
theorem dk_lshl {E : dkE} {cc : ByteArray} {own : String} {d : Nat} {T : dkT} {l0 : Launch} {G0 : dkG} {n00 : Int} {nL0 mc ms : Nat} (hE : dk_Good E cc own d T l0 G0 n00 nL0 mc ms) {pc pc' : Nat} {ls st : List dkV} {n : Int} {σ : dkS} {x y : Int} (hd : decode cc pc = .ok (.lshl, 1)) (hp : pc + 1 = pc') (k : ∀ z : Int, dk_i64 z → dk_PJ E pc' ls ((3, z) :: st) n σ) : dk_PJ E pc ls ((0, y) :: (3, x) :: st) n σ := by
  obtain ⟨p, l, e, R, s, m, args, below, meth, c, Q, G, Ty, n0, nL⟩ := E
  obtain ⟨hx, hb, hml, hown, hts, hdf, hdl, hG, hlk, hTy, hl0, hG0, hn0, hnL0, hmc, hms, hext⟩ := hE
  subst hTy hl0 hG0 hn0 hnL0
  subst hp
  intro H locs lsr hH hL hl o1 o2 hn
  obtain ⟨o2a, o2b, o2c⟩ := dk_c2 o2
  refine lv_lshl (x := Int64.ofInt x) (y := Int32.ofInt y) hx hb hd rfl ?_
  have h := k _ (dk_r64 (Int64.ofInt x <<< ((Int32.ofInt y).toInt64 &&& 63))) H locs lsr hH hL hl o1 (dk_cc (dk_lok (dk_r64 (Int64.ofInt x <<< ((Int32.ofInt y).toInt64 &&& 63)))) o2c) hn
  have e : dk_cv G.1 (3, (Int64.ofInt x <<< ((Int32.ofInt y).toInt64 &&& 63)).toInt) = .long (Int64.ofInt x <<< ((Int32.ofInt y).toInt64 &&& 63)) := congrArg Value.long (Int64.ofInt_toInt _)
  rw [List.map_cons, e] at h
  exact h
theorem dk_lt64 {x y : Int} (hx : dk_i64 x) (hy : dk_i64 y) : Int64.ofInt x < Int64.ofInt y ↔ x < y := by rw [Int64.lt_iff_toInt_lt, dk_t64 hx, dk_t64 hy]
theorem dk_cmpE {x y : Int} (hx : dk_i64 x) (hy : dk_i64 y) : ∃ z : Int, lg_cmp (Int64.ofInt x) (Int64.ofInt y) = Int32.ofInt z ∧ ((z = 1 ∧ y < x) ∨ (z = 0 ∧ x = y) ∨ (z = -1 ∧ x < y)) := by
  by_cases h1 : y < x
  · exact ⟨1, by simp [lg_cmp, (dk_lt64 hy hx).mpr h1], Or.inl ⟨rfl, h1⟩⟩
  · by_cases h2 : x = y
    · subst h2
      exact ⟨0, by simp [lg_cmp], Or.inr (Or.inl ⟨rfl, rfl⟩)⟩
    · have h3 : x < y := by omega
      have h4 : ¬ Int64.ofInt y < Int64.ofInt x := fun q => h1 ((dk_lt64 hy hx).mp q)
      have h5 : ¬ Int64.ofInt x = Int64.ofInt y := fun q => h2 (by have := congrArg Int64.toInt q; rwa [dk_t64 hx, dk_t64 hy] at this)
      exact ⟨-1, by simp [lg_cmp, h4, h5]; try decide, Or.inr (Or.inr ⟨rfl, h3⟩)⟩
theorem dk_lcmp {E : dkE} {cc : ByteArray} {own : String} {d : Nat} {T : dkT} {l0 : Launch} {G0 : dkG} {n00 : Int} {nL0 mc ms : Nat} (hE : dk_Good E cc own d T l0 G0 n00 nL0 mc ms) {pc pc' : Nat} {ls st : List dkV} {n : Int} {σ : dkS} {x y : Int} (hd : decode cc pc = .ok (.lcmp, 1)) (hp : pc + 1 = pc') (k : ∀ z : Int, ((z = 1 ∧ y < x) ∨ (z = 0 ∧ x = y) ∨ (z = -1 ∧ x < y)) → dk_PJ E pc' ls ((0, z) :: st) n σ) : dk_PJ E pc ls ((3, y) :: (3, x) :: st) n σ := by
  obtain ⟨p, l, e, R, s, m, args, below, meth, c, Q, G, Ty, n0, nL⟩ := E
  obtain ⟨hx, hb, hml, hown, hts, hdf, hdl, hG, hlk, hTy, hl0, hG0, hn0, hnL0, hmc, hms, hext⟩ := hE
  subst hTy hl0 hG0 hn0 hnL0
  subst hp
  intro H locs lsr hH hL hl o1 o2 hn
  obtain ⟨o2a, o2b, o2c⟩ := dk_c2 o2
  obtain ⟨z, e1, e2⟩ := dk_cmpE (dk_okl o2b) (dk_okl o2a)
  refine W.lcmp (x := Int64.ofInt x) (y := Int64.ofInt y) hx hb hd ?_
  rw [e1]
  exact k z e2 H locs lsr hH hL hl o1 (dk_cc (dk_iok ⟨by omega, by omega⟩) o2c) hn
theorem dk_cat1 {ad : Int → Nat} {v : dkV} (h : v.1 ≠ 3) : (dk_cv ad v).category = 1 := by
  rcases lv_cat (dk_cv ad v) with q | q
  · exact q
  · exact absurd (dk_cat q) h
theorem dk_dup {E : dkE} {cc : ByteArray} {own : String} {d : Nat} {T : dkT} {l0 : Launch} {G0 : dkG} {n00 : Int} {nL0 mc ms : Nat} (hE : dk_Good E cc own d T l0 G0 n00 nL0 mc ms) {pc pc' : Nat} {ls st : List dkV} {n : Int} {σ : dkS} {v : dkV} (hd : decode cc pc = .ok (.dup, 1)) (h3 : v.1 ≠ 3) (hp : pc + 1 = pc') (k : dk_PJ E pc' ls (v :: v :: st) n σ) : dk_PJ E pc ls (v :: st) n σ := by
  obtain ⟨p, l, e, R, s, m, args, below, meth, c, Q, G, Ty, n0, nL⟩ := E
  obtain ⟨hx, hb, hml, hown, hts, hdf, hdl, hG, hlk, hTy, hl0, hG0, hn0, hnL0, hmc, hms, hext⟩ := hE
  subst hTy hl0 hG0 hn0 hnL0
  subst hp
  intro H locs lsr hH hL hl o1 o2 hn
  obtain ⟨o2a, o2b⟩ := dk_c1 o2
  exact lv_dup hx hb hd (dk_cat1 h3) (k H locs lsr hH hL hl o1 (dk_cc o2a o2) hn)
theorem dk_dup2 {E : dkE} {cc : ByteArray} {own : String} {d : Nat} {T : dkT} {l0 : Launch} {G0 : dkG} {n00 : Int} {nL0 mc ms : Nat} (hE : dk_Good E cc own d T l0 G0 n00 nL0 mc ms) {pc pc' : Nat} {ls st : List dkV} {n : Int} {σ : dkS} {v w : dkV} (hd : decode cc pc = .ok (.dup2, 1)) (h3 : v.1 ≠ 3) (h4 : w.1 ≠ 3) (hp : pc + 1 = pc') (k : dk_PJ E pc' ls (v :: w :: v :: w :: st) n σ) : dk_PJ E pc ls (v :: w :: st) n σ := by
  obtain ⟨p, l, e, R, s, m, args, below, meth, c, Q, G, Ty, n0, nL⟩ := E
  obtain ⟨hx, hb, hml, hown, hts, hdf, hdl, hG, hlk, hTy, hl0, hG0, hn0, hnL0, hmc, hms, hext⟩ := hE
  subst hTy hl0 hG0 hn0 hnL0
  subst hp
  intro H locs lsr hH hL hl o1 o2 hn
  obtain ⟨o2a, o2b, o2c⟩ := dk_c2 o2
  exact lv_dup2_11 hx hb hd (dk_cat1 h3) (dk_cat1 h4) (k H locs lsr hH hL hl o1 (dk_cc o2a (dk_cc o2b o2)) hn)
theorem dk_pop {E : dkE} {cc : ByteArray} {own : String} {d : Nat} {T : dkT} {l0 : Launch} {G0 : dkG} {n00 : Int} {nL0 mc ms : Nat} (hE : dk_Good E cc own d T l0 G0 n00 nL0 mc ms) {pc pc' : Nat} {ls st : List dkV} {n : Int} {σ : dkS} {v : dkV} (hd : decode cc pc = .ok (.pop, 1)) (h3 : v.1 ≠ 3) (hp : pc + 1 = pc') (k : dk_PJ E pc' ls st n σ) : dk_PJ E pc ls (v :: st) n σ := by
  obtain ⟨p, l, e, R, s, m, args, below, meth, c, Q, G, Ty, n0, nL⟩ := E
  obtain ⟨hx, hb, hml, hown, hts, hdf, hdl, hG, hlk, hTy, hl0, hG0, hn0, hnL0, hmc, hms, hext⟩ := hE
  subst hTy hl0 hG0 hn0 hnL0
  subst hp
  intro H locs lsr hH hL hl o1 o2 hn
  obtain ⟨o2a, o2b⟩ := dk_c1 o2
  exact lv_pop hx hb hd (dk_cat1 h3) (k H locs lsr hH hL hl o1 o2b hn)
theorem dk_pop2 {E : dkE} {cc : ByteArray} {own : String} {d : Nat} {T : dkT} {l0 : Launch} {G0 : dkG} {n00 : Int} {nL0 mc ms : Nat} (hE : dk_Good E cc own d T l0 G0 n00 nL0 mc ms) {pc pc' : Nat} {ls st : List dkV} {n : Int} {σ : dkS} {x : Int} (hd : decode cc pc = .ok (.pop2, 1)) (hp : pc + 1 = pc') (k : dk_PJ E pc' ls st n σ) : dk_PJ E pc ls ((3, x) :: st) n σ := by
  obtain ⟨p, l, e, R, s, m, args, below, meth, c, Q, G, Ty, n0, nL⟩ := E
  obtain ⟨hx, hb, hml, hown, hts, hdf, hdl, hG, hlk, hTy, hl0, hG0, hn0, hnL0, hmc, hms, hext⟩ := hE
  subst hTy hl0 hG0 hn0 hnL0
  subst hp
  intro H locs lsr hH hL hl o1 o2 hn
  obtain ⟨o2a, o2b⟩ := dk_c1 o2
  exact lv_pop2_2 hx hb hd rfl (k H locs lsr hH hL hl o1 o2b hn)
theorem dk_z32 : dk_i32 0 := ⟨by decide, by decide⟩
theorem dk_goto {E : dkE} {cc : ByteArray} {own : String} {d : Nat} {T : dkT} {l0 : Launch} {G0 : dkG} {n00 : Int} {nL0 mc ms : Nat} (hE : dk_Good E cc own d T l0 G0 n00 nL0 mc ms) {pc : Nat} {ls st : List dkV} {n : Int} {σ : dkS} {off : Int} {tgt : Nat} (hd : decode cc pc = .ok (.goto off, 3)) (ht : (pc : Int) + off = (tgt : Int)) (k : dk_PJ E tgt ls st n σ) : dk_PJ E pc ls st n σ := by
  obtain ⟨p, l, e, R, s, m, args, below, meth, c, Q, G, Ty, n0, nL⟩ := E
  obtain ⟨hx, hb, hml, hown, hts, hdf, hdl, hG, hlk, hTy, hl0, hG0, hn0, hnL0, hmc, hms, hext⟩ := hE
  subst hTy hl0 hG0 hn0 hnL0
  intro H locs lsr hH hL hl o1 o2 hn
  exact lv_goto hx hb hd ht (k H locs lsr hH hL hl o1 o2 hn)
theorem dk_icmp_eq {E : dkE} {cc : ByteArray} {own : String} {d : Nat} {T : dkT} {l0 : Launch} {G0 : dkG} {n00 : Int} {nL0 mc ms : Nat} (hE : dk_Good E cc own d T l0 G0 n00 nL0 mc ms) {pc pc' : Nat} {ls st : List dkV} {n : Int} {σ : dkS} {x y off : Int} {tgt : Nat} (hd : decode cc pc = .ok (.if_icmp .eq off, 3)) (ht : (pc : Int) + off = (tgt : Int)) (hp : pc + 3 = pc') (kt : x = y → dk_PJ E tgt ls st n σ) (kf : x ≠ y → dk_PJ E pc' ls st n σ) : dk_PJ E pc ls ((0, y) :: (0, x) :: st) n σ := by
  obtain ⟨p, l, e, R, s, m, args, below, meth, c, Q, G, Ty, n0, nL⟩ := E
  obtain ⟨hx, hb, hml, hown, hts, hdf, hdl, hG, hlk, hTy, hl0, hG0, hn0, hnL0, hmc, hms, hext⟩ := hE
  subst hTy hl0 hG0 hn0 hnL0
  subst hp
  intro H locs lsr hH hL hl o1 o2 hn
  obtain ⟨o2a, o2b, o2c⟩ := dk_c2 o2
  have hX := dk_oki o2b
  have hY := dk_oki o2a
  exact lv_icmp_eq (x := Int32.ofInt x) (y := Int32.ofInt y) hx hb hd ht (fun q => kt ((dk_eq hX hY).mp q) H locs lsr hH hL hl o1 o2c hn) (fun q => kf (by have := mt (dk_eq hX hY).mpr q; omega) H locs lsr hH hL hl o1 o2c hn)
theorem dk_if_eq {E : dkE} {cc : ByteArray} {own : String} {d : Nat} {T : dkT} {l0 : Launch} {G0 : dkG} {n00 : Int} {nL0 mc ms : Nat} (hE : dk_Good E cc own d T l0 G0 n00 nL0 mc ms) {pc pc' : Nat} {ls st : List dkV} {n : Int} {σ : dkS} {x off : Int} {tgt : Nat} (hd : decode cc pc = .ok (.ifCond .eq off, 3)) (ht : (pc : Int) + off = (tgt : Int)) (hp : pc + 3 = pc') (kt : x = 0 → dk_PJ E tgt ls st n σ) (kf : x ≠ 0 → dk_PJ E pc' ls st n σ) : dk_PJ E pc ls ((0, x) :: st) n σ := by
  obtain ⟨p, l, e, R, s, m, args, below, meth, c, Q, G, Ty, n0, nL⟩ := E
  obtain ⟨hx, hb, hml, hown, hts, hdf, hdl, hG, hlk, hTy, hl0, hG0, hn0, hnL0, hmc, hms, hext⟩ := hE
  subst hTy hl0 hG0 hn0 hnL0
  subst hp
  intro H locs lsr hH hL hl o1 o2 hn
  obtain ⟨o2a, o2c⟩ := dk_c1 o2
  have hX := dk_oki o2a
  exact lv_if_eq (x := Int32.ofInt x) hx hb hd ht (fun q => kt ((dk_eq hX dk_z32).mp q) H locs lsr hH hL hl o1 o2c hn) (fun q => kf (by have := mt (dk_eq hX dk_z32).mpr q; omega) H locs lsr hH hL hl o1 o2c hn)
theorem dk_icmp_ne {E : dkE} {cc : ByteArray} {own : String} {d : Nat} {T : dkT} {l0 : Launch} {G0 : dkG} {n00 : Int} {nL0 mc ms : Nat} (hE : dk_Good E cc own d T l0 G0 n00 nL0 mc ms) {pc pc' : Nat} {ls st : List dkV} {n : Int} {σ : dkS} {x y off : Int} {tgt : Nat} (hd : decode cc pc = .ok (.if_icmp .ne off, 3)) (ht : (pc : Int) + off = (tgt : Int)) (hp : pc + 3 = pc') (kt : x ≠ y → dk_PJ E tgt ls st n σ) (kf : x = y → dk_PJ E pc' ls st n σ) : dk_PJ E pc ls ((0, y) :: (0, x) :: st) n σ := by
  obtain ⟨p, l, e, R, s, m, args, below, meth, c, Q, G, Ty, n0, nL⟩ := E
  obtain ⟨hx, hb, hml, hown, hts, hdf, hdl, hG, hlk, hTy, hl0, hG0, hn0, hnL0, hmc, hms, hext⟩ := hE
  subst hTy hl0 hG0 hn0 hnL0
  subst hp
  intro H locs lsr hH hL hl o1 o2 hn
  obtain ⟨o2a, o2b, o2c⟩ := dk_c2 o2
  have hX := dk_oki o2b
  have hY := dk_oki o2a
  exact lv_icmp_ne (x := Int32.ofInt x) (y := Int32.ofInt y) hx hb hd ht (fun q => kt (fun z => q ((dk_eq hX hY).mpr z)) H locs lsr hH hL hl o1 o2c hn) (fun q => kf ((dk_eq hX hY).mp q) H locs lsr hH hL hl o1 o2c hn)
theorem dk_if_ne {E : dkE} {cc : ByteArray} {own : String} {d : Nat} {T : dkT} {l0 : Launch} {G0 : dkG} {n00 : Int} {nL0 mc ms : Nat} (hE : dk_Good E cc own d T l0 G0 n00 nL0 mc ms) {pc pc' : Nat} {ls st : List dkV} {n : Int} {σ : dkS} {x off : Int} {tgt : Nat} (hd : decode cc pc = .ok (.ifCond .ne off, 3)) (ht : (pc : Int) + off = (tgt : Int)) (hp : pc + 3 = pc') (kt : x ≠ 0 → dk_PJ E tgt ls st n σ) (kf : x = 0 → dk_PJ E pc' ls st n σ) : dk_PJ E pc ls ((0, x) :: st) n σ := by
  obtain ⟨p, l, e, R, s, m, args, below, meth, c, Q, G, Ty, n0, nL⟩ := E
  obtain ⟨hx, hb, hml, hown, hts, hdf, hdl, hG, hlk, hTy, hl0, hG0, hn0, hnL0, hmc, hms, hext⟩ := hE
  subst hTy hl0 hG0 hn0 hnL0
  subst hp
  intro H locs lsr hH hL hl o1 o2 hn
  obtain ⟨o2a, o2c⟩ := dk_c1 o2
  have hX := dk_oki o2a
  exact lv_if_ne (x := Int32.ofInt x) hx hb hd ht (fun q => kt (fun z => q ((dk_eq hX dk_z32).mpr z)) H locs lsr hH hL hl o1 o2c hn) (fun q => kf ((dk_eq hX dk_z32).mp q) H locs lsr hH hL hl o1 o2c hn)
theorem dk_icmp_lt {E : dkE} {cc : ByteArray} {own : String} {d : Nat} {T : dkT} {l0 : Launch} {G0 : dkG} {n00 : Int} {nL0 mc ms : Nat} (hE : dk_Good E cc own d T l0 G0 n00 nL0 mc ms) {pc pc' : Nat} {ls st : List dkV} {n : Int} {σ : dkS} {x y off : Int} {tgt : Nat} (hd : decode cc pc = .ok (.if_icmp .lt off, 3)) (ht : (pc : Int) + off = (tgt : Int)) (hp : pc + 3 = pc') (kt : x < y → dk_PJ E tgt ls st n σ) (kf : y ≤ x → dk_PJ E pc' ls st n σ) : dk_PJ E pc ls ((0, y) :: (0, x) :: st) n σ := by
  obtain ⟨p, l, e, R, s, m, args, below, meth, c, Q, G, Ty, n0, nL⟩ := E
  obtain ⟨hx, hb, hml, hown, hts, hdf, hdl, hG, hlk, hTy, hl0, hG0, hn0, hnL0, hmc, hms, hext⟩ := hE
  subst hTy hl0 hG0 hn0 hnL0
  subst hp
  intro H locs lsr hH hL hl o1 o2 hn
  obtain ⟨o2a, o2b, o2c⟩ := dk_c2 o2
  have hX := dk_oki o2b
  have hY := dk_oki o2a
  exact lv_icmp_lt (x := Int32.ofInt x) (y := Int32.ofInt y) hx hb hd ht (fun q => kt ((dk_lt hX hY).mp q) H locs lsr hH hL hl o1 o2c hn) (fun q => kf (by have := mt (dk_lt hX hY).mpr q; omega) H locs lsr hH hL hl o1 o2c hn)
theorem dk_if_lt {E : dkE} {cc : ByteArray} {own : String} {d : Nat} {T : dkT} {l0 : Launch} {G0 : dkG} {n00 : Int} {nL0 mc ms : Nat} (hE : dk_Good E cc own d T l0 G0 n00 nL0 mc ms) {pc pc' : Nat} {ls st : List dkV} {n : Int} {σ : dkS} {x off : Int} {tgt : Nat} (hd : decode cc pc = .ok (.ifCond .lt off, 3)) (ht : (pc : Int) + off = (tgt : Int)) (hp : pc + 3 = pc') (kt : x < 0 → dk_PJ E tgt ls st n σ) (kf : 0 ≤ x → dk_PJ E pc' ls st n σ) : dk_PJ E pc ls ((0, x) :: st) n σ := by
  obtain ⟨p, l, e, R, s, m, args, below, meth, c, Q, G, Ty, n0, nL⟩ := E
  obtain ⟨hx, hb, hml, hown, hts, hdf, hdl, hG, hlk, hTy, hl0, hG0, hn0, hnL0, hmc, hms, hext⟩ := hE
  subst hTy hl0 hG0 hn0 hnL0
  subst hp
  intro H locs lsr hH hL hl o1 o2 hn
  obtain ⟨o2a, o2c⟩ := dk_c1 o2
  have hX := dk_oki o2a
  exact lv_if_lt (x := Int32.ofInt x) hx hb hd ht (fun q => kt ((dk_lt hX dk_z32).mp q) H locs lsr hH hL hl o1 o2c hn) (fun q => kf (by have := mt (dk_lt hX dk_z32).mpr q; omega) H locs lsr hH hL hl o1 o2c hn)
theorem dk_icmp_ge {E : dkE} {cc : ByteArray} {own : String} {d : Nat} {T : dkT} {l0 : Launch} {G0 : dkG} {n00 : Int} {nL0 mc ms : Nat} (hE : dk_Good E cc own d T l0 G0 n00 nL0 mc ms) {pc pc' : Nat} {ls st : List dkV} {n : Int} {σ : dkS} {x y off : Int} {tgt : Nat} (hd : decode cc pc = .ok (.if_icmp .ge off, 3)) (ht : (pc : Int) + off = (tgt : Int)) (hp : pc + 3 = pc') (kt : y ≤ x → dk_PJ E tgt ls st n σ) (kf : x < y → dk_PJ E pc' ls st n σ) : dk_PJ E pc ls ((0, y) :: (0, x) :: st) n σ := by
  obtain ⟨p, l, e, R, s, m, args, below, meth, c, Q, G, Ty, n0, nL⟩ := E
  obtain ⟨hx, hb, hml, hown, hts, hdf, hdl, hG, hlk, hTy, hl0, hG0, hn0, hnL0, hmc, hms, hext⟩ := hE
  subst hTy hl0 hG0 hn0 hnL0
  subst hp
  intro H locs lsr hH hL hl o1 o2 hn
  obtain ⟨o2a, o2b, o2c⟩ := dk_c2 o2
  have hX := dk_oki o2b
  have hY := dk_oki o2a
  exact lv_icmp_ge (x := Int32.ofInt x) (y := Int32.ofInt y) hx hb hd ht (fun q => kt ((dk_le hY hX).mp q) H locs lsr hH hL hl o1 o2c hn) (fun q => kf (by have := mt (dk_le hY hX).mpr q; omega) H locs lsr hH hL hl o1 o2c hn)
theorem dk_if_ge {E : dkE} {cc : ByteArray} {own : String} {d : Nat} {T : dkT} {l0 : Launch} {G0 : dkG} {n00 : Int} {nL0 mc ms : Nat} (hE : dk_Good E cc own d T l0 G0 n00 nL0 mc ms) {pc pc' : Nat} {ls st : List dkV} {n : Int} {σ : dkS} {x off : Int} {tgt : Nat} (hd : decode cc pc = .ok (.ifCond .ge off, 3)) (ht : (pc : Int) + off = (tgt : Int)) (hp : pc + 3 = pc') (kt : 0 ≤ x → dk_PJ E tgt ls st n σ) (kf : x < 0 → dk_PJ E pc' ls st n σ) : dk_PJ E pc ls ((0, x) :: st) n σ := by
  obtain ⟨p, l, e, R, s, m, args, below, meth, c, Q, G, Ty, n0, nL⟩ := E
  obtain ⟨hx, hb, hml, hown, hts, hdf, hdl, hG, hlk, hTy, hl0, hG0, hn0, hnL0, hmc, hms, hext⟩ := hE
  subst hTy hl0 hG0 hn0 hnL0
  subst hp
  intro H locs lsr hH hL hl o1 o2 hn
  obtain ⟨o2a, o2c⟩ := dk_c1 o2
  have hX := dk_oki o2a
  exact lv_if_ge (x := Int32.ofInt x) hx hb hd ht (fun q => kt ((dk_le dk_z32 hX).mp q) H locs lsr hH hL hl o1 o2c hn) (fun q => kf (by have := mt (dk_le dk_z32 hX).mpr q; omega) H locs lsr hH hL hl o1 o2c hn)
theorem dk_icmp_gt {E : dkE} {cc : ByteArray} {own : String} {d : Nat} {T : dkT} {l0 : Launch} {G0 : dkG} {n00 : Int} {nL0 mc ms : Nat} (hE : dk_Good E cc own d T l0 G0 n00 nL0 mc ms) {pc pc' : Nat} {ls st : List dkV} {n : Int} {σ : dkS} {x y off : Int} {tgt : Nat} (hd : decode cc pc = .ok (.if_icmp .gt off, 3)) (ht : (pc : Int) + off = (tgt : Int)) (hp : pc + 3 = pc') (kt : y < x → dk_PJ E tgt ls st n σ) (kf : x ≤ y → dk_PJ E pc' ls st n σ) : dk_PJ E pc ls ((0, y) :: (0, x) :: st) n σ := by
  obtain ⟨p, l, e, R, s, m, args, below, meth, c, Q, G, Ty, n0, nL⟩ := E
  obtain ⟨hx, hb, hml, hown, hts, hdf, hdl, hG, hlk, hTy, hl0, hG0, hn0, hnL0, hmc, hms, hext⟩ := hE
  subst hTy hl0 hG0 hn0 hnL0
  subst hp
  intro H locs lsr hH hL hl o1 o2 hn
  obtain ⟨o2a, o2b, o2c⟩ := dk_c2 o2
  have hX := dk_oki o2b
  have hY := dk_oki o2a
  exact lv_icmp_gt (x := Int32.ofInt x) (y := Int32.ofInt y) hx hb hd ht (fun q => kt ((dk_lt hY hX).mp q) H locs lsr hH hL hl o1 o2c hn) (fun q => kf (by have := mt (dk_lt hY hX).mpr q; omega) H locs lsr hH hL hl o1 o2c hn)
theorem dk_if_gt {E : dkE} {cc : ByteArray} {own : String} {d : Nat} {T : dkT} {l0 : Launch} {G0 : dkG} {n00 : Int} {nL0 mc ms : Nat} (hE : dk_Good E cc own d T l0 G0 n00 nL0 mc ms) {pc pc' : Nat} {ls st : List dkV} {n : Int} {σ : dkS} {x off : Int} {tgt : Nat} (hd : decode cc pc = .ok (.ifCond .gt off, 3)) (ht : (pc : Int) + off = (tgt : Int)) (hp : pc + 3 = pc') (kt : 0 < x → dk_PJ E tgt ls st n σ) (kf : x ≤ 0 → dk_PJ E pc' ls st n σ) : dk_PJ E pc ls ((0, x) :: st) n σ := by
  obtain ⟨p, l, e, R, s, m, args, below, meth, c, Q, G, Ty, n0, nL⟩ := E
  obtain ⟨hx, hb, hml, hown, hts, hdf, hdl, hG, hlk, hTy, hl0, hG0, hn0, hnL0, hmc, hms, hext⟩ := hE
  subst hTy hl0 hG0 hn0 hnL0
  subst hp
  intro H locs lsr hH hL hl o1 o2 hn
  obtain ⟨o2a, o2c⟩ := dk_c1 o2
  have hX := dk_oki o2a
  exact lv_if_gt (x := Int32.ofInt x) hx hb hd ht (fun q => kt ((dk_lt dk_z32 hX).mp q) H locs lsr hH hL hl o1 o2c hn) (fun q => kf (by have := mt (dk_lt dk_z32 hX).mpr q; omega) H locs lsr hH hL hl o1 o2c hn)
theorem dk_icmp_le {E : dkE} {cc : ByteArray} {own : String} {d : Nat} {T : dkT} {l0 : Launch} {G0 : dkG} {n00 : Int} {nL0 mc ms : Nat} (hE : dk_Good E cc own d T l0 G0 n00 nL0 mc ms) {pc pc' : Nat} {ls st : List dkV} {n : Int} {σ : dkS} {x y off : Int} {tgt : Nat} (hd : decode cc pc = .ok (.if_icmp .le off, 3)) (ht : (pc : Int) + off = (tgt : Int)) (hp : pc + 3 = pc') (kt : x ≤ y → dk_PJ E tgt ls st n σ) (kf : y < x → dk_PJ E pc' ls st n σ) : dk_PJ E pc ls ((0, y) :: (0, x) :: st) n σ := by
  obtain ⟨p, l, e, R, s, m, args, below, meth, c, Q, G, Ty, n0, nL⟩ := E
  obtain ⟨hx, hb, hml, hown, hts, hdf, hdl, hG, hlk, hTy, hl0, hG0, hn0, hnL0, hmc, hms, hext⟩ := hE
  subst hTy hl0 hG0 hn0 hnL0
  subst hp
  intro H locs lsr hH hL hl o1 o2 hn
  obtain ⟨o2a, o2b, o2c⟩ := dk_c2 o2
  have hX := dk_oki o2b
  have hY := dk_oki o2a
  exact lv_icmp_le (x := Int32.ofInt x) (y := Int32.ofInt y) hx hb hd ht (fun q => kt ((dk_le hX hY).mp q) H locs lsr hH hL hl o1 o2c hn) (fun q => kf (by have := mt (dk_le hX hY).mpr q; omega) H locs lsr hH hL hl o1 o2c hn)
theorem dk_if_le {E : dkE} {cc : ByteArray} {own : String} {d : Nat} {T : dkT} {l0 : Launch} {G0 : dkG} {n00 : Int} {nL0 mc ms : Nat} (hE : dk_Good E cc own d T l0 G0 n00 nL0 mc ms) {pc pc' : Nat} {ls st : List dkV} {n : Int} {σ : dkS} {x off : Int} {tgt : Nat} (hd : decode cc pc = .ok (.ifCond .le off, 3)) (ht : (pc : Int) + off = (tgt : Int)) (hp : pc + 3 = pc') (kt : x ≤ 0 → dk_PJ E tgt ls st n σ) (kf : 0 < x → dk_PJ E pc' ls st n σ) : dk_PJ E pc ls ((0, x) :: st) n σ := by
  obtain ⟨p, l, e, R, s, m, args, below, meth, c, Q, G, Ty, n0, nL⟩ := E
  obtain ⟨hx, hb, hml, hown, hts, hdf, hdl, hG, hlk, hTy, hl0, hG0, hn0, hnL0, hmc, hms, hext⟩ := hE
  subst hTy hl0 hG0 hn0 hnL0
  subst hp
  intro H locs lsr hH hL hl o1 o2 hn
  obtain ⟨o2a, o2c⟩ := dk_c1 o2
  have hX := dk_oki o2a
  exact lv_if_le (x := Int32.ofInt x) hx hb hd ht (fun q => kt ((dk_le hX dk_z32).mp q) H locs lsr hH hL hl o1 o2c hn) (fun q => kf (by have := mt (dk_le hX dk_z32).mpr q; omega) H locs lsr hH hL hl o1 o2c hn)
theorem dk_ifnull {E : dkE} {cc : ByteArray} {own : String} {d : Nat} {T : dkT} {l0 : Launch} {G0 : dkG} {n00 : Int} {nL0 mc ms : Nat} (hE : dk_Good E cc own d T l0 G0 n00 nL0 mc ms) {pc pc' : Nat} {ls st : List dkV} {n : Int} {σ : dkS} {x off : Int} {tgt : Nat} (hd : decode cc pc = .ok (.ifnull off, 3)) (ht : (pc : Int) + off = (tgt : Int)) (hp : pc + 3 = pc') (kt : x = -1 → dk_PJ E tgt ls st n σ) (kf : x ≠ -1 → dk_PJ E pc' ls st n σ) : dk_PJ E pc ls ((4, x) :: st) n σ := by
  obtain ⟨p, l, e, R, s, m, args, below, meth, c, Q, G, Ty, n0, nL⟩ := E
  obtain ⟨hx, hb, hml, hown, hts, hdf, hdl, hG, hlk, hTy, hl0, hG0, hn0, hnL0, hmc, hms, hext⟩ := hE
  subst hTy hl0 hG0 hn0 hnL0
  subst hp
  intro H locs lsr hH hL hl o1 o2 hn
  obtain ⟨o2a, o2c⟩ := dk_c1 o2
  rw [List.map_cons]
  rcases dk_cvr (ad := G.1) (x := x) with ⟨h, q⟩ | ⟨h, q⟩
  · rw [q]
    exact lv_ifnullN hx hb hd ht (kt h H locs lsr hH hL hl o1 o2c hn)
  · rw [q]
    exact lv_ifnull hx hb hd (kf h H locs lsr hH hL hl o1 o2c hn)
theorem dk_table {E : dkE} {cc : ByteArray} {own : String} {d : Nat} {T : dkT} {l0 : Launch} {G0 : dkG} {n00 : Int} {nL0 mc ms : Nat} (hE : dk_Good E cc own d T l0 G0 n00 nL0 mc ms) {pc : Nat} {ls st : List dkV} {n : Int} {σ : dkS} {x dflt lo hi : Int} {offs : Array Int} {len : Nat} (hd : decode cc pc = .ok (.tableswitch dflt lo hi offs, len)) {tgs : List Nat} {td : Nat} (htd : (pc : Int) + dflt = (td : Int)) (htg : offs.toList.map (fun o : Int => (pc : Int) + o) = tgs.map (fun t : Nat => (t : Int))) (hsz : hi = lo + offs.size - 1) (kd : (x < lo ∨ hi < x) → dk_PJ E td ls st n σ) (kt : ∀ (i tgt : Nat), tgs[i]? = some tgt → x = lo + i → dk_PJ E tgt ls st n σ) : dk_PJ E pc ls ((0, x) :: st) n σ := by
  obtain ⟨p, l, e, R, s, m, args, below, meth, c, Q, G, Ty, n0, nL⟩ := E
  obtain ⟨hx, hb, hml, hown, hts, hdf, hdl, hG, hlk, hTy, hl0, hG0, hn0, hnL0, hmc, hms, hext⟩ := hE
  subst hTy hl0 hG0 hn0 hnL0
  intro H locs lsr hH hL hl o1 o2 hn
  obtain ⟨o2a, o2c⟩ := dk_c1 o2
  have hX := dk_t32 (dk_oki o2a)
  by_cases h1 : x < lo ∨ hi < x
  · exact lv_tableOut (x := Int32.ofInt x) hx hb hd (by rw [hX]; exact h1) htd (kd h1 H locs lsr hH hL hl o1 o2c hn)
  · have hi2 : (x - lo).toNat < offs.size := by omega
    have ho : offs[(x - lo).toNat]? = some offs[(x - lo).toNat] := Array.getElem?_eq_getElem hi2
    have hlen : tgs.length = offs.size := by have := congrArg List.length htg; simpa using this.symm
    have ht : tgs[(x - lo).toNat]? = some (tgs[(x - lo).toNat]'(by omega)) := List.getElem?_eq_getElem (by omega)
    have hq := congrArg (fun l => l[(x - lo).toNat]?) htg
    simp only [List.getElem?_map, Array.getElem?_toList, ho, ht, Option.map_some, Option.some.injEq] at hq
    exact lv_tableIn (x := Int32.ofInt x) (off := offs[(x - lo).toNat]) hx hb hd (by rw [hX]; omega) (by rw [hX]; omega) (by rw [hX]; exact ho) hq (kt _ _ ht (by omega) H locs lsr hH hL hl o1 o2c hn)
def dk_sw (ps : List (Int × Int)) (d x : Int) : Int := match ps with
  | [] => d
  | q :: r => if x = q.1 then q.2 else dk_sw r d x
theorem dk_sw_eq (d x : Int) : ∀ ps : List (Int × Int), Op.lookupswitch.offset ps d x = dk_sw ps d x
  | [] => rfl
  | (a, b) :: r => by
    rw [Op.lookupswitch.offset_cons, dk_sw, dk_sw_eq d x r]
    by_cases h : x = a
    · rw [if_pos h, if_pos (by first | exact h | exact h.symm)]
    · rw [if_neg h, if_neg (by first | exact h | exact fun q => h q.symm)]
theorem dk_lookup {E : dkE} {cc : ByteArray} {own : String} {d : Nat} {T : dkT} {l0 : Launch} {G0 : dkG} {n00 : Int} {nL0 mc ms : Nat} (hE : dk_Good E cc own d T l0 G0 n00 nL0 mc ms) {pc : Nat} {ls st : List dkV} {n : Int} {σ : dkS} {x dflt : Int} {ps : Array (Int × Int)} {len : Nat} {off : Int} {tgt : Nat} (hd : decode cc pc = .ok (.lookupswitch dflt ps, len)) (hpp : (ps.toList.zip (ps.toList.drop 1)).all (fun (a, next) => a.1 < next.1) = true) (ho : dk_sw ps.toList dflt x = off) (ht : (pc : Int) + off = (tgt : Int)) (k : dk_PJ E tgt ls st n σ) : dk_PJ E pc ls ((0, x) :: st) n σ := by
  obtain ⟨p, l, e, R, s, m, args, below, meth, c, Q, G, Ty, n0, nL⟩ := E
  obtain ⟨hx, hb, hml, hown, hts, hdf, hdl, hG, hlk, hTy, hl0, hG0, hn0, hnL0, hmc, hms, hext⟩ := hE
  subst hTy hl0 hG0 hn0 hnL0
  intro H locs lsr hH hL hl o1 o2 hn
  obtain ⟨o2a, o2c⟩ := dk_c1 o2
  have hX := dk_t32 (dk_oki o2a)
  exact lv_lookup (x := Int32.ofInt x) hx hb hd hpp (by rw [hX, dk_sw_eq]; exact ho) ht (k H locs lsr hH hL hl o1 o2c hn)
