theorem dk_cV {E : dkE} {cc : ByteArray} {own : String} {d : Nat} {T : dkT} {l0 : Launch} {G0 : dkG} {n : Int} {nL0 mc ms : Nat} (hE : dk_Good E cc own d T l0 G0 n nL0 mc ms) {pc pc' : Nat} {ls st : List dkV} {σ : dkS} {as stk : List dkV} {k : Int} {ix cl dc na maxL : Nat} {y : MethodName} {cc2 : ByteArray} {ret : Option FieldType} {Pre : List dkV → dkS → Prop} {Post : List dkV → dkS → Option dkV → dkS → Prop} (hW : dk_LV own ix cl y cc2 maxL ret na) (hc : dk_Ct l0 G0 T y cc2 maxL ret dc n n Pre Post) (hd : decode cc pc = .ok (.invokevirtual ix, 3)) (hst : stk = as.reverse ++ (4, k) :: st) (hk : dk_is n cl k) (hna : as.length = na) (hdc : dc + 1 ≤ d) (h8 : dk_cat3 st ≤ 8) (hpre : Pre ((4, k) :: as) σ) (hp : pc + 3 = pc') (K : ∀ (r : Option dkV) (σ' : dkS), Post ((4, k) :: as) σ r σ' → (∀ v, r = some v → dk_ok v) → dk_PJ E pc' ls (r.toList ++ st) n σ') : dk_PJ E pc ls stk n σ :=
  dk_invV hE hW hc hd hst hk hna hdc h8 ⟨by omega, by omega⟩ (fun _ => Int.le_refl n) ⟨Nat.le_refl _, Nat.le_refl _⟩ hpre hp K
theorem dk_cS {E : dkE} {cc : ByteArray} {own : String} {d : Nat} {T : dkT} {l0 : Launch} {G0 : dkG} {n : Int} {nL0 mc ms : Nat} (hE : dk_Good E cc own d T l0 G0 n nL0 mc ms) {pc pc' : Nat} {ls st : List dkV} {σ : dkS} {as stk : List dkV} {ix dc na maxL : Nat} {y : MethodName} {cc2 : ByteArray} {ret : Option FieldType} {Pre : List dkV → dkS → Prop} {Post : List dkV → dkS → Option dkV → dkS → Prop} (hW : dk_LS own ix y cc2 maxL ret na) (hc : dk_Ct l0 G0 T y cc2 maxL ret dc n n Pre Post) (hd : decode cc pc = .ok (.invokestatic ix, 3)) (hst : stk = as.reverse ++ st) (hna : as.length = na) (hdc : dc + 1 ≤ d) (h8 : dk_cat3 st ≤ 8) (hpre : Pre as σ) (hp : pc + 3 = pc') (K : ∀ (r : Option dkV) (σ' : dkS), Post as σ r σ' → (∀ v, r = some v → dk_ok v) → dk_PJ E pc' ls (r.toList ++ st) n σ') : dk_PJ E pc ls stk n σ :=
  dk_invS hE hW hc hd hst hna hdc h8 ⟨by omega, by omega⟩ (fun _ => Int.le_refl n) ⟨Nat.le_refl _, Nat.le_refl _⟩ hpre hp K
/-- locals forgotten -/
def dk_fg (mask : List Bool) (ls : List dkV) : List dkV := List.zipWith (fun b v => cond b v (9, 0)) mask ls
theorem dk_drop {E : dkE} {pc : Nat} {ls ls' st : List dkV} {n : Int} {σ : dkS} (mask : List Bool) (h : dk_fg mask ls = ls') (k : dk_PJ E pc ls' st n σ) : dk_PJ E pc ls st n σ := by
  obtain ⟨p, l, e, R, s, m, args, below, meth, c, Q, G, Ty, n0, nL⟩ := E
  subst h
  intro H locs lsr hH hL hl o1 o2 hn
  have key : ∀ (i : Nat) (v : dkV), (dk_fg mask ls)[i]? = some v → v.1 ≠ 9 → ls[i]? = some v := by
    intro i v hi h9
    rw [dk_fg, List.getElem?_zipWith] at hi
    cases hm : mask[i]? with
    | none => rw [hm] at hi; cases hi
    | some b =>
      cases hv : ls[i]? with
      | none => rw [hm, hv] at hi; cases hi
      | some w =>
        rw [hm, hv] at hi
        cases b with
        | true => exact hi
        | false => exact absurd (by rw [← Option.some.inj hi]; rfl) h9
  refine k H locs lsr hH hL ⟨hl.1, hl.2.1, fun i v hi h9 => hl.2.2 i v (key i v hi h9) h9⟩ (fun v hv => ?_) o2 hn
  obtain ⟨i, hi⟩ := List.getElem?_of_mem hv
  by_cases h9 : v.1 = 9
  · obtain ⟨t, z⟩ := v
    have h9 : t = 9 := h9
    subst h9
    exact ⟨fun q => (by cases q), fun q => (by cases q)⟩
  · exact o1 v (List.mem_of_getElem? (key i v hi h9))
theorem dk_b_in {x z : Int} (h : z = dk_b x) : -128 ≤ z ∧ z ≤ 127 := by
  subst h
  unfold dk_b
  rw [Int8.toInt_toInt32]
  have h1 := Int8.le_toInt (Int32.ofInt x).toInt8
  have h2 := Int8.toInt_lt (Int32.ofInt x).toInt8
  omega
theorem dk_wr {k c lo hi : Int} (q : k = c) (h : lo ≤ c ∧ c ≤ hi) : lo ≤ k ∧ k ≤ hi := by subst q; exact h
theorem dk_wrr {k a b lo hi : Int} (q : a ≤ k ∧ k ≤ b) (h : lo ≤ a) (h2 : b ≤ hi) : lo ≤ k ∧ k ≤ hi := ⟨Int.le_trans h q.1, Int.le_trans q.2 h2⟩
