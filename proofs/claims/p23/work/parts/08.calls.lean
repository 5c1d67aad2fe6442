def dk_rm (d mc ms : Nat) : Room := { frames := d, cells := mc, slots := ms, locals := 100 * d }
/-- what a method's end is -/
def dk_End (G : dkG) (T : dkT) (n' : Int) (P : Option dkV → dkS → Prop) : Array Value → State → Outcome → State → Prop := fun _ _ o t => ∃ (r : Option dkV) (σ' : dkS), o = .returned (r.map (dk_cv G.1)) ∧ (∀ v, r = some v → dk_ok v) ∧ P r σ' ∧ dk_Hold G T t n' σ' t.heap
/-- a method's contract: n cells before, n' behind -/
def dk_Ct (l : Launch) (G : dkG) (T : dkT) (y : MethodName) (cc : ByteArray) (maxL : Nat) (ret : Option FieldType) (d : Nat) (n n' : Int) (Pre : List dkV → dkS → Prop) (Post : List dkV → dkS → Option dkV → dkS → Prop) : Prop :=
  ∀ (av : List dkV) (σ : dkS), Pre av σ → (∀ v ∈ av, dk_ok v) → Met l y (.code y cc maxL ret :: lw_g) (dk_rm d (n' - n).toNat (dk_tot n' - dk_tot n)) (fun a U => a = (av.map (dk_cv G.1)).toArray ∧ G.2.2.2 U ∧ dk_Hold G T U n σ U.heap) (dk_End G T n' (Post av σ)) (n' - n).toNat (dk_tot n' - dk_tot n) (fun q => G.2.1 ≤ q)
/-- the end that a walk comes to -/
def dk_Ret (E : dkE) (ret : Option FieldType) (n' : Int) (P : Option dkV → dkS → Prop) : Prop := match E with
  | (p, l, e, R, s, m, args, below, meth, c, Q, G, Ty, n0, nL) => meth.sig.returnType = ret ∧ Q = MQ below (dk_End G Ty n' P) args s (n' - n0).toNat (dk_tot n' - dk_tot n0) (fun q => G.2.1 ≤ q)
def dk_Ini (E : dkE) : Prop := E.2.2.2.2.2.2.2.2.1.name = "<init>"
/-- the locals at a method's entry -/
def dk_loc : List dkV → List dkV
  | [] => []
  | (3, z) :: r => (3, z) :: (9, 0) :: dk_loc r
  | v :: r => v :: dk_loc r
theorem dk_arg (ad : Int → Nat) : ∀ (av : List dkV) (b i : Nat) (v : dkV), (dk_loc av)[i]? = some v → v.1 ≠ 9 → (b + i, dk_cv ad v) ∈ lv_args b (av.map (dk_cv ad))
  | [], b, i, v, h, _ => by simp [dk_loc] at h
  | w :: r, b, i, v, h, h9 => by
    by_cases h3 : w.1 = 3
    · obtain ⟨t, z⟩ := w
      have h3 : t = 3 := h3
      subst h3
      have h : ((3, z) :: (9, 0) :: dk_loc r)[i]? = some v := h
      show (b + i, dk_cv ad v) ∈ (b, dk_cv ad (3, z)) :: lv_args (if (dk_cv ad (3, z)).category = 2 then b + 2 else b + 1) (r.map (dk_cv ad))
      rw [if_pos (show (dk_cv ad (3, z)).category = 2 from rfl)]
      match i, h with
      | 0, h => cases h; exact List.mem_cons_self
      | 1, h => cases h; exact absurd rfl h9
      | i + 2, h =>
        have := dk_arg ad r (b + 2) i v h h9
        rw [show b + 2 + i = b + (i + 2) by omega] at this
        exact List.mem_cons_of_mem _ this
    · have e : dk_loc (w :: r) = w :: dk_loc r := by
        obtain ⟨t, z⟩ := w
        match t, h3 with
        | 0, _ => rfl
        | 1, _ => rfl
        | 2, _ => rfl
        | 3, h3 => exact absurd rfl h3
        | k + 4, _ => rfl
      rw [e] at h
      show (b + i, dk_cv ad v) ∈ (b, dk_cv ad w) :: lv_args (if (dk_cv ad w).category = 2 then b + 2 else b + 1) (r.map (dk_cv ad))
      rw [if_neg (by rw [dk_cat1 h3]; decide)]
      match i, h with
      | 0, h => cases h; exact List.mem_cons_self
      | i + 1, h =>
        have := dk_arg ad r (b + 1) i v h h9
        rw [show b + 1 + i = b + (i + 1) by omega] at this
        exact List.mem_cons_of_mem _ this
theorem dk_arg_len (ad : Int → Nat) : ∀ av : List dkV, (lg_sl (av.map (dk_cv ad))).length = (dk_loc av).length
  | [] => rfl
  | w :: r => by
    have ih := dk_arg_len ad r
    by_cases h3 : w.1 = 3
    · obtain ⟨t, z⟩ := w
      have h3 : t = 3 := h3
      subst h3
      show (lg_sl (dk_cv ad (3, z) :: r.map (dk_cv ad))).length = ((3, z) :: (9, 0) :: dk_loc r : List dkV).length
      have e : lg_sl (dk_cv ad (3, z) :: r.map (dk_cv ad)) = [.val (dk_cv ad (3, z)), .second] ++ lg_sl (r.map (dk_cv ad)) := by
        rw [lg_sl, List.flatMap_cons, if_pos (show (dk_cv ad (3, z)).category = 2 from rfl)]; rfl
      rw [e]
      simp [ih]
    · have e : dk_loc (w :: r) = w :: dk_loc r := by
        obtain ⟨t, z⟩ := w
        match t, h3 with
        | 0, _ => rfl
        | 1, _ => rfl
        | 2, _ => rfl
        | 3, h3 => exact absurd rfl h3
        | k + 4, _ => rfl
      rw [e]
      have e2 : lg_sl (dk_cv ad w :: r.map (dk_cv ad)) = [.val (dk_cv ad w)] ++ lg_sl (r.map (dk_cv ad)) := by
        rw [lg_sl, List.flatMap_cons, if_neg (by rw [dk_cat1 h3]; decide)]; rfl
      show (lg_sl (dk_cv ad w :: r.map (dk_cv ad))).length = _
      rw [e2]
      simp [ih]
theorem dk_loc_ok : ∀ av : List dkV, (∀ v ∈ av, dk_ok v) → ∀ v ∈ dk_loc av, dk_ok v
  | [], _, v, h => by cases h
  | w :: r, ho, v, h => by
    have ih := dk_loc_ok r (fun x hx => ho x (List.mem_cons_of_mem _ hx))
    by_cases h3 : w.1 = 3
    · obtain ⟨t, z⟩ := w
      have h3 : t = 3 := h3
      subst h3
      have h : v ∈ ((3, z) :: (9, 0) :: dk_loc r : List dkV) := h
      rcases List.mem_cons.mp h with rfl | h
      · exact ho _ List.mem_cons_self
      · rcases List.mem_cons.mp h with rfl | h
        · exact dk_ok9
        · exact ih v h
    · have e : dk_loc (w :: r) = w :: dk_loc r := by
        obtain ⟨t, z⟩ := w
        match t, h3 with
        | 0, _ => rfl
        | 1, _ => rfl
        | 2, _ => rfl
        | 3, h3 => exact absurd rfl h3
        | k + 4, _ => rfl
      rw [e] at h
      rcases List.mem_cons.mp h with rfl | h
      · exact ho _ List.mem_cons_self
      · exact ih v h
/-- a contract out of a walk from the entry; ls: the locals, padded -/
theorem dk_enter {l : Launch} {G : dkG} {T : dkT} {y : MethodName} {cc : ByteArray} {maxL : Nat} {ret : Option FieldType} {d : Nat} {n n' : Int} {Pre : List dkV → dkS → Prop} {Post : List dkV → dkS → Option dkV → dkS → Prop} (hGd : dk_Gd G) (hy : plainName y.cls = true)
    (body : ∀ (av : List dkV) (σ : dkS), Pre av σ → (∀ v ∈ av, dk_ok v) → (dk_loc av).length ≤ maxL ∧ ∀ E : dkE, dk_Good E cc y.cls d T l G n maxL (n' - n).toNat (dk_tot n' - dk_tot n) → dk_Ret E ret n' (Post av σ) → (y.name = "<init>" → dk_Ini E) → dk_PJ E 0 (dk_loc av ++ List.replicate (maxL - (dk_loc av).length) (9, 0)) [] n σ) : dk_Ct l G T y cc maxL ret d n n' Pre Post := by
  intro av σ hpre hok
  obtain ⟨hlen, hb⟩ := body av σ hpre hok
  refine Met.ofW (cc := cc) (maxL := maxL) (ret := ret) hy rfl ?_
  intro p e s m args below meth c s₁ B hml hv
  obtain ⟨rfl, hext, hH⟩ := hv
  have hts : ∀ w ∈ lw_g, w.before (av.map (dk_cv G.1)).toArray s = true := fun w hw => atoms_spec (ws := .code y cc maxL ret :: lw_g) B.pre w (List.mem_cons_of_mem _ hw)
  have hown : s.vm.findClass y.cls = some m.cls := findClass_of_methodNamed B.named
  have hJ := hb (p, l, e, (headSpec (.code y cc maxL ret :: lw_g) (dk_rm d (n' - n).toNat (dk_tot n' - dk_tot n))).room, s, m, (av.map (dk_cv G.1)).toArray, below, meth, c, MQ below (dk_End G T n' (Post av σ)) (av.map (dk_cv G.1)).toArray s (n' - n).toNat (dk_tot n' - dk_tot n) (fun q => G.2.1 ≤ q), G, T, n, maxL)
    ⟨B.exec, B.bytes, hml, hown, hts, Nat.le_refl _, Nat.le_refl _, hGd, B.notSynchronized, rfl, rfl, rfl, rfl, rfl, Nat.le_refl _, Nat.le_refl _, hext⟩ ⟨B.returns, rfl⟩ (fun q => (name_of_methodNamed B.named B.method).1.trans q)
  have hl := lv_entry (av.map (dk_cv G.1)) (n := maxL) (by rw [dk_arg_len]; exact hlen)
  rw [lg_entry_eq]
  generalize (lg_sl (av.map (dk_cv G.1)) ++ List.replicate (maxL - (lg_sl (av.map (dk_cv G.1))).length) Slot.unset).toArray = lsr at hl ⊢
  have h := hJ s.heap [] lsr hH (fun q hq => by cases hq) ⟨hl.1, hl.2.1, fun i v hi h9 => ?_⟩ ?_ (fun v hv => by cases hv) (Int.le_refl n)
  · rw [show (n - n).toNat = 0 by omega, Nat.sub_self] at h
    exact h
  · by_cases hq : i < (dk_loc av).length
    · rw [List.getElem?_append_left hq] at hi
      have h1 := dk_arg G.1 av 0 i v hi h9
      rw [Nat.zero_add] at h1
      exact hl.2.2 _ h1
    · rw [List.getElem?_append_right (by omega), List.getElem?_replicate] at hi
      split at hi
      · cases hi
        exact absurd rfl h9
      · cases hi
  · intro v hv
    rcases List.mem_append.mp hv with h1 | h1
    · exact dk_loc_ok av hok v h1
    · rw [(List.mem_replicate.mp h1).2]
      exact dk_ok9
/-- returns -/
theorem dk_locsF {G : dkG} {locs : List Loc} (hL : ∀ q ∈ locs, G.2.1 ≤ q.base) : ∀ q ∈ locs, (fun q => G.2.1 ≤ q) q.base := hL
theorem dk_iret {E : dkE} {cc : ByteArray} {own : String} {d : Nat} {T : dkT} {l0 : Launch} {G0 : dkG} {n00 : Int} {nL0 mc ms : Nat} (hE : dk_Good E cc own d T l0 G0 n00 nL0 mc ms) {pc : Nat} {ls st : List dkV} {n : Int} {σ : dkS} {z : Int} {P : Option dkV → dkS → Prop} (hR : dk_Ret E (some .int) n P) (hd : decode cc pc = .ok (.ireturn, 1)) (h : P (some (0, z)) σ) : dk_PJ E pc ls [(0, z)] n σ := by
  obtain ⟨p, l, e, R, s, m, args, below, meth, c, Q, G, Ty, n0, nL⟩ := E
  obtain ⟨hx, hb, hml, hown, hts, hdf, hdl, hG, hlk, hTy, hl0, hG0, hn0, hnL0, hmc, hms, hext⟩ := hE
  subst hTy hl0 hG0 hn0 hnL0
  obtain ⟨hr, rfl⟩ := hR
  intro H locs lsr hH hL hl o1 o2 hn
  exact W.iret hx hb hr (fun t ht hW => ⟨some (0, z), σ, rfl, fun v hv => by cases hv; exact o2 _ (by simp), h, by rw [ht]; exact hH.moved hW.alike⟩) hL hd hlk
theorem dk_zret {E : dkE} {cc : ByteArray} {own : String} {d : Nat} {T : dkT} {l0 : Launch} {G0 : dkG} {n00 : Int} {nL0 mc ms : Nat} (hE : dk_Good E cc own d T l0 G0 n00 nL0 mc ms) {pc : Nat} {ls st : List dkV} {n : Int} {σ : dkS} {z : Int} {P : Option dkV → dkS → Prop} (hR : dk_Ret E (some .boolean) n P) (hd : decode cc pc = .ok (.ireturn, 1)) (hz : 0 ≤ z ∧ z ≤ 1) (h : P (some (0, z)) σ) : dk_PJ E pc ls [(0, z)] n σ := by
  obtain ⟨p, l, e, R, s, m, args, below, meth, c, Q, G, Ty, n0, nL⟩ := E
  obtain ⟨hx, hb, hml, hown, hts, hdf, hdl, hG, hlk, hTy, hl0, hG0, hn0, hnL0, hmc, hms, hext⟩ := hE
  subst hTy hl0 hG0 hn0 hnL0
  obtain ⟨hr, rfl⟩ := hR
  intro H locs lsr hH hL hl o1 o2 hn
  exact W.zret hx hb hr (dk_okt_z G.1 z hz).1 (fun t ht hW => ⟨some (0, z), σ, rfl, fun v hv => by cases hv; exact o2 _ (by simp), h, by rw [ht]; exact hH.moved hW.alike⟩) hL hd hlk
theorem dk_lret {E : dkE} {cc : ByteArray} {own : String} {d : Nat} {T : dkT} {l0 : Launch} {G0 : dkG} {n00 : Int} {nL0 mc ms : Nat} (hE : dk_Good E cc own d T l0 G0 n00 nL0 mc ms) {pc : Nat} {ls st : List dkV} {n : Int} {σ : dkS} {z : Int} {P : Option dkV → dkS → Prop} (hR : dk_Ret E (some .long) n P) (hd : decode cc pc = .ok (.lreturn, 1)) (h : P (some (3, z)) σ) : dk_PJ E pc ls [(3, z)] n σ := by
  obtain ⟨p, l, e, R, s, m, args, below, meth, c, Q, G, Ty, n0, nL⟩ := E
  obtain ⟨hx, hb, hml, hown, hts, hdf, hdl, hG, hlk, hTy, hl0, hG0, hn0, hnL0, hmc, hms, hext⟩ := hE
  subst hTy hl0 hG0 hn0 hnL0
  obtain ⟨hr, rfl⟩ := hR
  intro H locs lsr hH hL hl o1 o2 hn
  exact W.lret hx hb hr (fun t ht hW => ⟨some (3, z), σ, rfl, fun v hv => by cases hv; exact o2 _ (by simp), h, by rw [ht]; exact hH.moved hW.alike⟩) hL hd hlk
theorem dk_vret {E : dkE} {cc : ByteArray} {own : String} {d : Nat} {T : dkT} {l0 : Launch} {G0 : dkG} {n00 : Int} {nL0 mc ms : Nat} (hE : dk_Good E cc own d T l0 G0 n00 nL0 mc ms) {pc : Nat} {ls st : List dkV} {n : Int} {σ : dkS} {P : Option dkV → dkS → Prop} (hR : dk_Ret E none n P) (hd : decode cc pc = .ok (.return_, 1)) (h : P none σ) : dk_PJ E pc ls [] n σ := by
  obtain ⟨p, l, e, R, s, m, args, below, meth, c, Q, G, Ty, n0, nL⟩ := E
  obtain ⟨hx, hb, hml, hown, hts, hdf, hdl, hG, hlk, hTy, hl0, hG0, hn0, hnL0, hmc, hms, hext⟩ := hE
  subst hTy hl0 hG0 hn0 hnL0
  obtain ⟨hr, rfl⟩ := hR
  intro H locs lsr hH hL hl o1 o2 hn
  exact W.vret hx hb hr (fun t ht hW => ⟨none, σ, rfl, fun v hv => (by cases hv), h, by rw [ht]; exact hH.moved hW.alike⟩) hL hd hlk
theorem dk_aret {E : dkE} {cc : ByteArray} {own : String} {d : Nat} {T : dkT} {l0 : Launch} {G0 : dkG} {n00 : Int} {nL0 mc ms : Nat} (hE : dk_Good E cc own d T l0 G0 n00 nL0 mc ms) {pc : Nat} {ls st : List dkV} {n : Int} {σ : dkS} {z : Int} {C : String} {P : Option dkV → dkS → Prop} (hR : dk_Ret E (some (.object C)) n P) (hd : decode cc pc = .ok (.areturn, 1)) (h : P (some (4, z)) σ) : dk_PJ E pc ls [(4, z)] n σ := by
  obtain ⟨p, l, e, R, s, m, args, below, meth, c, Q, G, Ty, n0, nL⟩ := E
  obtain ⟨hx, hb, hml, hown, hts, hdf, hdl, hG, hlk, hTy, hl0, hG0, hn0, hnL0, hmc, hms, hext⟩ := hE
  subst hTy hl0 hG0 hn0 hnL0
  obtain ⟨hr, rfl⟩ := hR
  intro H locs lsr hH hL hl o1 o2 hn
  refine W.aret hx hb hr (Or.inl ⟨_, rfl⟩) ?_ (fun t ht hW => ⟨some (4, z), σ, rfl, fun v hv => by cases hv; exact dk_rok _, h, by rw [ht]; exact hH.moved hW.alike⟩) hL hd hlk
  rcases dk_cvr (ad := G.1) (x := z) with ⟨-, q⟩ | ⟨-, q⟩
  · exact Or.inl q
  · exact Or.inr ⟨_, q⟩
/-- a method's words -/
def dk_MW (y : MethodName) (cc : ByteArray) (maxL : Nat) (ret : Option FieldType) (na : Nat) : Prop := Cond.code y cc maxL ret ∈ lw_g ∧ Cond.initialized y.cls ∈ lw_g ∧ (y.cls ≠ "java/lang/invoke/MethodHandle" ∧ y.cls ≠ "java/lang/invoke/VarHandle" ∧ (parseMethodDescriptor y.desc).map (fun d => d.parameters.length) = some na) ∧ maxL ≤ 80
/-- a call's words -/
def dk_LV (own : String) (ix cl : Nat) (y : MethodName) (cc : ByteArray) (maxL : Nat) (ret : Option FieldType) (na : Nat) : Prop := dk_MW y cc maxL ret na ∧ Cond.methodLink own ix y ∈ lw_g ∧ Cond.instanceMethod y ∈ lw_g ∧ Cond.selects y.cls y y ∈ lw_g ∧ (∃ q : vw_C, vwCl[cl]? = some q ∧ q.1 = y.cls) ∧ dk_shp cl = .inl cl
def dk_LS (own : String) (ix : Nat) (y : MethodName) (cc : ByteArray) (maxL : Nat) (ret : Option FieldType) (na : Nat) : Prop := dk_MW y cc maxL ret na ∧ Cond.methodLink own ix y ∈ lw_g ∧ Cond.static y ∈ lw_g
def dk_LI (own : String) (ix : Nat) (y : MethodName) (cc : ByteArray) (maxL : Nat) (na : Nat) : Prop := dk_MW y cc maxL none na ∧ Cond.methodLink own ix y ∈ lw_g ∧ Cond.instanceMethod y ∈ lw_g ∧ y.name = "<init>"
theorem dk_gin {y : MethodName} {cc : ByteArray} {maxL : Nat} {ret : Option FieldType} (h : Cond.code y cc maxL ret ∈ lw_g) : GoodIn lw_g (.code y cc maxL ret :: lw_g) := fun w hw => by
  rcases List.mem_cons.mp hw with rfl | q
  · exact ⟨h, lw_g_good h⟩
  · exact ⟨q, lw_g_good q⟩
theorem dk_cbl {R : Room} {s : State} {args : Array Value} {own : String} {ix : Nat} {y : MethodName} {cc : ByteArray} {maxL na d dc a b : Nat} {ret : Option FieldType} (hts : ∀ w ∈ lw_g, w.before args s = true) (h : dk_MW y cc maxL ret na) (hl : Cond.methodLink own ix y ∈ lw_g) (hd : d ≤ R.frames) (hl2 : 100 * d ≤ R.locals) (hdc : dc + 1 ≤ d) : CallB R s args own ix y cc maxL ret (.code y cc maxL ret :: lw_g) (dk_rm dc a b) a b na :=
  callB_of na hts (dk_gin h.1) rfl rfl rfl (hts _ h.2.1) (hts _ hl) h.2.2.1 ⟨by show dc + 1 ≤ R.frames; omega, by have := h.2.2.2; show 8 + (maxL + 11) + 100 * dc ≤ R.locals; omega⟩
def dk_cat3 (st : List dkV) : Nat := (st.map (fun v => cond (Nat.beq v.1 3) 2 1)).sum
theorem dk_cats (ad : Int → Nat) : ∀ st : List dkV, ((st.map (dk_cv ad)).map fun v => v.category).sum ≤ dk_cat3 st
  | [] => Nat.le_refl _
  | v :: r => by
    have ih := dk_cats ad r
    unfold dk_cat3 at ih ⊢
    simp only [List.map_cons, List.sum_cons]
    have h : (dk_cv ad v).category ≤ cond (Nat.beq v.1 3) 2 1 := by
      rcases lv_cat (dk_cv ad v) with q | q
      · rw [q]; cases Nat.beq v.1 3 <;> decide
      · rw [q, dk_cat q]; decide
    omega
theorem dk_invV {E : dkE} {cc : ByteArray} {own : String} {d : Nat} {T : dkT} {l0 : Launch} {G0 : dkG} {n00 : Int} {nL0 mc ms : Nat} (hE : dk_Good E cc own d T l0 G0 n00 nL0 mc ms) {pc pc' : Nat} {ls st : List dkV} {n : Int} {σ : dkS} {as stk : List dkV} {k : Int} {ix cl dc na maxL : Nat} {y : MethodName} {cc2 : ByteArray} {ret : Option FieldType} {n' : Int} {Pre : List dkV → dkS → Prop} {Post : List dkV → dkS → Option dkV → dkS → Prop} (hW : dk_LV own ix cl y cc2 maxL ret na) (hc : dk_Ct l0 G0 T y cc2 maxL ret dc n n' Pre Post) (hd : decode cc pc = .ok (.invokevirtual ix, 3)) (hst : stk = as.reverse ++ (4, k) :: st) (hk : dk_is n cl k) (hna : as.length = na) (hdc : dc + 1 ≤ d) (h8 : dk_cat3 st ≤ 8) (hf : (n - n00).toNat + (n' - n).toNat ≤ mc ∧ (dk_tot n - dk_tot n00) + (dk_tot n' - dk_tot n) ≤ ms) (hnn : n00 ≤ n → n ≤ n') (htt : dk_tot n00 ≤ dk_tot n ∧ dk_tot n ≤ dk_tot n') (hpre : Pre ((4, k) :: as) σ) (hp : pc + 3 = pc') (K : ∀ (r : Option dkV) (σ' : dkS), Post ((4, k) :: as) σ r σ' → (∀ v, r = some v → dk_ok v) → dk_PJ E pc' ls (r.toList ++ st) n' σ') : dk_PJ E pc ls stk n σ := by
  obtain ⟨p, l, e, R, s, m, args, below, meth, c, Q, G, Ty, n0, nL⟩ := E
  obtain ⟨hx, hb, hml, hown, hts, hdf, hdl, hG, hlk, hTy, hl0, hG0, hn0, hnL0, hmc, hms, hext⟩ := hE
  subst hTy hl0 hG0 hn0 hnL0
  subst hp hst
  intro H locs lsr hH hL hl o1 o2 hn

  have oas : ∀ v ∈ ((4, k) :: as : List dkV), dk_ok v := dk_cc (dk_rok k) (fun v hv => o2 v (List.mem_append_left _ (List.mem_reverse.mpr hv)))
  have ost : ∀ v ∈ st, dk_ok v := fun v hv => o2 v (List.mem_append_right _ (List.mem_cons_of_mem _ hv))
  have hk0 := hk.1
  have hM := hc ((4, k) :: as) σ hpre oas
  rw [List.map_cons, dk_cv_r hk0] at hM
  rw [List.map_append, List.map_reverse, List.map_cons, dk_cv_r hk0]
  obtain ⟨hmw, hl1, hl2, hl3, ⟨qc, hqc, hqn⟩, hsh⟩ := hW
  have hcw : CallW R s args own y.cls ix y cc2 maxL ret (.code y cc2 maxL ret :: lw_g) (dk_rm dc (n' - n).toNat (dk_tot n' - dk_tot n)) (n' - n).toNat (dk_tot n' - dk_tot n) na := ⟨dk_cbl hts hmw hl1 hdf hdl hdc, hts _ hl2, hts _ hl3⟩
  have hrec : ∃ cellB : Cell, H[G.1 k]? = some cellB ∧ cellB.vm.isStatics = false ∧ s.vm.findClass y.cls = some cellB.cls := by
    obtain ⟨hcell, -⟩ := hH.2.2.2.2 k hk.1 hk.2.1
    unfold dk_cell at hcell
    rw [hk.2.2, hsh] at hcell
    obtain ⟨q, cC, iS, hq, hKn, cell, q1, q2, q3, q4⟩ := hcell
    have hqe : q = qc := Option.some.inj (hq.symm.trans hqc)
    subst hqe
    exact ⟨cell, q1, by rw [q3]; rfl, by rw [← hqn, q2]; exact hKn.2.1⟩
  have hrun := va_runV (As := as.map (dk_cv G.1)) (rest := st.map (dk_cv G.1)) (H := H) (locs := locs) (cells := (n - n0).toNat) (slots := dk_tot n - dk_tot n0) (below := below) (meth := meth) (e := e) (g := F0 m pc lsr ((as.map (dk_cv G.1)).reverse ++ .ref (G.1 k) :: st.map (dk_cv G.1))) ⟨hx, hb, hml, hown, hts⟩ hM hcw ⟨fun a U g mk q => ⟨q.1, hG.2.2.1 U _ rfl q.2.1, dk_Hold.moved (U := U.calling g mk a) (Vm.Alike.refl U.vm) q.2.2⟩, hrec, fun U hU hW1 => ⟨rfl, hG.2.1 _ _ hW1 hext, by rw [hU]; exact hH.moved hW1.alike⟩⟩ rfl (by rw [List.length_map]; exact hna) hl.1 rfl (lv_room (Nat.le_trans (dk_cats G.1 st) h8)) hd ⟨by omega, by omega⟩
  intro TT hTT X
  obtain ⟨v, st₀, t, T', L, h0, X', hLf, e1, e2, ⟨r, σ', hv, hro, hP, hH1⟩, stp⟩ := hrun TT hTT X
  cases hv
  have hal : t.vm.Alike s.vm := by rw [← e2]; exact X'.warmed.alike.symm
  have hW2 := K r σ' hP hro T'.heap (locs ++ L) lsr (by rw [e1]; exact hH1.moved hal) (fun q hq => by
    rcases List.mem_append.mp hq with h | h
    · exact hL q h
    · exact hLf q h) hl o1 (fun v hv => by
    rcases List.mem_append.mp hv with h | h
    · exact hro v (by cases r with | none => cases h | some x => rw [List.mem_singleton.mp h])
    · exact ost v h) (Int.le_trans hn (hnn hn))
  have hcells : (n - n0).toNat + (n' - n).toNat = (n' - n0).toNat := by have := hnn hn; omega
  have hslots : dk_tot n - dk_tot n0 + (dk_tot n' - dk_tot n) = dk_tot n' - dk_tot n0 := by have := htt.1; have := htt.2; omega
  rw [hcells, hslots] at X'
  obtain ⟨t2, a1, b1⟩ := hW2 T' rfl X'
  refine ⟨t2, stp t2 ?_, b1⟩
  have es : (r.toList ++ st).map (dk_cv G.1) = (r.map (dk_cv G.1)).toList ++ st.map (dk_cv G.1) := by cases r <;> simp
  rw [es] at a1
  exact a1
theorem dk_invS {E : dkE} {cc : ByteArray} {own : String} {d : Nat} {T : dkT} {l0 : Launch} {G0 : dkG} {n00 : Int} {nL0 mc ms : Nat} (hE : dk_Good E cc own d T l0 G0 n00 nL0 mc ms) {pc pc' : Nat} {ls st : List dkV} {n : Int} {σ : dkS} {as stk : List dkV} {ix dc na maxL : Nat} {y : MethodName} {cc2 : ByteArray} {ret : Option FieldType} {n' : Int} {Pre : List dkV → dkS → Prop} {Post : List dkV → dkS → Option dkV → dkS → Prop} (hW : dk_LS own ix y cc2 maxL ret na) (hc : dk_Ct l0 G0 T y cc2 maxL ret dc n n' Pre Post) (hd : decode cc pc = .ok (.invokestatic ix, 3)) (hst : stk = as.reverse ++ st) (hna : as.length = na) (hdc : dc + 1 ≤ d) (h8 : dk_cat3 st ≤ 8) (hf : (n - n00).toNat + (n' - n).toNat ≤ mc ∧ (dk_tot n - dk_tot n00) + (dk_tot n' - dk_tot n) ≤ ms) (hnn : n00 ≤ n → n ≤ n') (htt : dk_tot n00 ≤ dk_tot n ∧ dk_tot n ≤ dk_tot n') (hpre : Pre as σ) (hp : pc + 3 = pc') (K : ∀ (r : Option dkV) (σ' : dkS), Post as σ r σ' → (∀ v, r = some v → dk_ok v) → dk_PJ E pc' ls (r.toList ++ st) n' σ') : dk_PJ E pc ls stk n σ := by
  obtain ⟨p, l, e, R, s, m, args, below, meth, c, Q, G, Ty, n0, nL⟩ := E
  obtain ⟨hx, hb, hml, hown, hts, hdf, hdl, hG, hlk, hTy, hl0, hG0, hn0, hnL0, hmc, hms, hext⟩ := hE
  subst hTy hl0 hG0 hn0 hnL0
  subst hp hst
  intro H locs lsr hH hL hl o1 o2 hn

  have oas : ∀ v ∈ as, dk_ok v := fun v hv => o2 v (List.mem_append_left _ (List.mem_reverse.mpr hv))
  have ost : ∀ v ∈ st, dk_ok v := fun v hv => o2 v (List.mem_append_right _ hv)
  have hM := hc as σ hpre oas
  rw [List.map_append, List.map_reverse]
  obtain ⟨hmw, hl1, hl2⟩ := hW
  have hcw : CallB R s args own ix y cc2 maxL ret (.code y cc2 maxL ret :: lw_g) (dk_rm dc (n' - n).toNat (dk_tot n' - dk_tot n)) (n' - n).toNat (dk_tot n' - dk_tot n) na ∧ (Cond.static y).before args s = true := ⟨dk_cbl hts hmw hl1 hdf hdl hdc, hts _ hl2⟩
  have hrun := va_runS (As := as.map (dk_cv G.1)) (rest := st.map (dk_cv G.1)) (H := H) (locs := locs) (cells := (n - n0).toNat) (slots := dk_tot n - dk_tot n0) (below := below) (meth := meth) (e := e) (g := F0 m pc lsr ((as.map (dk_cv G.1)).reverse ++ st.map (dk_cv G.1))) ⟨hx, hb, hml, hown, hts⟩ hM hcw ⟨fun a U g mk q => ⟨q.1, hG.2.2.1 U _ rfl q.2.1, dk_Hold.moved (U := U.calling g mk a) (Vm.Alike.refl U.vm) q.2.2⟩, fun U hU hW1 => ⟨rfl, hG.2.1 _ _ hW1 hext, by rw [hU]; exact hH.moved hW1.alike⟩⟩ rfl (by rw [List.length_map]; exact hna) hl.1 rfl (lv_room (Nat.le_trans (dk_cats G.1 st) h8)) hd ⟨by omega, by omega⟩
  intro TT hTT X
  obtain ⟨v, st₀, t, T', L, h0, X', hLf, e1, e2, ⟨r, σ', hv, hro, hP, hH1⟩, stp⟩ := hrun TT hTT X
  cases hv
  have hal : t.vm.Alike s.vm := by rw [← e2]; exact X'.warmed.alike.symm
  have hW2 := K r σ' hP hro T'.heap (locs ++ L) lsr (by rw [e1]; exact hH1.moved hal) (fun q hq => by
    rcases List.mem_append.mp hq with h | h
    · exact hL q h
    · exact hLf q h) hl o1 (fun v hv => by
    rcases List.mem_append.mp hv with h | h
    · exact hro v (by cases r with | none => cases h | some x => rw [List.mem_singleton.mp h])
    · exact ost v h) (Int.le_trans hn (hnn hn))
  have hcells : (n - n0).toNat + (n' - n).toNat = (n' - n0).toNat := by have := hnn hn; omega
  have hslots : dk_tot n - dk_tot n0 + (dk_tot n' - dk_tot n) = dk_tot n' - dk_tot n0 := by have := htt.1; have := htt.2; omega
  rw [hcells, hslots] at X'
  obtain ⟨t2, a1, b1⟩ := hW2 T' rfl X'
  refine ⟨t2, stp t2 ?_, b1⟩
  have es : (r.toList ++ st).map (dk_cv G.1) = (r.map (dk_cv G.1)).toList ++ st.map (dk_cv G.1) := by cases r <;> simp
  rw [es] at a1
  exact a1
