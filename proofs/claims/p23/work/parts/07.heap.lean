/-- a type code fits a type: canonical values are stored as they are -/
def dk_okt (ty : FieldType) (tc : Nat) : Prop := ∀ (ad : Int → Nat) (z : Int), dk_cn tc z → narrow ty (dk_cv ad (dk_tg tc, z)) = dk_cv ad (dk_tg tc, z) ∧ fits ty (dk_cv ad (dk_tg tc, z)) = true
theorem dk_okt_i : dk_okt .int 0 := fun _ _ _ => ⟨rfl, rfl⟩
theorem dk_okt_j : dk_okt .long 3 := fun _ _ _ => ⟨rfl, rfl⟩
theorem dk_okt_z : dk_okt .boolean 2 := fun ad z h => by
  have h1 : 0 ≤ z := h.1
  have h2 : z ≤ 1 := h.2
  rcases (show z = 0 ∨ z = 1 by omega) with rfl | rfl
  · exact ⟨rfl, rfl⟩
  · exact ⟨rfl, rfl⟩
theorem dk_nb8 {z : Int} (h : -128 ≤ z ∧ z ≤ 127) : (Int32.ofInt z).toInt8.toInt32 = Int32.ofInt z := by
  rw [← dk_b8 h]
  congr 1
  rw [← Int8.toInt_inj]
  simp
theorem dk_okt_b : dk_okt .byte 1 := fun ad z h => by
  have h1 : -128 ≤ z := h.1
  have h2 : z ≤ 127 := h.2
  refine ⟨congrArg Value.int (dk_nb8 ⟨h1, h2⟩), ?_⟩
  show (decide (-128 ≤ Int32.ofInt z) && decide (Int32.ofInt z ≤ 127)) = true
  have e1 : (-128 : Int32) = Int32.ofInt (-128) := by decide
  have e2 : (127 : Int32) = Int32.ofInt 127 := by decide
  rw [e1, e2, Bool.and_eq_true, decide_eq_true_iff, decide_eq_true_iff, dk_le ⟨by omega, by omega⟩ ⟨by omega, by omega⟩, dk_le ⟨by omega, by omega⟩ ⟨by omega, by omega⟩]
  exact ⟨h1, h2⟩
theorem dk_okt_o (C : String) : dk_okt (.object C) 4 := fun ad z _ => by
  rcases dk_cvr (ad := ad) (x := z) with ⟨-, q⟩ | ⟨-, q⟩
  · show narrow _ (dk_cv ad (4, z)) = dk_cv ad (4, z) ∧ fits _ (dk_cv ad (4, z)) = true
    rw [q]; exact ⟨rfl, rfl⟩
  · show narrow _ (dk_cv ad (4, z)) = dk_cv ad (4, z) ∧ fits _ (dk_cv ad (4, z)) = true
    rw [q]; exact ⟨rfl, rfl⟩
theorem dk_okt_a (t : FieldType) : dk_okt (.array t) 4 := fun ad z _ => by
  rcases dk_cvr (ad := ad) (x := z) with ⟨-, q⟩ | ⟨-, q⟩
  · show narrow _ (dk_cv ad (4, z)) = dk_cv ad (4, z) ∧ fits _ (dk_cv ad (4, z)) = true
    rw [q]; exact ⟨rfl, rfl⟩
  · show narrow _ (dk_cv ad (4, z)) = dk_cv ad (4, z) ∧ fits _ (dk_cv ad (4, z)) = true
    rw [q]; exact ⟨rfl, rfl⟩
/-- a class's tables -/
def dk_CL (c : Nat) (C : String) (T : u_T) (ty : Nat → FieldType) (N : Nat) : Prop := vwCl[c]? = some (C, T, N) ∧ (∀ w ∈ u_ws C T N, w ∈ lw_g) ∧ (∀ k, k < N → parseFieldDescriptor (T k).2.2.1 = some (ty k)) ∧ (∀ a, a < N → ∀ b, b < N → a ≠ b → (T a).2.1 ≠ (T b).2.1)
/-- a field's link -/
def dk_FL (own : String) (ix c j : Nat) (fin : Bool) (tc : Nat) : Prop := ∃ (C : String) (T : u_T) (ty : Nat → FieldType) (N : Nat), dk_CL c C T ty N ∧ j < N ∧ Cond.fieldLink own ix (T j).1 (T j).2.1 (T j).2.2.1 ∈ lw_g ∧ (T j).2.2.2 = fin ∧ dk_okt (ty j) tc ∧ dk_fty c j = tc ∧ dk_shp c = .inl c
theorem dk_cell_kept {s : State} {ad : Int → Nat} {H H1 : Heap} {σ σ1 : dkS} {k : Int} (hj : ∀ j, σ1 k j = σ k j) (hq : H1[ad k]? = H[ad k]?) (h : dk_cell s ad H σ k) : dk_cell s ad H1 σ1 k := by
  unfold dk_cell at h ⊢
  split at h
  · obtain ⟨q, cC, iS, h1, h2, h3⟩ := h
    refine ⟨q, cC, iS, h1, h2, (h3.kept hq).to (fun j _ => ?_)⟩
    rw [hj]
  · obtain ⟨cA, h1, h2, h3⟩ := h
    refine ⟨cA, h1, h2, ?_⟩
    rw [hq, h3]
    congr 2
    funext j
    rw [hj]
/-- a write of one slot -/
theorem dk_Hold.put {G : dkG} {Ty : dkT} {s : State} {n : Int} {σ : dkS} {H H1 : Heap} {k z : Int} {j : Nat} (hG : dk_Gd G) (h : dk_Hold G Ty s n σ H) (h0 : 0 ≤ k) (hk : k < n) (hz : H1.size = H.size) (ho : ∀ q, q ≠ G.1 k → H1[q]? = H[q]?)
    (hc : dk_cell s G.1 H1 (dk_up σ k j z) k) (hn : dk_cn (dk_stc (dk_site k) j) z) (ht : Ty k j z) : dk_Hold G Ty s n (dk_up σ k j z) H1 := by
  obtain ⟨a1, a2, a3, a4, a5⟩ := h
  have hak := hG.1 k h0
  refine ⟨a1, a2, by rw [hz]; exact a3, fun q hq => by rw [ho q (by omega)]; exact a4 q hq, fun k2 h2 hk2 => ?_⟩
  obtain ⟨b1, b2⟩ := a5 k2 h2 hk2
  by_cases e : k2 = k
  · subst e
    refine ⟨hc, fun i hi => ?_⟩
    by_cases ei : i = j
    · subst ei
      rw [dk_up_s]
      exact ⟨hn, ht⟩
    · rw [dk_up_j (by omega)]
      exact b2 i hi
  · have hak2 := hG.1 k2 h2
    refine ⟨dk_cell_kept (fun i => dk_up_k e) (ho _ (by omega)) b1, fun i hi => ?_⟩
    rw [dk_up_k e]
    exact b2 i hi
theorem dk_cv_r {ad : Int → Nat} {k : Int} (h : 0 ≤ k) : dk_cv ad (4, k) = .ref (ad k) := by
  rcases dk_cvr (ad := ad) (x := k) with ⟨h1, -⟩ | ⟨-, q⟩
  · omega
  · exact q
theorem dk_fd {s : State} {m : MethodId} {args : Array Value} {own C : String} {T : u_T} {ty : Nat → FieldType} {N c : Nat} (hts : ∀ w ∈ lw_g, w.before args s = true) (hC : dk_CL c C T ty N) {cC : ClassId} {iS : Nat → Nat} (hK : u_Kn s C T N cC iS) : ∀ x y, x < N → y < N → x ≠ y → iS x ≠ iS y := by
  intro x y hx hy hne
  obtain ⟨hS, -⟩ := hK
  obtain ⟨_, _, _, fa, hia, ea⟩ := hS x hx
  obtain ⟨_, _, _, fb, hib, eb⟩ := hS y hy
  rw [← ea, ← eb]
  refine u_apart (u_lays hts hC.2.1 hx) (u_lays hts hC.2.1 hy) hia hib ?_
  rw [(State.fieldFound?_type hia (hC.2.2.1 x hx)).1, (State.fieldFound?_type hib (hC.2.2.1 y hy)).1]
  exact hC.2.2.2 x hx y hy hne
theorem dk_getf {E : dkE} {cc : ByteArray} {own : String} {d : Nat} {T : dkT} {l0 : Launch} {G0 : dkG} {n00 : Int} {nL0 mc ms : Nat} (hE : dk_Good E cc own d T l0 G0 n00 nL0 mc ms) {pc pc' : Nat} {ls st : List dkV} {n : Int} {σ : dkS} {k : Int} {ix cl j tc tg : Nat} {fin : Bool} (hF : dk_FL own ix cl j fin tc) (hd : decode cc pc = .ok (.getfield ix, 3)) (hk : dk_is n cl k) (htg : dk_tg tc = tg) (hp : pc + 3 = pc') (K : T k j (σ k j) → dk_cn tc (σ k j) → dk_PJ E pc' ls ((tg, σ k j) :: st) n σ) : dk_PJ E pc ls ((4, k) :: st) n σ := by
  obtain ⟨p, l, e, R, s, m, args, below, meth, c, Q, G, Ty, n0, nL⟩ := E
  obtain ⟨hx, hb, hml, hown, hts, hdf, hdl, hG, hlk, hTy, hl0, hG0, hn0, hnL0, hmc, hms, hext⟩ := hE
  subst hTy hl0 hG0 hn0 hnL0
  subst hp
  intro H locs lsr hH hL hl o1 o2 hn
  subst htg
  obtain ⟨o2a, o2b⟩ := dk_c1 o2
  obtain ⟨hk0, hkn, hks⟩ := hk
  obtain ⟨C, T, ty, N, hC, hj, hw, hfin, hok, htc, hsh⟩ := hF
  obtain ⟨hcell, hsl⟩ := hH.2.2.2.2 k hk0 hkn
  have hstc : dk_stc (dk_site k) j = tc := by rw [hks, dk_stc, hsh]; exact htc
  have hlen : dk_len (dk_site k) = N := by rw [hks, dk_len, hsh]; simp only [List.getD_eq_getElem?_getD, hC.1]; rfl
  obtain ⟨hcn, hty⟩ := hsl j (by rw [hlen]; exact hj)
  rw [hstc] at hcn
  unfold dk_cell at hcell
  rw [hks, hsh] at hcell
  obtain ⟨q, cC, iS, hq, hKn, cell, q1, q2, q3, q4⟩ := hcell
  have hqe : q = (C, T, N) := Option.some.inj (hq.symm.trans hC.1)
  subst hqe
  obtain ⟨hS, hfc, kC, hkC, hkind⟩ := id hKn
  obtain ⟨cf, kf, fi, f, hi, hsl2⟩ := hS j hj
  have hv := q4 j hj
  rw [← hsl2] at hv
  dsimp only at hv
  rw [htc] at hv
  rw [List.map_cons, dk_cv_r hk0]
  exact W.getf hx hb hown (hts _ hw) hi (u_facts hfc hkC (u_lays hts hC.2.1 hj) hi).1 q1 (by rw [q3]; exact fun h => by cases h) hv rfl rfl hd (K hty hcn H locs lsr hH hL hl o1 (dk_cc (dk_cn_ok hcn) o2b) hn)
theorem dk_putf {E : dkE} {cc : ByteArray} {own : String} {d : Nat} {T : dkT} {l0 : Launch} {G0 : dkG} {n00 : Int} {nL0 mc ms : Nat} (hE : dk_Good E cc own d T l0 G0 n00 nL0 mc ms) {pc pc' : Nat} {ls st : List dkV} {n : Int} {σ : dkS} {k z : Int} {ix cl j tc tg : Nat} (hF : dk_FL own ix cl j false tc) (hd : decode cc pc = .ok (.putfield ix, 3)) (hk : dk_is n cl k) (htg : dk_tg tc = tg) (hz : dk_ok (tg, z) → dk_cn tc z) (ht : T k j z) (hp : pc + 3 = pc') (K : dk_PJ E pc' ls st n (dk_up σ k j z)) : dk_PJ E pc ls ((tg, z) :: (4, k) :: st) n σ := by
  obtain ⟨p, l, e, R, s, m, args, below, meth, c, Q, G, Ty, n0, nL⟩ := E
  obtain ⟨hx, hb, hml, hown, hts, hdf, hdl, hG, hlk, hTy, hl0, hG0, hn0, hnL0, hmc, hms, hext⟩ := hE
  subst hTy hl0 hG0 hn0 hnL0
  subst hp
  intro H locs lsr hH hL hl o1 o2 hn
  subst htg
  obtain ⟨o2a, o2b, o2c⟩ := dk_c2 o2
  have hz := hz o2a
  obtain ⟨hk0, hkn, hks⟩ := hk
  obtain ⟨C, T, ty, N, hC, hj, hw, hfin, hok, htc, hsh⟩ := hF
  obtain ⟨hcell, hsl⟩ := hH.2.2.2.2 k hk0 hkn
  have hstc : dk_stc (dk_site k) j = tc := by rw [hks, dk_stc, hsh]; exact htc
  have hcell0 := hcell
  unfold dk_cell at hcell
  rw [hks, hsh] at hcell
  obtain ⟨q, cC, iS, hq, hKn, cell, q1, q2, q3, q4⟩ := hcell
  have hqe : q = (C, T, N) := Option.some.inj (hq.symm.trans hC.1)
  subst hqe
  have hap := dk_fd (m := m) (own := own) hts hC hKn
  obtain ⟨hS, hfc, kC, hkC, hkind⟩ := id hKn
  obtain ⟨cf, kf, fi, f, hi, hsl2⟩ := hS j hj
  have hlay := hts _ (hC.2.1 _ (u_in_lay hj))
  unfold u_lay at hlay
  have hst := (u_facts hfc hkC (u_lays hts hC.2.1 hj) hi).1
  obtain ⟨hnr, hft⟩ := hok G.1 z hz
  rw [if_neg (by rw [hfin]; decide)] at hlay
  have h6 := u_store hfc hkC hkind hlay hi (hC.2.2.1 j hj) hnr hft
  rw [List.map_cons, List.map_cons, dk_cv_r hk0]
  refine W.putK hx hb (f := f) ⟨hown, hts _ hw, ⟨_, _, _, hi⟩, hst⟩ (by rw [q2]; exact h6) q1 q3 (by rw [hsl2]; exact k2_hasslot (q4 j hj)) rfl rfl hd fun H' e1 e2 e3 => ?_
  rw [hsl2] at e1
  have hcell1 : dk_cell s G.1 H' (dk_up σ k j z) k := by
    unfold dk_cell
    rw [hks, hsh]
    refine ⟨(C, T, N), cC, iS, hC.1, hKn, t_OB.to (V := updV (fun i => dk_cv G.1 (dk_tg (dk_fty cl i), σ k (i : Int))) j (dk_cv G.1 (dk_tg tc, z))) ⟨_, e1, q2, q3, t_set q4 hap hj _⟩ (fun i _ => ?_)⟩
    by_cases hij : i = j
    · subst hij
      simp only [updV, if_pos, dk_up_s, htc]
    · rw [dk_up_j (by omega)]
      simp only [updV, if_neg hij]
  refine K H' _ lsr (dk_Hold.put hG hH hk0 hkn e2 e3 hcell1 (by rw [hstc]; exact hz) ht) ?_ hl o1 o2c hn
  intro q hq
  rcases List.mem_append.mp hq with q1 | q1
  · exact hL q q1
  · rw [List.mem_singleton.mp q1]
    show G.2.1 ≤ G.1 k
    rw [hG.1 k hk0]
    omega
theorem dk_putF {E : dkE} {cc : ByteArray} {own : String} {d : Nat} {T : dkT} {l0 : Launch} {G0 : dkG} {n00 : Int} {nL0 mc ms : Nat} (hE : dk_Good E cc own d T l0 G0 n00 nL0 mc ms) {pc pc' : Nat} {ls st : List dkV} {n : Int} {σ : dkS} {k z : Int} {ix cl j tc tg : Nat} (hF : dk_FL own ix cl j true tc) (hd : decode cc pc = .ok (.putfield ix, 3)) (hin : E.2.2.2.2.2.2.2.2.1.name = "<init>") (hdecl : ∃ q : vw_C, vwCl[cl]? = some q ∧ (q.2.1 j).1 = own) (hk : dk_is n cl k) (htg : dk_tg tc = tg) (hz : dk_ok (tg, z) → dk_cn tc z) (ht : T k j z) (hp : pc + 3 = pc') (K : dk_PJ E pc' ls st n (dk_up σ k j z)) : dk_PJ E pc ls ((tg, z) :: (4, k) :: st) n σ := by
  obtain ⟨p, l, e, R, s, m, args, below, meth, c, Q, G, Ty, n0, nL⟩ := E
  obtain ⟨hx, hb, hml, hown, hts, hdf, hdl, hG, hlk, hTy, hl0, hG0, hn0, hnL0, hmc, hms, hext⟩ := hE
  subst hTy hl0 hG0 hn0 hnL0
  subst hp
  intro H locs lsr hH hL hl o1 o2 hn
  subst htg
  obtain ⟨o2a, o2b, o2c⟩ := dk_c2 o2
  have hz := hz o2a
  obtain ⟨hk0, hkn, hks⟩ := hk
  obtain ⟨C, T, ty, N, hC, hj, hw, hfin, hok, htc, hsh⟩ := hF
  obtain ⟨hcell, hsl⟩ := hH.2.2.2.2 k hk0 hkn
  have hstc : dk_stc (dk_site k) j = tc := by rw [hks, dk_stc, hsh]; exact htc
  have hcell0 := hcell
  unfold dk_cell at hcell
  rw [hks, hsh] at hcell
  obtain ⟨q, cC, iS, hq, hKn, cell, q1, q2, q3, q4⟩ := hcell
  have hqe : q = (C, T, N) := Option.some.inj (hq.symm.trans hC.1)
  subst hqe
  have hap := dk_fd (m := m) (own := own) hts hC hKn
  obtain ⟨hS, hfc, kC, hkC, hkind⟩ := id hKn
  obtain ⟨cf, kf, fi, f, hi, hsl2⟩ := hS j hj
  have hlay := hts _ (hC.2.1 _ (u_in_lay hj))
  unfold u_lay at hlay
  have hst := (u_facts hfc hkC (u_lays hts hC.2.1 hj) hi).1
  obtain ⟨hnr, hft⟩ := hok G.1 z hz
  rw [if_pos hfin] at hlay
  have hcf : m.cls = cf := by
    obtain ⟨_, _, c', _, _, _, -, -, hf', -, -, -, hown2, -⟩ := Cond.laysFinal_spec hlay
    have e1 : c' = cf := by have := hi.symm.trans hf'; simp at this; exact this.1.symm
    obtain ⟨qd, hqd, hqo⟩ := hdecl
    have hqd2 : qd = (C, T, N) := Option.some.inj (hqd.symm.trans hC.1)
    subst hqd2
    rw [hqo] at hown2
    rw [← e1]; exact Option.some.inj (hown.symm.trans hown2)
  have h6 := u_fits hfc hkC hkind (Or.inr hlay) hi (hC.2.2.1 j hj) hnr hft
  rw [List.map_cons, List.map_cons, dk_cv_r hk0]
  refine W.putFinK hx hb hown (hts _ hw) hi hst hcf hin (by rw [q2]; exact h6) q1 q3 (by rw [hsl2]; exact k2_hasslot (q4 j hj)) rfl rfl hd fun H' e1 e2 e3 => ?_
  rw [hsl2] at e1
  have hcell1 : dk_cell s G.1 H' (dk_up σ k j z) k := by
    unfold dk_cell
    rw [hks, hsh]
    refine ⟨(C, T, N), cC, iS, hC.1, hKn, t_OB.to (V := updV (fun i => dk_cv G.1 (dk_tg (dk_fty cl i), σ k (i : Int))) j (dk_cv G.1 (dk_tg tc, z))) ⟨_, e1, q2, q3, t_set q4 hap hj _⟩ (fun i _ => ?_)⟩
    by_cases hij : i = j
    · subst hij
      simp only [updV, if_pos, dk_up_s, htc]
    · rw [dk_up_j (by omega)]
      simp only [updV, if_neg hij]
  refine K H' _ lsr (dk_Hold.put hG hH hk0 hkn e2 e3 hcell1 (by rw [hstc]; exact hz) ht) ?_ hl o1 o2c hn
  intro q hq
  rcases List.mem_append.mp hq with q1 | q1
  · exact hL q q1
  · rw [List.mem_singleton.mp q1]
    show G.2.1 ≤ G.1 k
    rw [hG.1 k hk0]
    omega
theorem dk_ix {i : Int} {len : Nat} (h : 0 ≤ i ∧ i < len) (hi : dk_i32 i) : ¬ (Int32.ofInt i < 0 ∨ len ≤ (Int32.ofInt i).toNatClampNeg) ∧ (Int32.ofInt i).toNatClampNeg = i.toNat := by
  have e : (Int32.ofInt i).toNatClampNeg = i.toNat := by
    show (Int32.ofInt i).toInt.toNat = i.toNat
    rw [dk_t32 hi]
  refine ⟨fun q => ?_, e⟩
  rcases q with q | q
  · have := (dk_lt hi dk_z32).mp q
    omega
  · rw [e] at q
    omega
theorem dk_iald {E : dkE} {cc : ByteArray} {own : String} {d : Nat} {T : dkT} {l0 : Launch} {G0 : dkG} {n00 : Int} {nL0 mc ms : Nat} (hE : dk_Good E cc own d T l0 G0 n00 nL0 mc ms) {pc pc' : Nat} {ls st : List dkV} {n : Int} {σ : dkS} {k i : Int} {S len : Nat} (hd : decode cc pc = .ok (.iaload, 1)) (hk : dk_is n S k) (hS : dk_shp S = .inr (0, len)) (hi : 0 ≤ i ∧ i < len) (hp : pc + 1 = pc') (K : T k i (σ k i) → dk_cn 0 (σ k i) → dk_PJ E pc' ls ((0, σ k i) :: st) n σ) : dk_PJ E pc ls ((0, i) :: (4, k) :: st) n σ := by
  obtain ⟨p, l, e, R, s, m, args, below, meth, c, Q, G, Ty, n0, nL⟩ := E
  obtain ⟨hx, hb, hml, hown, hts, hdf, hdl, hG, hlk, hTy, hl0, hG0, hn0, hnL0, hmc, hms, hext⟩ := hE
  subst hTy hl0 hG0 hn0 hnL0
  subst hp
  intro H locs lsr hH hL hl o1 o2 hn
  obtain ⟨o2a, o2b, o2c⟩ := dk_c2 o2
  obtain ⟨hk0, hkn, hks⟩ := hk
  obtain ⟨hcell, hsl⟩ := hH.2.2.2.2 k hk0 hkn
  have hlen : dk_len (dk_site k) = len := by rw [hks, dk_len, hS]
  have hstc : dk_stc (dk_site k) i.toNat = 0 := by rw [hks, dk_stc, hS]
  have hin : ((i.toNat : Nat) : Int) = i := by omega
  have hlt : i.toNat < len := by omega
  obtain ⟨hcn, hty⟩ := hsl i.toNat (by rw [hlen]; exact hlt)
  rw [hstc, hin] at hcn
  rw [hin] at hty
  unfold dk_cell at hcell
  rw [hks, hS] at hcell
  obtain ⟨cA, hA1, hA2, hA3⟩ := hcell
  obtain ⟨x1, x2⟩ := dk_ix hi (dk_oki o2a)
  rw [List.map_cons, List.map_cons, dk_cv_r hk0]
  refine W.iald (v := dk_cv G.1 (0, σ k i)) hx hb hA3 (hA1 len _) (fun q => by cases q) (by rw [arrV_size]; exact x1) ?_ rfl rfl hd (K hty hcn H locs lsr hH hL hl o1 (dk_cc (dk_cn_ok hcn) o2c) hn)
  rw [x2, arrV_read _ _ hlt, hin]
  rfl
theorem dk_bald {E : dkE} {cc : ByteArray} {own : String} {d : Nat} {T : dkT} {l0 : Launch} {G0 : dkG} {n00 : Int} {nL0 mc ms : Nat} (hE : dk_Good E cc own d T l0 G0 n00 nL0 mc ms) {pc pc' : Nat} {ls st : List dkV} {n : Int} {σ : dkS} {k i : Int} {S len : Nat} (hd : decode cc pc = .ok (.baload, 1)) (hk : dk_is n S k) (hS : dk_shp S = .inr (1, len)) (hi : 0 ≤ i ∧ i < len) (hp : pc + 1 = pc') (K : T k i (σ k i) → dk_cn 1 (σ k i) → dk_PJ E pc' ls ((0, σ k i) :: st) n σ) : dk_PJ E pc ls ((0, i) :: (4, k) :: st) n σ := by
  obtain ⟨p, l, e, R, s, m, args, below, meth, c, Q, G, Ty, n0, nL⟩ := E
  obtain ⟨hx, hb, hml, hown, hts, hdf, hdl, hG, hlk, hTy, hl0, hG0, hn0, hnL0, hmc, hms, hext⟩ := hE
  subst hTy hl0 hG0 hn0 hnL0
  subst hp
  intro H locs lsr hH hL hl o1 o2 hn
  obtain ⟨o2a, o2b, o2c⟩ := dk_c2 o2
  obtain ⟨hk0, hkn, hks⟩ := hk
  obtain ⟨hcell, hsl⟩ := hH.2.2.2.2 k hk0 hkn
  have hlen : dk_len (dk_site k) = len := by rw [hks, dk_len, hS]
  have hstc : dk_stc (dk_site k) i.toNat = 1 := by rw [hks, dk_stc, hS]
  have hin : ((i.toNat : Nat) : Int) = i := by omega
  have hlt : i.toNat < len := by omega
  obtain ⟨hcn, hty⟩ := hsl i.toNat (by rw [hlen]; exact hlt)
  rw [hstc, hin] at hcn
  rw [hin] at hty
  unfold dk_cell at hcell
  rw [hks, hS] at hcell
  obtain ⟨cA, hA1, hA2, hA3⟩ := hcell
  obtain ⟨x1, x2⟩ := dk_ix hi (dk_oki o2a)
  rw [List.map_cons, List.map_cons, dk_cv_r hk0]
  refine W.bald (v := dk_cv G.1 (0, σ k i)) hx hb hA3 (hA1 len _) (fun q => by cases q) (by rw [arrV_size]; exact x1) ?_ rfl rfl hd (K hty hcn H locs lsr hH hL hl o1 (dk_cc (dk_cn_ok hcn) o2c) hn)
  rw [x2, arrV_read _ _ hlt, hin]
  rfl
theorem dk_zald {E : dkE} {cc : ByteArray} {own : String} {d : Nat} {T : dkT} {l0 : Launch} {G0 : dkG} {n00 : Int} {nL0 mc ms : Nat} (hE : dk_Good E cc own d T l0 G0 n00 nL0 mc ms) {pc pc' : Nat} {ls st : List dkV} {n : Int} {σ : dkS} {k i : Int} {S len : Nat} (hd : decode cc pc = .ok (.baload, 1)) (hk : dk_is n S k) (hS : dk_shp S = .inr (2, len)) (hi : 0 ≤ i ∧ i < len) (hp : pc + 1 = pc') (K : T k i (σ k i) → dk_cn 2 (σ k i) → dk_PJ E pc' ls ((0, σ k i) :: st) n σ) : dk_PJ E pc ls ((0, i) :: (4, k) :: st) n σ := by
  obtain ⟨p, l, e, R, s, m, args, below, meth, c, Q, G, Ty, n0, nL⟩ := E
  obtain ⟨hx, hb, hml, hown, hts, hdf, hdl, hG, hlk, hTy, hl0, hG0, hn0, hnL0, hmc, hms, hext⟩ := hE
  subst hTy hl0 hG0 hn0 hnL0
  subst hp
  intro H locs lsr hH hL hl o1 o2 hn
  obtain ⟨o2a, o2b, o2c⟩ := dk_c2 o2
  obtain ⟨hk0, hkn, hks⟩ := hk
  obtain ⟨hcell, hsl⟩ := hH.2.2.2.2 k hk0 hkn
  have hlen : dk_len (dk_site k) = len := by rw [hks, dk_len, hS]
  have hstc : dk_stc (dk_site k) i.toNat = 2 := by rw [hks, dk_stc, hS]
  have hin : ((i.toNat : Nat) : Int) = i := by omega
  have hlt : i.toNat < len := by omega
  obtain ⟨hcn, hty⟩ := hsl i.toNat (by rw [hlen]; exact hlt)
  rw [hstc, hin] at hcn
  rw [hin] at hty
  unfold dk_cell at hcell
  rw [hks, hS] at hcell
  obtain ⟨cA, hA1, hA2, hA3⟩ := hcell
  obtain ⟨x1, x2⟩ := dk_ix hi (dk_oki o2a)
  rw [List.map_cons, List.map_cons, dk_cv_r hk0]
  refine W.zald (v := dk_cv G.1 (0, σ k i)) hx hb hA3 (hA1 len _) (fun q => by cases q) (by rw [arrV_size]; exact x1) ?_ rfl rfl hd (K hty hcn H locs lsr hH hL hl o1 (dk_cc (dk_cn_ok hcn) o2c) hn)
  rw [x2, arrV_read _ _ hlt, hin]
  rfl
theorem dk_lald {E : dkE} {cc : ByteArray} {own : String} {d : Nat} {T : dkT} {l0 : Launch} {G0 : dkG} {n00 : Int} {nL0 mc ms : Nat} (hE : dk_Good E cc own d T l0 G0 n00 nL0 mc ms) {pc pc' : Nat} {ls st : List dkV} {n : Int} {σ : dkS} {k i : Int} {S len : Nat} (hd : decode cc pc = .ok (.laload, 1)) (hk : dk_is n S k) (hS : dk_shp S = .inr (3, len)) (hi : 0 ≤ i ∧ i < len) (hp : pc + 1 = pc') (K : T k i (σ k i) → dk_cn 3 (σ k i) → dk_PJ E pc' ls ((3, σ k i) :: st) n σ) : dk_PJ E pc ls ((0, i) :: (4, k) :: st) n σ := by
  obtain ⟨p, l, e, R, s, m, args, below, meth, c, Q, G, Ty, n0, nL⟩ := E
  obtain ⟨hx, hb, hml, hown, hts, hdf, hdl, hG, hlk, hTy, hl0, hG0, hn0, hnL0, hmc, hms, hext⟩ := hE
  subst hTy hl0 hG0 hn0 hnL0
  subst hp
  intro H locs lsr hH hL hl o1 o2 hn
  obtain ⟨o2a, o2b, o2c⟩ := dk_c2 o2
  obtain ⟨hk0, hkn, hks⟩ := hk
  obtain ⟨hcell, hsl⟩ := hH.2.2.2.2 k hk0 hkn
  have hlen : dk_len (dk_site k) = len := by rw [hks, dk_len, hS]
  have hstc : dk_stc (dk_site k) i.toNat = 3 := by rw [hks, dk_stc, hS]
  have hin : ((i.toNat : Nat) : Int) = i := by omega
  have hlt : i.toNat < len := by omega
  obtain ⟨hcn, hty⟩ := hsl i.toNat (by rw [hlen]; exact hlt)
  rw [hstc, hin] at hcn
  rw [hin] at hty
  unfold dk_cell at hcell
  rw [hks, hS] at hcell
  obtain ⟨cA, hA1, hA2, hA3⟩ := hcell
  obtain ⟨x1, x2⟩ := dk_ix hi (dk_oki o2a)
  rw [List.map_cons, List.map_cons, dk_cv_r hk0]
  refine W.lald (v := dk_cv G.1 (3, σ k i)) hx hb hA3 (hA1 len _) (fun q => by cases q) (by rw [arrV_size]; exact x1) ?_ rfl rfl hd (K hty hcn H locs lsr hH hL hl o1 (dk_cc (dk_cn_ok hcn) o2c) hn)
  rw [x2, arrV_read _ _ hlt, hin]
  rfl
theorem dk_aald4 {E : dkE} {cc : ByteArray} {own : String} {d : Nat} {T : dkT} {l0 : Launch} {G0 : dkG} {n00 : Int} {nL0 mc ms : Nat} (hE : dk_Good E cc own d T l0 G0 n00 nL0 mc ms) {pc pc' : Nat} {ls st : List dkV} {n : Int} {σ : dkS} {k i : Int} {S len : Nat} (hd : decode cc pc = .ok (.aaload, 1)) (hk : dk_is n S k) (hS : dk_shp S = .inr (4, len)) (hi : 0 ≤ i ∧ i < len) (hp : pc + 1 = pc') (K : T k i (σ k i) → dk_PJ E pc' ls ((4, σ k i) :: st) n σ) : dk_PJ E pc ls ((0, i) :: (4, k) :: st) n σ := by
  obtain ⟨p, l, e, R, s, m, args, below, meth, c, Q, G, Ty, n0, nL⟩ := E
  obtain ⟨hx, hb, hml, hown, hts, hdf, hdl, hG, hlk, hTy, hl0, hG0, hn0, hnL0, hmc, hms, hext⟩ := hE
  subst hTy hl0 hG0 hn0 hnL0
  subst hp
  intro H locs lsr hH hL hl o1 o2 hn
  obtain ⟨o2a, o2b, o2c⟩ := dk_c2 o2
  obtain ⟨hk0, hkn, hks⟩ := hk
  obtain ⟨hcell, hsl⟩ := hH.2.2.2.2 k hk0 hkn
  have hlen : dk_len (dk_site k) = len := by rw [hks, dk_len, hS]
  have hin : ((i.toNat : Nat) : Int) = i := by omega
  have hlt : i.toNat < len := by omega
  obtain ⟨hcn, hty⟩ := hsl i.toNat (by rw [hlen]; exact hlt)
  rw [hin] at hty
  unfold dk_cell at hcell
  rw [hks, hS] at hcell
  obtain ⟨cA, hA1, hA2, hA3⟩ := hcell
  obtain ⟨x1, x2⟩ := dk_ix hi (dk_oki o2a)
  rw [List.map_cons, List.map_cons, dk_cv_r hk0]
  refine W.aald (v := dk_cv G.1 (4, σ k i)) hx hb hA3 (hA1 len _) rfl (fun q => by cases q) (by rw [arrV_size]; exact x1) ?_ rfl rfl hd (K hty H locs lsr hH hL hl o1 (dk_cc (dk_rok _) o2c) hn)
  rw [x2, arrV_read _ _ hlt, hin]
  rfl
theorem dk_aald5 {E : dkE} {cc : ByteArray} {own : String} {d : Nat} {T : dkT} {l0 : Launch} {G0 : dkG} {n00 : Int} {nL0 mc ms : Nat} (hE : dk_Good E cc own d T l0 G0 n00 nL0 mc ms) {pc pc' : Nat} {ls st : List dkV} {n : Int} {σ : dkS} {k i : Int} {S len : Nat} (hd : decode cc pc = .ok (.aaload, 1)) (hk : dk_is n S k) (hS : dk_shp S = .inr (5, len)) (hi : 0 ≤ i ∧ i < len) (hp : pc + 1 = pc') (K : T k i (σ k i) → dk_PJ E pc' ls ((4, σ k i) :: st) n σ) : dk_PJ E pc ls ((0, i) :: (4, k) :: st) n σ := by
  obtain ⟨p, l, e, R, s, m, args, below, meth, c, Q, G, Ty, n0, nL⟩ := E
  obtain ⟨hx, hb, hml, hown, hts, hdf, hdl, hG, hlk, hTy, hl0, hG0, hn0, hnL0, hmc, hms, hext⟩ := hE
  subst hTy hl0 hG0 hn0 hnL0
  subst hp
  intro H locs lsr hH hL hl o1 o2 hn
  obtain ⟨o2a, o2b, o2c⟩ := dk_c2 o2
  obtain ⟨hk0, hkn, hks⟩ := hk
  obtain ⟨hcell, hsl⟩ := hH.2.2.2.2 k hk0 hkn
  have hlen : dk_len (dk_site k) = len := by rw [hks, dk_len, hS]
  have hin : ((i.toNat : Nat) : Int) = i := by omega
  have hlt : i.toNat < len := by omega
  obtain ⟨hcn, hty⟩ := hsl i.toNat (by rw [hlen]; exact hlt)
  rw [hin] at hty
  unfold dk_cell at hcell
  rw [hks, hS] at hcell
  obtain ⟨cA, hA1, hA2, hA3⟩ := hcell
  obtain ⟨x1, x2⟩ := dk_ix hi (dk_oki o2a)
  rw [List.map_cons, List.map_cons, dk_cv_r hk0]
  refine W.aald (v := dk_cv G.1 (4, σ k i)) hx hb hA3 (hA1 len _) rfl (fun q => by cases q) (by rw [arrV_size]; exact x1) ?_ rfl rfl hd (K hty H locs lsr hH hL hl o1 (dk_cc (dk_rok _) o2c) hn)
  rw [x2, arrV_read _ _ hlt, hin]
  rfl
theorem dk_aald6 {E : dkE} {cc : ByteArray} {own : String} {d : Nat} {T : dkT} {l0 : Launch} {G0 : dkG} {n00 : Int} {nL0 mc ms : Nat} (hE : dk_Good E cc own d T l0 G0 n00 nL0 mc ms) {pc pc' : Nat} {ls st : List dkV} {n : Int} {σ : dkS} {k i : Int} {S len : Nat} (hd : decode cc pc = .ok (.aaload, 1)) (hk : dk_is n S k) (hS : dk_shp S = .inr (6, len)) (hi : 0 ≤ i ∧ i < len) (hp : pc + 1 = pc') (K : T k i (σ k i) → dk_PJ E pc' ls ((4, σ k i) :: st) n σ) : dk_PJ E pc ls ((0, i) :: (4, k) :: st) n σ := by
  obtain ⟨p, l, e, R, s, m, args, below, meth, c, Q, G, Ty, n0, nL⟩ := E
  obtain ⟨hx, hb, hml, hown, hts, hdf, hdl, hG, hlk, hTy, hl0, hG0, hn0, hnL0, hmc, hms, hext⟩ := hE
  subst hTy hl0 hG0 hn0 hnL0
  subst hp
  intro H locs lsr hH hL hl o1 o2 hn
  obtain ⟨o2a, o2b, o2c⟩ := dk_c2 o2
  obtain ⟨hk0, hkn, hks⟩ := hk
  obtain ⟨hcell, hsl⟩ := hH.2.2.2.2 k hk0 hkn
  have hlen : dk_len (dk_site k) = len := by rw [hks, dk_len, hS]
  have hin : ((i.toNat : Nat) : Int) = i := by omega
  have hlt : i.toNat < len := by omega
  obtain ⟨hcn, hty⟩ := hsl i.toNat (by rw [hlen]; exact hlt)
  rw [hin] at hty
  unfold dk_cell at hcell
  rw [hks, hS] at hcell
  obtain ⟨cA, hA1, hA2, hA3⟩ := hcell
  obtain ⟨x1, x2⟩ := dk_ix hi (dk_oki o2a)
  rw [List.map_cons, List.map_cons, dk_cv_r hk0]
  refine W.aald (v := dk_cv G.1 (4, σ k i)) hx hb hA3 (hA1 len _) rfl (fun q => by cases q) (by rw [arrV_size]; exact x1) ?_ rfl rfl hd (K hty H locs lsr hH hL hl o1 (dk_cc (dk_rok _) o2c) hn)
  rw [x2, arrV_read _ _ hlt, hin]
  rfl
theorem dk_iast {E : dkE} {cc : ByteArray} {own : String} {d : Nat} {T : dkT} {l0 : Launch} {G0 : dkG} {n00 : Int} {nL0 mc ms : Nat} (hE : dk_Good E cc own d T l0 G0 n00 nL0 mc ms) {pc pc' : Nat} {ls st : List dkV} {n : Int} {σ : dkS} {k i z : Int} {S len : Nat} (hd : decode cc pc = .ok (.iastore, 1)) (hk : dk_is n S k) (hS : dk_shp S = .inr (0, len)) (hi : 0 ≤ i ∧ i < len) (hz : dk_ok (0, z) → dk_cn 0 z) (ht : T k i z) (hp : pc + 1 = pc') (K : dk_PJ E pc' ls st n (dk_up σ k i z)) : dk_PJ E pc ls ((0, z) :: (0, i) :: (4, k) :: st) n σ := by
  obtain ⟨p, l, e, R, s, m, args, below, meth, c, Q, G, Ty, n0, nL⟩ := E
  obtain ⟨hx, hb, hml, hown, hts, hdf, hdl, hG, hlk, hTy, hl0, hG0, hn0, hnL0, hmc, hms, hext⟩ := hE
  subst hTy hl0 hG0 hn0 hnL0
  subst hp
  intro H locs lsr hH hL hl o1 o2 hn
  obtain ⟨o2z, o2y⟩ := dk_c1 o2
  have hz := hz o2z
  obtain ⟨o2a, o2b, o2c⟩ := dk_c2 o2y
  obtain ⟨hk0, hkn, hks⟩ := hk
  obtain ⟨hcell, hsl⟩ := hH.2.2.2.2 k hk0 hkn
  have hstc : dk_stc (dk_site k) i.toNat = 0 := by rw [hks, dk_stc, hS]
  have hin : ((i.toNat : Nat) : Int) = i := by omega
  have hlt : i.toNat < len := by omega
  unfold dk_cell at hcell
  rw [hks, hS] at hcell
  obtain ⟨cA, hA1, hA2, hA3⟩ := hcell
  obtain ⟨x1, x2⟩ := dk_ix hi (dk_oki o2a)
  rw [List.map_cons, List.map_cons, List.map_cons, dk_cv_r hk0]
  refine W.iast hx hb hA3 (hA1 len _) (fun q => by cases q) (by rw [arrV_size]; exact x1) rfl rfl hd fun H' e1 e2 e3 => ?_
  rw [x2] at e1
  have e1 : H'[G.1 k]? = some ((arrV cA len (fun j => dk_cv G.1 (dk_tg 0, σ k (j : Int)))).setSlot i.toNat (dk_cv G.1 (dk_tg 0, z))) := by
    rw [e1]
    rfl
  have hcell1 : dk_cell s G.1 H' (dk_up σ k i.toNat z) k := by
    unfold dk_cell
    rw [hks, hS]
    refine ⟨cA, hA1, hA2, ?_⟩
    rw [e1, arrV_store]
    congr 2
    funext j
    by_cases hij : j = i.toNat
    · subst hij
      simp only [updV, if_pos, dk_up_s]
    · rw [dk_up_j (by omega)]
      simp only [updV, if_neg hij]
  have hH1 := dk_Hold.put hG hH hk0 hkn e2 e3 hcell1 (by rw [hstc]; exact hz) (by rw [hin]; exact ht)
  rw [hin] at hH1
  refine K H' _ lsr hH1 ?_ hl o1 o2c hn
  intro q hq
  rcases List.mem_append.mp hq with q1 | q1
  · exact hL q q1
  · rw [List.mem_singleton.mp q1]
    show G.2.1 ≤ G.1 k
    rw [hG.1 k hk0]
    omega
theorem dk_bast {E : dkE} {cc : ByteArray} {own : String} {d : Nat} {T : dkT} {l0 : Launch} {G0 : dkG} {n00 : Int} {nL0 mc ms : Nat} (hE : dk_Good E cc own d T l0 G0 n00 nL0 mc ms) {pc pc' : Nat} {ls st : List dkV} {n : Int} {σ : dkS} {k i z : Int} {S len : Nat} (hd : decode cc pc = .ok (.bastore, 1)) (hk : dk_is n S k) (hS : dk_shp S = .inr (1, len)) (hi : 0 ≤ i ∧ i < len) (hz : dk_ok (0, z) → dk_cn 1 z) (ht : T k i z) (hp : pc + 1 = pc') (K : dk_PJ E pc' ls st n (dk_up σ k i z)) : dk_PJ E pc ls ((0, z) :: (0, i) :: (4, k) :: st) n σ := by
  obtain ⟨p, l, e, R, s, m, args, below, meth, c, Q, G, Ty, n0, nL⟩ := E
  obtain ⟨hx, hb, hml, hown, hts, hdf, hdl, hG, hlk, hTy, hl0, hG0, hn0, hnL0, hmc, hms, hext⟩ := hE
  subst hTy hl0 hG0 hn0 hnL0
  subst hp
  intro H locs lsr hH hL hl o1 o2 hn
  obtain ⟨o2z, o2y⟩ := dk_c1 o2
  have hz := hz o2z
  obtain ⟨o2a, o2b, o2c⟩ := dk_c2 o2y
  obtain ⟨hk0, hkn, hks⟩ := hk
  obtain ⟨hcell, hsl⟩ := hH.2.2.2.2 k hk0 hkn
  have hstc : dk_stc (dk_site k) i.toNat = 1 := by rw [hks, dk_stc, hS]
  have hin : ((i.toNat : Nat) : Int) = i := by omega
  have hlt : i.toNat < len := by omega
  unfold dk_cell at hcell
  rw [hks, hS] at hcell
  obtain ⟨cA, hA1, hA2, hA3⟩ := hcell
  obtain ⟨x1, x2⟩ := dk_ix hi (dk_oki o2a)
  rw [List.map_cons, List.map_cons, List.map_cons, dk_cv_r hk0]
  refine W.bast hx hb hA3 (hA1 len _) (fun q => by cases q) (by rw [arrV_size]; exact x1) rfl rfl hd fun H' e1 e2 e3 => ?_
  rw [x2] at e1
  have e1 : H'[G.1 k]? = some ((arrV cA len (fun j => dk_cv G.1 (dk_tg 1, σ k (j : Int)))).setSlot i.toNat (dk_cv G.1 (dk_tg 1, z))) := by
    rw [e1]
    rw [show narrow .byte (.int (Int32.ofInt z)) = dk_cv G.1 (dk_tg 1, z) from (dk_okt_b G.1 z hz).1]
  have hcell1 : dk_cell s G.1 H' (dk_up σ k i.toNat z) k := by
    unfold dk_cell
    rw [hks, hS]
    refine ⟨cA, hA1, hA2, ?_⟩
    rw [e1, arrV_store]
    congr 2
    funext j
    by_cases hij : j = i.toNat
    · subst hij
      simp only [updV, if_pos, dk_up_s]
    · rw [dk_up_j (by omega)]
      simp only [updV, if_neg hij]
  have hH1 := dk_Hold.put hG hH hk0 hkn e2 e3 hcell1 (by rw [hstc]; exact hz) (by rw [hin]; exact ht)
  rw [hin] at hH1
  refine K H' _ lsr hH1 ?_ hl o1 o2c hn
  intro q hq
  rcases List.mem_append.mp hq with q1 | q1
  · exact hL q q1
  · rw [List.mem_singleton.mp q1]
    show G.2.1 ≤ G.1 k
    rw [hG.1 k hk0]
    omega
theorem dk_zast {E : dkE} {cc : ByteArray} {own : String} {d : Nat} {T : dkT} {l0 : Launch} {G0 : dkG} {n00 : Int} {nL0 mc ms : Nat} (hE : dk_Good E cc own d T l0 G0 n00 nL0 mc ms) {pc pc' : Nat} {ls st : List dkV} {n : Int} {σ : dkS} {k i z : Int} {S len : Nat} (hd : decode cc pc = .ok (.bastore, 1)) (hk : dk_is n S k) (hS : dk_shp S = .inr (2, len)) (hi : 0 ≤ i ∧ i < len) (hz : dk_ok (0, z) → dk_cn 2 z) (ht : T k i z) (hp : pc + 1 = pc') (K : dk_PJ E pc' ls st n (dk_up σ k i z)) : dk_PJ E pc ls ((0, z) :: (0, i) :: (4, k) :: st) n σ := by
  obtain ⟨p, l, e, R, s, m, args, below, meth, c, Q, G, Ty, n0, nL⟩ := E
  obtain ⟨hx, hb, hml, hown, hts, hdf, hdl, hG, hlk, hTy, hl0, hG0, hn0, hnL0, hmc, hms, hext⟩ := hE
  subst hTy hl0 hG0 hn0 hnL0
  subst hp
  intro H locs lsr hH hL hl o1 o2 hn
  obtain ⟨o2z, o2y⟩ := dk_c1 o2
  have hz := hz o2z
  obtain ⟨o2a, o2b, o2c⟩ := dk_c2 o2y
  obtain ⟨hk0, hkn, hks⟩ := hk
  obtain ⟨hcell, hsl⟩ := hH.2.2.2.2 k hk0 hkn
  have hstc : dk_stc (dk_site k) i.toNat = 2 := by rw [hks, dk_stc, hS]
  have hin : ((i.toNat : Nat) : Int) = i := by omega
  have hlt : i.toNat < len := by omega
  unfold dk_cell at hcell
  rw [hks, hS] at hcell
  obtain ⟨cA, hA1, hA2, hA3⟩ := hcell
  obtain ⟨x1, x2⟩ := dk_ix hi (dk_oki o2a)
  rw [List.map_cons, List.map_cons, List.map_cons, dk_cv_r hk0]
  refine W.zast hx hb hA3 (hA1 len _) (fun q => by cases q) (by rw [arrV_size]; exact x1) rfl rfl hd fun H' e1 e2 e3 => ?_
  rw [x2] at e1
  have e1 : H'[G.1 k]? = some ((arrV cA len (fun j => dk_cv G.1 (dk_tg 2, σ k (j : Int)))).setSlot i.toNat (dk_cv G.1 (dk_tg 2, z))) := by
    rw [e1]
    rw [show narrow .boolean (.int (Int32.ofInt z)) = dk_cv G.1 (dk_tg 2, z) from (dk_okt_z G.1 z hz).1]
  have hcell1 : dk_cell s G.1 H' (dk_up σ k i.toNat z) k := by
    unfold dk_cell
    rw [hks, hS]
    refine ⟨cA, hA1, hA2, ?_⟩
    rw [e1, arrV_store]
    congr 2
    funext j
    by_cases hij : j = i.toNat
    · subst hij
      simp only [updV, if_pos, dk_up_s]
    · rw [dk_up_j (by omega)]
      simp only [updV, if_neg hij]
  have hH1 := dk_Hold.put hG hH hk0 hkn e2 e3 hcell1 (by rw [hstc]; exact hz) (by rw [hin]; exact ht)
  rw [hin] at hH1
  refine K H' _ lsr hH1 ?_ hl o1 o2c hn
  intro q hq
  rcases List.mem_append.mp hq with q1 | q1
  · exact hL q q1
  · rw [List.mem_singleton.mp q1]
    show G.2.1 ≤ G.1 k
    rw [hG.1 k hk0]
    omega
theorem dk_last {E : dkE} {cc : ByteArray} {own : String} {d : Nat} {T : dkT} {l0 : Launch} {G0 : dkG} {n00 : Int} {nL0 mc ms : Nat} (hE : dk_Good E cc own d T l0 G0 n00 nL0 mc ms) {pc pc' : Nat} {ls st : List dkV} {n : Int} {σ : dkS} {k i z : Int} {S len : Nat} (hd : decode cc pc = .ok (.lastore, 1)) (hk : dk_is n S k) (hS : dk_shp S = .inr (3, len)) (hi : 0 ≤ i ∧ i < len) (hz : dk_ok (3, z) → dk_cn 3 z) (ht : T k i z) (hp : pc + 1 = pc') (K : dk_PJ E pc' ls st n (dk_up σ k i z)) : dk_PJ E pc ls ((3, z) :: (0, i) :: (4, k) :: st) n σ := by
  obtain ⟨p, l, e, R, s, m, args, below, meth, c, Q, G, Ty, n0, nL⟩ := E
  obtain ⟨hx, hb, hml, hown, hts, hdf, hdl, hG, hlk, hTy, hl0, hG0, hn0, hnL0, hmc, hms, hext⟩ := hE
  subst hTy hl0 hG0 hn0 hnL0
  subst hp
  intro H locs lsr hH hL hl o1 o2 hn
  obtain ⟨o2z, o2y⟩ := dk_c1 o2
  have hz := hz o2z
  obtain ⟨o2a, o2b, o2c⟩ := dk_c2 o2y
  obtain ⟨hk0, hkn, hks⟩ := hk
  obtain ⟨hcell, hsl⟩ := hH.2.2.2.2 k hk0 hkn
  have hstc : dk_stc (dk_site k) i.toNat = 3 := by rw [hks, dk_stc, hS]
  have hin : ((i.toNat : Nat) : Int) = i := by omega
  have hlt : i.toNat < len := by omega
  unfold dk_cell at hcell
  rw [hks, hS] at hcell
  obtain ⟨cA, hA1, hA2, hA3⟩ := hcell
  obtain ⟨x1, x2⟩ := dk_ix hi (dk_oki o2a)
  rw [List.map_cons, List.map_cons, List.map_cons, dk_cv_r hk0]
  refine W.last hx hb hA3 (hA1 len _) (fun q => by cases q) (by rw [arrV_size]; exact x1) rfl rfl hd fun H' e1 e2 e3 => ?_
  rw [x2] at e1
  have e1 : H'[G.1 k]? = some ((arrV cA len (fun j => dk_cv G.1 (dk_tg 3, σ k (j : Int)))).setSlot i.toNat (dk_cv G.1 (dk_tg 3, z))) := by
    rw [e1]
    rfl
  have hcell1 : dk_cell s G.1 H' (dk_up σ k i.toNat z) k := by
    unfold dk_cell
    rw [hks, hS]
    refine ⟨cA, hA1, hA2, ?_⟩
    rw [e1, arrV_store]
    congr 2
    funext j
    by_cases hij : j = i.toNat
    · subst hij
      simp only [updV, if_pos, dk_up_s]
    · rw [dk_up_j (by omega)]
      simp only [updV, if_neg hij]
  have hH1 := dk_Hold.put hG hH hk0 hkn e2 e3 hcell1 (by rw [hstc]; exact hz) (by rw [hin]; exact ht)
  rw [hin] at hH1
  refine K H' _ lsr hH1 ?_ hl o1 o2c hn
  intro q hq
  rcases List.mem_append.mp hq with q1 | q1
  · exact hL q q1
  · rw [List.mem_singleton.mp q1]
    show G.2.1 ≤ G.1 k
    rw [hG.1 k hk0]
    omega
theorem dk_alen {E : dkE} {cc : ByteArray} {own : String} {d : Nat} {T : dkT} {l0 : Launch} {G0 : dkG} {n00 : Int} {nL0 mc ms : Nat} (hE : dk_Good E cc own d T l0 G0 n00 nL0 mc ms) {pc pc' : Nat} {ls st : List dkV} {n : Int} {σ : dkS} {k w : Int} {S tc len : Nat} (hd : decode cc pc = .ok (.arraylength, 1)) (hk : dk_is n S k) (hS : dk_shp S = .inr (tc, len)) (hw : (len : Int) = w) (h31 : len < 2147483648) (hp : pc + 1 = pc') (K : dk_PJ E pc' ls ((0, w) :: st) n σ) : dk_PJ E pc ls ((4, k) :: st) n σ := by
  obtain ⟨p, l, e, R, s, m, args, below, meth, c, Q, G, Ty, n0, nL⟩ := E
  obtain ⟨hx, hb, hml, hown, hts, hdf, hdl, hG, hlk, hTy, hl0, hG0, hn0, hnL0, hmc, hms, hext⟩ := hE
  subst hTy hl0 hG0 hn0 hnL0
  subst hp
  intro H locs lsr hH hL hl o1 o2 hn
  subst hw
  obtain ⟨o2a, o2b⟩ := dk_c1 o2
  obtain ⟨hk0, hkn, hks⟩ := hk
  obtain ⟨hcell, hsl⟩ := hH.2.2.2.2 k hk0 hkn
  unfold dk_cell at hcell
  rw [hks, hS] at hcell
  obtain ⟨cA, hA1, hA2, hA3⟩ := hcell
  rw [List.map_cons, dk_cv_r hk0]
  refine W.alen (n := Int32.ofInt (len : Int)) hx hb hA3 (hA1 len _) (by rw [arrV_size]; rfl) rfl rfl hd (K H locs lsr hH hL hl o1 (dk_cc (dk_iok ⟨by omega, by omega⟩) o2b) hn)
