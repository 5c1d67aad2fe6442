/-! ===== making cells: new, newarray, anewarray, aastore, constructors' calls ===== -/
def dk_T0 : dkT := fun _ _ _ => True
def dk_nl : List (Nat × MethodName) := [(9, yX7_init), (50, yX3_init), (53, yX1_init), (60, yX6_init), (67, yX0_init), (74, yX8_init)]
/-- the tables' words that hold of a state alone: the array classes over Rulings and over arrays, the nest mates' constructors -/
def dk_Nst (s : State) : Prop := va_AO "DanceCompany$Ruling" s ∧ (∀ t : FieldType, t = .int ∨ t = .long → (Cond.arrayOver (.array t)).before #[] s = true) ∧ ∀ q ∈ dk_nl, va_Nw (.methodLinkNest RX10 q.1 q.2 "DanceCompany") s
def dk_Gn (G : dkG) : Prop := ∀ s : State, G.2.2.2 s → dk_Nst s
theorem dk_Nst.warm {s U : State} (hW : s.WarmedH U.vm) (h : dk_Nst s) : dk_Nst U := ⟨h.1.moved hW.alike, fun t q => over_moved hW.alike (h.2.1 t q), fun q hq => (h.2.2 q hq).warmM hW⟩
theorem dk_Nst.same {s U : State} (hv : U.vm = s.vm) (h : dk_Nst s) : dk_Nst U := ⟨h.1.moved (by rw [hv]; exact Vm.Alike.refl _), fun t q => over_moved (by rw [hv]; exact Vm.Alike.refl _) (h.2.1 t q), fun q hq => (h.2.2 q hq).same rfl hv.symm⟩
def dk_dz (tc : Nat) : Int := if dk_tg tc = 4 then -1 else 0
def dk_dv (tc : Nat) : Value := match tc with
  | 0 => .int 0
  | 1 => .int 0
  | 2 => .int 0
  | 3 => .long 0
  | _ => .null
theorem dk_dv_cv (ad : Int → Nat) (tc : Nat) : dk_cv ad (dk_tg tc, dk_dz tc) = dk_dv tc := by
  match tc with
  | 0 => rfl
  | 1 => rfl
  | 2 => rfl
  | 3 => rfl
  | k + 4 => rfl
theorem dk_dz_cn (tc : Nat) : dk_cn tc (dk_dz tc) := by
  match tc with
  | 0 => exact ⟨by decide, by decide⟩
  | 1 => exact ⟨by decide, by decide⟩
  | 2 => exact ⟨by decide, by decide⟩
  | 3 => exact ⟨by decide, by decide⟩
  | k + 4 => trivial
/-- cell n is new -/
def dk_nw (σ : dkS) (n : Int) : dkS := fun k j => if k = n then dk_dz (dk_stc (dk_site n) j.toNat) else σ k j
theorem dk_nw_s (σ : dkS) (n j : Int) : dk_nw σ n n j = dk_dz (dk_stc (dk_site n) j.toNat) := by simp [dk_nw]
theorem dk_nw_n {σ : dkS} {n k j : Int} (h : k ≠ n) : dk_nw σ n k j = σ k j := by simp [dk_nw, h]
theorem dk_Hold.push {G : dkG} {Ty : dkT} {s : State} {n : Int} {σ σ1 : dkS} {H H1 : Heap} (hG : dk_Gd G) (h : dk_Hold G Ty s n σ H) (hz : H1.size = H.size + 1) (ho : ∀ q, q < H.size → H1[q]? = H[q]?) (hj : ∀ k j, k ≠ n → σ1 k j = σ k j)
    (hc : dk_cell s G.1 H1 σ1 n) (ht : ∀ j : Nat, j < dk_len (dk_site n) → dk_cn (dk_stc (dk_site n) j) (σ1 n (j : Int)) ∧ Ty n (j : Int) (σ1 n (j : Int))) : dk_Hold G Ty s (n + 1) σ1 H1 := by
  obtain ⟨a1, a2, a3, a4, a5⟩ := h
  refine ⟨a1, by omega, by omega, fun q hq => by rw [ho q (by omega)]; exact a4 q hq, fun k h0 hk => ?_⟩
  by_cases e : k = n
  · subst e
    exact ⟨hc, ht⟩
  · have hk2 : k < n := by omega
    obtain ⟨b1, b2⟩ := a5 k h0 hk2
    have hak := hG.1 k h0
    refine ⟨dk_cell_kept (fun j => hj k j e) (ho _ (by rw [hak]; omega)) b1, fun j q => ?_⟩
    rw [hj k _ e]
    exact b2 j q
theorem dk_new {E : dkE} {cc : ByteArray} {own : String} {d : Nat} {l0 : Launch} {G0 : dkG} {n00 : Int} {nL0 mc ms : Nat} (hE : dk_Good E cc own d dk_T0 l0 G0 n00 nL0 mc ms) {pc pc' : Nat} {ls st : List dkV} {n n' : Int} {σ : dkS} {ix cl N : Nat} {C : String} {T : u_T} {ty : Nat → FieldType} (hC : dk_CL cl C T ty N) (hlk : Cond.classLink own ix C ∈ lw_g) (hin : Cond.instantiable C N ∈ lw_g) (hini : Cond.initialized C ∈ lw_g) (hd : decode cc pc = .ok (.new ix, 3)) (hs : dk_site n = cl) (hsh : dk_shp cl = .inl cl) (hdv : ∀ j, j < N → defaultValue (ty j) = dk_dv (dk_fty cl j)) (h0 : 0 ≤ n) (hm : (n - n00).toNat + 1 ≤ mc ∧ dk_tot n - dk_tot n00 + N ≤ ms ∧ dk_tot n00 ≤ dk_tot n ∧ dk_tot n' = dk_tot n + N) (hn' : n + 1 = n') (hp : pc + 3 = pc') (K : ∀ σ1 : dkS, σ1 = dk_nw σ n → dk_PJ E pc' ls ((4, n) :: st) n' σ1) : dk_PJ E pc ls st n σ := by
  obtain ⟨p, l, e, R, s, m, args, below, meth, c, Q, G, Ty, n0, nL⟩ := E
  obtain ⟨hx, hb, hml, hown, hts, hdf, hdl, hG, hlk0, hTy, hl0, hG0, hn0, hnL0, hmc, hms, hext⟩ := hE
  subst hTy hl0 hG0 hn0 hnL0
  subst hp hn'
  intro H locs lsr hH hL hl o1 o2 hn
  obtain ⟨cC, iS, hKn⟩ := u_known hts hC.2.1 (hts _ hin)
  have hak := hG.1 n h0
  have hsz := hH.2.2.1
  obtain ⟨hm1, hm2, hm3, hm4⟩ := hm
  refine W.newcK hx hb hown (hts _ hlk) (hts _ hin) (hts _ hini) rfl hd (Nat.le_trans hm1 hmc) (Nat.le_trans hm2 hms) hKn.2.1 rfl fun H1 kC hkC e1 z1 oo => ?_
  have ob := u_born ty hts hC.2.1 hKn hkC e1 hC.2.2.1
  have hcell : dk_cell s G.1 H1 (dk_nw σ n) n := by
    unfold dk_cell
    rw [hs, hsh]
    refine ⟨(C, T, N), cC, iS, hC.1, hKn, ?_⟩
    rw [hak, ← hsz]
    refine ob.to (fun j hj => ?_)
    rw [dk_nw_s, hs, dk_stc, hsh]
    show defaultValue (ty j) = dk_cv G.1 (dk_tg (dk_fty cl j), dk_dz (dk_fty cl ((j : Int).toNat)))
    rw [Int.toNat_natCast, dk_dv_cv]
    exact hdv j hj
  have hH1 : dk_Hold G dk_T0 s (n + 1) (dk_nw σ n) H1 := hH.push hG z1 oo (fun k j q => dk_nw_n q) hcell (fun j hj => ⟨by rw [dk_nw_s, Int.toNat_natCast]; exact dk_dz_cn _, trivial⟩)
  have hW := K _ rfl H1 locs lsr hH1 hL hl o1 (dk_cc (dk_rok n) o2) (by omega)
  rw [List.map_cons, dk_cv_r h0, hak, ← hsz, hm4, show (n + 1 - n0).toNat = (n - n0).toNat + 1 by omega, show dk_tot n + N - dk_tot n0 = dk_tot n - dk_tot n0 + N by omega] at hW
  exact hW
theorem dk_newa {E : dkE} {cc : ByteArray} {own : String} {d : Nat} {l0 : Launch} {G0 : dkG} {n00 : Int} {nL0 mc ms : Nat} (hE : dk_Good E cc own d dk_T0 l0 G0 n00 nL0 mc ms) {pc pc' : Nat} {ls st : List dkV} {n n' : Int} {σ : dkS} {S tc len : Nat} {z : Int} {ay : ArrayType} (hw : Cond.arrayClass (newarray.typeOf ay) ∈ lw_g) (hty : newarray.typeOf ay = dk_ety tc) (htc : tc < 4) (hd : decode cc pc = .ok (.newarray ay, 2)) (hs : dk_site n = S) (hsh : dk_shp S = .inr (tc, len)) (hlen : len ≤ 10000) (hz : z = (len : Int)) (h0 : 0 ≤ n) (hm : (n - n00).toNat + 1 ≤ mc ∧ dk_tot n - dk_tot n00 + len ≤ ms ∧ dk_tot n00 ≤ dk_tot n ∧ dk_tot n' = dk_tot n + len) (hn' : n + 1 = n') (hp : pc + 2 = pc') (K : ∀ σ1 : dkS, σ1 = dk_nw σ n → dk_PJ E pc' ls ((4, n) :: st) n' σ1) : dk_PJ E pc ls ((0, z) :: st) n σ := by
  obtain ⟨p, l, e, R, s, m, args, below, meth, c, Q, G, Ty, n0, nL⟩ := E
  obtain ⟨hx, hb, hml, hown, hts, hdf, hdl, hG, hlk0, hTy, hl0, hG0, hn0, hnL0, hmc, hms, hext⟩ := hE
  subst hTy hl0 hG0 hn0 hnL0
  subst hp hn' hz
  intro H locs lsr hH hL hl o1 o2 hn
  have hak := hG.1 n h0
  have hsz := hH.2.2.1
  obtain ⟨hm1, hm2, hm3, hm4⟩ := hm
  obtain ⟨x1, x2⟩ := dk_ix (i := (len : Int)) (len := len + 1) (by omega) ⟨by omega, by omega⟩
  rw [Int.toNat_natCast] at x2
  have hdv : defaultValue (newarray.typeOf ay) = dk_dv tc := by
    rw [hty]
    match tc, htc with
    | 0, _ => rfl
    | 1, _ => rfl
    | 2, _ => rfl
    | 3, _ => rfl
  have hcb : len * componentBytes (newarray.typeOf ay) ≤ 536870912 := by
    have : componentBytes (newarray.typeOf ay) ≤ 8 := by
      rw [hty]
      match tc, htc with
      | 0, _ => decide
      | 1, _ => decide
      | 2, _ => decide
      | 3, _ => decide
    have t := Nat.mul_le_mul hlen this
    omega
  rw [List.map_cons]
  refine va_newaK hx hb (hts _ hw) rfl hd rfl (fun q => x1 (Or.inl q)) x2 hcb (Nat.le_trans hm1 hmc) (Nat.le_trans hm2 hms) rfl fun H1 cA e1 z1 oo hAr hNm => ?_
  have hcell : dk_cell s G.1 H1 (dk_nw σ n) n := by
    unfold dk_cell
    rw [hs, hsh]
    refine ⟨cA, by rw [← hty]; exact hAr, ?_, ?_⟩
    · rw [hty] at hNm
      match tc, htc with
      | 0, _ => exact hNm
      | 1, _ => exact hNm
      | 2, _ => exact hNm
      | 3, _ => exact hNm
    · rw [hak, ← hsz, e1, hdv]
      congr 2
      funext j
      show dk_dv tc = dk_cv G.1 (dk_tg tc, dk_nw σ n n (j : Int))
      rw [dk_nw_s, hs, dk_stc, hsh]
      exact (dk_dv_cv G.1 tc).symm
  have hH1 : dk_Hold G dk_T0 s (n + 1) (dk_nw σ n) H1 := hH.push hG z1 oo (fun k j q => dk_nw_n q) hcell (fun j hj => ⟨by rw [dk_nw_s, Int.toNat_natCast]; exact dk_dz_cn _, trivial⟩)
  have hW := K _ rfl H1 locs lsr hH1 hL hl o1 (dk_cc (dk_rok n) (dk_c1 o2).2) (by omega)
  rw [List.map_cons, dk_cv_r h0, hak, ← hsz, hm4, show (n + 1 - n0).toNat = (n - n0).toNat + 1 by omega, show dk_tot n + len - dk_tot n0 = dk_tot n - dk_tot n0 + len by omega] at hW
  exact hW
/-- an array of Rulings -/
theorem dk_anew {E : dkE} {cc : ByteArray} {own : String} {d : Nat} {l0 : Launch} {G0 : dkG} {n00 : Int} {nL0 mc ms : Nat} (hE : dk_Good E cc own d dk_T0 l0 G0 n00 nL0 mc ms) {pc pc' : Nat} {ls st : List dkV} {n n' : Int} {σ : dkS} {S ix len : Nat} {z : Int} (hGn : dk_Gn G0) (hlk : Cond.classLink own ix "DanceCompany$Ruling" ∈ lw_g) (hd : decode cc pc = .ok (.anewarray ix, 3)) (hs : dk_site n = S) (hsh : dk_shp S = .inr (4, len)) (hlen : len ≤ 10000) (hz : z = (len : Int)) (h0 : 0 ≤ n) (hm : (n - n00).toNat + 1 ≤ mc ∧ dk_tot n - dk_tot n00 + len ≤ ms ∧ dk_tot n00 ≤ dk_tot n ∧ dk_tot n' = dk_tot n + len) (hn' : n + 1 = n') (hp : pc + 3 = pc') (K : ∀ σ1 : dkS, σ1 = dk_nw σ n → dk_PJ E pc' ls ((4, n) :: st) n' σ1) : dk_PJ E pc ls ((0, z) :: st) n σ := by
  obtain ⟨p, l, e, R, s, m, args, below, meth, c, Q, G, Ty, n0, nL⟩ := E
  obtain ⟨hx, hb, hml, hown, hts, hdf, hdl, hG, hlk0, hTy, hl0, hG0, hn0, hnL0, hmc, hms, hext⟩ := hE
  subst hTy hl0 hG0 hn0 hnL0
  subst hp hn' hz
  intro H locs lsr hH hL hl o1 o2 hn
  have hak := hG.1 n h0
  have hsz := hH.2.2.1
  obtain ⟨hm1, hm2, hm3, hm4⟩ := hm
  obtain ⟨x1, x2⟩ := dk_ix (i := (len : Int)) (len := len + 1) (by omega) ⟨by omega, by omega⟩
  rw [Int.toNat_natCast] at x2
  rw [List.map_cons]
  refine W.anew hx hb hown (hts _ hlk) ((hGn s hext).1.use) rfl hd rfl (fun q => x1 (Or.inl q)) (by rw [x2]; omega) (Nat.le_trans hm1 hmc) (by rw [x2]; exact Nat.le_trans hm2 hms) fun cA kA comp f1 f2 f3 f4 => ?_
  rw [x2]
  generalize hH1 : H.push ({ cls := cA, slots := Array.replicate len .null, vm := .none } : Cell) = H1
  have z1 : H1.size = H.size + 1 := by rw [← hH1, Array.size_push]
  have e1 : H1[H.size]? = some (arrV cA len (fun _ => .null)) := by rw [← hH1, Array.getElem?_push_size, ← arrV_new]
  have oo : ∀ q : Nat, q < H.size → H1[q]? = H[q]? := fun q hq => by rw [← hH1, Array.getElem?_push, if_neg (Nat.ne_of_lt hq)]
  have hcell : dk_cell s G.1 H1 (dk_nw σ n) n := by
    unfold dk_cell
    rw [hs, hsh]
    refine ⟨cA, fun N z => ⟨(fun k h => by cases h), kA, f2, comp, f3⟩, ⟨kA, comp, f2, f3, f4, f1⟩, ?_⟩
    rw [hak, ← hsz, e1]
    congr 2
    funext j
    show Value.null = dk_cv G.1 (dk_tg 4, dk_nw σ n n (j : Int))
    rw [dk_nw_s, hs, dk_stc, hsh]
    rfl
  have hH2 : dk_Hold G dk_T0 s (n + 1) (dk_nw σ n) H1 := hH.push hG z1 oo (fun k j q => dk_nw_n q) hcell (fun j hj => ⟨by rw [dk_nw_s, Int.toNat_natCast]; exact dk_dz_cn _, trivial⟩)
  have hW := K _ rfl H1 locs lsr hH2 hL hl o1 (dk_cc (dk_rok n) (dk_c1 o2).2) (by omega)
  rw [List.map_cons, dk_cv_r h0, hak, ← hsz, hm4, show (n + 1 - n0).toNat = (n - n0).toNat + 1 by omega, show dk_tot n + len - dk_tot n0 = dk_tot n - dk_tot n0 + len by omega] at hW
  exact hW
/-- Object's constructor -/
theorem dk_obj {E : dkE} {cc : ByteArray} {own : String} {d : Nat} {T : dkT} {l0 : Launch} {G0 : dkG} {n00 : Int} {nL0 mc ms : Nat} (hE : dk_Good E cc own d T l0 G0 n00 nL0 mc ms) {pc pc' : Nat} {ls : List dkV} {n : Int} {σ : dkS} {ix : Nat} {k : Int} (hlk : Cond.methodLink own ix Lib.objectInit ∈ lw_g) (h1 : Cond.instanceMethod Lib.objectInit ∈ lw_g) (h2 : Cond.code Lib.objectInit ⟨#[0xb1]⟩ 1 none ∈ lw_g) (hd : decode cc pc = .ok (.invokespecial ix, 3)) (h0 : 0 ≤ k) (hd1 : 1 ≤ d) (hp : pc + 3 = pc') (K : dk_PJ E pc' ls [] n σ) : dk_PJ E pc ls [(4, k)] n σ := by
  obtain ⟨p, l, e, R, s, m, args, below, meth, c, Q, G, Ty, n0, nL⟩ := E
  obtain ⟨hx, hb, hml, hown, hts, hdf, hdl, hG, hlk0, hTy, hl0, hG0, hn0, hnL0, hmc, hms, hext⟩ := hE
  subst hTy hl0 hG0 hn0 hnL0
  subst hp
  intro H locs lsr hH hL hl o1 o2 hn
  have hW := K H locs lsr hH hL hl o1 (fun v hv => by cases hv) hn
  rw [List.map_cons, dk_cv_r h0]
  refine W.objInit hx hb hown (hts _ hlk) (hts _ h1) (hts _ h2) rfl (hl.1.trans hml.symm) rfl hd (by omega) ?_ hW
  show 2 * 0 + 0 + 12 ≤ R.locals
  omega
theorem dk_invI {E : dkE} {cc : ByteArray} {own : String} {d : Nat} {T : dkT} {l0 : Launch} {G0 : dkG} {n00 : Int} {nL0 mc ms : Nat} (hE : dk_Good E cc own d T l0 G0 n00 nL0 mc ms) {pc pc' : Nat} {ls st : List dkV} {n : Int} {σ : dkS} {as stk : List dkV} {k : Int} {ix dc na maxL : Nat} {y : MethodName} {cc2 : ByteArray} {n' : Int} {Pre : List dkV → dkS → Prop} {Post : List dkV → dkS → Option dkV → dkS → Prop} (hW : dk_LI own ix y cc2 maxL na) (hc : dk_Ct l0 G0 T y cc2 maxL none dc n n' Pre Post) (hd : decode cc pc = .ok (.invokespecial ix, 3)) (hst : stk = as.reverse ++ (4, k) :: st) (hk : 0 ≤ k) (hna : as.length = na) (hdc : dc + 1 ≤ d) (h8 : dk_cat3 st ≤ 8) (hf : (n - n00).toNat + (n' - n).toNat ≤ mc ∧ (dk_tot n - dk_tot n00) + (dk_tot n' - dk_tot n) ≤ ms) (hnn : n00 ≤ n → n ≤ n') (htt : dk_tot n00 ≤ dk_tot n ∧ dk_tot n ≤ dk_tot n') (hpre : Pre ((4, k) :: as) σ) (hp : pc + 3 = pc') (K : ∀ (r : Option dkV) (σ' : dkS), Post ((4, k) :: as) σ r σ' → (∀ v, r = some v → dk_ok v) → dk_PJ E pc' ls (r.toList ++ st) n' σ') : dk_PJ E pc ls stk n σ := by
  obtain ⟨p, l, e, R, s, m, args, below, meth, c, Q, G, Ty, n0, nL⟩ := E
  obtain ⟨hx, hb, hml, hown, hts, hdf, hdl, hG, hlk, hTy, hl0, hG0, hn0, hnL0, hmc, hms, hext⟩ := hE
  subst hTy hl0 hG0 hn0 hnL0
  subst hp hst
  intro H locs lsr hH hL hl o1 o2 hn

  have oas : ∀ v ∈ ((4, k) :: as : List dkV), dk_ok v := dk_cc (dk_rok k) (fun v hv => o2 v (List.mem_append_left _ (List.mem_reverse.mpr hv)))
  have ost : ∀ v ∈ st, dk_ok v := fun v hv => o2 v (List.mem_append_right _ (List.mem_cons_of_mem _ hv))
  have hk0 := hk
  have hM := hc ((4, k) :: as) σ hpre oas
  rw [List.map_cons, dk_cv_r hk0] at hM
  rw [List.map_append, List.map_reverse, List.map_cons, dk_cv_r hk0]
  obtain ⟨hmw, hl1, hl2, hl3⟩ := hW
  have hcw : CallB R s args own ix y cc2 maxL none (.code y cc2 maxL none :: lw_g) (dk_rm dc (n' - n).toNat (dk_tot n' - dk_tot n)) (n' - n).toNat (dk_tot n' - dk_tot n) na ∧ y.name = "<init>" ∧ (Cond.instanceMethod y).before args s = true := ⟨dk_cbl hts hmw hl1 hdf hdl hdc, hl3, hts _ hl2⟩
  have hrun := va_runI (As := as.map (dk_cv G.1)) (rest := st.map (dk_cv G.1)) (H := H) (locs := locs) (cells := (n - n0).toNat) (slots := dk_tot n - dk_tot n0) (below := below) (meth := meth) (e := e) (g := F0 m pc lsr ((as.map (dk_cv G.1)).reverse ++ .ref (G.1 k) :: st.map (dk_cv G.1))) ⟨hx, hb, hml, hown, hts⟩ hM hcw ⟨fun a U g mk q => ⟨q.1, hG.2.2.1 U _ rfl q.2.1, dk_Hold.moved (U := U.calling g mk a) (Vm.Alike.refl U.vm) q.2.2⟩, fun U hU hW1 => ⟨rfl, hG.2.1 _ _ hW1 hext, by rw [hU]; exact hH.moved hW1.alike⟩⟩ rfl (by rw [List.length_map]; exact hna) hl.1 rfl (lv_room (Nat.le_trans (dk_cats G.1 st) h8)) hd ⟨by omega, by omega⟩
  intro TT hTT X
  obtain ⟨v, st₀, t, T', L, h0, X', hLf, e1, e2, ⟨r, σ', hv, hro, hP, hH1⟩, stp⟩ := hrun TT hTT X
  cases hv
  have hal : t.vm.Alike s.vm := by rw [← e2]; exact X'.warmed.alike.symm
  have hW2 := K r σ' hP hro T'.heap (locs ++ L) lsr (by rw [e1]; exact hH1.moved hal) (fun q hq => by
    rcases List.mem_append.mp hq with h | h
    · exact hL q h
    · exact hLf q h) hl o1 (fun v hv => by
    rcases List.mem_append.mp hv with h | h
    · exact hro v (by cases r with | none => cases h | some x => rw [List.mem_singleton.mp h])
    · exact ost v h) (Int.le_trans hn (hnn hn))
  have hcells : (n - n0).toNat + (n' - n).toNat = (n' - n0).toNat := by have := hnn hn; omega
  have hslots : dk_tot n - dk_tot n0 + (dk_tot n' - dk_tot n) = dk_tot n' - dk_tot n0 := by have := htt.1; have := htt.2; omega
  rw [hcells, hslots] at X'
  obtain ⟨t2, a1, b1⟩ := hW2 T' rfl X'
  refine ⟨t2, stp t2 ?_, b1⟩
  have es : (r.toList ++ st).map (dk_cv G.1) = (r.map (dk_cv G.1)).toList ++ st.map (dk_cv G.1) := by cases r <;> simp
  rw [es] at a1
  exact a1
/-- a constructor of a nest mate -/
def dk_LN (own : String) (ix : Nat) (y : MethodName) (host : String) (cc : ByteArray) (maxL : Nat) (na : Nat) : Prop := dk_MW y cc maxL none na ∧ (own = RX10 ∧ host = "DanceCompany" ∧ (ix, y) ∈ dk_nl) ∧ Cond.instanceMethod y ∈ lw_g ∧ y.name = "<init>"
theorem dk_invN {E : dkE} {cc : ByteArray} {own : String} {d : Nat} {T : dkT} {l0 : Launch} {G0 : dkG} {n00 : Int} {nL0 mc ms : Nat} (hE : dk_Good E cc own d T l0 G0 n00 nL0 mc ms) {pc pc' : Nat} {ls st : List dkV} {n : Int} {σ : dkS} {as stk : List dkV} {k : Int} {ix dc na maxL : Nat} {y : MethodName} {host : String} {cc2 : ByteArray} {n' : Int} {Pre : List dkV → dkS → Prop} {Post : List dkV → dkS → Option dkV → dkS → Prop} (hGn : dk_Gn G0) (hW : dk_LN own ix y host cc2 maxL na) (hc : dk_Ct l0 G0 T y cc2 maxL none dc n n' Pre Post) (hd : decode cc pc = .ok (.invokespecial ix, 3)) (hst : stk = as.reverse ++ (4, k) :: st) (hk : 0 ≤ k) (hna : as.length = na) (hdc : dc + 1 ≤ d) (h8 : dk_cat3 st ≤ 8) (hf : (n - n00).toNat + (n' - n).toNat ≤ mc ∧ (dk_tot n - dk_tot n00) + (dk_tot n' - dk_tot n) ≤ ms) (hnn : n00 ≤ n → n ≤ n') (htt : dk_tot n00 ≤ dk_tot n ∧ dk_tot n ≤ dk_tot n') (hpre : Pre ((4, k) :: as) σ) (hp : pc + 3 = pc') (K : ∀ (r : Option dkV) (σ' : dkS), Post ((4, k) :: as) σ r σ' → (∀ v, r = some v → dk_ok v) → dk_PJ E pc' ls (r.toList ++ st) n' σ') : dk_PJ E pc ls stk n σ := by
  obtain ⟨p, l, e, R, s, m, args, below, meth, c, Q, G, Ty, n0, nL⟩ := E
  obtain ⟨hx, hb, hml, hown, hts, hdf, hdl, hG, hlk, hTy, hl0, hG0, hn0, hnL0, hmc, hms, hext⟩ := hE
  subst hTy hl0 hG0 hn0 hnL0
  subst hp hst
  intro H locs lsr hH hL hl o1 o2 hn

  have oas : ∀ v ∈ ((4, k) :: as : List dkV), dk_ok v := dk_cc (dk_rok k) (fun v hv => o2 v (List.mem_append_left _ (List.mem_reverse.mpr hv)))
  have ost : ∀ v ∈ st, dk_ok v := fun v hv => o2 v (List.mem_append_right _ (List.mem_cons_of_mem _ hv))
  have hk0 := hk
  have hM := hc ((4, k) :: as) σ hpre oas
  rw [List.map_cons, dk_cv_r hk0] at hM
  rw [List.map_append, List.map_reverse, List.map_cons, dk_cv_r hk0]
  obtain ⟨hmw, hl1, hl2, hl3⟩ := hW
  have hcw : va_CN R s args own ix y host cc2 maxL none (.code y cc2 maxL none :: lw_g) (dk_rm dc (n' - n).toNat (dk_tot n' - dk_tot n)) (n' - n).toNat (dk_tot n' - dk_tot n) na ∧ y.name = "<init>" ∧ (Cond.instanceMethod y).before args s = true := ⟨va_cnB na hts (dk_gin hmw.1) rfl rfl rfl (by obtain ⟨rfl, rfl, q⟩ := hl1; exact (hGn s hext).2.2 _ q) (hts _ hmw.2.1) hmw.2.2.1 ⟨by show dc + 1 ≤ R.frames; omega, by have := hmw.2.2.2; show 8 + (maxL + 11) + 100 * dc ≤ R.locals; omega⟩, hl3, hts _ hl2⟩
  have hrun := va_runIN (As := as.map (dk_cv G.1)) (rest := st.map (dk_cv G.1)) (H := H) (locs := locs) (cells := (n - n0).toNat) (slots := dk_tot n - dk_tot n0) (below := below) (meth := meth) (e := e) (g := F0 m pc lsr ((as.map (dk_cv G.1)).reverse ++ .ref (G.1 k) :: st.map (dk_cv G.1))) ⟨hx, hb, hml, hown, hts⟩ hM hcw ⟨fun a U g mk q => ⟨q.1, hG.2.2.1 U _ rfl q.2.1, dk_Hold.moved (U := U.calling g mk a) (Vm.Alike.refl U.vm) q.2.2⟩, fun U hU hW1 => ⟨rfl, hG.2.1 _ _ hW1 hext, by rw [hU]; exact hH.moved hW1.alike⟩⟩ rfl (by rw [List.length_map]; exact hna) hl.1 rfl (lv_room (Nat.le_trans (dk_cats G.1 st) h8)) hd ⟨by omega, by omega⟩
  intro TT hTT X
  obtain ⟨v, st₀, t, T', L, h0, X', hLf, e1, e2, ⟨r, σ', hv, hro, hP, hH1⟩, stp⟩ := hrun TT hTT X
  cases hv
  have hal : t.vm.Alike s.vm := by rw [← e2]; exact X'.warmed.alike.symm
  have hW2 := K r σ' hP hro T'.heap (locs ++ L) lsr (by rw [e1]; exact hH1.moved hal) (fun q hq => by
    rcases List.mem_append.mp hq with h | h
    · exact hL q h
    · exact hLf q h) hl o1 (fun v hv => by
    rcases List.mem_append.mp hv with h | h
    · exact hro v (by cases r with | none => cases h | some x => rw [List.mem_singleton.mp h])
    · exact ost v h) (Int.le_trans hn (hnn hn))
  have hcells : (n - n0).toNat + (n' - n).toNat = (n' - n0).toNat := by have := hnn hn; omega
  have hslots : dk_tot n - dk_tot n0 + (dk_tot n' - dk_tot n) = dk_tot n' - dk_tot n0 := by have := htt.1; have := htt.2; omega
  rw [hcells, hslots] at X'
  obtain ⟨t2, a1, b1⟩ := hW2 T' rfl X'
  refine ⟨t2, stp t2 ?_, b1⟩
  have es : (r.toList ++ st).map (dk_cv G.1) = (r.map (dk_cv G.1)).toList ++ st.map (dk_cv G.1) := by cases r <;> simp
  rw [es] at a1
  exact a1
