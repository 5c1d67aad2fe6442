/-! THE CLAIM OUT OF ONE WALK OF THE LAW'S BODY. Your part is whole_start (and what it stands on); all else here is the same for every law, but numbers. -/
def R_law : String := "DanceCompanyLaw"
def lw_P (b : Addr) (xs : List Int32) (args : Array Value) (s : State) : Prop := args = #[.ref b] ∧ s.IntsAt b xs ∧ xs.length ≤ 3072 ∧ (Jvm.Cond.and given_1 narrow_1).before args s = true
def lw_Q (_ : Array Value) (s : State) (o : Outcome) (t : State) : Prop := o = .returned (some (.int 1)) ∧ Framed s o t [] 600000 7302250
def lw_Z (below : List Frame) (a : Array Value) (s : State) : State → Prop := fun t => ∃ o, t.status = .running ∧ Ended t below o ∧ lw_Q a s o t
/-- the law's own end, with 1 on the stack, nothing written that was there before, its room as the claim has it -/
theorem lw_ret {p : Program} {l : Launch} {e : Env} {s : State} {m : MethodId} {below : List Frame} {meth : Method} {c : Code} {b : Nat} (hx : p.tables.exec = Jvm.exec) (hb : c.code = code) (hr : meth.sig.returnType = ret) (hlocks : meth.locks = false) {pc : Nat} {H : Heap} {ls : Array Slot} (hdg : decode code pc = .ok (.ireturn, 1)) : W p l e room_1 s m #[Value.ref b] below meth c H [] 600000 7302250 (lw_Z below #[Value.ref b] s) (F0 m pc ls [.int 1]) := by
  intro T hT X
  obtain ⟨fs, hret, hrun, hended, hW, hframe⟩ := X.leave (v := some (.int 1)) (hlocks := hlocks) (fun h => by rw [hr] at h; cases h)
  have hmeth' : T.vm.method? m = some meth := X.method'
  refine ⟨T.setFrames fs, ?_, .returned (some (.int 1)), hrun, hended, rfl, ⟨_, rfl⟩, hW, hframe⟩
  jvm_step X.here [X.here.top, hx, hb, hdg, hmeth', hr, ret, narrow_b1]
  (try refine ⟨rfl, ?_⟩); (try refine ⟨rfl, ?_⟩)
  first | (intro acts; rw [hret _ acts rfl rfl rfl]) | rw [hret _ _ rfl rfl rfl]
  exact Steps.refl _
/-- what holds at the law's entry: the machine, the code, the tables' words (any of lw_tbl by 'hts w (by decide +kernel)'), the script of L ints xs at the cell b, what the Statement gives of the start (any of its parts by flat_of_before) -/
def lw_At (p : Program) (s : State) (m : MethodId) (meth : Method) (c : Code) (b L : Nat) (xs : Nat → Int32) : Prop :=
  p.tables.exec = Jvm.exec ∧ c.code = code ∧ meth.sig.returnType = ret ∧ c.maxLocals = 4 ∧ s.vm.findClass R_law = some m.cls ∧ (∀ w ∈ lw_tbl, w.before #[Value.ref b] s = true) ∧ va_X b L xs s s.heap ∧ b < s.heap.size ∧ meth.locks = false ∧ (Jvm.Cond.and given_1 narrow_1).before #[Value.ref b] s = true
def law_ext (ad : Int → Nat) (ba : Nat) (H : Heap) : State → Prop := fun U => dk_Stat ad ba H U ∧ dk_Nst U
theorem law_Gd {ad : Int → Nat} {ba : Nat} {H : Heap} (had : ∀ k : Int, 0 ≤ k → ad k = ba + k.toNat) : dk_Gd (ad, ba, H, law_ext ad ba H) :=
  ⟨had, fun _ _ hW h => ⟨dk_Stat.moved hW.alike (fun _ _ _ _ q => q.warm hW) h.1, h.2.warm hW⟩, fun u U hv h => ⟨dk_Stat.moved (by rw [hv]; exact Vm.Alike.refl _) (fun _ _ _ _ q => q.same hv) h.1, h.2.same hv⟩, fun _ h => h.1⟩
set_option maxHeartbeats 8000000 in
set_option maxRecDepth 100000 in
/-- the two objects are made: then the loop -/
theorem law_make {p : Program} {l : Launch} {e : Env} {s : State} {m : MethodId} {below : List Frame} {meth : Method} {c : Code} {args : Array Value} {Q : State → Prop} {G : dkG} {L : Nat} {xs : Nat → Int32} (hGd : dk_Gd G) (hGn : dk_Gn G) (hE : dk_Good (p, l, e, room_1, s, m, args, below, meth, c, Q, G, dk_T0, 0, 4) cL_law RL 20 dk_T0 l G 0 4 600000 7302250) (hE2 : dk_Good (p, l, e, room_1, s, m, args, below, meth, c, Q, G, dk_Ty, 0, 4) cL_law RL 20 dk_Ty l G 0 4 600000 7302250) (hX : dk_Scx (p, l, e, room_1, s, m, args, below, meth, c, Q, G, dk_Ty, 0, 4) L xs) (hL : L ≤ 3072) (hend : ∀ (ls : List dkV) (σ : dkS), dk_PJ (p, l, e, room_1, s, m, args, below, meth, c, Q, G, dk_Ty, 0, 4) 1631 ls [(0, 1)] 190 σ) (σ : dkS) : dk_PJ (p, l, e, room_1, s, m, args, below, meth, c, Q, G, dk_T0, 0, 4) 0 [(4, (-40)), (9, 0), (9, 0), (9, 0)] [] 0 σ := by
  refine dk_new (pc' := 3) (n' := 1) hE cl_10 wd_122 wd_123 wd_102 dL_law_0 rfl rfl dv_10 (by decide) ⟨by decide, by rw [tt_0]; decide, Nat.le_refl _, by rw [tt_1, tt_0]⟩ (by decide) rfl (fun σ1 e1 => ?_)
  refine dk_dup (pc' := 4) hE dL_law_3 (show (4 : Nat) ≠ 3 by decide) rfl ?_
  refine dk_invI (pc' := 7) (as := []) hE lk_L_9 (ci_10_0 l G hGd hGn) dL_law_4 rfl (by decide) rfl (by decide) (Nat.le_of_ble_eq_true rfl) ⟨by decide, by rw [tt_0, tt_1, tt_141]; decide⟩ (fun _ => by decide) ⟨by rw [tt_0, tt_1]; decide, by rw [tt_1, tt_141]; decide⟩ ⟨rfl, fun j_ => by rw [e1, dk_nw_s]⟩ rfl (fun r1 σ2 hr1 _ => ?_)
  obtain ⟨rfl, H1, H1x, H1y⟩ := hr1
  refine dk_astore_n (pc' := 8) (ls' := [(4, (-40)), (4, 0), (9, 0), (9, 0)]) hE dL_law_7 rfl rfl (by decide) rfl ?_
  refine dk_new (pc' := 11) (n' := 142) hE cl_11 wd_1294 wd_1295 wd_117 dL_law_8 rfl rfl dv_11 (by decide) ⟨by decide, by rw [tt_141, tt_0]; decide, by rw [tt_0, tt_141]; decide, by rw [tt_142, tt_141]⟩ (by decide) rfl (fun σ3 e3 => ?_)
  refine dk_dup (pc' := 12) hE dL_law_11 (show (4 : Nat) ≠ 3 by decide) rfl ?_
  refine dk_invI (pc' := 15) (as := []) hE lk_L_12 (ci_11_141 l G hGd hGn) dL_law_12 rfl (by decide) rfl (by decide) (Nat.le_of_ble_eq_true rfl) ⟨by decide, by rw [tt_0, tt_142, tt_190]; decide⟩ (fun _ => by decide) ⟨by rw [tt_0, tt_142]; decide, by rw [tt_142, tt_190]; decide⟩ ⟨rfl, fun j_ => by rw [e3, dk_nw_s]⟩ rfl (fun r2 σ4 hr2 _ => ?_)
  obtain ⟨rfl, H2, H2x, H2y⟩ := hr2
  have hf : ∀ k j : Int, k < 141 → σ4 k j = σ2 k j := fun k j q => by rw [H2.1 k j (by omega) (by omega), e3, dk_nw_n (by omega)]
  have hty : ∀ k : Int, 0 ≤ k → k < 190 → ∀ j : Nat, j < dk_len (dk_site k) → dk_Ty k (j : Int) (σ4 k (j : Int)) := fun k k0 k1 j hj => by
    by_cases q : k < 141
    · rw [hf k _ q]
      exact H1.2 k (by omega) j hj
    · exact H2.2 k (by omega) j hj
  have hLI : LX σ4 := ⟨⟨GI_fr H1x (fun k j q => hf k j (by omega)), (ty_10_9 is_0).mp (hty 0 (by decide) (by decide) 9 (by decide)), H2x⟩, by rw [H2y.1, hf 0 12 (by decide), H1y.1], by rw [H2y.2, hf 37 8 (by decide), H1y.2]⟩
  refine dk_astore_n (pc' := 16) (ls' := [(4, (-40)), (4, 0), (4, 141), (9, 0)]) hE dL_law_15 rfl rfl (by decide) rfl ?_
  refine dk_iconst (pc' := 17) hE dL_law_16 (by decide) rfl ?_
  refine dk_istore_n (pc' := 18) (ls' := [(4, (-40)), (4, 0), (4, 141), (0, 0)]) hE dL_law_17 rfl rfl (by decide) rfl ?_
  refine dk_retype hty ?_
  exact law_loop hGd hE2 hX hL hend _ 0 σ4 (Nat.lt_succ_self _) hLI (by decide) (by omega)
set_option maxHeartbeats 4000000 in
set_option maxRecDepth 100000 in
/-- from the entry, for every script of at most 3072 ints, the law comes to its end with true -/
theorem whole_start {p : Program} {e : Env} {s : State} {m : MethodId} {below : List Frame} {meth : Method} {c : Code} (l : Launch) {b L : Nat} {xs : Nat → Int32} (hL : L ≤ 3072) (C0 : lw_At p s m meth c b L xs) : W p l e room_1 s m #[Value.ref b] below meth c s.heap [] 0 0 (lw_Z below #[Value.ref b] s) (entryFrame m ([Value.ref b] : List Value).toArray 4) := by
  obtain ⟨hx, hb, hr, hml, hown, hts, hX, hbl, hlocks, hgv⟩ := C0
  obtain ⟨ad, had, h40, hst⟩ := law_stat hts hgv
  have hGd := law_Gd (H := s.heap) had
  have hg : ∀ w ∈ lw_g, w.before #[Value.ref b] s = true := fun w hw => hts w (List.mem_filter.mp hw).1
  have hl := lv_entry ([Value.ref b]) (n := 4) (Nat.le_of_ble_eq_true rfl)
  rw [lg_entry_eq]
  generalize (lg_sl ([Value.ref b]) ++ List.replicate (4 - (lg_sl ([Value.ref b])).length) Slot.unset).toArray = lsr at hl ⊢
  have hE : dk_Good (p, l, e, room_1, s, m, #[Value.ref b], below, meth, c, lw_Z below #[Value.ref b] s, (ad, s.heap.size, s.heap, law_ext ad s.heap.size s.heap), dk_T0, 0, 4) cL_law RL 20 dk_T0 l (ad, s.heap.size, s.heap, law_ext ad s.heap.size s.heap) 0 4 600000 7302250 := ⟨hx, hb, hml, hown, hg, by decide, by decide, hGd, hlocks, rfl, rfl, rfl, rfl, rfl, Nat.le_refl _, Nat.le_refl _, ⟨hst, law_nst hts⟩⟩
  have hE2 : dk_Good (p, l, e, room_1, s, m, #[Value.ref b], below, meth, c, lw_Z below #[Value.ref b] s, (ad, s.heap.size, s.heap, law_ext ad s.heap.size s.heap), dk_Ty, 0, 4) cL_law RL 20 dk_Ty l (ad, s.heap.size, s.heap, law_ext ad s.heap.size s.heap) 0 4 600000 7302250 := ⟨hx, hb, hml, hown, hg, by decide, by decide, hGd, hlocks, rfl, rfl, rfl, rfl, rfl, Nat.le_refl _, Nat.le_refl _, ⟨hst, law_nst hts⟩⟩
  have hend : ∀ (ls : List dkV) (σ : dkS), dk_PJ (p, l, e, room_1, s, m, #[Value.ref b], below, meth, c, lw_Z below #[Value.ref b] s, (ad, s.heap.size, s.heap, law_ext ad s.heap.size s.heap), dk_Ty, 0, 4) 1631 ls [(0, 1)] 190 σ := by
    intro ls σ H locs lsr hH hLo hlr o1 o2 hn
    refine va_forget (fun q hq => hLo q hq) ?_
    refine W.widen (k := 600000) (n := 7302250) (by decide) (by rw [tt_190, tt_0]; decide) ?_
    exact lw_ret hx hb hr hlocks dL_law_1631
  have h := law_make hGd (fun _ h => h.2) hE hE2 ⟨by show ad (-40) < s.heap.size; rw [h40]; exact hbl, by show va_X (ad (-40)) L xs s s.heap; rw [h40]; exact hX⟩ hL hend (fun _ _ => 0) s.heap [] lsr ⟨trivial, Int.le_refl _, rfl, fun _ _ => rfl, fun k h0 hk => absurd hk (by omega)⟩ (fun q hq => by cases hq) ⟨hl.1, hl.2.1, fun i v hi h9 => ?_⟩ (fun v hv => ?_) (fun v hv => by cases hv) (Int.le_refl _)
  · rw [Nat.sub_self] at h
    exact h
  · match i, hi with
    | 0, hi =>
      cases hi
      rw [dk_cv40]
      show lsr[0]? = some (Slot.val (Value.ref (ad (-40))))
      rw [h40]
      exact lv_at hl 0 rfl
    | 1, hi => cases hi; exact absurd rfl h9
    | 2, hi => cases hi; exact absurd rfl h9
    | 3, hi => cases hi; exact absurd rfl h9
    | i + 4, hi => cases hi
  · rcases List.mem_cons.mp hv with rfl | hv
    · exact dk_rok _
    · have : v = (9, 0) := by
        rcases List.mem_cons.mp hv with h | hv
        · exact h
        · rcases List.mem_cons.mp hv with h | hv
          · exact h
          · exact List.mem_singleton.mp hv
      rw [this]
      exact dk_ok9
set_option maxHeartbeats 4000000 in
theorem lw_walk (l : Launch) (b : Addr) (xs : List Int32) : MetFree l x (headSpec (Jvm.Cond.code x code maxLocals ret :: tables_1) room_1) (lw_P b xs) (fun _ _ _ _ _ => True) lw_Q := by
  refine MetFree.of_bodyS (code := code) (maxLocals := maxLocals) (ret := ret) (by decide) ?_ ?_
  · intro args s m h hn
    obtain ⟨meth, c, h1, h2, h3, h4, h5, h6, -, -⟩ := Cond.code_spec hn (atoms_spec (ws := Jvm.Cond.code x code maxLocals ret :: tables_1) h _ List.mem_cons_self)
    exact ⟨meth, c, h1, h2, h3, h4, h5, h6⟩
  · intro p e s m args below meth c s₁ B hml0 hP _
    obtain ⟨rfl, hx, hbd, hgv⟩ := hP
    obtain ⟨scr, harrAt, hlist, hof, hsmall⟩ := hx
    obtain ⟨hcb, hkn, -, -⟩ := State.arrayAt?_spec harrAt
    have hown : s.vm.findClass R_law = some m.cls := findClass_of_methodNamed B.named
    have hts0 : ∀ c ∈ (Jvm.Cond.code x code maxLocals ret :: tables_1), c.before #[Value.ref b] s = true := atoms_spec (ws := Jvm.Cond.code x code maxLocals ret :: tables_1) B.pre
    have hts : ∀ w ∈ lw_tbl, w.before #[Value.ref b] s = true := k2_hts_sels lw_privs (fun w hw => hts0 w (List.mem_cons_of_mem _ hw)) lw_privs_ok
    have hml : c.maxLocals = 4 := B.maxLocals_eq (hts0 _ List.mem_cons_self)
    have X₀ : Stand p l e room_1 s m #[Value.ref b] below meth c s₁ [] 0 0 := Stand.of_body B
    have hh0 : s₁.heap = s.heap := by rw [B.state]; rfl
    have hsz : scr.slots.size = xs.length := by rw [← Array.length_toList, hlist, List.length_map]
    have hval : ∀ j : Nat, j < xs.length → scr.slots[j]? = some (.int (xs.getD j 0)) := fun j hj => by
      rw [← Array.getElem?_toList, hlist]
      simp [hj]
    have hbl : b < s.heap.size := (Array.getElem?_eq_some_iff.mp hcb).1
    have hX : va_X b xs.length (fun j => xs.getD j 0) s s.heap := ⟨scr, hcb, hof, hkn, hsz, hval⟩
    have K : W p l e room_1 s m #[Value.ref b] below meth c s₁.heap [] 0 0 (lw_Z below #[Value.ref b] s) (entryFrame m ([Value.ref b] : List Value).toArray 4) := by
      rw [hh0]
      exact whole_start l hbd ⟨B.exec, B.bytes, B.returns, hml, hown, hts, hX, hbl, B.notSynchronized, hgv⟩
    obtain ⟨t, a1, o, b1, b2, b3⟩ := K s₁ rfl X₀
    exact ⟨t, o, a1, b1, b2, b3⟩
theorem lw_pre_spec {args : Array Value} {s : State} (h : (Jvm.Cond.and given_1 narrow_1).before args s = true) (hr : rest_1_c.before args s = true) : ∃ (b : Addr) (xs : List Int32), lw_P b xs args s := by
  have hs := flat_of_before _ h
  have hq := flat_of_before _ hr
  have hc : (Cond.count 1).before args s = true := hs _ (by decide +kernel)
  have harr : (Cond.arrayOf (.arg 0) .int).before args s = true := hs _ (by decide +kernel)
  have hle : (Cond.le (.length (.arg 0)) (.int 3072)).before args s = true := hs _ (by decide +kernel)
  have hlen : (Cond.isInt (.length (.arg 0))).before args s = true := hq _ (by decide +kernel)
  have hall : (Cond.all (.arg 0) (.isInt (.elem (.arg 0) (.index 0)))).before args s = true := hq _ (by decide +kernel)
  obtain ⟨b, xs, hb, hx⟩ := State.ints_of_pre rfl harr hlen hall
  have hsm : xs.length < 2 ^ 31 := hx.choose_spec.2.2.2
  have hev : (Term.length (.arg 0)).eval args s none [] s = some (.int xs.length.toInt32) := hx.length_eval hb
  have hv := Cond.le_ints hev (show (Term.int 3072).eval args s none [] s = some (.int 3072) from rfl)
  have hd : xs.length.toInt32 ≤ 3072 := by
    simpa [Cond.before, Cond.holds, hv] using hle
  have hN : xs.length ≤ 3072 := (Int32.ofNat_le_ofNat hsm (by decide)).mp (show Int32.ofNat xs.length ≤ Int32.ofNat 3072 from hd)
  exact ⟨b, xs, Cond.one_arg hc (show args[0]? = some (.ref b) from hb), hx, hN, h⟩
theorem lw_comes (l : Launch) : Comes l x (Jvm.Cond.code x code maxLocals ret :: tables_1) room_1 (fun tb e args s => Calls_1 tb e args s ∧ rest_1 tb e args s ∧ Pre_1 tb e args s)
    (fun _ _ args s o t => lw_Q args s o t) := by
  intro p e ha hc hk s m args below hf hfit hheap happ hpre
  obtain ⟨b, xs, hP⟩ := lw_pre_spec hpre.2.2 hpre.2.1
  obtain ⟨k, o, h1, h2, h3, hQ⟩ := lw_walk l b xs p e ha hc hk s m args below hf ((Spec.applies_iff_loose hf).mp happ).1 hP trivial
  exact ⟨k, o, h1, h2, h3, hQ⟩
theorem lw_frame {s t : State} {o : Outcome} {args : Array Value} (h : Framed s o t [] 600000 7302250) :
    Framed s o t (fieldLocs frame_1_writes args s ++ arrayLocs frame_1_arrays args s ++ staticLocs frame_1_statics s) 600000 7302250 := h
theorem lw_limb (L : Cond) (hL : ∀ (args : Array Value) (s t : State), L.after args s (.returned (some (.int 1))) t = true) :
    ArmFor flags0 classFile x code maxLocals ret World_1 tables_1 room_1 Calls_1 rest_1 Pre_1
      (fun tb e a s o t => postC L tb e a s o t ∧ Framed s o t (fieldLocs frame_1_writes a s ++ arrayLocs frame_1_arrays a s ++ staticLocs frame_1_statics s) 600000 7302250) := by
  intro l _ _ _ p e ha hc hk s m args below hf hfit hheap happ hpre
  obtain ⟨k, o, h1, h2, h3, rfl, hF⟩ := lw_comes l p e ha hc hk s m args below hf hfit hheap happ hpre
  exact ⟨k, _, h1, h2, h3, hL args s _, lw_frame hF⟩
theorem i_vc : Claimed_1_1 ∧ Claimed_1_2 := ⟨lw_limb limb_1_1 (fun args s t => by simp [limb_1_1, Cond.after, Cond.holds, Cond.value]), lw_limb limb_1_2 (fun args s t => Cond.after_iff.mpr (by
  first | (rw [show limb_1_2 = Cond.eq .result (.int 1) from rfl, Cond.eq_ints (x := 1) (y := 1) rfl rfl]; simp; done) | (simp [limb_1_2, Cond.value, Term.eval]; done)))⟩
