theorem dk_cv_1 {ad : Int → Nat} : dk_cv ad (4, -1) = .null := by simp [dk_cv]
theorem dk_cv_30 {ad : Int → Nat} : dk_cv ad (4, -30) = .ref (ad (-30)) := by simp [dk_cv]
theorem dk_nc {z : Int} (h : 0 ≤ z ∧ z ≤ 65535) : narrow .char (.int (Int32.ofInt z)) = .int (Int32.ofInt z) := by
  have := (pk_charN (q := z.toNat) (by omega)).1
  rw [show nI z.toNat = Int32.ofInt z by show Int32.ofInt ((z.toNat : Nat) : Int) = Int32.ofInt z; congr 1; omega] at this
  exact this
theorem dk_old {G : dkG} {T : dkT} {s : State} {n : Int} {σ : dkS} {H : Heap} (hH : dk_Hold G T s n σ H) {a : Nat} (ha : ¬ dk_A G.2.1 a) : H[a]? = G.2.2.1[a]? := hH.2.2.2.1 a (Nat.not_le.mp ha)
theorem dk_getsV {p : Program} {l : Launch} {e : Env} {R : Room} {s : State} {m : MethodId} {args : Array Value} {below : List Frame} {meth : Method} {c : Code} {H : Heap} {locs : List Loc} {cells slots : Nat} {Q : State → Prop} {cc : ByteArray} {pc : Nat} {ls : Array Slot} {rest : List Value} {A : Nat → Prop} {H0 : Heap} (hexec : p.tables.exec = Jvm.exec) (hb : c.code = cc) {C n d own : String} {v : Value} {index : Nat} (hZ : va_Z C n d v A s H0) (hS : ∀ a, ¬ A a → H[a]? = H0[a]?) (hown : s.vm.findClass own = some m.cls) (hlink : (Cond.fieldLink own index C n d).before args s = true) (hdg : decode cc pc = .ok (.getstatic index, 3))
    (kk : W p l e R s m args below meth c H locs cells slots Q (F0 m (pc + 3) ls (v :: rest))) : W p l e R s m args below meth c H locs cells slots Q (F0 m pc ls rest) := by
  obtain ⟨cf, kf, fi, f, a, cell, h1, h2, h3, h4, h5, h6, h7, h8⟩ := hZ
  exact W.gets hexec hb hown hlink h1 h2 h3 h4 (by rw [hS a h8]; exact h5) (fun e => by rw [e] at h6; cases h6) h7 rfl hdg kk
theorem dk_getsX {E : dkE} {cc : ByteArray} {own : String} {d : Nat} {T : dkT} {l0 : Launch} {G0 : dkG} {n00 : Int} {nL0 mc ms : Nat} (hE : dk_Good E cc own d T l0 G0 n00 nL0 mc ms) {pc pc' : Nat} {ls st : List dkV} {n : Int} {σ : dkS} {ix : Nat} (hl2 : Cond.fieldLink own ix "DanceCompany$Score" "MOVE_X" "[I" ∈ lw_g) (hd : decode cc pc = .ok (.getstatic ix, 3)) (hp : pc + 3 = pc') (K : dk_PJ E pc' ls ((4, -2) :: st) n σ) : dk_PJ E pc ls st n σ := by
  obtain ⟨p, l, e, R, s, m, args, below, meth, c, Q, G, Ty, n0, nL⟩ := E
  obtain ⟨hx, hb, hml, hown, hts, hdf, hdl, hG, hlk, hTy, hl0, hG0, hn0, hnL0, hmc, hms, hext⟩ := hE
  subst hTy hl0 hG0 hn0 hnL0
  subst hp
  intro H locs lsr hH hL hl o1 o2 hn
  have hst := hG.2.2.2 s hext
  exact dk_getsV hx hb (hst.1).1 (fun a ha => dk_old hH ha) hown (hts _ hl2) hd (K H locs lsr hH hL hl o1 (dk_cc (dk_rok _) o2) hn)
theorem dk_getsY {E : dkE} {cc : ByteArray} {own : String} {d : Nat} {T : dkT} {l0 : Launch} {G0 : dkG} {n00 : Int} {nL0 mc ms : Nat} (hE : dk_Good E cc own d T l0 G0 n00 nL0 mc ms) {pc pc' : Nat} {ls st : List dkV} {n : Int} {σ : dkS} {ix : Nat} (hl2 : Cond.fieldLink own ix "DanceCompany$Score" "MOVE_Y" "[I" ∈ lw_g) (hd : decode cc pc = .ok (.getstatic ix, 3)) (hp : pc + 3 = pc') (K : dk_PJ E pc' ls ((4, -3) :: st) n σ) : dk_PJ E pc ls st n σ := by
  obtain ⟨p, l, e, R, s, m, args, below, meth, c, Q, G, Ty, n0, nL⟩ := E
  obtain ⟨hx, hb, hml, hown, hts, hdf, hdl, hG, hlk, hTy, hl0, hG0, hn0, hnL0, hmc, hms, hext⟩ := hE
  subst hTy hl0 hG0 hn0 hnL0
  subst hp
  intro H locs lsr hH hL hl o1 o2 hn
  have hst := hG.2.2.2 s hext
  exact dk_getsV hx hb (hst.2.1).1 (fun a ha => dk_old hH ha) hown (hts _ hl2) hd (K H locs lsr hH hL hl o1 (dk_cc (dk_rok _) o2) hn)
theorem dk_getsC {E : dkE} {cc : ByteArray} {own : String} {d : Nat} {T : dkT} {l0 : Launch} {G0 : dkG} {n00 : Int} {nL0 mc ms : Nat} (hE : dk_Good E cc own d T l0 G0 n00 nL0 mc ms) {pc pc' : Nat} {ls st : List dkV} {n : Int} {σ : dkS} {ix : Nat} (hl2 : Cond.fieldLink own ix "java/lang/String" "COMPACT_STRINGS" "Z" ∈ lw_g) (hd : decode cc pc = .ok (.getstatic ix, 3)) (hp : pc + 3 = pc') (K : dk_PJ E pc' ls ((0, 1) :: st) n σ) : dk_PJ E pc ls st n σ := by
  obtain ⟨p, l, e, R, s, m, args, below, meth, c, Q, G, Ty, n0, nL⟩ := E
  obtain ⟨hx, hb, hml, hown, hts, hdf, hdl, hG, hlk, hTy, hl0, hG0, hn0, hnL0, hmc, hms, hext⟩ := hE
  subst hTy hl0 hG0 hn0 hnL0
  subst hp
  intro H locs lsr hH hL hl o1 o2 hn
  have hst := hG.2.2.2 s hext
  exact dk_getsV hx hb hst.2.2.1 (fun a ha => dk_old hH ha) hown (hts _ hl2) hd (K H locs lsr hH hL hl o1 (dk_cc (dk_iok ⟨by decide, by decide⟩) o2) hn)
theorem dk_getsF {E : dkE} {cc : ByteArray} {own : String} {d : Nat} {T : dkT} {l0 : Launch} {G0 : dkG} {n00 : Int} {nL0 mc ms : Nat} (hE : dk_Good E cc own d T l0 G0 n00 nL0 mc ms) {pc pc' : Nat} {ls st : List dkV} {n : Int} {σ : dkS} {ix : Nat} (hl2 : Cond.fieldLink own ix "jdk/internal/util/Preconditions" "SIOOBE_FORMATTER" "Ljava/util/function/BiFunction;" ∈ lw_g) (hd : decode cc pc = .ok (.getstatic ix, 3)) (hp : pc + 3 = pc') (K : ∀ w : Int, dk_PJ E pc' ls ((4, w) :: st) n σ) : dk_PJ E pc ls st n σ := by
  obtain ⟨p, l, e, R, s, m, args, below, meth, c, Q, G, Ty, n0, nL⟩ := E
  obtain ⟨hx, hb, hml, hown, hts, hdf, hdl, hG, hlk, hTy, hl0, hG0, hn0, hnL0, hmc, hms, hext⟩ := hE
  subst hTy hl0 hG0 hn0 hnL0
  subst hp
  intro H locs lsr hH hL hl o1 o2 hn
  have hst := hG.2.2.2 s hext
  rcases hst.2.2.2.1 with h | h
  · exact dk_getsV hx hb h (fun a ha => dk_old hH ha) hown (hts _ hl2) hd (by have := K (-1) H locs lsr hH hL hl o1 (dk_cc (dk_rok _) o2) hn; rw [List.map_cons, dk_cv_1] at this; exact this)
  · exact dk_getsV hx hb h (fun a ha => dk_old hH ha) hown (hts _ hl2) hd (by have := K (-30) H locs lsr hH hL hl o1 (dk_cc (dk_rok _) o2) hn; rw [List.map_cons, dk_cv_30] at this; exact this)
theorem dk_tabX {E : dkE} {cc : ByteArray} {own : String} {d : Nat} {T : dkT} {l0 : Launch} {G0 : dkG} {n00 : Int} {nL0 mc ms : Nat} (hE : dk_Good E cc own d T l0 G0 n00 nL0 mc ms) {pc pc' : Nat} {ls st : List dkV} {n : Int} {σ : dkS} {i : Int} (hd : decode cc pc = .ok (.iaload, 1)) (hi : 0 ≤ i ∧ i < 6) (hp : pc + 1 = pc') (K : ∀ v : Int, dk_i32 v → dk_PJ E pc' ls ((0, v) :: st) n σ) : dk_PJ E pc ls ((0, i) :: (4, -2) :: st) n σ := by
  obtain ⟨p, l, e, R, s, m, args, below, meth, c, Q, G, Ty, n0, nL⟩ := E
  obtain ⟨hx, hb, hml, hown, hts, hdf, hdl, hG, hlk, hTy, hl0, hG0, hn0, hnL0, hmc, hms, hext⟩ := hE
  subst hTy hl0 hG0 hn0 hnL0
  subst hp
  intro H locs lsr hH hL hl o1 o2 hn
  have hst := hG.2.2.2 s hext
  obtain ⟨o2a, o2b, o2c⟩ := dk_c2 o2
  obtain ⟨f, cell, h1, h2, h3, h4, h5, h6, h7⟩ := (hst.1).2
  obtain ⟨x1, x2⟩ := dk_ix (len := 6) hi (dk_oki o2a)
  have hlt : i.toNat < 6 := by omega
  have hk := K (f i.toNat).toInt (dk_r32 _) H locs lsr hH hL hl o1 (dk_cc (dk_iok (dk_r32 _)) o2c) hn
  have e : dk_cv G.1 (0, (f i.toNat).toInt) = .int (f i.toNat) := congrArg Value.int (Int32.ofInt_toInt _)
  rw [List.map_cons, e] at hk
  exact W.iald (v := .int (f i.toNat)) hx hb (by rw [dk_old hH h7]; exact h1) h2 h3 (fun q => x1 (q.imp id (fun q => Nat.le_trans h4 q))) (by rw [x2]; exact h6 _ hlt) rfl rfl hd hk
theorem dk_tabY {E : dkE} {cc : ByteArray} {own : String} {d : Nat} {T : dkT} {l0 : Launch} {G0 : dkG} {n00 : Int} {nL0 mc ms : Nat} (hE : dk_Good E cc own d T l0 G0 n00 nL0 mc ms) {pc pc' : Nat} {ls st : List dkV} {n : Int} {σ : dkS} {i : Int} (hd : decode cc pc = .ok (.iaload, 1)) (hi : 0 ≤ i ∧ i < 6) (hp : pc + 1 = pc') (K : ∀ v : Int, dk_i32 v → dk_PJ E pc' ls ((0, v) :: st) n σ) : dk_PJ E pc ls ((0, i) :: (4, -3) :: st) n σ := by
  obtain ⟨p, l, e, R, s, m, args, below, meth, c, Q, G, Ty, n0, nL⟩ := E
  obtain ⟨hx, hb, hml, hown, hts, hdf, hdl, hG, hlk, hTy, hl0, hG0, hn0, hnL0, hmc, hms, hext⟩ := hE
  subst hTy hl0 hG0 hn0 hnL0
  subst hp
  intro H locs lsr hH hL hl o1 o2 hn
  have hst := hG.2.2.2 s hext
  obtain ⟨o2a, o2b, o2c⟩ := dk_c2 o2
  obtain ⟨f, cell, h1, h2, h3, h4, h5, h6, h7⟩ := (hst.2.1).2
  obtain ⟨x1, x2⟩ := dk_ix (len := 6) hi (dk_oki o2a)
  have hlt : i.toNat < 6 := by omega
  have hk := K (f i.toNat).toInt (dk_r32 _) H locs lsr hH hL hl o1 (dk_cc (dk_iok (dk_r32 _)) o2c) hn
  have e : dk_cv G.1 (0, (f i.toNat).toInt) = .int (f i.toNat) := congrArg Value.int (Int32.ofInt_toInt _)
  rw [List.map_cons, e] at hk
  exact W.iald (v := .int (f i.toNat)) hx hb (by rw [dk_old hH h7]; exact h1) h2 h3 (fun q => x1 (q.imp id (fun q => Nat.le_trans h4 q))) (by rw [x2]; exact h6 _ hlt) rfl rfl hd hk
theorem dk_strT17 {E : dkE} {cc : ByteArray} {own : String} {d : Nat} {T : dkT} {l0 : Launch} {G0 : dkG} {n00 : Int} {nL0 mc ms : Nat} (hE : dk_Good E cc own d T l0 G0 n00 nL0 mc ms) {pc pc' : Nat} {ls st : List dkV} {n : Int} {σ : dkS} (ho : own = "DanceCompany$Tokens") (hd : decode cc pc = .ok (.ldc 17, 2)) (hp : pc + 2 = pc') (K : dk_PJ E pc' ls ((4, -10) :: st) n σ) : dk_PJ E pc ls st n σ := by
  obtain ⟨p, l, e, R, s, m, args, below, meth, c, Q, G, Ty, n0, nL⟩ := E
  obtain ⟨hx, hb, hml, hown, hts, hdf, hdl, hG, hlk, hTy, hl0, hG0, hn0, hnL0, hmc, hms, hext⟩ := hE
  subst hTy hl0 hG0 hn0 hnL0
  subst hp
  intro H locs lsr hH hL hl o1 o2 hn
  subst ho
  have hst := hG.2.2.2 s hext
  exact va_ldcS hx hb hown hst.2.2.2.2.2.1 hd (K H locs lsr hH hL hl o1 (dk_cc (dk_rok _) o2) hn)
theorem dk_strT70 {E : dkE} {cc : ByteArray} {own : String} {d : Nat} {T : dkT} {l0 : Launch} {G0 : dkG} {n00 : Int} {nL0 mc ms : Nat} (hE : dk_Good E cc own d T l0 G0 n00 nL0 mc ms) {pc pc' : Nat} {ls st : List dkV} {n : Int} {σ : dkS} (ho : own = "DanceCompany$Tokens") (hd : decode cc pc = .ok (.ldc 70, 2)) (hp : pc + 2 = pc') (K : dk_PJ E pc' ls ((4, -11) :: st) n σ) : dk_PJ E pc ls st n σ := by
  obtain ⟨p, l, e, R, s, m, args, below, meth, c, Q, G, Ty, n0, nL⟩ := E
  obtain ⟨hx, hb, hml, hown, hts, hdf, hdl, hG, hlk, hTy, hl0, hG0, hn0, hnL0, hmc, hms, hext⟩ := hE
  subst hTy hl0 hG0 hn0 hnL0
  subst hp
  intro H locs lsr hH hL hl o1 o2 hn
  subst ho
  have hst := hG.2.2.2 s hext
  exact va_ldcS hx hb hown hst.2.2.2.2.2.2.1 hd (K H locs lsr hH hL hl o1 (dk_cc (dk_rok _) o2) hn)
theorem dk_strS134 {E : dkE} {cc : ByteArray} {own : String} {d : Nat} {T : dkT} {l0 : Launch} {G0 : dkG} {n00 : Int} {nL0 mc ms : Nat} (hE : dk_Good E cc own d T l0 G0 n00 nL0 mc ms) {pc pc' : Nat} {ls st : List dkV} {n : Int} {σ : dkS} (ho : own = "DanceCompany$ScoreReader") (hd : decode cc pc = .ok (.ldc 134, 2)) (hp : pc + 2 = pc') (K : dk_PJ E pc' ls ((4, -12) :: st) n σ) : dk_PJ E pc ls st n σ := by
  obtain ⟨p, l, e, R, s, m, args, below, meth, c, Q, G, Ty, n0, nL⟩ := E
  obtain ⟨hx, hb, hml, hown, hts, hdf, hdl, hG, hlk, hTy, hl0, hG0, hn0, hnL0, hmc, hms, hext⟩ := hE
  subst hTy hl0 hG0 hn0 hnL0
  subst hp
  intro H locs lsr hH hL hl o1 o2 hn
  subst ho
  have hst := hG.2.2.2 s hext
  exact va_ldcS hx hb hown hst.2.2.2.2.2.2.2.1 hd (K H locs lsr hH hL hl o1 (dk_cc (dk_rok _) o2) hn)
theorem dk_strS136 {E : dkE} {cc : ByteArray} {own : String} {d : Nat} {T : dkT} {l0 : Launch} {G0 : dkG} {n00 : Int} {nL0 mc ms : Nat} (hE : dk_Good E cc own d T l0 G0 n00 nL0 mc ms) {pc pc' : Nat} {ls st : List dkV} {n : Int} {σ : dkS} (ho : own = "DanceCompany$ScoreReader") (hd : decode cc pc = .ok (.ldc 136, 2)) (hp : pc + 2 = pc') (K : dk_PJ E pc' ls ((4, -13) :: st) n σ) : dk_PJ E pc ls st n σ := by
  obtain ⟨p, l, e, R, s, m, args, below, meth, c, Q, G, Ty, n0, nL⟩ := E
  obtain ⟨hx, hb, hml, hown, hts, hdf, hdl, hG, hlk, hTy, hl0, hG0, hn0, hnL0, hmc, hms, hext⟩ := hE
  subst hTy hl0 hG0 hn0 hnL0
  subst hp
  intro H locs lsr hH hL hl o1 o2 hn
  subst ho
  have hst := hG.2.2.2 s hext
  exact va_ldcS hx hb hown hst.2.2.2.2.2.2.2.2 hd (K H locs lsr hH hL hl o1 (dk_cc (dk_rok _) o2) hn)
theorem dk_cv_n {ad : Int → Nat} {k : Int} (h : -13 ≤ k ∧ k ≤ -10) : dk_cv ad (4, k) = .ref (ad k) := by
  rcases dk_cvr (ad := ad) (x := k) with ⟨h1, -⟩ | ⟨-, q⟩
  · omega
  · exact q
theorem dk_cv_m {ad : Int → Nat} {k : Int} (h : -23 ≤ k ∧ k ≤ -20) : dk_cv ad (4, k) = .ref (ad k) := by
  rcases dk_cvr (ad := ad) (x := k) with ⟨h1, -⟩ | ⟨-, q⟩
  · omega
  · exact q
def dk_LW (own : String) (ix : Nat) (y : MethodName) (cc : ByteArray) (maxL : Nat) (ret : Option FieldType) (na : Nat) : Prop := dk_MW y cc maxL ret na ∧ Cond.methodLink own ix y ∈ lw_g ∧ Cond.instanceMethod y ∈ lw_g ∧ Cond.selects y.cls y y ∈ lw_g ∧ y.cls = "java/lang/String"
/-- the length of the bytes w -/
def dk_sl (w : Int) : Int := if w = -20 then 102 else if w = -21 then 9 else if w = -22 then 8 else 6
theorem dk_sl_eq {i : Nat} (h : i < 4) : ((dk_strL.getD i 0 : Nat) : Int) = dk_sl (-20 - (i : Int)) := by
  have : ∀ i : Nat, i < 4 → ((dk_strL.getD i 0 : Nat) : Int) = dk_sl (-20 - (i : Int)) := by decide
  exact this i h
theorem dk_sval {E : dkE} {cc : ByteArray} {own : String} {d : Nat} {T : dkT} {l0 : Launch} {G0 : dkG} {n00 : Int} {nL0 mc ms : Nat} (hE : dk_Good E cc own d T l0 G0 n00 nL0 mc ms) {pc pc' : Nat} {ls st : List dkV} {n : Int} {σ : dkS} {q : Int} {ix : Nat} (hl2 : Cond.fieldLink own ix "java/lang/String" "value" "[B" ∈ lw_g) (hd : decode cc pc = .ok (.getfield ix, 3)) (hq : -13 ≤ q ∧ q ≤ -10) (hp : pc + 3 = pc') (K : dk_PJ E pc' ls ((4, q - 10) :: st) n σ) : dk_PJ E pc ls ((4, q) :: st) n σ := by
  obtain ⟨p, l, e, R, s, m, args, below, meth, c, Q, G, Ty, n0, nL⟩ := E
  obtain ⟨hx, hb, hml, hown, hts, hdf, hdl, hG, hlk, hTy, hl0, hG0, hn0, hnL0, hmc, hms, hext⟩ := hE
  subst hTy hl0 hG0 hn0 hnL0
  subst hp
  intro H locs lsr hH hL hl o1 o2 hn
  have hst := (hG.2.2.2 s hext).2.2.2.2.1
  obtain ⟨o2a, o2b⟩ := dk_c1 o2
  have hi : (-10 - q).toNat < 4 := by omega
  have e1 : (-10 - (((-10 - q).toNat : Nat) : Int)) = q := by omega
  have e2 : (-20 - (((-10 - q).toNat : Nat) : Int)) = q - 10 := by omega
  have h := hst.1 _ hi
  dsimp only at h
  rw [e1, e2] at h
  obtain ⟨cf, k, fi, f, cell, h1, h2, h3, h4, h5, h6⟩ := h.2.2.1
  rw [List.map_cons, dk_cv_n hq]
  have hk := K H locs lsr hH hL hl o1 (dk_cc (by first | exact dk_rok _ | exact dk_iok ⟨by decide, by decide⟩) o2b) hn
  rw [List.map_cons, dk_cv_m ⟨by omega, by omega⟩] at hk
  exact W.getf hx hb hown (hts _ hl2) h1 h2 (by rw [dk_old hH h6]; exact h3) h4 h5 rfl rfl hd hk
theorem dk_scod {E : dkE} {cc : ByteArray} {own : String} {d : Nat} {T : dkT} {l0 : Launch} {G0 : dkG} {n00 : Int} {nL0 mc ms : Nat} (hE : dk_Good E cc own d T l0 G0 n00 nL0 mc ms) {pc pc' : Nat} {ls st : List dkV} {n : Int} {σ : dkS} {q : Int} {ix : Nat} (hl2 : Cond.fieldLink own ix "java/lang/String" "coder" "B" ∈ lw_g) (hd : decode cc pc = .ok (.getfield ix, 3)) (hq : -13 ≤ q ∧ q ≤ -10) (hp : pc + 3 = pc') (K : dk_PJ E pc' ls ((0, 0) :: st) n σ) : dk_PJ E pc ls ((4, q) :: st) n σ := by
  obtain ⟨p, l, e, R, s, m, args, below, meth, c, Q, G, Ty, n0, nL⟩ := E
  obtain ⟨hx, hb, hml, hown, hts, hdf, hdl, hG, hlk, hTy, hl0, hG0, hn0, hnL0, hmc, hms, hext⟩ := hE
  subst hTy hl0 hG0 hn0 hnL0
  subst hp
  intro H locs lsr hH hL hl o1 o2 hn
  have hst := (hG.2.2.2 s hext).2.2.2.2.1
  obtain ⟨o2a, o2b⟩ := dk_c1 o2
  have hi : (-10 - q).toNat < 4 := by omega
  have e1 : (-10 - (((-10 - q).toNat : Nat) : Int)) = q := by omega
  have e2 : (-20 - (((-10 - q).toNat : Nat) : Int)) = q - 10 := by omega
  have h := hst.1 _ hi
  dsimp only at h
  rw [e1, e2] at h
  obtain ⟨cf, k, fi, f, cell, h1, h2, h3, h4, h5, h6⟩ := h.2.1
  rw [List.map_cons, dk_cv_n hq]
  have hk := K H locs lsr hH hL hl o1 (dk_cc (by first | exact dk_rok _ | exact dk_iok ⟨by decide, by decide⟩) o2b) hn
  skip
  exact W.getf hx hb hown (hts _ hl2) h1 h2 (by rw [dk_old hH h6]; exact h3) h4 h5 rfl rfl hd hk
theorem dk_sal {E : dkE} {cc : ByteArray} {own : String} {d : Nat} {T : dkT} {l0 : Launch} {G0 : dkG} {n00 : Int} {nL0 mc ms : Nat} (hE : dk_Good E cc own d T l0 G0 n00 nL0 mc ms) {pc pc' : Nat} {ls st : List dkV} {n : Int} {σ : dkS} {w : Int} (hd : decode cc pc = .ok (.arraylength, 1)) (hw : -23 ≤ w ∧ w ≤ -20) (hp : pc + 1 = pc') (K : ∀ L : Int, L = dk_sl w → dk_PJ E pc' ls ((0, L) :: st) n σ) : dk_PJ E pc ls ((4, w) :: st) n σ := by
  obtain ⟨p, l, e, R, s, m, args, below, meth, c, Q, G, Ty, n0, nL⟩ := E
  obtain ⟨hx, hb, hml, hown, hts, hdf, hdl, hG, hlk, hTy, hl0, hG0, hn0, hnL0, hmc, hms, hext⟩ := hE
  subst hTy hl0 hG0 hn0 hnL0
  subst hp
  intro H locs lsr hH hL hl o1 o2 hn
  have hst := (hG.2.2.2 s hext).2.2.2.2.1
  obtain ⟨o2a, o2b⟩ := dk_c1 o2
  have hi : (-20 - w).toNat < 4 := by omega
  have e2 : (-20 - (((-20 - w).toNat : Nat) : Int)) = w := by omega
  have h := (hst.1 _ hi).2.2.2
  dsimp only at h
  rw [e2] at h
  obtain ⟨cell, h1, h2, h3, h4, h5, h6, h7⟩ := h
  have hL0 := dk_sl_eq hi
  rw [e2] at hL0
  rw [List.map_cons, dk_cv_m hw]
  have hr : dk_i32 (dk_sl w) := by unfold dk_sl; split <;> (try split) <;> (try split) <;> exact ⟨by decide, by decide⟩
  refine W.alen (n := Int32.ofInt (dk_sl w)) hx hb (by rw [dk_old hH h7]; exact h1) h2 ?_ rfl rfl hd (K _ rfl H locs lsr hH hL hl o1 (dk_cc (dk_iok hr) o2b) hn)
  rw [h5, ← hL0]
  rfl
theorem dk_sbl {E : dkE} {cc : ByteArray} {own : String} {d : Nat} {T : dkT} {l0 : Launch} {G0 : dkG} {n00 : Int} {nL0 mc ms : Nat} (hE : dk_Good E cc own d T l0 G0 n00 nL0 mc ms) {pc pc' : Nat} {ls st : List dkV} {n : Int} {σ : dkS} {w i : Int} (hd : decode cc pc = .ok (.baload, 1)) (hw : -23 ≤ w ∧ w ≤ -20) (hi : 0 ≤ i ∧ i < dk_sl w) (hp : pc + 1 = pc') (K : ∀ v : Int, dk_i32 v → dk_PJ E pc' ls ((0, v) :: st) n σ) : dk_PJ E pc ls ((0, i) :: (4, w) :: st) n σ := by
  obtain ⟨p, l, e, R, s, m, args, below, meth, c, Q, G, Ty, n0, nL⟩ := E
  obtain ⟨hx, hb, hml, hown, hts, hdf, hdl, hG, hlk, hTy, hl0, hG0, hn0, hnL0, hmc, hms, hext⟩ := hE
  subst hTy hl0 hG0 hn0 hnL0
  subst hp
  intro H locs lsr hH hL hl o1 o2 hn
  have hst := (hG.2.2.2 s hext).2.2.2.2.1
  obtain ⟨o2a, o2b, o2c⟩ := dk_c2 o2
  have hj : (-20 - w).toNat < 4 := by omega
  have e2 : (-20 - (((-20 - w).toNat : Nat) : Int)) = w := by omega
  have h := (hst.1 _ hj).2.2.2
  dsimp only at h
  rw [e2] at h
  obtain ⟨cell, h1, h2, h3, h4, h5, h6, h7⟩ := h
  have hL0 := dk_sl_eq hj
  rw [e2] at hL0
  obtain ⟨x1, x2⟩ := dk_ix (len := dk_strL.getD (-20 - w).toNat 0) (i := i) ⟨hi.1, by rw [hL0]; exact hi.2⟩ (dk_oki o2a)
  have hlt : i.toNat < dk_strL.getD (-20 - w).toNat 0 := by have := hi.1; have := hi.2; omega
  have hk := K ((dk_strB.getD (-20 - w).toNat []).getD i.toNat 0).toInt (dk_r32 _) H locs lsr hH hL hl o1 (dk_cc (dk_iok (dk_r32 _)) o2c) hn
  have e : dk_cv G.1 (0, ((dk_strB.getD (-20 - w).toNat []).getD i.toNat 0).toInt) = .int ((dk_strB.getD (-20 - w).toNat []).getD i.toNat 0) := congrArg Value.int (Int32.ofInt_toInt _)
  rw [List.map_cons, e] at hk
  rw [List.map_cons, List.map_cons, dk_cv_m hw]
  exact W.bald (v := .int ((dk_strB.getD (-20 - w).toNat []).getD i.toNat 0)) hx hb (by rw [dk_old hH h7]; exact h1) h2 h3 (fun q => x1 (q.imp id (fun q => Nat.le_trans h4 q))) (by rw [x2]; exact h6 _ hlt) rfl rfl hd hk
theorem dk_invW {E : dkE} {cc : ByteArray} {own : String} {d : Nat} {T : dkT} {l0 : Launch} {G0 : dkG} {n00 : Int} {nL0 mc ms : Nat} (hE : dk_Good E cc own d T l0 G0 n00 nL0 mc ms) {pc pc' : Nat} {ls st : List dkV} {n : Int} {σ : dkS} {as stk : List dkV} {k : Int} {ix dc na maxL : Nat} {y : MethodName} {cc2 : ByteArray} {ret : Option FieldType} {n' : Int} {Pre : List dkV → dkS → Prop} {Post : List dkV → dkS → Option dkV → dkS → Prop} (hW : dk_LW own ix y cc2 maxL ret na) (hc : dk_Ct l0 G0 T y cc2 maxL ret dc n n' Pre Post) (hd : decode cc pc = .ok (.invokevirtual ix, 3)) (hst : stk = as.reverse ++ (4, k) :: st) (hk : -13 ≤ k ∧ k ≤ -10) (hna : as.length = na) (hdc : dc + 1 ≤ d) (h8 : dk_cat3 st ≤ 8) (hf : (n - n00).toNat + (n' - n).toNat ≤ mc ∧ (dk_tot n - dk_tot n00) + (dk_tot n' - dk_tot n) ≤ ms) (hnn : n00 ≤ n → n ≤ n') (htt : dk_tot n00 ≤ dk_tot n ∧ dk_tot n ≤ dk_tot n') (hpre : Pre ((4, k) :: as) σ) (hp : pc + 3 = pc') (K : ∀ (r : Option dkV) (σ' : dkS), Post ((4, k) :: as) σ r σ' → (∀ v, r = some v → dk_ok v) → dk_PJ E pc' ls (r.toList ++ st) n' σ') : dk_PJ E pc ls stk n σ := by
  obtain ⟨p, l, e, R, s, m, args, below, meth, c, Q, G, Ty, n0, nL⟩ := E
  obtain ⟨hx, hb, hml, hown, hts, hdf, hdl, hG, hlk, hTy, hl0, hG0, hn0, hnL0, hmc, hms, hext⟩ := hE
  subst hTy hl0 hG0 hn0 hnL0
  subst hp hst
  intro H locs lsr hH hL hl o1 o2 hn

  have oas : ∀ v ∈ ((4, k) :: as : List dkV), dk_ok v := dk_cc (dk_rok k) (fun v hv => o2 v (List.mem_append_left _ (List.mem_reverse.mpr hv)))
  have ost : ∀ v ∈ st, dk_ok v := fun v hv => o2 v (List.mem_append_right _ (List.mem_cons_of_mem _ hv))
  have hM := hc ((4, k) :: as) σ hpre oas
  rw [List.map_cons, dk_cv_n hk] at hM
  rw [List.map_append, List.map_reverse, List.map_cons, dk_cv_n hk]
  obtain ⟨hmw, hl1, hl2, hl3, hcs⟩ := hW
  have hcw : CallW R s args own y.cls ix y cc2 maxL ret (.code y cc2 maxL ret :: lw_g) (dk_rm dc (n' - n).toNat (dk_tot n' - dk_tot n)) (n' - n).toNat (dk_tot n' - dk_tot n) na := ⟨dk_cbl hts hmw hl1 hdf hdl hdc, hts _ hl2, hts _ hl3⟩
  have hrec : ∃ cellB : Cell, H[G.1 k]? = some cellB ∧ cellB.vm.isStatics = false ∧ s.vm.findClass y.cls = some cellB.cls := by
    have hst := (hG.2.2.2 s hext).2.2.2.2.1
    have hi : (-10 - k).toNat < 4 := by omega
    have e1 : (-10 - (((-10 - k).toNat : Nat) : Int)) = k := by omega
    have h := (hst.1 _ hi).1
    dsimp only at h
    rw [e1] at h
    obtain ⟨cell, h1, h2, h3, h4⟩ := h
    exact ⟨cell, by rw [dk_old hH h4]; exact h1, h2, by rw [hcs]; exact h3⟩
  have hrun := va_runV (As := as.map (dk_cv G.1)) (rest := st.map (dk_cv G.1)) (H := H) (locs := locs) (cells := (n - n0).toNat) (slots := dk_tot n - dk_tot n0) (below := below) (meth := meth) (e := e) (g := F0 m pc lsr ((as.map (dk_cv G.1)).reverse ++ .ref (G.1 k) :: st.map (dk_cv G.1))) ⟨hx, hb, hml, hown, hts⟩ hM hcw ⟨fun a U g mk q => ⟨q.1, hG.2.2.1 U _ rfl q.2.1, dk_Hold.moved (U := U.calling g mk a) (Vm.Alike.refl U.vm) q.2.2⟩, hrec, fun U hU hW1 => ⟨rfl, hG.2.1 _ _ hW1 hext, by rw [hU]; exact hH.moved hW1.alike⟩⟩ rfl (by rw [List.length_map]; exact hna) hl.1 rfl (lv_room (Nat.le_trans (dk_cats G.1 st) h8)) hd ⟨by omega, by omega⟩
  intro TT hTT X
  obtain ⟨v, st₀, t, T', L, h0, X', hLf, e1, e2, ⟨r, σ', hv, hro, hP, hH1⟩, stp⟩ := hrun TT hTT X
  cases hv
  have hal : t.vm.Alike s.vm := by rw [← e2]; exact X'.warmed.alike.symm
  have hW2 := K r σ' hP hro T'.heap (locs ++ L) lsr (by rw [e1]; exact hH1.moved hal) (fun q hq => by
    rcases List.mem_append.mp hq with h | h
    · exact hL q h
    · exact hLf q h) hl o1 (fun v hv => by
    rcases List.mem_append.mp hv with h | h
    · exact hro v (by cases r with | none => cases h | some x => rw [List.mem_singleton.mp h])
    · exact ost v h) (Int.le_trans hn (hnn hn))
  have hcells : (n - n0).toNat + (n' - n).toNat = (n' - n0).toNat := by have := hnn hn; omega
  have hslots : dk_tot n - dk_tot n0 + (dk_tot n' - dk_tot n) = dk_tot n' - dk_tot n0 := by have := htt.1; have := htt.2; omega
  rw [hcells, hslots] at X'
  obtain ⟨t2, a1, b1⟩ := hW2 T' rfl X'
  refine ⟨t2, stp t2 ?_, b1⟩
  have es : (r.toList ++ st).map (dk_cv G.1) = (r.map (dk_cv G.1)).toList ++ st.map (dk_cv G.1) := by cases r <;> simp
  rw [es] at a1
  exact a1
theorem dk_cW {E : dkE} {cc : ByteArray} {own : String} {d : Nat} {T : dkT} {l0 : Launch} {G0 : dkG} {n : Int} {nL0 mc ms : Nat} (hE : dk_Good E cc own d T l0 G0 n nL0 mc ms) {pc pc' : Nat} {ls st : List dkV} {σ : dkS} {as stk : List dkV} {k : Int} {ix dc na maxL : Nat} {y : MethodName} {cc2 : ByteArray} {ret : Option FieldType} {Pre : List dkV → dkS → Prop} {Post : List dkV → dkS → Option dkV → dkS → Prop} (hW : dk_LW own ix y cc2 maxL ret na) (hc : dk_Ct l0 G0 T y cc2 maxL ret dc n n Pre Post) (hd : decode cc pc = .ok (.invokevirtual ix, 3)) (hst : stk = as.reverse ++ (4, k) :: st) (hk : -13 ≤ k ∧ k ≤ -10) (hna : as.length = na) (hdc : dc + 1 ≤ d) (h8 : dk_cat3 st ≤ 8) (hpre : Pre ((4, k) :: as) σ) (hp : pc + 3 = pc') (K : ∀ (r : Option dkV) (σ' : dkS), Post ((4, k) :: as) σ r σ' → (∀ v, r = some v → dk_ok v) → dk_PJ E pc' ls (r.toList ++ st) n σ') : dk_PJ E pc ls stk n σ :=
  dk_invW hE hW hc hd hst hk hna hdc h8 ⟨by omega, by omega⟩ (fun _ => Int.le_refl n) ⟨Nat.le_refl _, Nat.le_refl _⟩ hpre hp K
theorem dk_iushr {E : dkE} {cc : ByteArray} {own : String} {d : Nat} {T : dkT} {l0 : Launch} {G0 : dkG} {n00 : Int} {nL0 mc ms : Nat} (hE : dk_Good E cc own d T l0 G0 n00 nL0 mc ms) {pc pc' : Nat} {ls st : List dkV} {n : Int} {σ : dkS} {x y : Int} (hd : decode cc pc = .ok (.iushr, 1)) (hp : pc + 1 = pc') (k : ∀ z : Int, dk_i32 z → dk_PJ E pc' ls ((0, z) :: st) n σ) : dk_PJ E pc ls ((0, y) :: (0, x) :: st) n σ := by
  obtain ⟨p, l, e, R, s, m, args, below, meth, c, Q, G, Ty, n0, nL⟩ := E
  obtain ⟨hx, hb, hml, hown, hts, hdf, hdl, hG, hlk, hTy, hl0, hG0, hn0, hnL0, hmc, hms, hext⟩ := hE
  subst hTy hl0 hG0 hn0 hnL0
  subst hp
  intro H locs lsr hH hL hl o1 o2 hn
  obtain ⟨o2a, o2b, o2c⟩ := dk_c2 o2
  refine lv_iushr (x := Int32.ofInt x) (y := Int32.ofInt y) hx hb hd rfl ?_
  have h := k _ (dk_r32 ((Int32.ofInt x).toUInt32 >>> ((Int32.ofInt y).toUInt32 &&& Int32.toUInt32 31)).toInt32) H locs lsr hH hL hl o1 (dk_cc (dk_iok (dk_r32 ((Int32.ofInt x).toUInt32 >>> ((Int32.ofInt y).toUInt32 &&& Int32.toUInt32 31)).toInt32)) o2c) hn
  have e : dk_cv G.1 (0, (((Int32.ofInt x).toUInt32 >>> ((Int32.ofInt y).toUInt32 &&& Int32.toUInt32 31)).toInt32).toInt) = .int (((Int32.ofInt x).toUInt32 >>> ((Int32.ofInt y).toUInt32 &&& Int32.toUInt32 31)).toInt32) := congrArg Value.int (Int32.ofInt_toInt _)
  rw [List.map_cons, e] at h
  exact h
theorem dk_cret {E : dkE} {cc : ByteArray} {own : String} {d : Nat} {T : dkT} {l0 : Launch} {G0 : dkG} {n00 : Int} {nL0 mc ms : Nat} (hE : dk_Good E cc own d T l0 G0 n00 nL0 mc ms) {pc : Nat} {ls st : List dkV} {n : Int} {σ : dkS} {z : Int} {P : Option dkV → dkS → Prop} (hR : dk_Ret E (some .char) n P) (hd : decode cc pc = .ok (.ireturn, 1)) (hz : 0 ≤ z ∧ z ≤ 65535) (h : P (some (0, z)) σ) : dk_PJ E pc ls [(0, z)] n σ := by
  obtain ⟨p, l, e, R, s, m, args, below, meth, c, Q, G, Ty, n0, nL⟩ := E
  obtain ⟨hx, hb, hml, hown, hts, hdf, hdl, hG, hlk, hTy, hl0, hG0, hn0, hnL0, hmc, hms, hext⟩ := hE
  subst hTy hl0 hG0 hn0 hnL0
  obtain ⟨hr, rfl⟩ := hR
  intro H locs lsr hH hL hl o1 o2 hn
  exact W.zret hx hb hr (dk_nc hz) (fun t ht hW => ⟨some (0, z), σ, rfl, fun v hv => by cases hv; exact o2 _ (by simp), h, by rw [ht]; exact hH.moved hW.alike⟩) hL hd hlk
theorem dk_bret {E : dkE} {cc : ByteArray} {own : String} {d : Nat} {T : dkT} {l0 : Launch} {G0 : dkG} {n00 : Int} {nL0 mc ms : Nat} (hE : dk_Good E cc own d T l0 G0 n00 nL0 mc ms) {pc : Nat} {ls st : List dkV} {n : Int} {σ : dkS} {z : Int} {P : Option dkV → dkS → Prop} (hR : dk_Ret E (some .byte) n P) (hd : decode cc pc = .ok (.ireturn, 1)) (hz : -128 ≤ z ∧ z ≤ 127) (h : P (some (0, z)) σ) : dk_PJ E pc ls [(0, z)] n σ := by
  obtain ⟨p, l, e, R, s, m, args, below, meth, c, Q, G, Ty, n0, nL⟩ := E
  obtain ⟨hx, hb, hml, hown, hts, hdf, hdl, hG, hlk, hTy, hl0, hG0, hn0, hnL0, hmc, hms, hext⟩ := hE
  subst hTy hl0 hG0 hn0 hnL0
  obtain ⟨hr, rfl⟩ := hR
  intro H locs lsr hH hL hl o1 o2 hn
  exact W.zret hx hb hr (dk_okt_b G.1 z hz).1 (fun t ht hW => ⟨some (0, z), σ, rfl, fun v hv => by cases hv; exact o2 _ (by simp), h, by rw [ht]; exact hH.moved hW.alike⟩) hL hd hlk
