/-- an array of arrays -/
theorem dk_multi {E : dkE} {cc : ByteArray} {own : String} {d : Nat} {l0 : Launch} {G0 : dkG} {n00 : Int} {nL0 mc ms : Nat} (hE : dk_Good E cc own d dk_T0 l0 G0 n00 nL0 mc ms) {pc pc' : Nat} {ls st : List dkV} {n n' : Int} {σ : dkS} {S SI ix N M tc ti : Nat} {zN zM : Int} {ty : FieldType} (hw1 : Cond.classLink own ix ("[" ++ (FieldType.array ty).toString) ∈ lw_g) (hw2 : dk_Gn G0 ∧ (ty = .int ∨ ty = .long)) (hw3 : Cond.arrayClass ty ∈ lw_g) (hto : dk_ety tc = .array ty) (hti : dk_ety ti = ty) (htc : (tc = 5 ∧ ti = 0) ∨ (tc = 6 ∧ ti = 3)) (hd : decode cc pc = .ok (.multianewarray ix 2, 4)) (hs : dk_site n = S) (hsh : dk_shp S = .inr (tc, N)) (hsi : ∀ k : Int, n < k → k < n' → dk_site k = SI) (hshi : dk_shp SI = .inr (ti, M)) (hN : N ≤ 1000) (hM : M ≤ 10000) (hzN : zN = (N : Int)) (hzM : zM = (M : Int)) (h0 : 0 ≤ n) (hm : (n - n00).toNat + (1 + N) ≤ mc ∧ dk_tot n - dk_tot n00 + (N + N * M) ≤ ms ∧ dk_tot n00 ≤ dk_tot n ∧ dk_tot n' = dk_tot n + (N + N * M)) (hn' : n + 1 + (N : Int) = n') (hp : pc + 4 = pc') (K : ∀ σ1 : dkS, (∀ k j : Int, ¬ (n ≤ k ∧ k < n') → σ1 k j = σ k j) → (∀ j : Int, σ1 n j = n + 1 + j) → (∀ k j : Int, n < k → k < n' → σ1 k j = 0) → dk_PJ E pc' ls ((4, n) :: st) n' σ1) : dk_PJ E pc ls ((0, zM) :: (0, zN) :: st) n σ := by
  obtain ⟨p, l, e, R, s, m, args, below, meth, c, Q, G, Ty, n0, nL⟩ := E
  obtain ⟨hx, hb, hml, hown, hts, hdf, hdl, hG, hlk0, hTy, hl0, hG0, hn0, hnL0, hmc, hms, hext⟩ := hE
  subst hTy hl0 hG0 hn0 hnL0
  subst hp hzN hzM
  intro H locs lsr hH hL hl o1 o2 hn
  have hak := hG.1 n h0
  have hsz := hH.2.2.1
  obtain ⟨hm1, hm2, hm3, hm4⟩ := hm
  obtain ⟨x1, x2⟩ := dk_ix (i := (N : Int)) (len := N + 1) (by omega) ⟨by omega, by omega⟩
  obtain ⟨y1, y2⟩ := dk_ix (i := (M : Int)) (len := M + 1) (by omega) ⟨by omega, by omega⟩
  rw [Int.toNat_natCast] at x2 y2
  have hcb : M * componentBytes ty ≤ 536870912 := by
    have : componentBytes ty ≤ 8 := by
      rw [← hti]
      rcases htc with ⟨-, rfl⟩ | ⟨-, rfl⟩ <;> decide
    have t := Nat.mul_le_mul hM this
    omega
  have hdv : defaultValue ty = dk_dv ti := by
    rw [← hti]
    rcases htc with ⟨-, rfl⟩ | ⟨-, rfl⟩ <;> rfl
  have hdz : dk_dz ti = 0 := by rcases htc with ⟨-, rfl⟩ | ⟨-, rfl⟩ <;> rfl
  have htg : dk_tg tc = 4 := by rcases htc with ⟨rfl, -⟩ | ⟨rfl, -⟩ <;> rfl
  rw [List.map_cons, List.map_cons]
  refine dk_Wmulti (ty := ty) hx hb hown (hts _ hw1) (over_moved (Vm.Alike.refl _) ((hw2.1 s hext).2.1 ty hw2.2)) (hts _ hw3) hd x2 y2 (fun q => x1 (Or.inl q)) (fun q => y1 (Or.inl q)) (by omega) hcb (by omega) (by rw [← hti]; rcases htc with ⟨-, rfl⟩ | ⟨-, rfl⟩ <;> rfl) (by rw [← hti]; rcases htc with ⟨-, rfl⟩ | ⟨-, rfl⟩ <;> rfl) (Nat.le_trans hm1 hmc) (Nat.le_trans hm2 hms) fun H1 L cA cI hLb z1 oo e1 e2 hA1 hA2 hI1 hI2 => ?_
  obtain ⟨σ1, hσ⟩ : ∃ σ1 : dkS, σ1 = fun k j => if k = n then n + 1 + j else if n < k ∧ k < n' then 0 else σ k j := ⟨_, rfl⟩
  have g1 : ∀ k j : Int, ¬ (n ≤ k ∧ k < n') → σ1 k j = σ k j := fun k j q => by
    rw [hσ]
    show (if k = n then _ else if n < k ∧ k < n' then _ else _) = _
    rw [if_neg (by omega), if_neg (by omega)]
  have g2 : ∀ j : Int, σ1 n j = n + 1 + j := fun j => by
    rw [hσ]
    show (if n = n then _ else _) = _
    rw [if_pos rfl]
  have g3 : ∀ k j : Int, n < k → k < n' → σ1 k j = 0 := fun k j q1 q2 => by
    rw [hσ]
    show (if k = n then _ else if n < k ∧ k < n' then _ else _) = _
    rw [if_neg (by omega), if_pos ⟨q1, q2⟩]
  have hH1 : dk_Hold G dk_T0 s n' σ1 H1 := by
    obtain ⟨a1, a2, a3, a4, a5⟩ := hH
    refine ⟨trivial, by omega, by omega, fun q hq => by rw [oo q (by omega)]; exact a4 q hq, fun k hk0 hk => ?_⟩
    have hak2 := hG.1 k hk0
    by_cases c1 : k < n
    · obtain ⟨b1, b2⟩ := a5 k hk0 c1
      refine ⟨dk_cell_kept (fun j => g1 k j (by omega)) (oo _ (by rw [hak2]; omega)) b1, fun j q => ?_⟩
      rw [g1 k _ (by omega)]
      exact b2 j q
    · by_cases c2 : k = n
      · subst c2
        refine ⟨?_, fun j q => ⟨?_, trivial⟩⟩
        · unfold dk_cell
          rw [hs, hsh]
          refine ⟨cA, by rw [hto]; exact hA1, by rw [hto]; exact hA2, ?_⟩
          rw [hak2, ← a3, e1]
          congr 2
          funext j
          rw [htg, g2, dk_cv_r (by omega), hG.1 _ (by omega)]
          exact congrArg Value.ref (show H.size + 1 + j = G.2.1 + (k + 1 + (j : Int)).toNat by omega)
        · rw [hs, dk_stc, hsh]
          rcases htc with ⟨rfl, -⟩ | ⟨rfl, -⟩ <;> trivial
      · have c3 : n < k := by omega
        refine ⟨?_, fun j q => ⟨?_, trivial⟩⟩
        · unfold dk_cell
          rw [hsi k c3 hk, hshi]
          refine ⟨cI, by rw [hti]; exact hI1, ?_, ?_⟩
          · rw [hti]
            rcases htc with ⟨-, rfl⟩ | ⟨-, rfl⟩ <;> (rw [← hti]; rw [← hti] at hI2; exact hI2)
          · have e3 := e2 (k - n - 1).toNat (by omega)
            rw [show H.size + 1 + (k - n - 1).toNat = G.2.1 + k.toNat by omega] at e3
            rw [hak2, e3, hdv]
            congr 2
            funext j
            show dk_dv ti = dk_cv G.1 (dk_tg ti, σ1 k (j : Int))
            rw [g3 k _ c3 hk, ← hdz]
            exact (dk_dv_cv G.1 ti).symm
        · rw [g3 k _ c3 hk, hsi k c3 hk, dk_stc, hshi, ← hdz]
          exact dk_dz_cn ti
  have hW := K σ1 g1 g2 g3 H1 (locs ++ L) lsr hH1 (fun q hq => by
    rcases List.mem_append.mp hq with h | h
    · exact hL q h
    · rw [hLb q h, hsz]; omega) hl o1 (dk_cc (dk_rok n) (dk_c2 o2).2.2) (by omega)
  rw [List.map_cons, dk_cv_r h0, hak, ← hsz, hm4, show (n' - n0).toNat = (n - n0).toNat + 1 + N by omega, show dk_tot n + (N + N * M) - dk_tot n0 = dk_tot n - dk_tot n0 + N + N * M by omega] at hW
  exact hW
/-- a Ruling into its array -/
theorem dk_aast {E : dkE} {cc : ByteArray} {own : String} {d : Nat} {T : dkT} {l0 : Launch} {G0 : dkG} {n00 : Int} {nL0 mc ms : Nat} (hE : dk_Good E cc own d T l0 G0 n00 nL0 mc ms) {pc pc' : Nat} {ls st : List dkV} {n : Int} {σ : dkS} {k i v : Int} {S len : Nat} (hd : decode cc pc = .ok (.aastore, 1)) (hk : dk_is n S k) (hS : dk_shp S = .inr (4, len)) (hv : dk_is n 3 v) (hi : 0 ≤ i ∧ i < len) (ht : T k i v) (hp : pc + 1 = pc') (K : dk_PJ E pc' ls st n (dk_up σ k i v)) : dk_PJ E pc ls ((4, v) :: (0, i) :: (4, k) :: st) n σ := by
  obtain ⟨p, l, e, R, s, m, args, below, meth, c, Q, G, Ty, n0, nL⟩ := E
  obtain ⟨hx, hb, hml, hown, hts, hdf, hdl, hG, hlk, hTy, hl0, hG0, hn0, hnL0, hmc, hms, hext⟩ := hE
  subst hTy hl0 hG0 hn0 hnL0
  subst hp
  intro H locs lsr hH hL hl o1 o2 hn
  obtain ⟨o2z, o2y⟩ := dk_c1 o2
  obtain ⟨o2a, o2b, o2c⟩ := dk_c2 o2y
  obtain ⟨hk0, hkn, hks⟩ := hk
  obtain ⟨hv0, hvn, hvs⟩ := hv
  obtain ⟨hcell, hsl⟩ := hH.2.2.2.2 k hk0 hkn
  obtain ⟨hcv, -⟩ := hH.2.2.2.2 v hv0 hvn
  have hin : ((i.toNat : Nat) : Int) = i := by omega
  have hlt : i.toNat < len := by omega
  unfold dk_cell at hcell hcv
  rw [hks, hS] at hcell
  rw [hvs, show dk_shp 3 = .inl 3 from rfl] at hcv
  obtain ⟨cA, hA1, ⟨kA, comp, k1, k2, k3, k4⟩, hA3⟩ := hcell
  obtain ⟨q, cC, iS, hq, hKn, cv, g1, g2, g3, g4⟩ := hcv
  have hqe : q = (RX3, TX3, 5) := (Option.some.inj hq).symm
  subst hqe
  have hcls := hKn.2
  have hcomp : comp = cC := Option.some.inj (k3.symm.trans hcls.1)
  subst hcomp
  obtain ⟨kC, hkC, -⟩ := hcls.2
  obtain ⟨x1, x2⟩ := dk_ix hi (dk_oki o2a)
  rw [List.map_cons, List.map_cons, List.map_cons, dk_cv_r hk0, dk_cv_r hv0]
  refine W.aast hx hb hA3 (fun q h => by cases h) (fun h => by cases h) k1 k2 rfl hkC ⟨fun z => x1 (Or.inl z), by rw [arrV_size, x2]; exact hlt⟩ g1 (fun q h => by rw [g3] at h; cases h) (by rw [g2]; exact hkC) (by rw [g2]; exact va_assign hcls) rfl rfl hd fun H' e1 e2 e3 => ?_
  rw [x2] at e1
  have hcell1 : dk_cell s G.1 H' (dk_up σ k i.toNat v) k := by
    unfold dk_cell
    rw [hks, hS]
    refine ⟨cA, hA1, ⟨kA, comp, k1, k2, k3, k4⟩, ?_⟩
    rw [e1, arrV_store]
    congr 2
    funext j
    unfold updV
    by_cases ej : j = i.toNat
    · subst ej
      rw [if_pos rfl, dk_up_s]
      exact (dk_cv_r hv0).symm
    · rw [if_neg ej, dk_up_n (by omega)]
  have hH1 := hH.put hG hk0 hkn e2 e3 hcell1 (by rw [hks, dk_stc, hS]; trivial) (by rw [hin]; exact ht)
  rw [hin] at hH1
  exact K H' _ lsr hH1 (fun q hq => by
    rcases List.mem_append.mp hq with h | h
    · exact hL q h
    · rw [List.mem_singleton.mp h]
      have := hG.1 k hk0
      show G.2.1 ≤ G.1 k
      omega) hl o1 o2c hn
