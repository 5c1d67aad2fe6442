/-! ===== the law's start ===== -/
def dk_tm (i : Nat) : Term := match i with
  | 0 => .string "DanceCompany$Tokens" 17
  | 1 => .string "DanceCompany$Tokens" 70
  | 2 => .string "DanceCompany$ScoreReader" 134
  | _ => .string "DanceCompany$ScoreReader" 136
def dk_mx : List Int32 := [0, 1, 0, -1, 0, 0]
def dk_my : List Int32 := [-1, 0, 1, 0, 0, 0]
theorem dk_Stat.moved {ad : Int → Nat} {ba : Nat} {H : Heap} {u U : State} (hvm : u.vm.Alike U.vm) (hR : ∀ own k tx a, vk_R own k tx a u → vk_R own k tx a U) (h : dk_Stat ad ba H u) : dk_Stat ad ba H U := by
  obtain ⟨⟨h1, f1, h2⟩, ⟨h3, f2, h4⟩, h5, h6, h7, h8, h9, h10, h11⟩ := h
  exact ⟨⟨h1.moved hvm, f1, h2.moved hvm⟩, ⟨h3.moved hvm, f2, h4.moved hvm⟩, h5.moved hvm, h6.imp (fun q => q.moved hvm) (fun q => q.moved hvm), h7.moved hvm, hR _ _ _ _ h8, hR _ _ _ _ h9, hR _ _ _ _ h10, hR _ _ _ _ h11⟩
def FLAT : List Cond := flatC (Jvm.Cond.and given_1 narrow_1)
set_option maxHeartbeats 8000000 in
set_option maxRecDepth 100000 in
theorem law_stat {s : State} {b : Nat} (hts : ∀ w ∈ lw_tbl, w.before #[Value.ref b] s = true) (hgv : (Jvm.Cond.and given_1 narrow_1).before #[Value.ref b] s = true) : ∃ ad : Int → Nat, (∀ k : Int, 0 ≤ k → ad k = s.heap.size + k.toNat) ∧ ad (-40) = b ∧ dk_Stat ad s.heap.size s.heap s := by
  have hs : ∀ c ∈ FLAT, c.before #[Value.ref b] s = true := flat_of_before _ hgv
  have hA : ∀ a : Nat, a < s.heap.size → ¬ dk_A s.heap.size a := fun a h q => absurd (show s.heap.size ≤ a from q) (by omega)
  have mX : ∀ j : Nat, j < 6 → Cond.eq (.elem (.static "DanceCompany$Score" "MOVE_X" "[I") (.int (Int32.ofNat j))) (.int (dk_mx.getD j 0)) ∈ FLAT := by decide +kernel
  have mY : ∀ j : Nat, j < 6 → Cond.eq (.elem (.static "DanceCompany$Score" "MOVE_Y" "[I") (.int (Int32.ofNat j))) (.int (dk_my.getD j 0)) ∈ FLAT := by decide +kernel
  obtain ⟨aX, hX1, hX2⟩ := va_Tof (tm := .static "DanceCompany$Score" "MOVE_X" "[I") (ty := .int) (N := 6) (f := fun j => .int (dk_mx.getD j 0)) (A := dk_A s.heap.size) (by decide) (hs _ (by decide +kernel)) (va_eqt (hs _ (by decide +kernel))) (fun j hj => va_eqt (hs _ (mX j hj))) hA
  obtain ⟨aY, hY1, hY2⟩ := va_Tof (tm := .static "DanceCompany$Score" "MOVE_Y" "[I") (ty := .int) (N := 6) (f := fun j => .int (dk_my.getD j 0)) (A := dk_A s.heap.size) (by decide) (hs _ (by decide +kernel)) (va_eqt (hs _ (by decide +kernel))) (fun j hj => va_eqt (hs _ (mY j hj))) hA
  have hZX := va_Zof (A := dk_A s.heap.size) (hts (.laysStatic "DanceCompany$Score" "MOVE_X" "[I") (by decide +kernel)) (hts (.initialized "DanceCompany$Score") (by decide +kernel)) hX1 hA
  have hZY := va_Zof (A := dk_A s.heap.size) (hts (.laysStatic "DanceCompany$Score" "MOVE_Y" "[I") (by decide +kernel)) (hts (.initialized "DanceCompany$Score") (by decide +kernel)) hY1 hA
  have hZC := va_Zof (A := dk_A s.heap.size) (v := .int 1) (hts (.laysStatic "java/lang/String" "COMPACT_STRINGS" "Z") (by decide +kernel)) (hts (.initialized "java/lang/String") (by decide +kernel)) (va_eqt (hs _ (by decide +kernel))) hA
  have hZF := va_Zqof (A := dk_A s.heap.size) (C := "jdk/internal/util/Preconditions") (n := "SIOOBE_FORMATTER") (d := "Ljava/util/function/BiFunction;") (hts (.laysStatic "jdk/internal/util/Preconditions" "SIOOBE_FORMATTER" "Ljava/util/function/BiFunction;") (by decide +kernel)) (hts (.initialized "jdk/internal/util/Preconditions") (by decide +kernel)) (hs _ (by decide +kernel)) hA
  obtain ⟨adK, adV, hS, hE⟩ := vk_Sof (N := 4) (tm := dk_tm) (len := dk_strL) (byt := dk_strB) (A := dk_A s.heap.size) (by decide) (fun i hi => hs _ ((by decide +kernel : ∀ i : Nat, i < 4 → Cond.exactly (dk_tm i) "java/lang/String" ∈ FLAT) i hi)) (fun i hi => hs _ ((by decide +kernel : ∀ i : Nat, i < 4 → Cond.eq (.field (dk_tm i) "java/lang/String" "coder" "B") (.int 0) ∈ FLAT) i hi)) (fun i hi => hs _ ((by decide +kernel : ∀ i : Nat, i < 4 → Cond.arrayOf (.field (dk_tm i) "java/lang/String" "value" "[B") .byte ∈ FLAT) i hi)) (fun i hi => hs _ ((by decide +kernel : ∀ i : Nat, i < 4 → Cond.eq (.length (.field (dk_tm i) "java/lang/String" "value" "[B")) (.int (Int32.ofNat (dk_strL.getD i 0))) ∈ FLAT) i hi)) (fun i hi j hj => hs _ ((by decide +kernel : ∀ i : Nat, i < 4 → ∀ j : Nat, j < dk_strL.getD i 0 → Cond.eq (.elem (.field (dk_tm i) "java/lang/String" "value" "[B") (.int (Int32.ofNat j))) (.int ((dk_strB.getD i []).getD j 0)) ∈ FLAT) i hi j hj)) (fun i j hi hj hne => by
      rcases (by decide +kernel : ∀ i : Nat, i < 4 → ∀ j : Nat, j < 4 → i ≠ j → Cond.not (Cond.eq (dk_tm i) (dk_tm j)) ∈ FLAT ∨ Cond.not (Cond.eq (dk_tm j) (dk_tm i)) ∈ FLAT) i hi j hj hne with q | q
      · exact Or.inl (hs _ q)
      · exact Or.inr (hs _ q)) hA
  obtain ⟨aF, hF⟩ : ∃ aF : Nat, va_Z "jdk/internal/util/Preconditions" "SIOOBE_FORMATTER" "Ljava/util/function/BiFunction;" .null (dk_A s.heap.size) s s.heap ∨ va_Z "jdk/internal/util/Preconditions" "SIOOBE_FORMATTER" "Ljava/util/function/BiFunction;" (.ref aF) (dk_A s.heap.size) s s.heap := by
    rcases hZF with q | ⟨t, q⟩
    · exact ⟨0, Or.inl q⟩
    · exact ⟨t, Or.inr q⟩
  obtain ⟨ad, had⟩ : ∃ ad : Int → Nat, ad = fun k => if 0 ≤ k then s.heap.size + k.toNat else if k = -2 then aX else if k = -3 then aY else if k = -30 then aF else if k = -40 then b else if -13 ≤ k ∧ k ≤ -10 then adK (-10 - k).toNat else adV (-20 - k).toNat := ⟨_, rfl⟩
  have e2 : ad (-2) = aX := by rw [had]; rfl
  have e3 : ad (-3) = aY := by rw [had]; rfl
  have e30 : ad (-30) = aF := by rw [had]; rfl
  have e40 : ad (-40) = b := by rw [had]; rfl
  have eK : ∀ i : Nat, i < 4 → ad (-10 - (i : Int)) = adK i := fun i hi => by
    rw [had]
    rcases (show i = 0 ∨ i = 1 ∨ i = 2 ∨ i = 3 by omega) with rfl | rfl | rfl | rfl <;> rfl
  have eV : ∀ i : Nat, i < 4 → ad (-20 - (i : Int)) = adV i := fun i hi => by
    rw [had]
    rcases (show i = 0 ∨ i = 1 ∨ i = 2 ∨ i = 3 by omega) with rfl | rfl | rfl | rfl <;> rfl
  refine ⟨ad, fun k hk => by rw [had]; show (if 0 ≤ k then _ else _) = _; rw [if_pos hk], e40, ⟨by rw [e2]; exact hZX, _, by rw [e2]; exact hX2⟩, ⟨by rw [e3]; exact hZY, _, by rw [e3]; exact hY2⟩, hZC, by rw [e30]; exact hF, ⟨fun i hi => ?_, fun i j hi hj q => ?_⟩, ?_, ?_, ?_, ?_⟩
  · have a := hS.1 i hi
    rw [← eK i hi, ← eV i hi] at a
    exact a
  · exact hS.2 i j hi hj ((eK i hi).symm.trans (q.trans (eK j hj)))
  · exact vk_R.of (hts (.stringRef "DanceCompany$Tokens" 17 "floor hard work part note at may cost teach when and or not body known last load idle heavy day counts") (by decide +kernel)) ((hE 0 (by decide)).trans (by rw [← eK 0 (by decide)]; rfl))
  · exact vk_R.of (hts (.stringRef "DanceCompany$Tokens" 70 ";()<>=+-*") (by decide +kernel)) ((hE 1 (by decide)).trans (by rw [← eK 1 (by decide)]; rfl))
  · exact vk_R.of (hts (.stringRef "DanceCompany$ScoreReader" 134 "abcdefgh") (by decide +kernel)) ((hE 2 (by decide)).trans (by rw [← eK 2 (by decide)]; rfl))
  · exact vk_R.of (hts (.stringRef "DanceCompany$ScoreReader" 136 "neswox") (by decide +kernel)) ((hE 3 (by decide)).trans (by rw [← eK 3 (by decide)]; rfl))
theorem law_nst {s : State} {b : Nat} (hts : ∀ w ∈ lw_tbl, w.before #[Value.ref b] s = true) : dk_Nst s := by
  refine ⟨va_AO.of (hts (.arrayOver (.object "DanceCompany$Ruling")) (by decide +kernel)), fun t ht => ?_, fun q hq => ?_⟩
  · rcases ht with rfl | rfl
    · exact over_moved (Vm.Alike.refl _) (hts (.arrayOver (.array .int)) (by decide +kernel))
    · exact over_moved (Vm.Alike.refl _) (hts (.arrayOver (.array .long)) (by decide +kernel))
  · exact va_Nw.of rfl (hts (.methodLinkNest RX10 q.1 q.2 "DanceCompany") ((by decide +kernel : ∀ q ∈ dk_nl, Cond.methodLinkNest RX10 q.1 q.2 "DanceCompany" ∈ lw_tbl) q hq))
