/-! what holds of a score between the calls -/
def sOk (σ : dkS) (s : Int) : Prop :=
  (∀ p : Int, 0 ≤ p → p < σ s 12 → 0 ≤ σ (s + 16) p ∧ σ (s + 16) p < σ s 11 ∧ σ (s + 21) (σ (s + 16) p) ≤ p ∧ p < σ (s + 21) (σ (s + 16) p) + 8) ∧
  (∀ w : Int, 0 ≤ w → w < 4 → σ (s + 21) w + σ (s + 22) w ≤ 12) ∧
  (1 ≤ σ s 11 → σ (s + 21) (σ s 11 - 1) + σ (s + 22) (σ s 11 - 1) = σ s 12) ∧
  (∀ p c : Int, 0 ≤ p → p < 12 → 0 ≤ c → c < σ (s + 17) p → σ (s + 20) p = 0 → σ (s + 4 + p) c ≤ 5)
def GI (σ : dkS) : Prop := sOk σ 95 ∧ sOk σ 118
theorem GI.of {σ : dkS} (h : GI σ) {s : Int} (hs : dk_sc s) : sOk σ s := by
  rcases hs with rfl | rfl
  · exact h.1
  · exact h.2
/-- the slots that it speaks of -/
abbrev sFP (k j : Int) : Prop := ((k = 95 ∨ k = 118) ∧ (j = 11 ∨ j = 12)) ∨ (99 ≤ k ∧ k ≤ 112) ∨ (115 ≤ k ∧ k ≤ 117) ∨ (122 ≤ k ∧ k ≤ 135) ∨ (138 ≤ k ∧ k ≤ 140)
theorem sOk_fr {σ σ' : dkS} {s : Int} (hs : dk_sc s) (h : sOk σ s) (f : ∀ k j : Int, sFP k j → σ' k j = σ k j) : sOk σ' s := by
  obtain ⟨h1, h2, h3, h4⟩ := h
  have b11 : σ' s 11 = σ s 11 := f s 11 (by omega)
  have b12 : σ' s 12 = σ s 12 := f s 12 (by omega)
  have a16 : ∀ j, σ' (s + 16) j = σ (s + 16) j := fun j => f _ j (by omega)
  have a17 : ∀ j, σ' (s + 17) j = σ (s + 17) j := fun j => f _ j (by omega)
  have a20 : ∀ j, σ' (s + 20) j = σ (s + 20) j := fun j => f _ j (by omega)
  have a21 : ∀ j, σ' (s + 21) j = σ (s + 21) j := fun j => f _ j (by omega)
  have a22 : ∀ j, σ' (s + 22) j = σ (s + 22) j := fun j => f _ j (by omega)
  refine ⟨fun p p0 p1 => ?_, fun w w0 w1 => ?_, fun w => ?_, fun p c p0 p1 c0 c1 n0 => ?_⟩
  · rw [b12] at p1
    simp only [a16, b11, a21]
    exact h1 p p0 p1
  · rw [a21, a22]
    exact h2 w w0 w1
  · rw [b11] at w
    simp only [b11, b12, a21, a22]
    exact h3 w
  · rw [a17] at c1
    rw [a20] at n0
    rw [f _ c (by omega)]
    exact h4 p c p0 p1 c0 c1 n0
theorem GI_fr {σ σ' : dkS} (h : GI σ) (f : ∀ k j : Int, sFP k j → σ' k j = σ k j) : GI σ' := ⟨sOk_fr (Or.inl rfl) h.1 f, sOk_fr (Or.inr rfl) h.2 f⟩
/-- one of the two changes, the other stays -/
theorem GI_one {σ σ' : dkS} (h : GI σ) {s : Int} (hs : dk_sc s) (f : ∀ k j : Int, (k < s ∨ s + 22 < k) → σ' k j = σ k j) (h1 : sOk σ' s) : GI σ' := by
  have other : ∀ t : Int, dk_sc t → t ≠ s → sOk σ t → sOk σ' t := by
    intro t ht hn hk
    obtain ⟨h1, h2, h3, h4⟩ := hk
    have b : ∀ o j : Int, 0 ≤ o → o ≤ 22 → σ' (t + o) j = σ (t + o) j := fun o j h0 h1 => f _ j (by omega)
    have b0 : ∀ j : Int, σ' t j = σ t j := fun j => f _ j (by omega)
    refine ⟨fun p p0 p1 => ?_, fun w w0 w1 => ?_, fun w => ?_, fun p c p0 p1 c0 c1 n0 => ?_⟩
    · rw [b0] at p1
      simp only [b 16 _ (by decide) (by decide), b0, b 21 _ (by decide) (by decide)]
      exact h1 p p0 p1
    · rw [b 21 _ (by decide) (by decide), b 22 _ (by decide) (by decide)]
      exact h2 w w0 w1
    · rw [b0] at w
      simp only [b0, b 21 _ (by decide) (by decide), b 22 _ (by decide) (by decide)]
      exact h3 w
    · rw [b 17 _ (by decide) (by decide)] at c1
      rw [b 20 _ (by decide) (by decide)] at n0
      rw [f _ c (by omega)]
      exact h4 p c p0 p1 c0 c1 n0
  rcases hs with rfl | rfl
  · exact ⟨h1, other 118 (Or.inr rfl) (by decide) h.2⟩
  · exact ⟨other 95 (Or.inl rfl) (by decide) h.1, h1⟩
theorem GI_clear {σ σ' : dkS} (h : GI σ) {s : Int} (hs : dk_sc s) (f : ∀ k j : Int, ¬ ((k = s ∧ j = 11) ∨ (k = s ∧ j = 12) ∨ (k = s ∧ j = 13) ∨ (k = s ∧ j = 14) ∨ (k = s ∧ j = 15) ∨ (k = s ∧ j = 16)) → σ' k j = σ k j) (e1 : σ' s 11 = 0) (e2 : σ' s 12 = 0) : GI σ' := by
  obtain ⟨h1, h2, h3, h4⟩ := h.of hs
  refine GI_one h hs (fun k j q => f k j (by omega)) ⟨fun p p0 p1 => ?_, fun w w0 w1 => ?_, fun w => ?_, fun p c p0 p1 c0 c1 n0 => ?_⟩
  · omega
  · rw [f _ _ (by omega), f _ _ (by omega)]
    exact h2 w w0 w1
  · omega
  · rw [f _ _ (by omega)] at c1 n0
    rw [f _ _ (by omega)]
    exact h4 p c p0 p1 c0 c1 n0
theorem GI_work {σ σ1 σ2 σ3 : dkS} {s w p z : Int} (h : GI σ) (hs : dk_sc s) (hw : σ s 11 = w) (hw4 : 0 ≤ w ∧ w < 4) (hp : σ s 12 = p) (hp0 : 0 ≤ p ∧ p ≤ 12) (hz : z = w + 1) (e1 : σ1 = dk_up σ (s + 21) w p) (e2 : σ2 = dk_up σ1 (s + 22) w 0) (e3 : σ3 = dk_up σ2 s 11 z) : GI σ3 := by
  obtain ⟨h1, h2, h3, h4⟩ := h.of hs
  subst hz
  have f : ∀ k j : Int, ¬ (k = s + 21 ∧ j = w) → ¬ (k = s + 22 ∧ j = w) → ¬ (k = s ∧ j = 11) → σ3 k j = σ k j := fun k j a b c => by rw [e3, dk_up_n c, e2, dk_up_n b, e1, dk_up_n a]
  have g11 : σ3 s 11 = w + 1 := by rw [e3, dk_up_s]
  have g12 : σ3 s 12 = p := by rw [f _ _ (by omega) (by omega) (by omega)]; exact hp
  have g21 : σ3 (s + 21) w = p := by rw [e3, dk_up_n (by omega), e2, dk_up_n (by omega), e1, dk_up_s]
  have g22 : σ3 (s + 22) w = 0 := by rw [e3, dk_up_n (by omega), e2, dk_up_s]
  refine GI_one h hs (fun k j q => f k j (by omega) (by omega) (by omega)) ⟨fun q q0 q1 => ?_, fun q q0 q1 => ?_, fun _ => ?_, fun q c q0 q1 c0 c1 n0 => ?_⟩
  · obtain ⟨a1, a2, a3, a4⟩ := h1 q q0 (by omega)
    rw [f (s + 16) q (by omega) (by omega) (by omega), g11, f (s + 21) (σ (s + 16) q) (by omega) (by omega) (by omega)]
    omega
  · by_cases e : q = w
    · subst e
      omega
    · rw [f _ _ (by omega) (by omega) (by omega), f _ _ (by omega) (by omega) (by omega)]
      exact h2 q q0 q1
  · rw [g11, show w + 1 - 1 = w by omega]
    omega
  · rw [f _ _ (by omega) (by omega) (by omega)] at c1 n0
    rw [f _ _ (by omega) (by omega) (by omega)]
    exact h4 q c q0 q1 c0 c1 n0
theorem GI_part1 {σ σ1 σ2 σ3 : dkS} {s p w b : Int} (h : GI σ) (hs : dk_sc s) (hp : σ s 12 = p) (hp0 : 0 ≤ p ∧ p < 12) (e1 : σ1 = dk_up σ (s + 16) p w) (e2 : σ2 = dk_up σ1 (s + 20) p b) (e3 : σ3 = dk_up σ2 (s + 17) p 0) : GI σ3 := by
  obtain ⟨h1, h2, h3, h4⟩ := h.of hs
  have f : ∀ k j : Int, ¬ (k = s + 16 ∧ j = p) → ¬ (k = s + 20 ∧ j = p) → ¬ (k = s + 17 ∧ j = p) → σ3 k j = σ k j := fun k j a b c => by rw [e3, dk_up_n c, e2, dk_up_n b, e1, dk_up_n a]
  have g12 : σ3 s 12 = p := by rw [f _ _ (by omega) (by omega) (by omega)]; exact hp
  have g11 : σ3 s 11 = σ s 11 := f _ _ (by omega) (by omega) (by omega)
  have g17 : σ3 (s + 17) p = 0 := by rw [e3, dk_up_s]
  refine GI_one h hs (fun k j q => f k j (by omega) (by omega) (by omega)) ⟨fun q q0 q1 => ?_, fun q q0 q1 => ?_, fun q => ?_, fun q c q0 q1 c0 c1 n0 => ?_⟩
  · obtain ⟨a1, a2, a3, a4⟩ := h1 q q0 (by omega)
    rw [f (s + 16) q (by omega) (by omega) (by omega), g11, f (s + 21) (σ (s + 16) q) (by omega) (by omega) (by omega)]
    omega
  · rw [f _ _ (by omega) (by omega) (by omega), f _ _ (by omega) (by omega) (by omega)]
    exact h2 q q0 q1
  · rw [g11] at q
    rw [g11, g12, f _ _ (by omega) (by omega) (by omega), f _ _ (by omega) (by omega) (by omega)]
    have := h3 q
    omega
  · by_cases e : q = p
    · subst e
      omega
    · rw [f _ _ (by omega) (by omega) (by omega)] at c1 n0
      rw [f _ _ (by omega) (by omega) (by omega)]
      exact h4 q c q0 q1 c0 c1 n0
theorem GI_part2 {σ σ1 σ2 : dkS} {s p w q z y : Int} (h : GI σ) (hs : dk_sc s) (hp : σ s 12 = p) (hp0 : 0 ≤ p ∧ p < 12) (hw : σ s 11 = w + 1) (hw0 : 0 ≤ w ∧ w < 4) (ho : σ (s + 16) p = w) (hq : σ (s + 22) w = q) (hq0 : 0 ≤ q ∧ q < 8) (hz : z = p + 1) (hy : y = q + 1) (e1 : σ1 = dk_up σ s 12 z) (e2 : σ2 = dk_up σ1 (s + 22) w y) : GI σ2 := by
  obtain ⟨h1, h2, h3, h4⟩ := h.of hs
  subst hz hy
  have f : ∀ k j : Int, ¬ (k = s ∧ j = 12) → ¬ (k = s + 22 ∧ j = w) → σ2 k j = σ k j := fun k j a b => by rw [e2, dk_up_n b, e1, dk_up_n a]
  have g12 : σ2 s 12 = p + 1 := by rw [e2, dk_up_n (by omega), e1, dk_up_s]
  have g11 : σ2 s 11 = w + 1 := by rw [f _ _ (by omega) (by omega)]; exact hw
  have g22 : σ2 (s + 22) w = q + 1 := by rw [e2, dk_up_s]
  have k3 := h3 (by omega)
  rw [hw, show w + 1 - 1 = w by omega, hq, hp] at k3
  have k21 : σ2 (s + 21) w = σ (s + 21) w := f _ _ (by omega) (by omega)
  refine GI_one h hs (fun k j q => f k j (by omega) (by omega)) ⟨fun r r0 r1 => ?_, fun r r0 r1 => ?_, fun _ => ?_, fun r c r0 r1 c0 c1 n0 => ?_⟩
  · rw [f (s + 16) r (by omega) (by omega), g11]
    by_cases e : r = p
    · subst e
      rw [ho, k21]
      omega
    · obtain ⟨a1, a2, a3, a4⟩ := h1 r r0 (by omega)
      rw [f (s + 21) (σ (s + 16) r) (by omega) (by omega)]
      omega
  · by_cases e : r = w
    · subst e
      omega
    · rw [f _ _ (by omega) (by omega), f _ _ (by omega) (by omega)]
      exact h2 r r0 r1
  · rw [g11, show w + 1 - 1 = w by omega]
    omega
  · rw [f _ _ (by omega) (by omega)] at c1 n0
    rw [f _ _ (by omega) (by omega)]
    exact h4 r c r0 r1 c0 c1 n0
theorem GI_step {σ σ1 σ2 : dkS} {s p c m z : Int} (h : GI σ) (hs : dk_sc s) (hp0 : 0 ≤ p ∧ p < 12) (hc : σ (s + 17) p = c) (hc0 : 0 ≤ c) (hm : σ (s + 20) p = 0 → m ≤ 5) (hz : z = c + 1) (e1 : σ1 = dk_up σ (s + 4 + p) c m) (e2 : σ2 = dk_up σ1 (s + 17) p z) : GI σ2 := by
  obtain ⟨h1, h2, h3, h4⟩ := h.of hs
  subst hz
  have f : ∀ k j : Int, ¬ (k = s + 4 + p ∧ j = c) → ¬ (k = s + 17 ∧ j = p) → σ2 k j = σ k j := fun k j a b => by rw [e2, dk_up_n b, e1, dk_up_n a]
  have g11 : σ2 s 11 = σ s 11 := f _ _ (by omega) (by omega)
  have g12 : σ2 s 12 = σ s 12 := f _ _ (by omega) (by omega)
  have gm : σ2 (s + 4 + p) c = m := by rw [e2, dk_up_n (by omega), e1, dk_up_s]
  have g17 : σ2 (s + 17) p = c + 1 := by rw [e2, dk_up_s]
  refine GI_one h hs (fun k j q => f k j (by omega) (by omega)) ⟨fun q q0 q1 => ?_, fun q q0 q1 => ?_, fun q => ?_, fun q d q0 q1 d0 d1 n0 => ?_⟩
  · obtain ⟨a1, a2, a3, a4⟩ := h1 q q0 (by omega)
    rw [f (s + 16) q (by omega) (by omega), g11, f (s + 21) (σ (s + 16) q) (by omega) (by omega)]
    exact ⟨a1, a2, a3, a4⟩
  · rw [f _ _ (by omega) (by omega), f _ _ (by omega) (by omega)]
    exact h2 q q0 q1
  · rw [g11] at q
    rw [g11, g12, f _ _ (by omega) (by omega), f _ _ (by omega) (by omega)]
    exact h3 q
  · rw [f (s + 20) q (by omega) (by omega)] at n0
    by_cases e : q = p
    · subst e
      rw [g17] at d1
      by_cases e2 : d = c
      · subst e2
        rw [gm]
        exact hm n0
      · rw [f _ _ (by omega) (by omega)]
        exact h4 q d q0 q1 d0 (by omega) n0
    · rw [f _ _ (by omega) (by omega)] at d1
      rw [f _ _ (by omega) (by omega)]
      exact h4 q d q0 q1 d0 d1 n0
