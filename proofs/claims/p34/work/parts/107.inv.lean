/-! what holds of a score between the calls -/
def sOk (σ : dkS) (s : Int) : Prop :=
  (∀ p : Int, 0 ≤ p → p < σ s 12 → 0 ≤ σ (s + 16) p ∧ σ (s + 16) p < σ s 11 ∧ σ (s + 21) (σ (s + 16) p) ≤ p ∧ p < σ (s + 21) (σ (s + 16) p) + 8) ∧
  (∀ w : Int, 0 ≤ w → w < 4 → σ (s + 21) w + σ (s + 22) w ≤ 12) ∧
  (1 ≤ σ s 11 → σ (s + 21) (σ s 11 - 1) + σ (s + 22) (σ s 11 - 1) = σ s 12) ∧
  (∀ p c : Int, 0 ≤ p → p < 12 → 0 ≤ c → c < σ (s + 17) p → σ (s + 20) p = 0 → σ (s + 4 + p) c ≤ 5)
def GI (σ : dkS) : Prop := sOk σ 95 ∧ sOk σ 118
theorem GI.of {σ : dkS} (h : GI σ) {s : Int} (hs : dk_sc s) : sOk σ s := by
  rcases hs with rfl | rfl
  · exact h.1
  · exact h.2
theorem sOk_fr {σ σ' : dkS} {s : Int} (hs : dk_sc s) (h : sOk σ s) (f : ∀ k j : Int, (95 ≤ k ∧ k ≤ 140 ∧ k ≠ 96 ∧ k ≠ 97 ∧ k ≠ 119 ∧ k ≠ 120) → σ' k j = σ k j) : sOk σ' s := by
  obtain ⟨h1, h2, h3, h4⟩ := h
  have a0 : ∀ j, σ' s j = σ s j := fun j => f s j (by omega)
  have a16 : ∀ j, σ' (s + 16) j = σ (s + 16) j := fun j => f _ j (by omega)
  have a17 : ∀ j, σ' (s + 17) j = σ (s + 17) j := fun j => f _ j (by omega)
  have a20 : ∀ j, σ' (s + 20) j = σ (s + 20) j := fun j => f _ j (by omega)
  have a21 : ∀ j, σ' (s + 21) j = σ (s + 21) j := fun j => f _ j (by omega)
  have a22 : ∀ j, σ' (s + 22) j = σ (s + 22) j := fun j => f _ j (by omega)
  refine ⟨fun p p0 p1 => ?_, fun w w0 w1 => ?_, fun w => ?_, fun p c p0 p1 c0 c1 n0 => ?_⟩
  · rw [a0] at p1
    simp only [a16, a0, a21]
    exact h1 p p0 p1
  · rw [a21, a22]
    exact h2 w w0 w1
  · rw [a0] at w
    simp only [a0, a21, a22]
    exact h3 w
  · rw [a17] at c1
    rw [a20] at n0
    rw [f _ c (by omega)]
    exact h4 p c p0 p1 c0 c1 n0
theorem GI_fr {σ σ' : dkS} (h : GI σ) (f : ∀ k j : Int, (95 ≤ k ∧ k ≤ 140 ∧ k ≠ 96 ∧ k ≠ 97 ∧ k ≠ 119 ∧ k ≠ 120) → σ' k j = σ k j) : GI σ' := ⟨sOk_fr (Or.inl rfl) h.1 f, sOk_fr (Or.inr rfl) h.2 f⟩
