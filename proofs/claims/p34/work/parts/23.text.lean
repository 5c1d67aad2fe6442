/-! the reference's reading of texts: at 6, end 7, token 8, size 3, fault 4 of cell 141 -/
/-- the sign at k -/
def tsg (σ : dkS) (k : Int) : Int := if k < σ 141 3 then dk_and (σ 143 k) 255 else 0
theorem tsg_up {σ : dkS} {c j v k : Int} (h : ¬ ((141 : Int) = c ∧ (3 : Int) = j)) (h2 : (143 : Int) ≠ c) : tsg (dk_up σ c j v) k = tsg σ k := by
  unfold tsg
  rw [dk_up_n h, dk_up_k h2]
theorem tsg_fr {σ σ' : dkS} {k : Int} (h : σ' 141 3 = σ 141 3) (h2 : ∀ j, σ' 143 j = σ 143 j) : tsg σ' k = tsg σ k := by
  unfold tsg
  rw [h, h2]
theorem dk_and255 {x z : Int} (e : z = dk_and x 255) : 0 ≤ z ∧ z ≤ 255 := by
  have h := pk_and (Int32.ofInt x) (m := Int32.ofInt 255) 8 (by decide)
  rw [e, dk_and, h, nI_toInt (by omega)]
  omega
/-- the reading went on, or stays at the end -/
def NX (σ σ' : dkS) : Prop := σ' 141 3 = σ 141 3 ∧ σ' 141 7 ≤ σ 141 3 ∧ σ 141 7 ≤ σ' 141 7 ∧ (σ 141 4 ≠ 0 → σ' 141 4 ≠ 0) ∧ (σ 141 8 = 0 → σ 141 7 = σ 141 3 → σ' 141 8 = 0 ∧ σ' 141 7 = σ 141 3)
abbrev nFP (k j : Int) : Prop := k = 141 ∧ (j = 3 ∨ j = 4 ∨ j = 7 ∨ j = 8)
theorem NX_rf {σ : dkS} (h : σ 141 7 ≤ σ 141 3) : NX σ σ := ⟨rfl, h, Int.le_refl _, fun q => q, fun a b => ⟨a, b⟩⟩
theorem NX_tr {a b c : dkS} (h : NX a b) (k : NX b c) : NX a c := by
  obtain ⟨h1, h2, h3, h4, h5⟩ := h
  obtain ⟨k1, k2, k3, k4, k5⟩ := k
  refine ⟨k1.trans h1, by omega, by omega, fun q => k4 (h4 q), fun p q => ?_⟩
  obtain ⟨r1, r2⟩ := h5 p q
  obtain ⟨s1, s2⟩ := k5 r1 (by omega)
  exact ⟨s1, by omega⟩
theorem NX_fr {a b c : dkS} (h : NX a b) (f : ∀ k j : Int, nFP k j → c k j = b k j) : NX a c := by
  obtain ⟨h1, h2, h3, h4, h5⟩ := h
  have f3 := f 141 3 (by omega)
  have f4 := f 141 4 (by omega)
  have f7 := f 141 7 (by omega)
  have f8 := f 141 8 (by omega)
  refine ⟨by omega, by omega, by omega, fun q => by rw [f4]; exact h4 q, fun p q => ?_⟩
  rw [f8, f7]
  exact h5 p q
theorem NX_e {a b : dkS} (h : NX a b) : b 141 7 ≤ b 141 3 := by obtain ⟨h1, h2, -⟩ := h; omega
/-- a fault is noted -/
theorem NX_f {a b c : dkS} (h : NX a b) (f : ∀ k j : Int, ¬ ((k = 141 ∧ j = 4) ∨ (k = 141 ∧ j = 5)) → c k j = b k j) (hc : 1 ≤ c 141 4) : NX a c := by
  obtain ⟨h1, h2, h3, h4, h5⟩ := h
  have f3 := f 141 3 (by omega)
  have f7 := f 141 7 (by omega)
  have f8 := f 141 8 (by omega)
  refine ⟨by omega, by omega, by omega, fun _ => by omega, fun p q => ?_⟩
  rw [f8, f7]
  exact h5 p q
/-- one token on -/
def NY (σ σ' : dkS) : Prop := NX σ σ' ∧ (σ' 141 8 = 0 ∨ σ 141 7 < σ' 141 7)
theorem NY_of {a b : dkS} (h3 : b 141 3 = a 141 3) (h4 : b 141 4 = a 141 4) (h : (b 141 8 = 0 ∧ b 141 7 = a 141 3 ∧ a 141 7 ≤ a 141 3) ∨ (a 141 7 < b 141 7 ∧ b 141 7 ≤ a 141 3)) : NY a b := by
  refine ⟨⟨h3, by omega, by omega, fun q => by omega, fun p q => ?_⟩, ?_⟩
  · omega
  · omega
