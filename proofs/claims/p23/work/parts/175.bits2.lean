theorem dk_shl1 {b z : Int} (hb : 0 ≤ b ∧ b ≤ 12) (e : z = dk_shl 1 b) : 1 ≤ z ∧ z ≤ 4096 ∧ (b ≤ 9 → z ≤ 512) ∧ (b ≤ 10 → z ≤ 1024) := by
  rcases (show b = 0 ∨ b = 1 ∨ b = 2 ∨ b = 3 ∨ b = 4 ∨ b = 5 ∨ b = 6 ∨ b = 7 ∨ b = 8 ∨ b = 9 ∨ b = 10 ∨ b = 11 ∨ b = 12 by omega) with rfl | rfl | rfl | rfl | rfl | rfl | rfl | rfl | rfl | rfl | rfl | rfl | rfl <;> (rw [e]; decide)
theorem dk_fa_or (a b : Nat) : nI a ||| nI b = nI (a ||| b) := by
  apply Int32.toBitVec.inj
  show BitVec.ofNat 32 a ||| BitVec.ofNat 32 b = BitVec.ofNat 32 (a ||| b)
  apply BitVec.eq_of_toNat_eq
  simp only [BitVec.toNat_or, BitVec.toNat_ofNat, Nat.or_mod_two_pow]
theorem dk_or1024 {x y z : Int} (hx : 0 ≤ x ∧ x ≤ 1023) (hy : 0 ≤ y ∧ y ≤ 1023) (e : z = dk_or x y) : 0 ≤ z ∧ z ≤ 1023 := by
  obtain ⟨a, rfl⟩ : ∃ n : Nat, x = n := ⟨x.toNat, by omega⟩
  obtain ⟨b, rfl⟩ : ∃ n : Nat, y = n := ⟨y.toNat, by omega⟩
  have h : Int32.ofInt (a : Int) ||| Int32.ofInt (b : Int) = nI (a ||| b) := dk_fa_or a b
  have hl : a ||| b < 2 ^ 10 := Nat.or_lt_two_pow (by omega) (by omega)
  rw [e, dk_or, h, nI_toInt (by omega)]
  omega
