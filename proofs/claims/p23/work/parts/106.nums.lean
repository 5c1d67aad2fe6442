theorem dk_mul_b {a b A B : Int} (ha : 0 ≤ a ∧ a ≤ A) (hb : 0 ≤ b ∧ b ≤ B) : 0 ≤ a * b ∧ a * b ≤ A * B := ⟨Int.mul_nonneg ha.1 hb.1, Int.mul_le_mul ha.2 hb.2 hb.1 (Int.le_trans ha.1 ha.2)⟩
theorem dk_div4 {x z : Int} (h0 : 0 ≤ x) (h1 : x ≤ 2147483647) (h : z = dk_div x 4) : 0 ≤ z ∧ z ≤ x := by
  obtain ⟨n, rfl⟩ : ∃ n : Nat, x = n := ⟨x.toNat, by omega⟩
  have e : Int32.ofInt (n : Int) / Int32.ofInt 4 = nI (n / 4) := pk_div (a := n) (d := 4) (by omega) (by omega) (by omega)
  rw [h, dk_div, e, nI_toInt (by omega)]
  omega
