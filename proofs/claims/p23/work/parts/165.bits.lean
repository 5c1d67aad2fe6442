theorem dk_and63 {x z : Int} (e : z = dk_and x 63) : 0 ≤ z ∧ z ≤ 63 := by
  have h := pk_and (Int32.ofInt x) (m := Int32.ofInt 63) 6 (by decide)
  rw [e, dk_and, h, nI_toInt (by omega)]
  omega
theorem dk_or01 {x y z : Int} (hx : 0 ≤ x ∧ x ≤ 1) (hy : 0 ≤ y ∧ y ≤ 1) (e : z = dk_or x y) : 0 ≤ z ∧ z ≤ 1 := by
  rcases (show x = 0 ∨ x = 1 by omega) with rfl | rfl <;> rcases (show y = 0 ∨ y = 1 by omega) with rfl | rfl <;> (rw [e]; decide)
