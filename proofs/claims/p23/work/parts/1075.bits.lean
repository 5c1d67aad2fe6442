theorem dk_sl_in (w : Int) : 6 ≤ dk_sl w ∧ dk_sl w ≤ 102 := by
  unfold dk_sl
  split
  · decide
  · split
    · decide
    · split <;> decide
theorem dk_shr0 {x y z : Int} (h : dk_i32 x) (hy : y = 0) (e : z = dk_shr x y) : z = x := by
  subst hy
  rw [e, dk_shr]
  have : Int32.ofInt x >>> (Int32.ofInt 0 &&& 31) = Int32.ofInt x := by
    rw [show Int32.ofInt 0 &&& 31 = 0 by decide]
    simp
  rw [this, dk_t32 h]
theorem dk_and255 {x z : Int} (e : z = dk_and x 255) : 0 ≤ z ∧ z ≤ 255 := by
  have h := pk_and (Int32.ofInt x) (m := Int32.ofInt 255) 8 (by decide)
  rw [e, dk_and, h, nI_toInt (by omega)]
  omega
