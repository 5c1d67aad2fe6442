/-! the reference's reading of texts: at 6, end 7, token 8, size 3, fault 4 of cell 141 -/
/-- the sign at k -/
def tsg (σ : dkS) (k : Int) : Int := if k < σ 141 3 then dk_and (σ 143 k) 255 else 0
theorem tsg_up {σ : dkS} {c j v k : Int} (h : ¬ ((141 : Int) = c ∧ (3 : Int) = j)) (h2 : (143 : Int) ≠ c) : tsg (dk_up σ c j v) k = tsg σ k := by
  unfold tsg
  rw [dk_up_n h, dk_up_k h2]
theorem tsg_fr {σ σ' : dkS} {k : Int} (h : σ' 141 3 = σ 141 3) (h2 : ∀ j, σ' 143 j = σ 143 j) : tsg σ' k = tsg σ k := by
  unfold tsg
  rw [h, h2]
/-- where the reading stands -/
def TK (σ : dkS) : Prop := σ 141 6 ≤ σ 141 7 ∧ σ 141 7 ≤ σ 141 3 ∧ (σ 141 8 ≠ 0 → σ 141 6 < σ 141 7)
/-- the reading went on, or stays -/
def NX (σ σ' : dkS) : Prop := σ' 141 3 = σ 141 3 ∧ TK σ' ∧ σ 141 6 ≤ σ' 141 6 ∧ (1 ≤ σ 141 4 → 1 ≤ σ' 141 4) ∧ (0 ≤ σ 141 4 → 0 ≤ σ' 141 4)
abbrev nFP (k j : Int) : Prop := k = 141 ∧ (j = 3 ∨ j = 4 ∨ j = 6 ∨ j = 7 ∨ j = 8)
theorem TK_fr {b c : dkS} (h : TK b) (f : ∀ k j : Int, nFP k j → c k j = b k j) : TK c := by
  obtain ⟨h1, h2, h3⟩ := h
  have f3 := f 141 3 (by omega)
  have f6 := f 141 6 (by omega)
  have f7 := f 141 7 (by omega)
  have f8 := f 141 8 (by omega)
  refine ⟨by omega, by omega, fun q => ?_⟩
  rw [f8] at q
  have := h3 q
  omega
theorem NX_rf {σ : dkS} (h : TK σ) : NX σ σ := ⟨rfl, h, Int.le_refl _, fun q => q, fun q => q⟩
theorem NX_tk {a b : dkS} (h : NX a b) : TK b := h.2.1
theorem NX_tr {a b c : dkS} (h : NX a b) (k : NX b c) : NX a c := by
  obtain ⟨h1, h2, h3, h4, h5⟩ := h
  obtain ⟨k1, k2, k3, k4, k5⟩ := k
  exact ⟨k1.trans h1, k2, by omega, fun q => k4 (h4 q), fun q => k5 (h5 q)⟩
theorem NX_fr {a b c : dkS} (h : NX a b) (f : ∀ k j : Int, nFP k j → c k j = b k j) : NX a c := by
  obtain ⟨h1, h2, h3, h4, h5⟩ := h
  have f3 := f 141 3 (by omega)
  have f4 := f 141 4 (by omega)
  have f6 := f 141 6 (by omega)
  exact ⟨by omega, TK_fr h2 f, by omega, fun q => by rw [f4]; exact h4 q, fun q => by rw [f4]; exact h5 q⟩
/-- a fault is noted -/
theorem NX_f {a b c : dkS} (h : NX a b) (f : ∀ k j : Int, ¬ ((k = 141 ∧ j = 4) ∨ (k = 141 ∧ j = 5)) → c k j = b k j) (hc : 1 ≤ c 141 4) : NX a c := by
  obtain ⟨h1, ⟨h2, h3, h5⟩, h4, h6⟩ := h
  have f3 := f 141 3 (by omega)
  have f6 := f 141 6 (by omega)
  have f7 := f 141 7 (by omega)
  have f8 := f 141 8 (by omega)
  refine ⟨by omega, ⟨by omega, by omega, fun q => ?_⟩, by omega, fun _ => by omega, fun _ => by omega⟩
  rw [f8] at q
  have := h5 q
  omega
/-- one token on -/
def NY (σ σ' : dkS) : Prop := σ' 141 3 = σ 141 3 ∧ TK σ' ∧ σ 141 7 ≤ σ' 141 6 ∧ σ' 141 4 = σ 141 4
theorem NY_of {a b : dkS} (h3 : b 141 3 = a 141 3) (h4 : b 141 4 = a 141 4) (h7 : b 141 7 ≤ a 141 3) (h6 : a 141 7 ≤ b 141 6) (h : (b 141 8 = 0 ∧ b 141 6 ≤ b 141 7) ∨ b 141 6 < b 141 7) : NY a b :=
  ⟨h3, ⟨by omega, by omega, fun q => by omega⟩, h6, h4⟩
theorem NY_NX {a b : dkS} (h : TK a) (k : NY a b) : NX a b := by
  obtain ⟨k1, k2, k3, k4⟩ := k
  obtain ⟨h1, h2, h3⟩ := h
  exact ⟨k1, k2, by omega, fun q => by omega, fun q => by omega⟩
theorem NX_y {a b c : dkS} (h : NX a b) (k : NY b c) : NX a c := NX_tr h (NY_NX h.2.1 k)
/-- a token was taken, if there was one and no fault -/
def RD (σ σ' : dkS) : Prop := NX σ σ' ∧ (σ 141 4 = 0 → σ 141 8 ≠ 0 → 1 ≤ σ' 141 4 ∨ σ 141 6 < σ' 141 6)
theorem RD_f {a b : dkS} (h : NX a b) (k : 1 ≤ b 141 4) : RD a b := ⟨h, fun _ _ => Or.inl k⟩
theorem RD_y {a b c : dkS} (h : TK a) (y : NY a b) (x : NX b c) : RD a c := by
  refine ⟨NX_tr (NY_NX h y) x, fun _ q => Or.inr ?_⟩
  obtain ⟨k1, k2, k3, k4⟩ := y
  obtain ⟨x1, x2, x3, x4⟩ := x
  have := h.2.2 q
  omega
/-- the step that a sign means -/
def sof (c n : Int) : Int := if n = 0 then (if c = 110 then 0 else if c = 101 then 1 else if c = 115 then 2 else if c = 119 then 3 else if c = 111 then 4 else if c = 120 then 5 else -1) else if c ≤ 104 then c - 97 else -1
/-- the inWork of the bank r counts its parts -/
def PW (r : Int) (σ : dkS) : Prop := ∀ w : Int, 0 ≤ w → w < 4 → σ 156 (4 * r + w) = cw σ (12 * r) w (σ 146 r).toNat ∧ σ 156 (4 * r + w) ≤ 8
/-- what holds while works are read into bank r -/
def TI (r : Int) (σ : dkS) : Prop := MI σ ∧ PW r σ ∧ σ 141 27 = 1 - r ∧ 0 ≤ r ∧ r ≤ 1 ∧ 0 ≤ σ 146 r ∧ σ 146 r ≤ 12
abbrev tFP (k j : Int) : Prop := mFP k j ∨ k = 156
theorem TI_fr {r : Int} {σ σ' : dkS} (h : TI r σ) (f : ∀ k j : Int, tFP k j → σ' k j = σ k j) : TI r σ' := by
  obtain ⟨h1, h2, h3, h4⟩ := h
  refine ⟨MI_fr h1 (fun k j a => f k j (Or.inl a)), fun w a b => ?_, ?_, ?_⟩
  · rw [f 156 _ (by omega), f 146 _ (by omega), cw_fr (fun j => f 151 j (by omega))]
    exact h2 w a b
  · rw [f 141 27 (by omega)]; exact h3
  · rw [f 146 r (by omega)]; exact h4
theorem cw_lo {σ σ' : dkS} {b w : Int} : ∀ n : Nat, (∀ j, b ≤ j → j < b + n → σ' 151 j = σ 151 j) → cw σ' b w n = cw σ b w n
  | 0, _ => rfl
  | n + 1, h => by rw [cw, cw, cw_lo n (fun j a c => h j a (by omega)), h _ (by omega) (by omega)]
/-- only the bank r is written, above its parts -/
theorem MI_151 {r : Int} {σ σ' : dkS} (h : MI σ) (hb : σ 141 27 = 1 - r) (h01 : 0 ≤ r ∧ r ≤ 1) (f : ∀ k j : Int, mFP k j → ¬ (k = 151 ∧ 12 * r ≤ j ∧ j < 12 * r + 12) → ¬ (k = 146 ∧ j = r) → σ' k j = σ k j) : MI σ' := by
  obtain ⟨h1, h2, h3⟩ := h
  have e27 := f 141 27 (by omega) (by omega) (by omega)
  have h12 := h2.1
  rw [hb] at h12
  refine ⟨fun g g0 g1 => ?_, ⟨by rw [e27, hb, f 146 _ (by omega) (by omega) (by omega)]; exact h12, fun w w0 w1 => ?_⟩, RU_fr h3 (f 141 41 (by omega) (by omega) (by omega)) (fun k j a _ _ => f k j (by omega) (by omega) (by omega))⟩
  · rw [f 141 53 (by omega) (by omega) (by omega)] at g1
    rw [f 170 g (by omega) (by omega) (by omega), f 172 g (by omega) (by omega) (by omega)]
    exact h1 g g0 g1
  · have := h2.2 w w0 w1
    rw [hb] at this
    rw [e27, hb, f 146 _ (by omega) (by omega) (by omega), cw_lo _ (fun j a c => f 151 j (by omega) (by omega) (by omega))]
    exact this
theorem TI_151 {r p z : Int} {σ σ1 : dkS} (h : TI r σ) (hp : p = 12 * r + σ 146 r) (hq : σ 146 r ≤ 11) (e : σ1 = dk_up σ 151 p z) : TI r σ1 := by
  obtain ⟨h1, h2, h3, h4, h5, h6, h7⟩ := h
  have f : ∀ k j : Int, ¬ (k = 151 ∧ j = p) → σ1 k j = σ k j := fun k j q => by rw [e, dk_up_n q]
  have e146 := f 146 r (by omega)
  refine ⟨MI_151 h1 h3 ⟨h4, h5⟩ (fun k j _ a _ => f k j (by omega)), fun w a b => ?_, by rw [f 141 27 (by omega)]; exact h3, h4, h5, by omega, by omega⟩
  rw [f 156 _ (by omega), e146, cw_lo _ (fun j c d => f 151 j (by omega))]
  exact h2 w a b
/-- a part is there -/
theorem TI_part {r q w v p z1 z2 i : Int} {σ σ1 σ2 : dkS} (h : TI r σ) (hq : σ 146 r = q) (hp : p = 12 * r + q) (hq11 : q ≤ 11) (hw : σ 151 p = w) (hw0 : 0 ≤ w ∧ w < 4) (hi : i = 4 * r + w) (hv : v = σ1 156 i) (hv8 : σ 156 i ≤ 7) (hz1 : z1 = q + 1) (hz2 : z2 = v + 1) (e1 : σ1 = dk_up σ 146 r z1) (e2 : σ2 = dk_up σ1 156 i z2) : TI r σ2 := by
  obtain ⟨h1, h2, h3, h4, h5, h6, h7⟩ := h
  have f : ∀ k j : Int, ¬ (k = 146 ∧ j = r) → ¬ (k = 156 ∧ j = i) → σ2 k j = σ k j := fun k j a b => by rw [e2, dk_up_n b, e1, dk_up_n a]
  have g1 : σ2 146 r = q + 1 := by rw [e2, dk_up_n (by omega), e1, dk_up_s, hz1]
  have g2 : σ2 156 i = v + 1 := by rw [e2, dk_up_s, hz2]
  have hv : σ 156 i = v := by rw [hv, e1, dk_up_n (by omega)]
  refine ⟨MI_151 h1 h3 ⟨h4, h5⟩ (fun k j _ a b => f k j (by omega) (by omega)), fun w' a b => ?_, by rw [f 141 27 (by omega) (by omega)]; exact h3, h4, h5, by omega, by omega⟩
  have c0 := h2 w' a b
  obtain ⟨n, hn⟩ : ∃ n : Nat, q = n := ⟨q.toNat, by omega⟩
  have e3 : (q + 1).toNat = n + 1 := by omega
  have e4 : q.toNat = n := by omega
  rw [hq, e4] at c0
  rw [g1, e3, cw, cw_lo n (fun j _ _ => f 151 j (by omega) (by omega)), f 151 _ (by omega) (by omega)]
  have e5 : 12 * r + (n : Int) = p := by omega
  rw [e5, hw]
  by_cases ew : w' = w
  · subst ew
    rw [← hi, hv] at c0
    rw [← hi, g2, if_pos rfl]
    omega
  · rw [f 156 _ (by omega) (by omega), if_neg (fun q => ew q.symm)]
    omega
theorem TI_init {r b : Int} {σ σ' : dkS} (h : MI σ) (hb : σ 141 27 = b) (hr : r = 1 - b) (h01 : 0 ≤ b ∧ b ≤ 1) (f : ∀ k j : Int, mFP k j → ¬ (k = 146 ∧ j = r) → σ' k j = σ k j) (h0 : σ' 146 r = 0) (h156 : ∀ w : Int, 0 ≤ w → w < 4 → σ' 156 (4 * r + w) = 0) : TI r σ' := by
  refine ⟨MI_151 (r := r) h (by omega) (by omega) (fun k j a _ c => f k j a c), fun w a c => ?_, ?_, by omega, by omega, by omega, by omega⟩
  · rw [h156 w a c, h0]
    exact ⟨rfl, by decide⟩
  · rw [f 141 27 (by omega) (by omega)]; omega
/-- the bank is taken -/
theorem MI_bank {r : Int} {σ σ1 σ2 : dkS} (h : TI r σ) (e1 : σ1 = dk_up σ 141 27 r) (e2 : σ2 = dk_up σ1 141 53 0) : MI σ2 := by
  obtain ⟨⟨h1, h2, h3⟩, h4, h5⟩ := h
  have f : ∀ k j : Int, ¬ (k = 141 ∧ j = 53) → ¬ (k = 141 ∧ j = 27) → σ2 k j = σ k j := fun k j a b => by rw [e2, dk_up_n a, e1, dk_up_n b]
  have g1 : σ2 141 53 = 0 := by rw [e2, dk_up_s]
  have g2 : σ2 141 27 = r := by rw [e2, dk_up_n (by omega), e1, dk_up_s]
  refine ⟨fun g g0 g1 => by omega, ⟨by rw [g2, f 146 _ (by omega) (by omega)]; omega, fun w a b => ?_⟩, RU_fr h3 (f 141 41 (by omega) (by omega)) (fun k j a _ _ => f k j (by omega) (by omega))⟩
  rw [g2, f 146 _ (by omega) (by omega), cw_lo _ (fun j _ _ => f 151 j (by omega) (by omega))]
  have := h4 w a b
  omega
/-- both together -/
def RX (r : Int) (σ σ' : dkS) : Prop := NX σ σ' ∧ TI r σ'
abbrev xFP (k j : Int) : Prop := nFP k j ∨ tFP k j
theorem RX_fr {r : Int} {a b c : dkS} (h : RX r a b) (f : ∀ k j : Int, xFP k j → c k j = b k j) : RX r a c := ⟨NX_fr h.1 (fun k j p => f k j (Or.inl p)), TI_fr h.2 (fun k j p => f k j (Or.inr p))⟩
theorem RX_tr {r : Int} {a b c : dkS} (h : RX r a b) (k : NX b c) (f : ∀ k j : Int, tFP k j → c k j = b k j) : RX r a c := ⟨NX_tr h.1 k, TI_fr h.2 f⟩
theorem RX_y {r : Int} {a b c : dkS} (h : RX r a b) (k : NY b c) (f : ∀ k j : Int, tFP k j → c k j = b k j) : RX r a c := ⟨NX_y h.1 k, TI_fr h.2 f⟩
theorem RX_f {r : Int} {a b c : dkS} (h : RX r a b) (f : ∀ k j : Int, ¬ ((k = 141 ∧ j = 4) ∨ (k = 141 ∧ j = 5)) → c k j = b k j) (hc : 1 ≤ c 141 4) : RX r a c := ⟨NX_f h.1 f hc, TI_fr h.2 (fun k j p => f k j (by omega))⟩
theorem RX_rx {r : Int} {a b c : dkS} (h : RX r a b) (k : RX r b c) : RX r a c := ⟨NX_tr h.1 k.1, k.2⟩
theorem RX_of {r : Int} {σ : dkS} (h : TK σ) (k : TI r σ) : RX r σ σ := ⟨NX_rf h, k⟩
