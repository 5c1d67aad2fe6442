/-! what holds of the reference between the calls -/
def FI (σ : dkS) : Prop := ∀ f : Int, 0 ≤ f → f < σ 141 53 → (σ 170 f = 1 → 0 ≤ σ 172 f ∧ σ 172 f ≤ 11) ∧ (σ 170 f = 4 → 1 ≤ σ 172 f ∧ σ 172 f ≤ 32)
/-- how many of the first n parts of a bank (from place b on) belong to the work w -/
def cw (σ : dkS) (b w : Int) : Nat → Int
  | 0 => 0
  | n + 1 => cw σ b w n + if σ 151 (b + (n : Int)) = w then 1 else 0
def BK (σ : dkS) : Prop := σ 146 (σ 141 27) ≤ 12 ∧ ∀ w : Int, 0 ≤ w → w < 4 → cw σ (12 * σ 141 27) w (σ 146 (σ 141 27)).toNat ≤ 8
abbrev mFP (k j : Int) : Prop := (k = 141 ∧ (j = 27 ∨ j = 41 ∨ j = 53)) ∨ k = 146 ∨ k = 151 ∨ k = 162 ∨ k = 163 ∨ k = 164 ∨ k = 169 ∨ k = 170 ∨ k = 172
/-- the height of the pile behind n signs of code from place b on -/
def hp (σ : dkS) (b : Int) : Nat → Int
  | 0 => 0
  | n + 1 => hp σ b n + (if σ 164 (b + (n : Int)) = 126 then 0 else if 97 ≤ σ 164 (b + (n : Int)) ∧ σ 164 (b + (n : Int)) ≤ 122 then 1 else -1)
/-- the code from place b on, n signs, can be worked out -/
def CD (σ : dkS) (b n : Int) : Prop := ∀ m : Nat, (m : Int) ≤ n → 1 ≤ m → 1 ≤ hp σ b m ∧ hp σ b m ≤ 60
def RU (σ : dkS) : Prop := ∀ r n : Int, 0 ≤ r → r < σ 141 41 → 0 ≤ n → n < 3 → σ 169 (3 * r + n) = 1 → (0 ≤ σ 162 (3 * r + n) ∧ σ 162 (3 * r + n) ≤ 600) ∧ σ 163 (3 * r + n) ≤ 600 ∧ CD σ (600 * r + σ 162 (3 * r + n)) (σ 163 (3 * r + n) - σ 162 (3 * r + n))
def MI (σ : dkS) : Prop := FI σ ∧ BK σ ∧ RU σ
theorem hp_fr {σ σ' : dkS} {b : Int} : ∀ n : Nat, (∀ j, b ≤ j → j < b + n → σ' 164 j = σ 164 j) → hp σ' b n = hp σ b n
  | 0, _ => rfl
  | n + 1, h => by rw [hp, hp, hp_fr n (fun j a c => h j a (by omega)), h _ (by omega) (by omega)]
theorem CD_fr {σ σ' : dkS} {b n : Int} (h : CD σ b n) (f : ∀ j, b ≤ j → j < b + n → σ' 164 j = σ 164 j) : CD σ' b n := fun m a c => by
  rw [hp_fr m (fun j p q => f j p (by omega))]
  exact h m a c
theorem RU_fr {σ σ' : dkS} (h : RU σ) (h41 : σ' 141 41 = σ 141 41) (f : ∀ k j : Int, k = 162 ∨ k = 163 ∨ k = 164 ∨ k = 169 → (k = 164 → j < 600 * σ 141 41) → (k ≠ 164 → j < 3 * σ 141 41) → σ' k j = σ k j) : RU σ' := fun r n a b c d e => by
  rw [h41] at b
  have f1 := f 169 (3 * r + n) (by omega) (by omega) (by omega)
  have f2 := f 162 (3 * r + n) (by omega) (by omega) (by omega)
  have f3 := f 163 (3 * r + n) (by omega) (by omega) (by omega)
  rw [f1] at e
  obtain ⟨p, q, w⟩ := h r n a b c d e
  rw [f2, f3]
  refine ⟨p, q, CD_fr w (fun j u v => f 164 j (by omega) (fun _ => by omega) (by omega))⟩
theorem cw_fr {σ σ' : dkS} {b w : Int} (h : ∀ j, σ' 151 j = σ 151 j) : ∀ n : Nat, cw σ' b w n = cw σ b w n
  | 0 => rfl
  | n + 1 => by rw [cw, cw, cw_fr h n, h]
theorem MI_fr {σ σ' : dkS} (h : MI σ) (f : ∀ k j : Int, mFP k j → σ' k j = σ k j) : MI σ' := by
  obtain ⟨h1, h2, h3⟩ := h
  refine ⟨fun g g0 g1 => ?_, ⟨by rw [f 141 27 (by omega), f 146 _ (by omega)]; exact h2.1, fun w w0 w1 => ?_⟩, RU_fr h3 (f 141 41 (by omega)) (fun k j a _ _ => f k j (by omega))⟩
  · rw [f 141 53 (by omega)] at g1
    rw [f 170 g (by omega), f 172 g (by omega)]
    exact h1 g g0 g1
  · rw [f 141 27 (by omega), f 146 _ (by omega), cw_fr (fun j => f 151 j (by omega))]
    exact h2.2 w w0 w1
theorem MI_tell {σ σ1 σ2 σ3 σ4 σ5 σ6 σ7 : dkS} {n a b c d t u z : Int} (h : MI σ) (hn : σ 141 53 = n) (hc : (a = 1 → 0 ≤ c ∧ c ≤ 11) ∧ (a = 4 → 1 ≤ c ∧ c ≤ 32)) (hz : z = n + 1) (e1 : σ1 = dk_up σ 170 n a) (e2 : σ2 = dk_up σ1 171 n b) (e3 : σ3 = dk_up σ2 172 n c) (e4 : σ4 = dk_up σ3 173 n d) (e5 : σ5 = dk_up σ4 174 n t) (e6 : σ6 = dk_up σ5 175 n u) (e7 : σ7 = dk_up σ6 141 53 z) : MI σ7 := by
  obtain ⟨h1, h2, h3⟩ := h
  subst hz
  have f : ∀ k j : Int, ¬ (k = 141 ∧ j = 53) → ¬ ((k = 170 ∨ k = 171 ∨ k = 172 ∨ k = 173 ∨ k = 174 ∨ k = 175) ∧ j = n) → σ7 k j = σ k j := fun k j p q => by
    rw [e7, dk_up_n p, e6, dk_up_n (by omega), e5, dk_up_n (by omega), e4, dk_up_n (by omega), e3, dk_up_n (by omega), e2, dk_up_n (by omega), e1, dk_up_n (by omega)]
  have g53 : σ7 141 53 = n + 1 := by rw [e7, dk_up_s]
  have g170 : σ7 170 n = a := by rw [e7, dk_up_n (by omega), e6, dk_up_n (by omega), e5, dk_up_n (by omega), e4, dk_up_n (by omega), e3, dk_up_n (by omega), e2, dk_up_n (by omega), e1, dk_up_s]
  have g172 : σ7 172 n = c := by rw [e7, dk_up_n (by omega), e6, dk_up_n (by omega), e5, dk_up_n (by omega), e4, dk_up_n (by omega), e3, dk_up_s]
  refine ⟨fun g g0 g1 => ?_, ⟨by rw [f 141 27 (by omega) (by omega), f 146 _ (by omega) (by omega)]; exact h2.1, fun w w0 w1 => ?_⟩, RU_fr h3 (f 141 41 (by omega) (by omega)) (fun k j a _ _ => f k j (by omega) (by omega))⟩
  · by_cases e : g = n
    · subst e
      rw [g170, g172]
      exact hc
    · rw [f 170 g (by omega) (by omega), f 172 g (by omega) (by omega)]
      exact h1 g g0 (by omega)
  · rw [f 141 27 (by omega) (by omega), f 146 _ (by omega) (by omega), cw_fr (fun j => f 151 j (by omega) (by omega))]
    exact h2.2 w w0 w1
