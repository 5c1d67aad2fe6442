/-! lemmas for the reference's rules at work, its casts and its week -/
theorem hp_c {x n c : Int} (h : x = n + (if c = 126 then 0 else if 97 ≤ c ∧ c ≤ 122 then 1 else -1)) : (c = 126 → x = n) ∧ (c ≠ 126 → 97 ≤ c ∧ c ≤ 122 → x = n + 1) ∧ (c ≠ 126 → (c < 97 ∨ 122 < c) → x = n - 1) := by
  refine ⟨fun e => ?_, fun e f => ?_, fun e f => ?_⟩
  · rw [if_pos e] at h; omega
  · rw [if_neg e, if_pos f] at h; omega
  · rw [if_neg e, if_neg (by omega)] at h; omega
theorem cw_s {σ : dkS} {b w p : Int} (hp : 0 ≤ p) : cw σ b w (p + 1).toNat = cw σ b w p.toNat + if σ 151 (b + p) = w then 1 else 0 := by
  obtain ⟨n, rfl⟩ : ∃ n : Nat, p = n := ⟨p.toNat, by omega⟩
  rw [show ((n : Int) + 1).toNat = n + 1 by omega, cw]
  rfl
theorem cw_mono {σ : dkS} {b w : Int} (n : Nat) : ∀ d : Nat, cw σ b w n ≤ cw σ b w (n + d)
  | 0 => Int.le_refl _
  | d + 1 => by
    have i := cw_mono (σ := σ) (b := b) (w := w) n d
    rw [show n + (d + 1) = n + d + 1 by omega, cw]
    by_cases c : σ 151 (b + ((n + d : Nat) : Int)) = w
    · rw [if_pos c]; omega
    · rw [if_neg c]; omega
theorem cw_nn {σ : dkS} {b w : Int} : ∀ n : Nat, 0 ≤ cw σ b w n
  | 0 => Int.le_refl _
  | n + 1 => by
    have i := cw_nn (σ := σ) (b := b) (w := w) n
    rw [cw]
    by_cases c : σ 151 (b + (n : Int)) = w
    · rw [if_pos c]; omega
    · rw [if_neg c]; omega
/-- one more part of the work: there is place for it -/
theorem cw_put {σ : dkS} {w p : Int} (h : BK σ) (hw : 0 ≤ w ∧ w ≤ 3) (hp : 0 ≤ p ∧ p < σ 146 (σ 141 27)) (e : σ 151 (12 * σ 141 27 + p) = w) : cw σ (12 * σ 141 27) w (p + 1).toNat = cw σ (12 * σ 141 27) w p.toNat + 1 ∧ cw σ (12 * σ 141 27) w p.toNat ≤ 7 := by
  have s := cw_s (σ := σ) (b := 12 * σ 141 27) (w := w) hp.1
  rw [if_pos e] at s
  have m := cw_mono (σ := σ) (b := 12 * σ 141 27) (w := w) (p + 1).toNat ((σ 146 (σ 141 27)).toNat - (p + 1).toNat)
  rw [show (p + 1).toNat + ((σ 146 (σ 141 27)).toNat - (p + 1).toNat) = (σ 146 (σ 141 27)).toNat by omega] at m
  have t := h.2 w hw.1 (by omega)
  omega
theorem cw_skip {σ : dkS} {b w p : Int} (hp : 0 ≤ p) (e : σ 151 (b + p) ≠ w) : cw σ b w (p + 1).toNat = cw σ b w p.toNat := by
  have s := cw_s (σ := σ) (b := b) (w := w) hp
  rw [if_neg e] at s
  omega
theorem dk_bits : ∀ m : Fin 1024, ∀ b : Fin 10, dk_and (dk_shr (m.val : Int) (b.val : Int)) 1 ≠ 1 → dk_or (m.val : Int) (dk_shl 1 (b.val : Int)) = (m.val : Int) + dk_shl 1 (b.val : Int) ∧ (m.val : Int) + dk_shl 1 (b.val : Int) ≤ 1023 := by decide +kernel
theorem dk_bit {m b x y s : Int} (hm : 0 ≤ m ∧ m ≤ 1023) (hb : 0 ≤ b ∧ b ≤ 9) (ex : x = dk_shr m b) (ey : y = dk_and x 1) (hy : y ≠ 1) (es : s = dk_shl 1 b) : dk_or m s = m + s ∧ 1 ≤ s ∧ s ≤ 512 ∧ m + s ≤ 1023 := by
  obtain ⟨a, rfl⟩ : ∃ n : Nat, m = n := ⟨m.toNat, by omega⟩
  obtain ⟨c, rfl⟩ : ∃ n : Nat, b = n := ⟨b.toNat, by omega⟩
  have h := dk_bits ⟨a, by omega⟩ ⟨c, by omega⟩ (by rw [← ex, ← ey]; exact hy)
  have t := dk_shl1 (by omega) es
  subst es
  exact ⟨h.1, t.1, t.2.2.1 (by omega), h.2⟩
theorem dk_and0 {y : Int} : dk_and 0 y = 0 := by
  have h : Int32.ofInt 0 &&& Int32.ofInt y = 0 := by
    apply Int32.toBitVec.inj
    show BitVec.ofInt 32 0 &&& BitVec.ofInt 32 y = 0
    simp
  rw [dk_and, h]
  rfl
/-- the entry (i, m) of the cast's table -/
def EN (σ : dkS) (i m : Int) : Prop := σ 182 (1024 * i + m) < 1000000000000000 → ∃ b s : Int, σ 181 (1024 * i + m) = b ∧ 0 ≤ b ∧ b ≤ 9 ∧ s = dk_shl 1 b ∧ dk_or m s = m + s ∧ 1 ≤ s ∧ m + s ≤ 1023 ∧ σ 182 (1024 * i + m + 1024 + s) < 1000000000000000
/-- the table is right behind (i, m) -/
def TB (n i m : Int) (σ : dkS) : Prop := (∀ q : Int, 0 ≤ q → q < 1024 → σ 182 (1024 * n + q) < 1000000000000000) ∧ ∀ j q : Int, 0 ≤ q → q < 1024 → j < n → (i < j ∨ (j = i ∧ q < m)) → EN σ j q
theorem TB_fr {n i m : Int} {a b : dkS} (h : TB n i m a) (f : ∀ k j : Int, k = 181 ∨ k = 182 → b k j = a k j) : TB n i m b := by
  refine ⟨fun q x y => by rw [f 182 _ (Or.inr rfl)]; exact h.1 q x y, fun j q x y z w => ?_⟩
  intro e
  rw [f 182 _ (Or.inr rfl)] at e
  obtain ⟨c, s, q1, q2, q3, q4, q5, q6, q7, q8⟩ := h.2 j q x y z w e
  exact ⟨c, s, by rw [f 181 _ (Or.inl rfl)]; exact q1, q2, q3, q4, q5, q6, q7, by rw [f 182 _ (Or.inr rfl)]; exact q8⟩
theorem TB_0 {n : Int} {σ : dkS} (h : ∀ q : Int, 0 ≤ q → q < 1024 → σ 182 (1024 * n + q) = 0) : TB n (n - 1) 0 σ :=
  ⟨fun q x y => by rw [h q x y]; decide, fun j q x y z w => by omega⟩
theorem TB_row {n i m : Int} {σ : dkS} (h : TB n i m σ) (hm : 1024 ≤ m) : TB n (i - 1) 0 σ :=
  ⟨h.1, fun j q x y z w => h.2 j q x y z (by omega)⟩
/-- other entries stay -/
theorem EN_fr {n i m j q : Int} {a b : dkS} (h : EN a j q) (hi : i < n) (hm : 0 ≤ m ∧ m < 1024) (hq : 0 ≤ q ∧ q < 1024) (hj : i < j ∨ (j = i ∧ q ≠ m)) (f : ∀ k x : Int, ¬ x = 1024 * i + m → b k x = a k x) : EN b j q := fun e => by
  rw [f 182 _ (by omega)] at e
  obtain ⟨c, s, q1, q2, q3, q4, q5, q6, q7, q8⟩ := h e
  exact ⟨c, s, by rw [f 181 _ (by omega)]; exact q1, q2, q3, q4, q5, q6, q7, by rw [f 182 _ (by omega)]; exact q8⟩
theorem TB_init {n i m a x y : Int} {σ σ1 σ2 σ3 : dkS} (h : TB n i m σ) (hi : i < n) (hm : 0 ≤ m ∧ m < 1024) (ha : a = 1024 * i + m) (e1 : σ1 = dk_up σ 182 a 1000000000000000) (e2 : σ2 = dk_up σ1 183 a x) (e3 : σ3 = dk_up σ2 181 a y) : TB n i (m + 1) σ3 := by
  have f : ∀ k x : Int, ¬ x = 1024 * i + m → σ3 k x = σ k x := fun k x q => by rw [e3, dk_up_n (by omega), e2, dk_up_n (by omega), e1, dk_up_n (by omega)]
  have g : σ3 182 (1024 * i + m) = 1000000000000000 := by rw [← ha, e3, dk_up_n (by omega), e2, dk_up_n (by omega), e1, dk_up_s]
  refine ⟨fun q u v => by rw [f 182 _ (by omega)]; exact h.1 q u v, fun j q u v w t => ?_⟩
  by_cases e : j = i ∧ q = m
  · obtain ⟨rfl, rfl⟩ := e
    exact fun z => absurd z (by omega)
  · exact EN_fr (n := n) (h.2 j q u v w (by omega)) hi hm ⟨u, v⟩ (by omega) f
theorem TB_set {n i m a b s x v : Int} {σ σ1 σ2 σ3 : dkS} (h : TB n i (m + 1) σ) (hi : i < n) (hm : 0 ≤ m ∧ m < 1024) (ha : a = 1024 * i + m) (hb : 0 ≤ b ∧ b ≤ 9) (hs : s = dk_shl 1 b) (ho : dk_or m s = m + s ∧ 1 ≤ s ∧ s ≤ 512 ∧ m + s ≤ 1023) (hc : σ 182 (1024 * i + m + 1024 + s) < 1000000000000000) (e1 : σ1 = dk_up σ 182 a v) (e2 : σ2 = dk_up σ1 183 a x) (e3 : σ3 = dk_up σ2 181 a b) : TB n i (m + 1) σ3 := by
  have f : ∀ k x : Int, ¬ x = 1024 * i + m → σ3 k x = σ k x := fun k x q => by rw [e3, dk_up_n (by omega), e2, dk_up_n (by omega), e1, dk_up_n (by omega)]
  have g : σ3 181 (1024 * i + m) = b := by rw [← ha, e3, dk_up_s]
  refine ⟨fun q u v => by rw [f 182 _ (by omega)]; exact h.1 q u v, fun j q u v w t => ?_⟩
  by_cases e : j = i ∧ q = m
  · obtain ⟨rfl, rfl⟩ := e
    exact fun _ => ⟨b, s, g, hb.1, hb.2, hs, ho.1, ho.2.1, ho.2.2.2, by rw [f 182 _ (by omega)]; exact hc⟩
  · exact EN_fr (n := n) (h.2 j q u v w (by omega)) hi hm ⟨u, v⟩ (by omega) f
/-! the hours as digits -/
def wd (R n : Int) (σ : dkS) (i : Int) : Int := if i ≤ n ∧ i < R then σ 187 i + 1 else 10
def wS (D : Int → Int) : Int := D 0 * 214358881 + D 1 * 19487171 + D 2 * 1771561 + D 3 * 161051 + D 4 * 14641 + D 5 * 1331 + D 6 * 121 + D 7 * 11 + D 8
def wV (R n : Int) (σ : dkS) : Int := wS (wd R n σ)
theorem wS_lt {D D' : Int → Int} {n : Int} (hn : 0 ≤ n ∧ n ≤ 8) (h1 : ∀ i : Int, 0 ≤ i → i < n → D' i = D i) (h2 : D n + 1 ≤ D' n) (h3 : ∀ i : Int, n < i → i ≤ 8 → D i ≤ 10 ∧ 0 ≤ D' i) : wS D < wS D' := by
  unfold wS
  rcases (show n = 0 ∨ n = 1 ∨ n = 2 ∨ n = 3 ∨ n = 4 ∨ n = 5 ∨ n = 6 ∨ n = 7 ∨ n = 8 by omega) with rfl | rfl | rfl | rfl | rfl | rfl | rfl | rfl | rfl
  · have a1 := h3 1 (by decide) (by decide); have a2 := h3 2 (by decide) (by decide); have a3 := h3 3 (by decide) (by decide); have a4 := h3 4 (by decide) (by decide); have a5 := h3 5 (by decide) (by decide); have a6 := h3 6 (by decide) (by decide); have a7 := h3 7 (by decide) (by decide); have a8 := h3 8 (by decide) (by decide); omega
  · have a0 := h1 0 (by decide) (by decide); have a2 := h3 2 (by decide) (by decide); have a3 := h3 3 (by decide) (by decide); have a4 := h3 4 (by decide) (by decide); have a5 := h3 5 (by decide) (by decide); have a6 := h3 6 (by decide) (by decide); have a7 := h3 7 (by decide) (by decide); have a8 := h3 8 (by decide) (by decide); omega
  · have a0 := h1 0 (by decide) (by decide); have a1 := h1 1 (by decide) (by decide); have a3 := h3 3 (by decide) (by decide); have a4 := h3 4 (by decide) (by decide); have a5 := h3 5 (by decide) (by decide); have a6 := h3 6 (by decide) (by decide); have a7 := h3 7 (by decide) (by decide); have a8 := h3 8 (by decide) (by decide); omega
  · have a0 := h1 0 (by decide) (by decide); have a1 := h1 1 (by decide) (by decide); have a2 := h1 2 (by decide) (by decide); have a4 := h3 4 (by decide) (by decide); have a5 := h3 5 (by decide) (by decide); have a6 := h3 6 (by decide) (by decide); have a7 := h3 7 (by decide) (by decide); have a8 := h3 8 (by decide) (by decide); omega
  · have a0 := h1 0 (by decide) (by decide); have a1 := h1 1 (by decide) (by decide); have a2 := h1 2 (by decide) (by decide); have a3 := h1 3 (by decide) (by decide); have a5 := h3 5 (by decide) (by decide); have a6 := h3 6 (by decide) (by decide); have a7 := h3 7 (by decide) (by decide); have a8 := h3 8 (by decide) (by decide); omega
  · have a0 := h1 0 (by decide) (by decide); have a1 := h1 1 (by decide) (by decide); have a2 := h1 2 (by decide) (by decide); have a3 := h1 3 (by decide) (by decide); have a4 := h1 4 (by decide) (by decide); have a6 := h3 6 (by decide) (by decide); have a7 := h3 7 (by decide) (by decide); have a8 := h3 8 (by decide) (by decide); omega
  · have a0 := h1 0 (by decide) (by decide); have a1 := h1 1 (by decide) (by decide); have a2 := h1 2 (by decide) (by decide); have a3 := h1 3 (by decide) (by decide); have a4 := h1 4 (by decide) (by decide); have a5 := h1 5 (by decide) (by decide); have a7 := h3 7 (by decide) (by decide); have a8 := h3 8 (by decide) (by decide); omega
  · have a0 := h1 0 (by decide) (by decide); have a1 := h1 1 (by decide) (by decide); have a2 := h1 2 (by decide) (by decide); have a3 := h1 3 (by decide) (by decide); have a4 := h1 4 (by decide) (by decide); have a5 := h1 5 (by decide) (by decide); have a6 := h1 6 (by decide) (by decide); have a8 := h3 8 (by decide) (by decide); omega
  · have a0 := h1 0 (by decide) (by decide); have a1 := h1 1 (by decide) (by decide); have a2 := h1 2 (by decide) (by decide); have a3 := h1 3 (by decide) (by decide); have a4 := h1 4 (by decide) (by decide); have a5 := h1 5 (by decide) (by decide); have a6 := h1 6 (by decide) (by decide); have a7 := h1 7 (by decide) (by decide); omega
/-- the hours told so far -/
def FT (a R n : Int) (σ : dkS) : Prop := -1 ≤ n ∧ n ≤ R ∧ (∀ i : Int, 0 ≤ i → i < n → 0 ≤ σ 187 i ∧ σ 187 i < a) ∧ (0 ≤ n → n < R → -1 ≤ σ 187 n ∧ σ 187 n < a)
theorem wd_le {a R n : Int} {σ : dkS} (h : FT a R n σ) (ha : a ≤ 9) {i : Int} (hi : 0 ≤ i) : wd R n σ i ≤ 10 := by
  unfold wd
  by_cases c : i ≤ n ∧ i < R
  · rw [if_pos c]
    by_cases e : i = n
    · subst e
      have := h.2.2.2 hi c.2
      omega
    · have := h.2.2.1 i hi (by omega)
      omega
  · rw [if_neg c]; omega
theorem FT_b {a R n : Int} {σ : dkS} (h : FT a R n σ) (ha : a ≤ 9) : wV R n σ ≤ 2357947690 := by
  unfold wV wS
  have a0 := wd_le h ha (i := 0) (by decide)
  have a1 := wd_le h ha (i := 1) (by decide)
  have a2 := wd_le h ha (i := 2) (by decide)
  have a3 := wd_le h ha (i := 3) (by decide)
  have a4 := wd_le h ha (i := 4) (by decide)
  have a5 := wd_le h ha (i := 5) (by decide)
  have a6 := wd_le h ha (i := 6) (by decide)
  have a7 := wd_le h ha (i := 7) (by decide)
  have a8 := wd_le h ha (i := 8) (by decide)
  omega
theorem FT_fwd {a R n h : Int} {σ σ' : dkS} (hF : FT a R n σ) (hn : 0 ≤ n ∧ n < R) (hR : R ≤ 9) (hh : σ 187 n + 1 ≤ h ∧ 0 ≤ h ∧ h < a) (f : ∀ j : Int, 0 ≤ j → j < n → σ' 187 j = σ 187 j) (e : σ' 187 n = h) (h1 : n + 1 < R → σ' 187 (n + 1) = -1) : FT a R (n + 1) σ' ∧ wV R n σ < wV R (n + 1) σ' := by
  refine ⟨⟨by omega, by omega, fun i x y => ?_, fun x y => by rw [h1 y]; omega⟩, wS_lt (n := n) (by omega) (fun i x y => ?_) ?_ (fun i x y => ?_)⟩
  · by_cases c : i = n
    · subst c; omega
    · rw [f i x (by omega)]; exact hF.2.2.1 i x (by omega)
  · unfold wd
    rw [if_pos (by omega), if_pos (by omega), f i x y]
  · unfold wd
    rw [if_pos (by omega), if_pos (by omega), e]
    omega
  · unfold wd
    rw [if_neg (by omega)]
    by_cases c : i ≤ n + 1 ∧ i < R
    · rw [if_pos c, show i = n + 1 by omega, h1 (by omega)]; omega
    · rw [if_neg c]; omega
theorem FT_back {a R n : Int} {σ σ' : dkS} (hF : FT a R n σ) (hn : 0 ≤ n ∧ n < R) (hR : R ≤ 9) (ha : a ≤ 9) (f : ∀ j : Int, 0 ≤ j → j < n → σ' 187 j = σ 187 j) : FT a R (n - 1) σ' ∧ wV R n σ < wV R (n - 1) σ' := by
  refine ⟨⟨by omega, by omega, fun i x y => ?_, fun x y => ?_⟩, wS_lt (n := n) (by omega) (fun i x y => ?_) ?_ (fun i x y => ?_)⟩
  · rw [f i x (by omega)]; exact hF.2.2.1 i x (by omega)
  · rw [f _ x (by omega)]
    have := hF.2.2.1 (n - 1) x (by omega)
    omega
  · unfold wd
    rw [if_pos (by omega), if_pos (by omega), f i x y]
  · have := hF.2.2.2 hn.1 hn.2
    unfold wd
    rw [if_pos (by omega), if_neg (by omega)]
    omega
  · unfold wd
    rw [if_neg (by omega), if_neg (by omega)]; omega
/-- with hours enough nothing is taken back -/
def TR (a R n : Int) (σ : dkS) : Prop := R ≤ a → 0 ≤ n ∧ (n < R → σ 187 n = -1) ∧ ∀ j : Int, n ≤ j → j ≤ 8 → σ 188 j = 0 ∧ σ 189 j = 0
