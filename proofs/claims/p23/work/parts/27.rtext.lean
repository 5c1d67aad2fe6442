/-! the reference's reading of rules: ruleMany 41, codes 42, units 43, within 44, piled 45 of cell 141; eWhat 166, eSign 167, code 164 -/
/-- how many of the first n piled things are 'not's or brackets -/
def wc (σ : dkS) : Nat → Int
  | 0 => 0
  | n + 1 => wc σ n + if σ 166 (n : Int) = 3 ∨ σ 166 (n : Int) = 7 then 1 else 0
theorem wc_fr {σ σ' : dkS} : ∀ n : Nat, (∀ j : Int, 0 ≤ j → j < n → σ' 166 j = σ 166 j) → wc σ' n = wc σ n
  | 0, _ => rfl
  | n + 1, h => by rw [wc, wc, wc_fr n (fun j a c => h j a (by omega)), h _ (by omega) (by omega)]
theorem wc_le {σ : dkS} (h : σ 166 0 = 8) : ∀ n : Nat, 0 ≤ wc σ (n + 1) ∧ wc σ (n + 1) ≤ n
  | 0 => by rw [wc, wc, show ((0 : Nat) : Int) = 0 from rfl, h, if_neg (by decide)]; decide
  | n + 1 => by
    have i := wc_le h n
    rw [wc]
    by_cases c : σ 166 ((n + 1 : Nat) : Int) = 3 ∨ σ 166 ((n + 1 : Nat) : Int) = 7
    · rw [if_pos c]; omega
    · rw [if_neg c]; omega
/-- one more -/
theorem wc_s {σ : dkS} {p : Int} (hp : 0 ≤ p) : wc σ (p + 1).toNat = wc σ p.toNat + if σ 166 p = 3 ∨ σ 166 p = 7 then 1 else 0 := by
  obtain ⟨n, rfl⟩ : ∃ n : Nat, p = n := ⟨p.toNat, by omega⟩
  rw [show ((n : Int) + 1).toNat = n + 1 by omega, wc]
  rfl
theorem hp_s {σ : dkS} {b n : Int} (hn : 0 ≤ n) : hp σ b (n + 1).toNat = hp σ b n.toNat + (if σ 164 (b + n) = 126 then 0 else if 97 ≤ σ 164 (b + n) ∧ σ 164 (b + n) ≤ 122 then 1 else -1) := by
  obtain ⟨m, rfl⟩ : ∃ m : Nat, n = m := ⟨n.toNat, by omega⟩
  rw [show ((m : Int) + 1).toNat = m + 1 by omega, hp]
  rfl
theorem CD_s {σ : dkS} {b n : Int} (h : CD σ b n) (hn : 0 ≤ n) (h1 : 1 ≤ hp σ b (n + 1).toNat ∧ hp σ b (n + 1).toNat ≤ 60) : CD σ b (n + 1) := fun m a c => by
  by_cases e : (m : Int) = n + 1
  · rw [show m = (n + 1).toNat by omega]; exact h1
  · exact h m (by omega) c
/-- rules above those that are told -/
theorem MI_ru {σ σ' : dkS} (h : MI σ) (f : ∀ k j : Int, mFP k j → ¬ (k = 164 ∧ 600 * σ 141 41 ≤ j) → ¬ ((k = 162 ∨ k = 163 ∨ k = 169) ∧ 3 * σ 141 41 ≤ j) → σ' k j = σ k j) : MI σ' := by
  obtain ⟨h1, h2, h3⟩ := h
  refine ⟨fun g g0 g1 => ?_, ⟨by rw [f 141 27 (by omega) (by omega) (by omega), f 146 _ (by omega) (by omega) (by omega)]; exact h2.1, fun w w0 w1 => ?_⟩, RU_fr h3 (f 141 41 (by omega) (by omega) (by omega)) (fun k j a b c => f k j (by omega) (by omega) (by omega))⟩
  · rw [f 141 53 (by omega) (by omega) (by omega)] at g1
    rw [f 170 g (by omega) (by omega) (by omega), f 172 g (by omega) (by omega) (by omega)]
    exact h1 g g0 g1
  · rw [f 141 27 (by omega) (by omega) (by omega), f 146 _ (by omega) (by omega) (by omega), cw_fr (fun j => f 151 j (by omega) (by omega) (by omega))]
    exact h2.2 w w0 w1
/-- rules are read into place r -/
def BS (r : Int) (σ : dkS) : Prop := MI σ ∧ σ 141 41 = r ∧ 0 ≤ r ∧ r ≤ 5 ∧ 0 ≤ σ 141 42 ∧ σ 141 42 ≤ σ 141 6 ∧ 0 ≤ σ 141 43 ∧ σ 141 43 ≤ 60
/-- code was written from c on -/
def QX (c r : Int) (σ σ' : dkS) : Prop := NX σ σ' ∧ BS r σ' ∧ 0 ≤ c ∧ c ≤ σ' 141 42 ∧ CD σ' (600 * r + c) (σ' 141 42 - c) ∧ ∀ j : Int, j < 600 * r + c → σ' 164 j = σ 164 j
/-- the pile: its numbers -/
def PN (w : Int) (σ : dkS) : Prop := 0 ≤ w ∧ w ≤ 1 ∧ 0 ≤ σ 141 45 ∧ σ 141 42 + σ 141 45 ≤ σ 141 6 + 1 ∧ σ 141 45 ≤ σ 141 43 + σ 141 44 + w ∧ σ 141 44 ≤ 7 ∧ (1 ≤ σ 141 45 → σ 166 0 = 8)
/-- the pile: what lies on it -/
def PL (σ : dkS) : Prop := ∀ i : Int, 1 ≤ i → i < σ 141 45 → 1 ≤ σ 166 i ∧ σ 166 i ≤ 7 ∧ (σ 166 i = 3 → σ 167 i = 126) ∧ (σ 166 i ≠ 3 → σ 166 i ≠ 7 → ¬ (97 ≤ σ 167 i ∧ σ 167 i ≤ 122) ∧ σ 167 i ≠ 126)
def PX (w c r : Int) (σ σ' : dkS) : Prop := QX c r σ σ' ∧ PN w σ' ∧ PL σ' ∧ σ' 141 44 = wc σ' (σ' 141 45).toNat ∧ (1 ≤ σ' 141 45 → hp σ' (600 * r + c) (σ' 141 42 - c).toNat = σ' 141 45 - σ' 141 44 - w) ∧ hp σ' (600 * r + c) (σ' 141 42 - c).toNat ≤ σ' 141 43
abbrev qFP (k j : Int) : Prop := nFP k j ∨ mFP k j ∨ (k = 141 ∧ (j = 42 ∨ j = 43))
theorem BS_fr {r : Int} {a b : dkS} (h : BS r a) (f : ∀ k j : Int, mFP k j ∨ (k = 141 ∧ (j = 42 ∨ j = 43)) → b k j = a k j) (h6 : a 141 6 ≤ b 141 6) : BS r b := by
  obtain ⟨h1, h2, h3⟩ := h
  have e1 := f 141 41 (by omega)
  have e2 := f 141 42 (by omega)
  have e3 := f 141 43 (by omega)
  exact ⟨MI_fr h1 (fun k j q => f k j (Or.inl q)), by omega, by omega⟩
theorem QX_go {c r : Int} {a b d : dkS} (h : QX c r a b) (k : NX b d) (f : ∀ k j : Int, mFP k j ∨ (k = 141 ∧ (j = 42 ∨ j = 43)) → d k j = b k j) : QX c r a d := by
  obtain ⟨h1, h2, h3, h4, h5, h6⟩ := h
  have e2 := f 141 42 (by omega)
  refine ⟨NX_tr h1 k, BS_fr h2 f k.2.2.1, h3, by omega, ?_, fun j q => by rw [f 164 j (by omega)]; exact h6 j q⟩
  rw [e2]
  exact CD_fr h5 (fun j _ _ => f 164 j (by omega))
theorem QX_fr {c r : Int} {a b d : dkS} (h : QX c r a b) (f : ∀ k j : Int, qFP k j → d k j = b k j) : QX c r a d :=
  QX_go h (NX_fr (NX_rf h.1.2.1) (fun k j q => f k j (Or.inl q))) (fun k j q => f k j (Or.inr q))
theorem QX_tr {c r : Int} {a b d : dkS} (h : QX c r a b) (k : NX b d) (f : ∀ k j : Int, mFP k j ∨ (k = 141 ∧ (j = 42 ∨ j = 43)) → d k j = b k j) : QX c r a d := QX_go h k f
theorem QX_y {c r : Int} {a b d : dkS} (h : QX c r a b) (k : NY b d) (f : ∀ k j : Int, mFP k j ∨ (k = 141 ∧ (j = 42 ∨ j = 43)) → d k j = b k j) : QX c r a d := QX_go h (NY_NX h.1.2.1 k) f
theorem QX_f {c r : Int} {a b d : dkS} (h : QX c r a b) (f : ∀ k j : Int, ¬ ((k = 141 ∧ j = 4) ∨ (k = 141 ∧ j = 5)) → d k j = b k j) (hd : 1 ≤ d 141 4) : QX c r a d := QX_go h (NX_f (NX_rf h.1.2.1) f hd) (fun k j p => f k j (by omega))
theorem QX_of {r c : Int} {σ : dkS} (h : TK σ) (k : BS r σ) (hc : c = σ 141 42) : QX c r σ σ := ⟨NX_rf h, k, by have := k.2.2.2.2.1; omega, by omega, fun m a b => absurd a (by omega), fun j _ => rfl⟩
theorem QX_qx {c r : Int} {a b d : dkS} (h : QX c r a b) (hc : b 141 42 = c) (k : QX c r b d) : QX c r a d := by
  obtain ⟨h1, h2, h3, h4, h5, h6⟩ := h
  obtain ⟨k1, k2, k3, k4, k5, k6⟩ := k
  exact ⟨NX_tr h1 k1, k2, k3, k4, k5, fun j q => (k6 j q).trans (h6 j q)⟩
/-- a line's place is written -/
theorem QX_u {c r k0 j0 z : Int} {a b d : dkS} (h : QX c r a b) (hk : k0 = 162 ∨ k0 = 163 ∨ k0 = 169) (hj : 3 * r ≤ j0) (e : d = dk_up b k0 j0 z) : QX c r a d := by
  obtain ⟨h1, ⟨m, b1, b2⟩, h3, h4, h5, h6⟩ := h
  have f : ∀ k j : Int, ¬ (k = k0 ∧ j = j0) → d k j = b k j := fun k j q => by rw [e, dk_up_n q]
  have e1 := f 141 41 (by omega)
  have e2 := f 141 42 (by omega)
  have e3 := f 141 43 (by omega)
  have e6 := f 141 6 (by omega)
  refine ⟨NX_fr h1 (fun k j q => f k j (by omega)), ⟨MI_ru m (fun k j _ q1 q2 => f k j (by omega)), by omega, by omega⟩, h3, by omega, ?_, fun j q => by rw [f 164 j (by omega)]; exact h6 j q⟩
  rw [e2]
  exact CD_fr h5 (fun j _ _ => f 164 j (by omega))
theorem PX_fr {w c r : Int} {a b d : dkS} (h : PX w c r a b) (f : ∀ k j : Int, qFP k j ∨ (k = 141 ∧ (j = 44 ∨ j = 45)) ∨ k = 166 ∨ k = 167 → d k j = b k j) : PX w c r a d := by
  obtain ⟨h1, h2, h3, h4, h5, h6⟩ := h
  have e4 := f 141 44 (by omega)
  have e5 := f 141 45 (by omega)
  have e2 := f 141 42 (by omega)
  have e3 := f 141 43 (by omega)
  have e6 := f 141 6 (by omega)
  have e0 := f 166 0 (by omega)
  have eh := hp_fr (σ := b) (σ' := d) (b := 600 * r + c) (b 141 42 - c).toNat (fun j _ _ => f 164 j (by omega))
  refine ⟨QX_fr h1 (fun k j q => f k j (Or.inl q)), ?_, ?_, ?_, ?_, ?_⟩
  · obtain ⟨p1, p2, p3, p4, p5, p6, p7⟩ := h2
    exact ⟨p1, p2, by omega, by omega, by omega, by omega, fun q => by rw [e0]; exact p7 (by omega)⟩
  · intro i a1 a2
    rw [f 166 i (by omega), f 167 i (by omega)]
    exact h3 i a1 (by omega)
  · rw [e4, e5, wc_fr _ (fun j _ _ => f 166 j (by omega))]; exact h4
  · rw [e5, e2, eh, e4]; exact h5
  · rw [e2, eh, e3]; exact h6
/-- reading goes on, the rest stays -/
theorem PX_go {w c r : Int} {a b d : dkS} (h : PX w c r a b) (k : NX b d) (f : ∀ k j : Int, mFP k j ∨ (k = 141 ∧ (j = 42 ∨ j = 43)) ∨ (k = 141 ∧ (j = 44 ∨ j = 45)) ∨ k = 166 ∨ k = 167 → d k j = b k j) : PX w c r a d := by
  obtain ⟨h1, h2, h3, h4, h5, h6⟩ := h
  have e4 := f 141 44 (by omega)
  have e5 := f 141 45 (by omega)
  have e2 := f 141 42 (by omega)
  have e3 := f 141 43 (by omega)
  have e6 := k.2.2.1
  have e0 := f 166 0 (by omega)
  have eh := hp_fr (σ := b) (σ' := d) (b := 600 * r + c) (b 141 42 - c).toNat (fun j _ _ => f 164 j (by omega))
  refine ⟨QX_go h1 k (fun k j q => f k j (by omega)), ?_, ?_, ?_, ?_, ?_⟩
  · obtain ⟨p1, p2, p3, p4, p5, p6, p7⟩ := h2
    exact ⟨p1, p2, by omega, by omega, by omega, by omega, fun q => by rw [e0]; exact p7 (by omega)⟩
  · intro i a1 a2
    rw [f 166 i (by omega), f 167 i (by omega)]
    exact h3 i a1 (by omega)
  · rw [e4, e5, wc_fr _ (fun j _ _ => f 166 j (by omega))]; exact h4
  · rw [e5, e2, eh, e4]; exact h5
  · rw [e2, eh, e3]; exact h6
theorem PX_tr {w c r : Int} {a b d : dkS} (h : PX w c r a b) (k : NX b d) (f : ∀ k j : Int, mFP k j ∨ (k = 141 ∧ (j = 42 ∨ j = 43)) ∨ (k = 141 ∧ (j = 44 ∨ j = 45)) ∨ k = 166 ∨ k = 167 → d k j = b k j) : PX w c r a d := PX_go h k f
theorem PX_y {w c r : Int} {a b d : dkS} (h : PX w c r a b) (k : NY b d) (f : ∀ k j : Int, mFP k j ∨ (k = 141 ∧ (j = 42 ∨ j = 43)) ∨ (k = 141 ∧ (j = 44 ∨ j = 45)) ∨ k = 166 ∨ k = 167 → d k j = b k j) : PX w c r a d := PX_go h (NY_NX h.1.1.2.1 k) f
theorem PX_f {w c r : Int} {a b d : dkS} (h : PX w c r a b) (f : ∀ k j : Int, ¬ ((k = 141 ∧ j = 4) ∨ (k = 141 ∧ j = 5)) → d k j = b k j) (hd : 1 ≤ d 141 4) : PX w c r a d := PX_go h (NX_f (NX_rf h.1.1.2.1) f hd) (fun k j p => f k j (by omega))
theorem PX_px {w v c r : Int} {a b d : dkS} (h : PX w c r a b) (k : PX v c r b d) : PX v c r a d := by
  obtain ⟨⟨h1, h2, h3, h4, h5, h6⟩, _⟩ := h
  obtain ⟨⟨k1, k2, k3, k4, k5, k6⟩, kk⟩ := k
  exact ⟨⟨NX_tr h1 k1, k2, k3, k4, k5, fun j q => (k6 j q).trans (h6 j q)⟩, kk⟩
theorem PX_rf {w c r : Int} {a b : dkS} (h : PX w c r a b) : PX w c r b b := by
  obtain ⟨⟨h1, h2, h3, h4, h5, h6⟩, hh⟩ := h
  exact ⟨⟨NX_rf h1.2.1, h2, h3, h4, h5, fun _ _ => rfl⟩, hh⟩
/-- the slots that a step of the reading may write -/
abbrev eF (r c p k j : Int) : Prop := (k = 141 ∧ ((4 ≤ j ∧ j ≤ 10) ∨ (42 ≤ j ∧ j ≤ 45))) ∨ (k = 164 ∧ j = 600 * r + c) ∨ k = 165 ∨ (k = 166 ∧ j = p) ∨ (k = 167 ∧ j = p)
theorem PX_MI {r c p : Int} {a b : dkS} (h : MI a) (hr : a 141 41 = r) (hc : 0 ≤ c) (f : ∀ k j : Int, ¬ eF r c p k j → b k j = a k j) : MI b :=
  MI_ru h (fun k j q1 q2 q3 => f k j (by omega))
/-- a thing that is worth something is read -/
theorem PX_op {c r n p z : Int} {a b d : dkS} (h : PX 1 c r a b) (k : NX b d) (hn : b 141 42 = n) (hp0 : b 141 45 = p) (hp1 : 1 ≤ p) (f : ∀ k j : Int, ¬ eF r n p k j → d k j = b k j) (f6 : ∀ j : Int, d 166 j = b 166 j) (f7 : ∀ j : Int, d 167 j = b 167 j) (h42 : d 141 42 = n + 1) (h43 : d 141 43 = b 141 43 + 1) (h60 : d 141 43 ≤ 60) (h44 : d 141 44 = b 141 44) (h45 : d 141 45 = p) (h6 : b 141 6 + 1 ≤ d 141 6) (hz : d 164 (600 * r + n) = z) (hz1 : 97 ≤ z ∧ z ≤ 122) : PX 0 c r a d := by
  obtain ⟨⟨q1, ⟨m, b1, b2, b3, b4, b5, b6, b7⟩, q3, q4, q5, q6⟩, ⟨p1, p2, p3, p4, p5, p6, p7⟩, h3, h4, h5, h8⟩ := h
  have e41 := f 141 41 (by omega)
  have eh : hp d (600 * r + c) (n - c).toNat = hp b (600 * r + c) (n - c).toNat := hp_fr _ (fun j _ _ => f 164 j (by omega))
  have es := hp_s (σ := d) (b := 600 * r + c) (n := n - c) (by omega)
  rw [show 600 * r + c + (n - c) = 600 * r + n by omega, hz, if_neg (by omega), if_pos hz1, eh] at es
  rw [hn] at h5 h8 q5
  have g5 := h5 (by omega)
  have wl := wc_le (p7 (by omega)) (p - 1).toNat
  rw [show (p - 1).toNat + 1 = p.toNat by omega] at wl
  rw [hp0] at h4
  refine ⟨⟨NX_tr q1 k, ⟨PX_MI m b1 (by omega) f, by omega, by omega, by omega, by omega, by omega, by omega, by omega⟩, q3, by omega, ?_, fun j q => by rw [f 164 j (by omega)]; exact q6 j q⟩, ⟨by omega, by omega, by omega, by omega, by omega, by omega, fun q => by rw [f6]; exact p7 (by omega)⟩, fun i x y => by rw [f6, f7]; exact h3 i x (by omega), ?_, fun _ => ?_, ?_⟩
  · rw [h42, show n + 1 - c = n - c + 1 by omega]
    refine CD_s (CD_fr q5 (fun j _ _ => f 164 j (by omega))) (by omega) ?_
    rw [es]
    omega
  · rw [h44, h45, wc_fr _ (fun j _ _ => f6 j)]; omega
  · rw [h42, show n + 1 - c = n - c + 1 by omega, es, h44, h45]; omega
  · rw [h42, show n + 1 - c = n - c + 1 by omega, es, h43]; omega
/-- a thing is put on the pile -/
theorem PX_put {w v c r n p z s : Int} {a b d : dkS} (h : PX w c r a b) (k : NX b d) (hn : b 141 42 = n) (hp0 : b 141 45 = p) (hp1 : 1 ≤ p) (f : ∀ k j : Int, ¬ eF r (-1) p k j → d k j = b k j) (f4 : ∀ j : Int, d 164 j = b 164 j) (h42 : d 141 42 = n) (h43 : b 141 43 ≤ d 141 43) (h60 : d 141 43 ≤ 60) (h45 : d 141 45 = p + 1) (h6 : b 141 6 + 1 ≤ d 141 6) (hz : d 166 p = z) (hs : d 167 p = s) (hv : v = 1) (hw : (z = 3 ∨ z = 7) ∧ w = 1 ∧ s = 126 ∧ d 141 44 = b 141 44 + 1 ∧ b 141 44 ≤ 6 ∨ (1 ≤ z ∧ z ≤ 6 ∧ z ≠ 3) ∧ w = 0 ∧ (¬ (97 ≤ s ∧ s ≤ 122) ∧ s ≠ 126) ∧ d 141 44 = b 141 44) : PX v c r a d := by
  obtain ⟨⟨q1, ⟨m, b1, b2, b3, b4, b5, b6, b7⟩, q3, q4, q5, q6⟩, ⟨p1, p2, p3, p4, p5, p6, p7⟩, h3, h4, h5, h8⟩ := h
  subst hv
  have e41 := f 141 41 (by omega)
  have eh : hp d (600 * r + c) (n - c).toNat = hp b (600 * r + c) (n - c).toNat := hp_fr _ (fun j _ _ => f4 j)
  have ew : wc d p.toNat = wc b p.toNat := wc_fr _ (fun j _ _ => f 166 j (by omega))
  have es := wc_s (σ := d) (p := p) (by omega)
  rw [hz, ew] at es
  rw [hn] at h5 h8 q5
  have g5 := h5 (by omega)
  rw [hp0] at h4
  refine ⟨⟨NX_tr q1 k, ⟨MI_fr m (fun k j q => if e : k = 164 then (by subst e; exact f4 j) else f k j (by omega)), by omega, by omega, by omega, by omega, by omega, by omega, by omega⟩, q3, by omega, ?_, fun j q => by rw [f4]; exact q6 j q⟩, ⟨by omega, by omega, by omega, by omega, by omega, by omega, fun q => by rw [f 166 0 (by omega)]; exact p7 (by omega)⟩, fun i x y => ?_, ?_, fun _ => ?_, ?_⟩
  · rw [h42]
    exact CD_fr q5 (fun j _ _ => f4 j)
  · by_cases e : i = p
    · subst e
      rw [hz, hs]
      omega
    · rw [f 166 i (by omega), f 167 i (by omega)]
      exact h3 i x (by omega)
  · rw [h45, es]
    rcases hw with ⟨w1, w2, w3, w4, w5⟩ | ⟨w1, w2, w3, w4⟩
    · rw [if_pos w1]; omega
    · rw [if_neg (by omega)]; omega
  · rw [h42, eh, h45]
    omega
  · rw [h42, eh]; omega
/-- a thing is taken from the pile into the code -/
theorem PX_pop {c r n p z s : Int} {a b d : dkS} (h : PX 0 c r a b) (hn : b 141 42 = n) (hp0 : b 141 45 = p) (hp1 : 2 ≤ p) (hz : b 166 (p - 1) = z) (hz1 : z ≤ 6) (hs : b 167 (p - 1) = s) (f : ∀ k j : Int, ¬ ((k = 141 ∧ (j = 42 ∨ j = 44 ∨ j = 45)) ∨ (k = 164 ∧ j = 600 * r + n) ∨ k = 165) → d k j = b k j) (h42 : d 141 42 = n + 1) (h44 : d 141 44 = b 141 44 - (if z = 3 then 1 else 0)) (h45 : d 141 45 = p - 1) (hd : d 164 (600 * r + n) = s) : PX 0 c r a d := by
  obtain ⟨⟨q1, ⟨m, b1, b2, b3, b4, b5, b6, b7⟩, q3, q4, q5, q6⟩, ⟨p1, p2, p3, p4, p5, p6, p7⟩, h3, h4, h5, h8⟩ := h
  have e41 := f 141 41 (by omega)
  have e43 := f 141 43 (by omega)
  have e6 := f 141 6 (by omega)
  have eh : hp d (600 * r + c) (n - c).toNat = hp b (600 * r + c) (n - c).toNat := hp_fr _ (fun j _ _ => f 164 j (by omega))
  have es := hp_s (σ := d) (b := 600 * r + c) (n := n - c) (by omega)
  rw [show 600 * r + c + (n - c) = 600 * r + n by omega, hd, eh] at es
  rw [hn] at h5 h8 q5
  have g5 := h5 (by omega)
  have wl := wc_le (p7 (by omega)) (p - 2).toNat
  rw [show (p - 2).toNat + 1 = (p - 1).toNat by omega] at wl
  have ws := wc_s (σ := b) (p := p - 1) (by omega)
  rw [show p - 1 + 1 = p by omega, hz] at ws
  rw [hp0] at h4
  have t := h3 (p - 1) (by omega) (by omega)
  rw [hz, hs] at t
  have ew : wc d (p - 1).toNat = wc b (p - 1).toNat := wc_fr _ (fun j _ _ => f 166 j (by omega))
  have key : 1 ≤ hp d (600 * r + c) (n - c + 1).toNat ∧ hp d (600 * r + c) (n - c + 1).toNat ≤ b 141 43 ∧ hp d (600 * r + c) (n - c + 1).toNat = (p - 1) - d 141 44 ∧ d 141 44 = wc b (p - 1).toNat := by
    rw [es]
    by_cases e : z = 3
    · rw [if_pos (Or.inl e)] at ws
      rw [if_pos e] at h44
      rw [if_pos (t.2.2.1 e)]
      omega
    · rw [if_neg (by omega)] at ws
      rw [if_neg e] at h44
      have u := t.2.2.2 e (by omega)
      rw [if_neg u.2, if_neg u.1]
      omega
  refine ⟨⟨NX_fr q1 (fun k j q => f k j (by omega)), ⟨MI_ru m (fun k j x1 x2 x3 => f k j (by omega)), by omega, by omega, by omega, by omega, by omega, by omega, by omega⟩, q3, by omega, ?_, fun j q => by rw [f 164 j (by omega)]; exact q6 j q⟩, ⟨by omega, by omega, by omega, by omega, ?_, ?_, fun q => by rw [f 166 0 (by omega)]; exact p7 (by omega)⟩, fun i x y => by rw [f 166 i (by omega), f 167 i (by omega)]; exact h3 i x (by omega), ?_, fun _ => ?_, ?_⟩
  · rw [h42, show n + 1 - c = n - c + 1 by omega]
    refine CD_s (CD_fr q5 (fun j _ _ => f 164 j (by omega))) (by omega) ?_
    omega
  · by_cases e : z = 3
    · rw [if_pos e] at h44; omega
    · rw [if_neg e] at h44; omega
  · by_cases e : z = 3
    · rw [if_pos e] at h44; omega
    · rw [if_neg e] at h44; omega
  · rw [h45, ew]; exact key.2.2.2
  · rw [h42, show n + 1 - c = n - c + 1 by omega, h45]; omega
  · rw [h42, show n + 1 - c = n - c + 1 by omega, e43]; omega
/-- a bracket, or all, is closed -/
theorem PX_out {c r p z : Int} {a b d : dkS} (h : PX 0 c r a b) (k : NX b d) (hp0 : b 141 45 = p) (hp1 : 1 ≤ p) (hz : b 166 (p - 1) = z) (hz1 : 7 ≤ z) (f : ∀ k j : Int, ¬ (k = 141 ∧ ((4 ≤ j ∧ j ≤ 10) ∨ j = 44 ∨ j = 45)) → d k j = b k j) (h44 : d 141 44 = b 141 44 - (if z = 7 then 1 else 0)) (h45 : d 141 45 = p - 1) : PX 0 c r a d := by
  obtain ⟨⟨q1, ⟨m, b1, b2, b3, b4, b5, b6, b7⟩, q3, q4, q5, q6⟩, ⟨p1, p2, p3, p4, p5, p6, p7⟩, h3, h4, h5, h8⟩ := h
  have e41 := f 141 41 (by omega)
  have e42 := f 141 42 (by omega)
  have e43 := f 141 43 (by omega)
  have e6 := k.2.2.1
  have e0 := p7 (by omega)
  have eh : hp d (600 * r + c) (b 141 42 - c).toNat = hp b (600 * r + c) (b 141 42 - c).toNat := hp_fr _ (fun j _ _ => f 164 j (by omega))
  have ws := wc_s (σ := b) (p := p - 1) (by omega)
  rw [show p - 1 + 1 = p by omega, hz] at ws
  rw [hp0] at h4
  have ew : wc d (p - 1).toNat = wc b (p - 1).toNat := wc_fr _ (fun j _ _ => f 166 j (by omega))
  have g5 := h5 (by omega)
  have key : (z = 7 ∧ d 141 44 = b 141 44 - 1 ∧ 2 ≤ p ∧ d 141 44 = wc b (p - 1).toNat) ∨ (p = 1 ∧ d 141 44 = b 141 44 ∧ d 141 44 = wc b (p - 1).toNat ∧ wc b (p - 1).toNat = 0) := by
    by_cases e : z = 7
    · rw [if_pos (Or.inr e)] at ws
      rw [if_pos e] at h44
      have : p ≠ 1 := fun q => by subst q; rw [show (1 : Int) - 1 = 0 from rfl, e0] at hz; omega
      exact Or.inl ⟨e, by omega, by omega, by omega⟩
    · rw [if_neg (by omega)] at ws
      rw [if_neg e] at h44
      have : p = 1 := by
        by_cases q : p = 1
        · exact q
        · have t := h3 (p - 1) (by omega) (by omega)
          rw [hz] at t
          omega
      subst this
      exact Or.inr ⟨rfl, by omega, by omega, rfl⟩
  refine ⟨⟨NX_tr q1 k, ⟨MI_fr m (fun k j x1 => f k j (by omega)), by omega, by omega, by omega, by omega, by omega, by omega, by omega⟩, q3, by omega, ?_, fun j q => by rw [f 164 j (by omega)]; exact q6 j q⟩, ⟨by omega, by omega, by omega, by omega, by omega, by omega, fun q => by rw [f 166 0 (by omega)]; exact e0⟩, fun i x y => by rw [f 166 i (by omega), f 167 i (by omega)]; exact h3 i x (by omega), ?_, fun _ => ?_, ?_⟩
  · rw [e42]
    exact CD_fr q5 (fun j _ _ => f 164 j (by omega))
  · rw [h45, ew]; omega
  · rw [e42, eh, h45]; omega
  · rw [e42, eh, e43]; exact h8
/-- the pile begins -/
theorem PX_all {c r : Int} {a b d : dkS} (h : QX c r a b) (hc : b 141 42 = c) (f : ∀ k j : Int, ¬ (k = 141 ∧ (j = 44 ∨ j = 45)) → ¬ (k = 166) → ¬ (k = 167) → d k j = b k j) (h44 : d 141 44 = 0) (h45 : d 141 45 = 1) (h0 : d 166 0 = 8) : PX 1 c r a d := by
  have q := QX_fr h (d := d) (fun k j q => f k j (by omega) (by omega) (by omega))
  have q0 := q
  obtain ⟨_, ⟨_, _, _, _, _, b5, b6, _⟩, _⟩ := q0
  have e42 := f 141 42 (by omega) (by omega) (by omega)
  have e0 : (d 141 42 - c).toNat = 0 := by omega
  refine ⟨q, ⟨by omega, by omega, by omega, by omega, by omega, by omega, fun _ => h0⟩, fun i x y => by omega, ?_, fun _ => ?_, ?_⟩
  · rw [h44, h45, show (1 : Int).toNat = 0 + 1 from rfl, wc, wc, show ((0 : Nat) : Int) = 0 from rfl, h0, if_neg (by decide)]
    rfl
  · rw [e0, hp]; omega
  · rw [e0, hp]; exact b6
theorem PX_n {w c r : Int} {a b : dkS} (h : PX w c r a b) : b 141 41 = r ∧ 0 ≤ r ∧ r ≤ 5 ∧ 0 ≤ c ∧ c ≤ b 141 42 ∧ b 141 42 ≤ b 141 6 ∧ 0 ≤ b 141 43 ∧ b 141 43 ≤ 60 ∧ 0 ≤ b 141 45 ∧ b 141 42 + b 141 45 ≤ b 141 6 + 1 ∧ b 141 45 ≤ b 141 43 + b 141 44 + w ∧ b 141 44 ≤ 7 ∧ b 141 6 ≤ b 141 7 ∧ b 141 7 ≤ b 141 3 ∧ 0 ≤ w ∧ w ≤ 1 := by
  obtain ⟨⟨q1, ⟨m, b1, b2, b3, b4, b5, b6, b7⟩, q3, q4, q5, q6⟩, ⟨p1, p2, p3, p4, p5, p6, p7⟩, h3, h4, h5, h8⟩ := h
  have t1 := q1.2.1.1
  have t2 := q1.2.1.2.1
  omega
theorem PX_v {w c r i : Int} {a b : dkS} (h : PX w c r a b) (h0 : 0 ≤ i) (h1 : i < b 141 45) : 1 ≤ b 166 i ∧ (i = 0 → b 166 i = 8) := by
  by_cases e : i = 0
  · subst e
    have := h.2.1.2.2.2.2.2.2 (by omega)
    omega
  · have := h.2.2.1 i (by omega) h1
    omega
/-- the lines that are read -/
def RS (r : Int) (σ : dkS) : Prop := BS r σ ∧ ∀ n : Int, 0 ≤ n → n < 3 → σ 169 (3 * r + n) = 1 → (0 ≤ σ 162 (3 * r + n) ∧ σ 162 (3 * r + n) ≤ σ 141 42) ∧ σ 163 (3 * r + n) ≤ σ 141 42 ∧ CD σ (600 * r + σ 162 (3 * r + n)) (σ 163 (3 * r + n) - σ 162 (3 * r + n))
/-- a line is read, or not -/
theorem RS_line {c r n : Int} {a d : dkS} (h : RS r a) (hc : a 141 42 = c) (q : QX c r a d) (hn : 0 ≤ n ∧ n < 3) (f : ∀ j : Int, j ≠ 3 * r + n → d 162 j = a 162 j ∧ d 163 j = a 163 j ∧ d 169 j = a 169 j) (hd : d 169 (3 * r + n) = 1 → d 162 (3 * r + n) = c ∧ d 163 (3 * r + n) = d 141 42) : RS r d := by
  obtain ⟨q1, q2, q3, q4, q5, q6⟩ := q
  refine ⟨q2, fun m m0 m3 hm => ?_⟩
  by_cases e : m = n
  · subst e
    obtain ⟨g1, g2⟩ := hd hm
    rw [g1, g2]
    exact ⟨⟨q3, q4⟩, by omega, q5⟩
  · obtain ⟨f1, f2, f3⟩ := f (3 * r + m) (by omega)
    rw [f3] at hm
    obtain ⟨x1, x2, x3⟩ := h.2 m m0 m3 hm
    rw [f1, f2]
    exact ⟨⟨x1.1, by omega⟩, by omega, CD_fr x3 (fun j _ _ => q6 j (by omega))⟩
theorem RS_fr {r : Int} {a d : dkS} (h : RS r a) (k : NX a d) (f : ∀ k j : Int, mFP k j ∨ (k = 141 ∧ (j = 42 ∨ j = 43)) → d k j = a k j) : RS r d := by
  refine ⟨BS_fr h.1 f k.2.2.1, fun m m0 m3 hm => ?_⟩
  rw [f 169 _ (by omega)] at hm
  obtain ⟨x1, x2, x3⟩ := h.2 m m0 m3 hm
  rw [f 162 _ (by omega), f 163 _ (by omega), f 141 42 (by omega)]
  exact ⟨x1, x2, CD_fr x3 (fun j _ _ => f 164 j (by omega))⟩
theorem RS_init {r : Int} {σ : dkS} (h : MI σ) (h41 : σ 141 41 = r) (h0 : 0 ≤ r ∧ r ≤ 5) (h42 : σ 141 42 = 0) (h43 : σ 141 43 = 0) (h6 : 0 ≤ σ 141 6) (hE : ∀ n : Int, 0 ≤ n → n < 3 → σ 169 (3 * r + n) = 0) : RS r σ :=
  ⟨⟨h, by omega, by omega, by omega, by omega, by omega, by omega, by omega⟩, fun n a b c => by rw [hE n a b] at c; omega⟩
/-- a text of rules is there -/
theorem MI_rules {r x z : Int} {σ σ1 σ2 : dkS} (h : RS r σ) (h6 : σ 141 42 ≤ 600) (hz : z = r + 1) (e1 : σ1 = dk_up σ 161 r x) (e2 : σ2 = dk_up σ1 141 41 z) : MI σ2 := by
  obtain ⟨⟨⟨h1, h2, h3⟩, b1, b2, b3, b4⟩, hl⟩ := h
  have f : ∀ k j : Int, ¬ (k = 141 ∧ j = 41) → ¬ (k = 161) → σ2 k j = σ k j := fun k j a b => by rw [e2, dk_up_n a, e1, dk_up_n (by omega)]
  have g1 : σ2 141 41 = r + 1 := by rw [e2, dk_up_s, hz]
  refine ⟨fun g g0 g1 => ?_, ⟨by rw [f 141 27 (by omega) (by omega), f 146 _ (by omega) (by omega)]; exact h2.1, fun w w0 w1 => ?_⟩, fun q n a b c d e => ?_⟩
  · rw [f 141 53 (by omega) (by omega)] at g1
    rw [f 170 g (by omega) (by omega), f 172 g (by omega) (by omega)]
    exact h1 g g0 g1
  · rw [f 141 27 (by omega) (by omega), f 146 _ (by omega) (by omega), cw_fr (fun j => f 151 j (by omega) (by omega))]
    exact h2.2 w w0 w1
  · rw [f 169 _ (by omega) (by omega)] at e
    by_cases eq : q = r
    · subst eq
      obtain ⟨x1, x2, x3⟩ := hl n c d e
      rw [f 162 _ (by omega) (by omega), f 163 _ (by omega) (by omega)]
      exact ⟨⟨x1.1, by omega⟩, by omega, CD_fr x3 (fun j _ _ => f 164 j (by omega) (by omega))⟩
    · obtain ⟨x1, x2, x3⟩ := h3 q n a (by omega) c d e
      rw [f 162 _ (by omega) (by omega), f 163 _ (by omega) (by omega)]
      exact ⟨x1, x2, CD_fr x3 (fun j _ _ => f 164 j (by omega) (by omega))⟩
