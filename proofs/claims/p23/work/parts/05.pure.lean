/-! ===== the pure picture: values, cells, the judgement ===== -/
abbrev dkV : Type := Nat × Int
abbrev dkS : Type := Int → Int → Int
/-- where cell k lies; the first address of the cells; the heap at the law's entry; what the tables say of it -/
abbrev dkG : Type := (Int → Nat) × Nat × Heap × (State → Prop)
abbrev dkT : Type := Int → Int → Int → Prop
def dk_up (σ : dkS) (k j v : Int) : dkS := fun a b => if a = k ∧ b = j then v else σ a b
theorem dk_up_s (σ : dkS) (k j v : Int) : dk_up σ k j v k j = v := by simp [dk_up]
theorem dk_up_n {σ : dkS} {k j v a b : Int} (h : ¬ (a = k ∧ b = j)) : dk_up σ k j v a b = σ a b := by simp only [dk_up, if_neg h]
theorem dk_up_k {σ : dkS} {k j v a b : Int} (h : a ≠ k) : dk_up σ k j v a b = σ a b := dk_up_n (fun q => h q.1)
theorem dk_up_j {σ : dkS} {k j v a b : Int} (h : b ≠ j) : dk_up σ k j v a b = σ a b := dk_up_n (fun q => h q.2)
/-- a pure value: code 0 an int, 3 a long, 4 a reference (-1: null) -/
def dk_cv (ad : Int → Nat) (v : dkV) : Value := match v.1 with
  | 0 => .int (Int32.ofInt v.2)
  | 3 => .long (Int64.ofInt v.2)
  | _ => if v.2 = -1 then .null else .ref (ad v.2)
def dk_tg (tc : Nat) : Nat := match tc with
  | 0 => 0
  | 1 => 0
  | 2 => 0
  | 3 => 3
  | _ => 4
abbrev dk_i32 (z : Int) : Prop := -2147483648 ≤ z ∧ z ≤ 2147483647
abbrev dk_i64 (z : Int) : Prop := -9223372036854775808 ≤ z ∧ z ≤ 9223372036854775807
def dk_ok (v : dkV) : Prop := (v.1 = 0 → dk_i32 v.2) ∧ (v.1 = 3 → dk_i64 v.2)
def dk_cn (tc : Nat) (z : Int) : Prop := match tc with
  | 0 => dk_i32 z
  | 1 => -128 ≤ z ∧ z ≤ 127
  | 2 => 0 ≤ z ∧ z ≤ 1
  | 3 => dk_i64 z
  | _ => True
theorem dk_cn_ok {tc : Nat} {z : Int} (h : dk_cn tc z) : dk_ok (dk_tg tc, z) := by
  match tc, h with
  | 0, h => exact ⟨fun _ => h, fun q => (by cases q)⟩
  | 1, h => exact ⟨fun _ => ⟨by have := h.1; omega, by have := h.2; omega⟩, fun q => (by cases q)⟩
  | 2, h => exact ⟨fun _ => ⟨by have := h.1; omega, by have := h.2; omega⟩, fun q => (by cases q)⟩
  | 3, h => exact ⟨fun q => (by cases q), fun _ => h⟩
  | k + 4, h => exact ⟨fun q => (by cases q), fun q => (by cases q)⟩
def dk_ety (tc : Nat) : FieldType := match tc with
  | 0 => .int
  | 1 => .byte
  | 2 => .boolean
  | 3 => .long
  | 4 => .object "DanceCompany$Ruling"
  | 5 => .array .int
  | _ => .array .long
def dk_len (S : Nat) : Nat := match dk_shp S with
  | .inl c => (vwCl.getD c ("", TX0, 0)).2.2
  | .inr x => x.2
def dk_stc (S j : Nat) : Nat := match dk_shp S with
  | .inl c => dk_fty c j
  | .inr x => x.1
/-- cell k of the heap is as the picture has it -/
def dk_cell (s : State) (ad : Int → Nat) (H : Heap) (σ : dkS) (k : Int) : Prop := match dk_shp (dk_site k) with
  | .inl c => ∃ (q : vw_C) (cC : ClassId) (iS : Nat → Nat), vwCl[c]? = some q ∧ u_Kn s q.1 q.2.1 q.2.2 cC iS ∧ t_OB (ad k) cC q.2.2 iS H (fun j => dk_cv ad (dk_tg (dk_fty c j), σ k (j : Int)))
  | .inr x => ∃ cA : ClassId, ArrOfT s cA (dk_ety x.1) ∧ va_RA s cA (dk_ety x.1) ∧ H[ad k]? = some (arrV cA x.2 (fun j => dk_cv ad (dk_tg x.1, σ k (j : Int))))
def dk_Hold (G : dkG) (Ty : dkT) (s : State) (n : Int) (σ : dkS) (H : Heap) : Prop :=
  True ∧ 0 ≤ n ∧ H.size = G.2.1 + n.toNat ∧ (∀ q, q < G.2.1 → H[q]? = G.2.2.1[q]?) ∧
  ∀ k : Int, 0 ≤ k → k < n → dk_cell s G.1 H σ k ∧ ∀ j : Nat, j < dk_len (dk_site k) → dk_cn (dk_stc (dk_site k) j) (σ k (j : Int)) ∧ Ty k (j : Int) (σ k (j : Int))
def dk_A (ba : Nat) : Nat → Prop := fun q => ba ≤ q
def dk_strL : List Nat := [102, 9, 8, 6]
def dk_strB : List (List Int32) := [[102, 108, 111, 111, 114, 32, 104, 97, 114, 100, 32, 119, 111, 114, 107, 32, 112, 97, 114, 116, 32, 110, 111, 116, 101, 32, 97, 116, 32, 109, 97, 121, 32, 99, 111, 115, 116, 32, 116, 101, 97, 99, 104, 32, 119, 104, 101, 110, 32, 97, 110, 100, 32, 111, 114, 32, 110, 111, 116, 32, 98, 111, 100, 121, 32, 107, 110, 111, 119, 110, 32, 108, 97, 115, 116, 32, 108, 111, 97, 100, 32, 105, 100, 108, 101, 32, 104, 101, 97, 118, 121, 32, 100, 97, 121, 32, 99, 111, 117, 110, 116, 115], [59, 40, 41, 60, 62, 61, 43, 45, 42], [97, 98, 99, 100, 101, 102, 103, 104], [110, 101, 115, 119, 111, 120]]
/-- what the start says of the statics and the String constants: cells -2, -3 the two tables, -10-i the i-th constant, -20-i its bytes, -30 a formatter -/
def dk_Stat (ad : Int → Nat) (ba : Nat) (H0 : Heap) (s : State) : Prop :=
  (va_Z "DanceCompany$Score" "MOVE_X" "[I" (.ref (ad (-2))) (dk_A ba) s H0 ∧ ∃ f : Nat → Int32, va_T .int (ad (-2)) 6 (fun j => .int (f j)) (dk_A ba) s H0) ∧
  (va_Z "DanceCompany$Score" "MOVE_Y" "[I" (.ref (ad (-3))) (dk_A ba) s H0 ∧ ∃ f : Nat → Int32, va_T .int (ad (-3)) 6 (fun j => .int (f j)) (dk_A ba) s H0) ∧
  va_Z "java/lang/String" "COMPACT_STRINGS" "Z" (.int 1) (dk_A ba) s H0 ∧
  (va_Z "jdk/internal/util/Preconditions" "SIOOBE_FORMATTER" "Ljava/util/function/BiFunction;" .null (dk_A ba) s H0 ∨ va_Z "jdk/internal/util/Preconditions" "SIOOBE_FORMATTER" "Ljava/util/function/BiFunction;" (.ref (ad (-30))) (dk_A ba) s H0) ∧
  vk_S 4 dk_strL dk_strB (fun i => ad (-10 - (i : Int))) (fun i => ad (-20 - (i : Int))) (dk_A ba) s H0 ∧
  vk_R "DanceCompany$Tokens" 17 "floor hard work part note at may cost teach when and or not body known last load idle heavy day counts" (ad (-10)) s ∧ vk_R "DanceCompany$Tokens" 70 ";()<>=+-*" (ad (-11)) s ∧ vk_R "DanceCompany$ScoreReader" 134 "abcdefgh" (ad (-12)) s ∧ vk_R "DanceCompany$ScoreReader" 136 "neswox" (ad (-13)) s
def dk_Gd (G : dkG) : Prop := (∀ k : Int, 0 ≤ k → G.1 k = G.2.1 + k.toNat) ∧ (∀ s U : State, s.WarmedH U.vm → G.2.2.2 s → G.2.2.2 U) ∧ (∀ s U : State, U.vm = s.vm → G.2.2.2 s → G.2.2.2 U) ∧ ∀ s : State, G.2.2.2 s → dk_Stat G.1 G.2.1 G.2.2.1 s
theorem dk_cell.moved {s U : State} {ad : Int → Nat} {H : Heap} {σ : dkS} {k : Int} (hvm : s.vm.Alike U.vm) (h : dk_cell s ad H σ k) : dk_cell U ad H σ k := by
  unfold dk_cell at h ⊢
  split at h
  · obtain ⟨q, cC, iS, h1, h2, h3⟩ := h
    exact ⟨q, cC, iS, h1, u_Kn_moved hvm h2, h3⟩
  · obtain ⟨cA, h1, h2, h3⟩ := h
    exact ⟨cA, arrOfT_moved hvm h1, h2.moved hvm, h3⟩
theorem dk_Hold.moved {G : dkG} {Ty : dkT} {s U : State} {n : Int} {σ : dkS} {H : Heap} (hvm : s.vm.Alike U.vm) (h : dk_Hold G Ty s n σ H) : dk_Hold G Ty U n σ H :=
  ⟨trivial, h.2.1, h.2.2.1, h.2.2.2.1, fun k h0 hk => ⟨(h.2.2.2.2 k h0 hk).1.moved hvm, (h.2.2.2.2 k h0 hk).2⟩⟩
/-- the locals -/
def dk_lr (ad : Int → Nat) (lsr : Array Slot) (nL : Nat) (ls : List dkV) : Prop := lsr.size = nL ∧ lv_wf lsr ∧ ∀ (i : Nat) (v : dkV), ls[i]? = some v → v.1 ≠ 9 → lsr[i]? = some (.val (dk_cv ad v))
/-- all slots of the cells below n -/
def dk_tot (n : Int) : Nat := ((List.range n.toNat).map (fun k : Nat => dk_len (dk_site (k : Int)))).sum
abbrev dkE : Type := Program × Launch × Env × Room × State × MethodId × Array Value × List Frame × Method × Code × (State → Prop) × dkG × dkT × Int × Nat
def dk_PJ (E : dkE) (pc : Nat) (ls st : List dkV) (n : Int) (σ : dkS) : Prop := match E with
  | (p, l, e, R, s, m, args, below, meth, c, Q, G, Ty, n0, nL) => ∀ (H : Heap) (locs : List Loc) (lsr : Array Slot), dk_Hold G Ty s n σ H → (∀ q ∈ locs, G.2.1 ≤ q.base) → dk_lr G.1 lsr nL ls → (∀ v ∈ ls, dk_ok v) → (∀ v ∈ st, dk_ok v) → n0 ≤ n →
      W p l e R s m args below meth c H locs (n - n0).toNat (dk_tot n - dk_tot n0) Q (F0 m pc lsr (st.map (dk_cv G.1)))
def dk_Good (E : dkE) (cc : ByteArray) (own : String) (d : Nat) (T : dkT) (l' : Launch) (G' : dkG) (n0' : Int) (nL' mc ms : Nat) : Prop := match E with
  | (p, l, e, R, s, m, args, below, meth, c, Q, G, Ty, n0, nL) => p.tables.exec = Jvm.exec ∧ c.code = cc ∧ c.maxLocals = nL ∧ s.vm.findClass own = some m.cls ∧ (∀ w ∈ lw_g, w.before args s = true) ∧ d ≤ R.frames ∧ 100 * d ≤ R.locals ∧ dk_Gd G ∧ meth.locks = false ∧ Ty = T ∧ l = l' ∧ G = G' ∧ n0 = n0' ∧ nL = nL' ∧ mc ≤ R.cells ∧ ms ≤ R.slots ∧ G.2.2.2 s
theorem dk_t32 {x : Int} (h : dk_i32 x) : (Int32.ofInt x).toInt = x := Int32.toInt_ofInt_of_le (by have := h.1; omega) (by have := h.2; omega)
theorem dk_t64 {x : Int} (h : dk_i64 x) : (Int64.ofInt x).toInt = x := Int64.toInt_ofInt_of_le (by have := h.1; omega) (by have := h.2; omega)
theorem dk_r32 (x : Int32) : dk_i32 x.toInt := ⟨by have := Int32.le_toInt x; omega, by have := Int32.toInt_lt x; omega⟩
theorem dk_r64 (x : Int64) : dk_i64 x.toInt := ⟨by have := Int64.le_toInt x; omega, by have := Int64.toInt_lt x; omega⟩
theorem dk_oki {x : Int} (h : dk_ok (0, x)) : dk_i32 x := h.1 rfl
theorem dk_okl {x : Int} (h : dk_ok (3, x)) : dk_i64 x := h.2 rfl
theorem dk_iok {x : Int} (h : dk_i32 x) : dk_ok (0, x) := ⟨fun _ => h, fun q => (by cases q)⟩
theorem dk_lok {x : Int} (h : dk_i64 x) : dk_ok (3, x) := ⟨fun q => (by cases q), fun _ => h⟩
theorem dk_rok (x : Int) : dk_ok (4, x) := ⟨fun q => (by cases q), fun q => (by cases q)⟩
theorem dk_lt {x y : Int} (hx : dk_i32 x) (hy : dk_i32 y) : Int32.ofInt x < Int32.ofInt y ↔ x < y := by rw [Int32.lt_iff_toInt_lt, dk_t32 hx, dk_t32 hy]
theorem dk_le {x y : Int} (hx : dk_i32 x) (hy : dk_i32 y) : Int32.ofInt x ≤ Int32.ofInt y ↔ x ≤ y := by rw [Int32.le_iff_toInt_le, dk_t32 hx, dk_t32 hy]
theorem dk_eq {x y : Int} (hx : dk_i32 x) (hy : dk_i32 y) : Int32.ofInt x = Int32.ofInt y ↔ x = y := by rw [← Int32.toInt_inj, dk_t32 hx, dk_t32 hy]
theorem dk_c2 {P : dkV → Prop} {a b : dkV} {l : List dkV} (h : ∀ v ∈ a :: b :: l, P v) : P a ∧ P b ∧ ∀ v ∈ l, P v := ⟨h a (by simp), h b (by simp), fun v hv => h v (by simp [hv])⟩
theorem dk_c1 {P : dkV → Prop} {a : dkV} {l : List dkV} (h : ∀ v ∈ a :: l, P v) : P a ∧ ∀ v ∈ l, P v := ⟨h a (by simp), fun v hv => h v (by simp [hv])⟩
theorem dk_cc {P : dkV → Prop} {a : dkV} {l : List dkV} (ha : P a) (h : ∀ v ∈ l, P v) : ∀ v ∈ a :: l, P v := fun v hv => by
  rcases List.mem_cons.mp hv with rfl | q
  · exact ha
  · exact h v q
def dk_is (n : Int) (S : Nat) (k : Int) : Prop := 0 ≤ k ∧ k < n ∧ dk_site k = S
