/-! ===== an array of arrays at once: multianewarray of two dimensions, out of the machine's own steps ===== -/
/-- the outer array when i rows are there -/
def dk_mo (cA : ClassId) (N h i : Nat) : Cell := arrV cA N (fun j => if j < i then .ref (h + 1 + j) else .null)
def dk_mi (cI : ClassId) (M : Nat) (dv : Value) : Cell := arrV cI M (fun _ => dv)
def dk_mS (T : State) (cA cI : ClassId) (N M : Nat) (dv : Value) : Nat → State
  | 0 => T.pushCell (dk_mo cA N T.heap.size 0)
  | i + 1 => ((dk_mS T cA cI N M dv i).pushCell (dk_mi cI M dv)).setCell T.heap.size ((dk_mo cA N T.heap.size i).setSlot i (.ref (T.heap.size + 1 + i)))
theorem dk_mo_s (cA : ClassId) (N h i : Nat) : (dk_mo cA N h i).setSlot i (.ref (h + 1 + i)) = dk_mo cA N h (i + 1) := by
  unfold dk_mo
  rw [arrV_store]
  congr 1
  funext j
  unfold updV
  by_cases e : j = i
  · subst e
    rw [if_pos rfl, if_pos (Nat.lt_succ_self _)]
  · rw [if_neg e]
    show (if j < i then Value.ref (h + 1 + j) else Value.null) = _
    by_cases q : j < i
    · rw [if_pos q, if_pos (by omega)]
    · rw [if_neg q, if_neg (by omega)]
theorem dk_mS_f (T : State) (cA cI : ClassId) (N M : Nat) (dv : Value) : ∀ i, (dk_mS T cA cI N M dv i).heap.size = T.heap.size + 1 + i ∧ (dk_mS T cA cI N M dv i).heap[T.heap.size]? = some (dk_mo cA N T.heap.size i) ∧ (dk_mS T cA cI N M dv i).vm = T.vm ∧ (dk_mS T cA cI N M dv i).slotsUsed = T.slotsUsed + N + i * M
  | 0 => ⟨by simp [dk_mS], by simp [dk_mS], rfl, by simp [dk_mS, dk_mo, arrV_size]⟩
  | i + 1 => by
    obtain ⟨a, b, d, u⟩ := dk_mS_f T cA cI N M dv i
    have hb : ((dk_mS T cA cI N M dv i).pushCell (dk_mi cI M dv)).heap[T.heap.size]? = some (dk_mo cA N T.heap.size i) := by
      exact (State.heap_pushCell_of_lt _ _ (show T.heap.size < (dk_mS T cA cI N M dv i).heap.size by omega)).trans b
    refine ⟨?_, ?_, by simp [dk_mS, d], ?_⟩
    · simp [dk_mS, State.setCell, a]; omega
    · rw [← dk_mo_s]; exact State.heap_setCell_self hb
    · simp [dk_mS, u, dk_mi, arrV_size, Nat.succ_mul]; omega
theorem dk_mS_o (T : State) (cA cI : ClassId) (N M : Nat) (dv : Value) {q : Nat} (hq : q < T.heap.size) : ∀ i, (dk_mS T cA cI N M dv i).heap[q]? = T.heap[q]?
  | 0 => State.heap_pushCell_of_lt _ _ hq
  | i + 1 => by
    have f := (dk_mS_f T cA cI N M dv i).1
    show (((dk_mS T cA cI N M dv i).pushCell (dk_mi cI M dv)).setCell T.heap.size _).heap[q]? = _
    rw [State.heap_setCell_other (Nat.ne_of_gt hq), State.heap_pushCell_of_lt _ _ (show q < (dk_mS T cA cI N M dv i).heap.size by omega)]
    exact dk_mS_o T cA cI N M dv hq i
theorem dk_mS_i (T : State) (cA cI : ClassId) (N M : Nat) (dv : Value) : ∀ i j, j < i → (dk_mS T cA cI N M dv i).heap[T.heap.size + 1 + j]? = some (dk_mi cI M dv)
  | 0, _, h => absurd h (Nat.not_lt_zero _)
  | i + 1, j, h => by
    have f := (dk_mS_f T cA cI N M dv i).1
    show (((dk_mS T cA cI N M dv i).pushCell (dk_mi cI M dv)).setCell T.heap.size _).heap[T.heap.size + 1 + j]? = _
    rw [State.heap_setCell_other (show T.heap.size ≠ T.heap.size + 1 + j by omega)]
    by_cases e : j = i
    · subst e
      rw [← f]
      exact State.heap_pushCell_size _ _
    · rw [State.heap_pushCell_of_lt _ _ (show T.heap.size + 1 + j < (dk_mS T cA cI N M dv i).heap.size by omega)]
      exact dk_mS_i T cA cI N M dv i j (by omega)
theorem dk_mS_top (T : State) (f : JFrame) (cA cI : ClassId) (N M : Nat) (dv : Value) : ∀ i, dk_mS (T.setTop f) cA cI N M dv i = (dk_mS T cA cI N M dv i).setTop f
  | 0 => rfl
  | i + 1 => by simp only [dk_mS, dk_mS_top T f cA cI N M dv i, State.heap_setTop, State.pushCell_setTop, State.setCell_setTop]
theorem dk_wpN {E : CtlPost} {e : Env} {d : Bool} {acts : List Action} {s : State} {c comp : ClassId} {k : Class} {ty : FieldType} {len : Nat} {v : Value} (hk : s.vm.classes[c]? = some k) (hkind : k.kind = .array comp ty) (h1 : ¬ len > e.platform.arrayLengthLimit) (h2 : ¬ len * componentBytes ty > e.platform.maxHeapBytes) (hf : fits ty v = true) (hd : v.isDefault = true) {Q : Addr → Pre} (h3 : s.heap.size < e.platform.maxCells) (h4 : s.slotsUsed + len ≤ e.platform.maxSlots) (hq : Q s.heap.size d acts (s.pushCell (arrV c len (fun _ => v)))) : wp (Jvm.newArray c len v) Q E e d acts s := by
  have ha : ∀ i x, (Array.replicate len v)[i]? = some x → s.fitsSlot c .none i x = true := fun i x hx => by
    rw [Array.getElem?_replicate] at hx
    split at hx
    · cases hx; simp [State.fitsSlot, State.slotType?, hk, hkind, hf]
    · cases hx
  have hb : allocActs (Array.replicate len v) s.heap.size acts = acts := by
    have : ((Array.replicate len v).all (·.isDefault)) = true := by rw [Array.all_replicate]; split <;> simp [hd]
    unfold allocActs
    rw [if_pos this]
  rw [← arrV_new] at hq
  simp only [Jvm.newArray, Jvm.arrayFits, wp_bind', W.ask, W.ite, h1, if_false, wp_pure', W.theClass, hk, hkind, h2, W.alloc, W.stop, Option.some.injEq, exists_eq_left', Array.size_replicate, hb]
  rw [if_neg (by omega)]
  exact ⟨h3, h4, ha, hq⟩
theorem dk_wpM {E : CtlPost} {e : Env} {d : Bool} {acts : List Action} {s : State} {c cI cc : ClassId} {k kI : Class} {ty : FieldType} {n m : Int32} {N M : Nat} (hN : n.toNatClampNeg = N) (hM : m.toNatClampNeg = M) (hk : s.vm.classes[c]? = some k) (hkind : k.kind = .array cI (.array ty)) (hkI : s.vm.classes[cI]? = some kI) (hkindI : kI.kind = .array cc ty) (hn : ¬ n < 0) (hm : ¬ m < 0)
    (h1 : ¬ N > e.platform.arrayLengthLimit) (h2 : ¬ N * componentBytes (.array ty) > e.platform.maxHeapBytes) (h3 : ¬ M > e.platform.arrayLengthLimit) (h4 : ¬ M * componentBytes ty > e.platform.maxHeapBytes) (hf : fits ty (defaultValue ty) = true) (hd : (defaultValue ty).isDefault = true)
    (hc : s.heap.size + 1 + N ≤ e.platform.maxCells) (hs : s.slotsUsed + N + N * M ≤ e.platform.maxSlots) {Q : Addr → Pre} (hq : ∀ d' acts', Q s.heap.size d' acts' (dk_mS s c cI N M (defaultValue ty) N)) : wp (multianewarray.make c [n, m]) Q E e d acts s := by
  have h0 : ([m].find? (· < 0)) = none := by simp [hm]
  rw [multianewarray.make]
  simp only [wp_bind', W.ite, hn, if_false, wp_pure', W.theClass, hk, hkind, Option.some.injEq, exists_eq_left', hN]
  refine dk_wpN hk hkind h1 h2 rfl rfl (by omega) (by have := Nat.zero_le (N * M); omega) ?_
  simp only [h0]
  rw [ite_self, wp_bind', Std.Legacy.Range.forIn_eq_forIn_range']
  have hsz : ([:N] : Std.Legacy.Range).size = N := by simp [Std.Legacy.Range.size]
  rw [hsz]
  show wp (forIn (List.range' 0 N 1) PUnit.unit _) _ E e d acts _
  refine wp_forIn_inv (fun rest s' => ∃ i, i ≤ N ∧ rest = List.range' i (N - i) ∧ s' = dk_mS s c cI N M (defaultValue ty) i) _ _ ⟨0, Nat.zero_le _, rfl, rfl⟩ ?_ ?_
  · rintro x rest s' d' acts' Q' ⟨i, hi, hl, rfl⟩ hnext
    have hlt : i < N := by
      rcases Nat.lt_or_ge i N with h | h
      · exact h
      · rw [show N - i = 0 by omega] at hl; cases hl
    rw [show N - i = (N - (i + 1)) + 1 by omega, List.range'_succ] at hl
    obtain ⟨e1, e2⟩ := List.cons.inj hl
    subst e1
    obtain ⟨f1, f2, f3, f4⟩ := dk_mS_f s c cI N M (defaultValue ty) x
    have hmul : x * M + M ≤ N * M := by
      have := Nat.mul_le_mul_right M (show x + 1 ≤ N from hlt)
      rw [Nat.succ_mul] at this
      exact this
    simp only [wp_bind']
    rw [multianewarray.make]
    simp only [wp_bind', W.ite, hm, if_false, wp_pure', W.theClass, f3, hkI, hkindI, Option.some.injEq, exists_eq_left', hM]
    refine dk_wpN (by rw [f3]; exact hkI) hkindI h3 h4 hf hd (by rw [f1]; omega) (by rw [f4]; omega) ?_
    simp only [wp_bind', W.writeLoc, wp_pure']
    refine ⟨dk_mo c N s.heap.size x, (State.heap_pushCell_of_lt _ _ (show s.heap.size < (dk_mS s c cI N M (defaultValue ty) x).heap.size by omega)).trans f2, (fun q => by cases q), by unfold dk_mo; rw [arrV_size]; exact hlt, ?_, hnext _ _ _ ⟨x + 1, hlt, e2, ?_⟩⟩
    · simp [State.fitsSlot, State.slotType?, f3, dk_mo, arrV, hk, hkind, fits]
    · rw [f1]; rfl
  · rintro s' d' acts' ⟨i, hi, hl, rfl⟩
    have hiN : i = N := by
      rcases Nat.lt_or_ge i N with h | h
      · rw [show N - i = (N - (i + 1)) + 1 by omega, List.range'_succ] at hl; cases hl
      · omega
    subst hiN
    simp only [wp_pure']
    exact hq _ _
theorem dk_mStand {p : Program} {l : Launch} {e : Env} {R : Room} {s : State} {m : MethodId} {args : Array Value} {below : List Frame} {meth : Method} {c : Code} {T : State} {locs : List Loc} {cells slots : Nat} (X : Stand p l e R s m args below meth c T locs cells slots) (cA cI : ClassId) (N M : Nat) (dv : Value) : ∀ i, Stand p l e R s m args below meth c (dk_mS T cA cI N M dv i) (locs ++ (List.range i).map fun j => (⟨T.heap.size, j⟩ : Loc)) (cells + 1 + i) (slots + N + i * M)
  | 0 => by
    have h := X.pushed (dk_mo cA N T.heap.size 0)
    rw [show (dk_mo cA N T.heap.size 0).slots.size = N from arrV_size _ _ _] at h
    simpa [dk_mS] using h
  | i + 1 => by
    obtain ⟨f1, f2, f3, f4⟩ := dk_mS_f T cA cI N M dv i
    have Xi := dk_mStand X cA cI N M dv i
    have hcell : ((dk_mS T cA cI N M dv i).pushCell (dk_mi cI M dv)).heap[T.heap.size]? = some (dk_mo cA N T.heap.size i) := (State.heap_pushCell_of_lt _ _ (show T.heap.size < (dk_mS T cA cI N M dv i).heap.size by omega)).trans f2
    have h := (Xi.pushed (dk_mi cI M dv)).stored hcell i (.ref (T.heap.size + 1 + i))
    rw [show (dk_mi cI M dv).slots.size = M from arrV_size _ _ _] at h
    rw [List.range_succ, List.map_append, ← List.append_assoc, Nat.succ_mul, ← Nat.add_assoc, ← Nat.add_assoc (slots + N)]
    exact h
/-- the row: 1 + N new cells -/
theorem dk_Wmulti {p : Program} {l : Launch} {e : Env} {R : Room} {s : State} {m : MethodId} {args : Array Value} {below : List Frame} {meth : Method} {c : Code} {H : Heap} {locs : List Loc} {cells slots : Nat} {Q : State → Prop} {cc : ByteArray} (hexec : p.tables.exec = Jvm.exec) (hb : c.code = cc) {own : String} {index : Nat} {ty : FieldType} (hown : s.vm.findClass own = some m.cls) (hclink : (Cond.classLink own index ("[" ++ (FieldType.array ty).toString)).before args s = true) (hover : (Cond.arrayOver (.array ty)).before args s = true) (harr : (Cond.arrayClass ty).before args s = true)
    {pc : Nat} {ls : Array Slot} {n k : Int32} {N M : Nat} {rest : List Value} (hdg : decode cc pc = .ok (.multianewarray index 2, 4)) (hN : n.toNatClampNeg = N) (hM : k.toNatClampNeg = M) (hn : ¬ n < 0) (hk : ¬ k < 0) (hb1 : N * 4 ≤ 536870912) (hb2 : M * componentBytes ty ≤ 536870912) (hb3 : M ≤ 536870912) (hf : fits ty (defaultValue ty) = true) (hd : (defaultValue ty).isDefault = true) (hcells : cells + (1 + N) ≤ R.cells) (hslots : slots + (N + N * M) ≤ R.slots)
    (kk : ∀ (H' : Heap) (L : List Loc) (cA cI : ClassId), (∀ q ∈ L, q.base = H.size) → H'.size = H.size + 1 + N → (∀ q, q < H.size → H'[q]? = H[q]?) → H'[H.size]? = some (arrV cA N (fun j => .ref (H.size + 1 + j))) → (∀ j, j < N → H'[H.size + 1 + j]? = some (arrV cI M (fun _ => defaultValue ty))) → ArrOfT s cA (.array ty) → va_RA s cA (.array ty) → ArrOfT s cI ty → s.vm.findClass ("[" ++ ty.toString) = some cI →
      W p l e R s m args below meth c H' (locs ++ L) (cells + 1 + N) (slots + N + N * M) Q (F0 m (pc + 4) ls (.ref H.size :: rest))) : W p l e R s m args below meth c H locs cells slots Q (F0 m pc ls (.int k :: .int n :: rest)) := by
  intro T hT X
  subst hT; subst hb
  have hpl : e.platform.magicAccessors = ({} : Platform).magicAccessors := by rw [X.admits.platform]
  obtain ⟨cI, cA, kA, hcI, -, hkA, hkindA, hnameA⟩ := arrayOverA_spec hover
  obtain ⟨cI', kI, cI2, hcI', hkI, hkindI⟩ := Cond.arrayClass_spec harr
  have eI : cI' = cI := Option.some.inj (hcI'.symm.trans hcI)
  subst eI
  obtain ⟨c0, hfc0, hcl⟩ := Cond.classLink_spec hown hclink e.platform hpl
  cases hnameA.symm.trans hfc0
  obtain ⟨hg₁, hwarm₁, hready₁⟩ := State.classEntry (e := e) X.warmed hcl
  generalize T.vm.noted m.cls index (.cls cA) = vm₁ at hg₁ hwarm₁ hready₁
  have hal : s.vm.Alike vm₁ := hwarm₁.alike
  obtain ⟨kA₁, hkA₁, heA⟩ := hal.2.2 _ _ hkA
  obtain ⟨kI₁, hkI₁, heI⟩ := hal.2.2 _ _ hkI
  have hkindA₁ : kA₁.kind = .array cI' (.array ty) := by rw [heA]; exact hkindA
  have hkindI₁ : kI₁.kind = .array cI2 ty := by rw [heI]; exact hkindI
  have X₁ := X.noted hwarm₁
  obtain ⟨hr1, hr2⟩ := X.roomAbove hcells hslots
  have XF := dk_mStand X₁ cA cI' N M (defaultValue ty) N
  obtain ⟨f1, f2, f3, f4⟩ := dk_mS_f (T.setVm vm₁) cA cI' N M (defaultValue ty) N
  obtain ⟨t, a1, b1⟩ := kk (dk_mS (T.setVm vm₁) cA cI' N M (defaultValue ty) N).heap ((List.range N).map fun j => (⟨T.heap.size, j⟩ : Loc)) cA cI' (fun q hq => by
      obtain ⟨j, -, rfl⟩ := List.mem_map.mp hq
      rfl) f1 (fun q hq => dk_mS_o (T.setVm vm₁) cA cI' N M (defaultValue ty) hq N) (by
      rw [show (T.heap.size) = (T.setVm vm₁).heap.size from rfl, f2]
      unfold dk_mo
      congr 1
      unfold arrV
      congr 2
      funext j
      exact if_pos j.isLt) (fun j hj => dk_mS_i (T.setVm vm₁) cA cI' N M (defaultValue ty) N j hj) (fun N z => ⟨(fun k h => by cases h), kA, hkA, cI', hkindA⟩) hnameA (fun N z => ⟨(fun k h => by cases h), kI, hkI, cI2, hkindI⟩) hcI _ rfl XF
  refine ⟨t, ?_, b1⟩
  have hl1 : ¬ N > e.platform.arrayLengthLimit := by rw [Launch.admits_arrayLengthLimit X.admits]; omega
  have hh1 : ¬ N * componentBytes (.array ty) > e.platform.maxHeapBytes := by
    rw [Launch.admits_maxHeapBytes X.admits]; show ¬ N * 4 > 536870912; omega
  have hl2 : ¬ M > e.platform.arrayLengthLimit := by rw [Launch.admits_arrayLengthLimit X.admits]; omega
  have hh2 : ¬ M * componentBytes ty > e.platform.maxHeapBytes := by rw [Launch.admits_maxHeapBytes X.admits]; omega
  jvm_step X.here [hexec, hdg]
  simp only [multianewarray.sem, wp_bind', W.resolveClassAt_links (State.method?_setTop (F0 m pc ls (.int k :: .int n :: rest)) X.here.top) hg₁]
  rw [W.popN, if_neg (by decide)]
  refine ⟨F0 m pc ls (.int k :: .int n :: rest), State.topJava?_setTop' (s := T.setVm vm₁) _ X.here.top, [.int n, .int k], rest, rfl, rfl, ?_⟩
  simp only [List.mapM_cons, List.mapM_nil, wp_bind', wp_pure']
  refine dk_wpM (k := kA₁) (kI := kI₁) (cI := cI') (cc := cI2) (ty := ty) hN hM hkA₁ hkindA₁ hkI₁ hkindI₁ hn hk hl1 hh1 hl2 hh2 hf hd (by show T.heap.size + 1 + _ ≤ _; omega) (by show T.slotsUsed + _ + _ ≤ _; omega) (fun d' acts' => ?_)
  have eS : ((T.setTop (F0 m pc ls (.int k :: .int n :: rest))).setVm vm₁).setTop (F0 m pc ls rest) = (T.setVm vm₁).setTop (F0 m pc ls rest) := by
    show ((T.setVm vm₁).setTop _).setTop _ = _
    rw [State.setTop_setTop]
  show wp _ _ _ _ _ _ (dk_mS (((T.setTop (F0 m pc ls (.int k :: .int n :: rest))).setVm vm₁).setTop (F0 m pc ls rest)) cA cI' N M (defaultValue ty) N)
  rw [eS, dk_mS_top]
  simp only [wp_bind', W.mark, W.pushRef, State.topJava?_setTop' _ XF.here.top, Option.some.injEq, exists_eq_left', State.setTop_setTop, State.heap_setTop]
  intro acts
  simp [jvm, XF.here.top]
  exact a1
