def dk_ty0 (k j v : Int) : Prop := if j = 0 then (v = k + 1) else if j = 1 then (v = k + 10) else if j = 2 then (v = k + 11) else if j = 3 then (v = k + 12) else if j = 4 then (0 ≤ v ∧ v ≤ 8) else if j = 5 then (0 ≤ v ∧ v ≤ 10) else True
def dk_ty1 (k j v : Int) : Prop := if j = 0 then (v = k + 1) else if j = 1 then (v = k + 2) else if j = 2 then (v = k + 3) else if j = 3 then (v = k + 4) else if j = 4 then (v = k + 5) else if j = 5 then (v = k + 6) else if j = 6 then (v = k + 7) else if j = 7 then (0 ≤ v ∧ v ≤ 200) else if j = 8 then (0 ≤ v ∧ v ≤ 100000) else True
def dk_ty2 (k j v : Int) : Prop := if j = 0 then (v = 6) else if j = 1 then (v = k + 1) else if j = 2 then (0 ≤ v ∧ v ≤ 48) else if j = 4 then (0 ≤ v ∧ v ≤ 60) else if j = 5 then (v = -1 ∨ (13 ≤ v ∧ v ≤ 33 ∧ (v - 13) % 4 = 0)) else True
def dk_ty3 (k j v : Int) : Prop := if j = 0 then (v = k + 1) else if j = 1 then (v = k + 2) else if j = 2 then (v = k + 3) else if j = 3 then (0 ≤ v ∧ v ≤ 320) else True
def dk_ty4 (k j v : Int) : Prop := if j = 0 then (v = 3) else if j = 1 then (v = k + 1) else if j = 2 then (v = k + 2) else if j = 3 then (v = k + 3) else if j = 4 then (v = k + 16) else if j = 5 then (v = k + 17) else if j = 6 then (v = k + 18) else if j = 7 then (v = k + 19) else if j = 8 then (v = k + 20) else if j = 9 then (v = k + 21) else if j = 10 then (v = k + 22) else if j = 11 then (0 ≤ v ∧ v ≤ 4) else if j = 12 then (0 ≤ v ∧ v ≤ 12) else if j = 16 then (0 ≤ v ∧ v ≤ 9) else True
def dk_ty5 (k j v : Int) : Prop := if j = 0 then (v = 6) else if j = 1 then (v = k + 1) else if j = 2 then (0 ≤ v ∧ v ≤ 16) else if j = 4 then (v = -1 ∨ v = 95 ∨ v = 118) else True
def dk_ty6 (k j v : Int) : Prop := if j = 0 then (v = k + 1) else if j = 1 then (v = k + 12) else if j = 2 then (v = k + 23) else if j = 3 then (v = k + 24) else if j = 4 then (v = k + 25) else if j = 5 then (v = k + 26) else if j = 6 then (v = k + 27) else if j = 7 then (v = k + 28) else if j = 8 then (v = k + 29) else if j = 9 then (v = -1 ∨ v = 95 ∨ v = 118) else if j = 10 then (v = -1 ∨ (13 ≤ v ∧ v ≤ 33 ∧ (v - 13) % 4 = 0)) else if j = 11 then (0 ≤ v ∧ v ≤ 10) else if j = 12 then (0 ≤ v ∧ v ≤ 999) else True
def dk_ty7 (k j v : Int) : Prop := if j = 0 then (v = k + 1) else if j = 1 then (0 ≤ v ∧ v ≤ 1400) else True
def dk_ty8 (k j v : Int) : Prop := if j = 0 then (v = k + 1) else if j = 1 then (v = k + 2) else if j = 2 then (v = k + 3) else if j = 3 then (v = k + 4) else if j = 4 then (v = k + 5) else if j = 5 then (v = k + 6) else if j = 6 then (0 ≤ v ∧ v ≤ 9) else if j = 7 then (0 ≤ v ∧ v ≤ 5) else True
def dk_ty9 (k j v : Int) : Prop := if j = 0 then (v = 1) else if j = 1 then (v = k + 1) else if j = 2 then (0 ≤ v ∧ v ≤ 1400) else if j = 3 then (0 ≤ v ∧ v ≤ 127) else if j = 4 then (0 ≤ v ∧ v ≤ 1400) else if j = 5 then (0 ≤ v ∧ v ≤ 8) else if j = 6 then (0 ≤ v ∧ v ≤ 9999) else True
def dk_ty10 (k j v : Int) : Prop := if j = 0 then (v = 1) else if j = 1 then (v = 3) else if j = 2 then (v = 8) else if j = 3 then (v = 10) else if j = 4 then (v = 12) else if j = 5 then (v = 37) else if j = 6 then (v = 45) else if j = 7 then (v = 75) else if j = 8 then (v = 88) else if j = 9 then (v = 95 ∨ v = 118) else if j = 10 then (v = 95 ∨ v = 118) else if j = 11 then (0 ≤ v ∧ v ≤ 6) else if j = 12 then (0 ≤ v ∧ v ≤ 10) else True
def dk_ty11 (k j v : Int) : Prop := if j = 0 then (v = k + 1) else if j = 1 then (v = k + 2) else if j = 2 then (0 ≤ v ∧ v ≤ 1400) else if j = 3 then (0 ≤ v ∧ v ≤ 1400) else if j = 4 then (0 ≤ v ∧ v ≤ 5) else if j = 6 then (0 ≤ v ∧ v ≤ 1400) else if j = 7 then (0 ≤ v ∧ v ≤ 1401) else if j = 8 then (0 ≤ v ∧ v ≤ 5) else if j = 9 then (0 ≤ v ∧ v ≤ 9999) else if j = 11 then (v = k + 3) else if j = 12 then (v = k + 4) else if j = 13 then (v = k + 5) else if j = 14 then (v = k + 6) else if j = 15 then (v = k + 7) else if j = 16 then (v = k + 8) else if j = 17 then (v = k + 9) else if j = 18 then (v = k + 10) else if j = 19 then (v = k + 11) else if j = 20 then (v = k + 12) else if j = 21 then (v = k + 13) else if j = 22 then (v = k + 14) else if j = 23 then (v = k + 15) else if j = 24 then (v = k + 16) else if j = 25 then (v = k + 17) else if j = 26 then (v = k + 18) else if j = 27 then (0 ≤ v ∧ v ≤ 1) else if j = 28 then (0 ≤ v ∧ v ≤ 1) else if j = 29 then (v = k + 19) else if j = 32 then (v = k + 20) else if j = 33 then (v = k + 21) else if j = 34 then (v = k + 22) else if j = 35 then (v = k + 23) else if j = 36 then (v = k + 24) else if j = 37 then (v = k + 25) else if j = 38 then (v = k + 26) else if j = 39 then (v = k + 27) else if j = 40 then (v = k + 28) else if j = 41 then (0 ≤ v ∧ v ≤ 6) else if j = 42 then (0 ≤ v ∧ v ≤ 1199) else if j = 43 then (0 ≤ v ∧ v ≤ 60) else if j = 45 then (0 ≤ v ∧ v ≤ 80) else if j = 46 then (v = k + 29) else if j = 47 then (v = k + 30) else if j = 48 then (v = k + 31) else if j = 49 then (v = k + 32) else if j = 50 then (v = k + 33) else if j = 51 then (v = k + 34) else if j = 52 then (0 ≤ v ∧ v ≤ 10) else if j = 53 then (0 ≤ v ∧ v ≤ 200) else if j = 54 then (0 ≤ v ∧ v ≤ 100000) else if j = 56 then (0 ≤ v ∧ v ≤ 11) else if j = 62 then (v = k + 35) else if j = 63 then (v = k + 36) else if j = 64 then (v = k + 37) else if j = 65 then (v = k + 38) else if j = 66 then (v = k + 39) else if j = 67 then (v = k + 40) else if j = 68 then (v = k + 41) else if j = 69 then (v = k + 42) else if j = 70 then (0 ≤ v ∧ v ≤ 8) else if j = 73 then (v = k + 43) else if j = 74 then (v = k + 44) else if j = 75 then (v = k + 45) else if j = 76 then (v = k + 46) else if j = 77 then (v = k + 47) else if j = 78 then (v = k + 48) else if j = 79 then (0 ≤ v ∧ v ≤ 9) else if j = 80 then (1 ≤ v ∧ v ≤ 5) else True
def dk_tyS (S : Nat) (k i v : Int) : Prop := match S with
  | 0 => dk_ty0 k i v
  | 1 => dk_ty1 k i v
  | 2 => dk_ty2 k i v
  | 3 => dk_ty3 k i v
  | 4 => dk_ty4 k i v
  | 5 => dk_ty5 k i v
  | 6 => dk_ty6 k i v
  | 7 => dk_ty7 k i v
  | 8 => dk_ty8 k i v
  | 9 => dk_ty9 k i v
  | 10 => dk_ty10 k i v
  | 11 => dk_ty11 k i v
  | 21 => v = k + 1 + i
  | 22 => 0 ≤ v ∧ v ≤ 5
  | 25 => 0 ≤ v ∧ v ≤ 127
  | 26 => v = 13 + 4 * i
  | 27 => (0 ≤ v ∧ v ≤ 10009) ∨ (20000 ≤ v ∧ v ≤ 20127)
  | 28 => -1 ≤ v ∧ v ≤ 320
  | 29 => -1 ≤ v ∧ v ≤ 320
  | 30 => 0 ≤ v ∧ v ≤ 4
  | 31 => 0 ≤ v ∧ v ≤ 9
  | 32 => 0 ≤ v ∧ v ≤ 11
  | 33 => 0 ≤ v ∧ v ≤ 999
  | 34 => 0 ≤ v ∧ v ≤ 999
  | 37 => v = k + 1 + i
  | 39 => v = k + 1 + i
  | 48 => v = k + 1 + i
  | 51 => 0 ≤ v ∧ v ≤ 9
  | 52 => 0 ≤ v ∧ v ≤ 9
  | 53 => 0 ≤ v ∧ v ≤ 3
  | 54 => 0 ≤ v ∧ v ≤ 999
  | 56 => 0 ≤ v ∧ v ≤ 8
  | 61 => v = k + 1 + i
  | 62 => 0 ≤ v ∧ v ≤ 7
  | 63 => 0 ≤ v ∧ v ≤ 3
  | 64 => 0 ≤ v ∧ v ≤ 32
  | 65 => 0 ≤ v ∧ v ≤ 19
  | 66 => 0 ≤ v ∧ v ≤ 19
  | 68 => 0 ≤ v ∧ v ≤ 12
  | 69 => 0 ≤ v ∧ v ≤ 8
  | 73 => 0 ≤ v ∧ v ≤ 4
  | 74 => 0 ≤ v ∧ v ≤ 12
  | 75 => 0 ≤ v ∧ v ≤ 16
  | 78 => 0 ≤ v ∧ v ≤ 9
  | 79 => 0 ≤ v ∧ v ≤ 3
  | 82 => 0 ≤ v ∧ v ≤ 32
  | 83 => 0 ≤ v ∧ v ≤ 7
  | 88 => 0 ≤ v ∧ v ≤ 5
  | 98 => 0 ≤ v ∧ v ≤ 4
  | 100 => 0 ≤ v ∧ v ≤ 999
  | 101 => 0 ≤ v ∧ v ≤ 999
  | 108 => 0 ≤ v ∧ v ≤ 11
  | 109 => -1 ≤ v ∧ v ≤ 9
  | 112 => 0 ≤ v ∧ v ≤ 3
  | 113 => 0 ≤ v ∧ v ≤ 999
  | 115 => -1 ≤ v ∧ v ≤ 9
  | _ => True
/-- the type of a slot -/
def dk_Ty : dkT := fun k j v => dk_tyS (dk_site k) k j v
theorem ty_0_0 {n k v : Int} (hk : dk_is n 0 k) : dk_Ty k 0 v ↔ (v = k + 1) := by
  show dk_tyS (dk_site k) k 0 v ↔ _
  rw [hk.2.2]
  show dk_ty0 k 0 v ↔ _
  simp [dk_ty0]
theorem gf_0_0 {E : dkE} {cc : ByteArray} {own : String} {d : Nat} {l0 : Launch} {G0 : dkG} {n00 : Int} {nL0 mc ms : Nat} (hE : dk_Good E cc own d dk_Ty l0 G0 n00 nL0 mc ms) {pc pc' : Nat} {ls st : List dkV} {n : Int} {σ : dkS} {k w : Int} {ix : Nat} {fin : Bool} (hF : dk_FL own ix 0 0 fin 4) (hd : decode cc pc = .ok (.getfield ix, 3)) (hk : dk_is n 0 k) (hw : k + 1 = w) (hp : pc + 3 = pc') (K : dk_PJ E pc' ls ((4, w) :: st) n σ) : dk_PJ E pc ls ((4, k) :: st) n σ :=
  dk_getf hE hF hd hk rfl hp (fun t _ => by have t := (ty_0_0 hk).mp t; rw [show σ k ((0 : Nat) : Int) = w from t.trans hw]; exact K)
theorem ty_0_1 {n k v : Int} (hk : dk_is n 0 k) : dk_Ty k 1 v ↔ (v = k + 10) := by
  show dk_tyS (dk_site k) k 1 v ↔ _
  rw [hk.2.2]
  show dk_ty0 k 1 v ↔ _
  simp [dk_ty0]
theorem gf_0_1 {E : dkE} {cc : ByteArray} {own : String} {d : Nat} {l0 : Launch} {G0 : dkG} {n00 : Int} {nL0 mc ms : Nat} (hE : dk_Good E cc own d dk_Ty l0 G0 n00 nL0 mc ms) {pc pc' : Nat} {ls st : List dkV} {n : Int} {σ : dkS} {k w : Int} {ix : Nat} {fin : Bool} (hF : dk_FL own ix 0 1 fin 4) (hd : decode cc pc = .ok (.getfield ix, 3)) (hk : dk_is n 0 k) (hw : k + 10 = w) (hp : pc + 3 = pc') (K : dk_PJ E pc' ls ((4, w) :: st) n σ) : dk_PJ E pc ls ((4, k) :: st) n σ :=
  dk_getf hE hF hd hk rfl hp (fun t _ => by have t := (ty_0_1 hk).mp t; rw [show σ k ((1 : Nat) : Int) = w from t.trans hw]; exact K)
theorem ty_0_2 {n k v : Int} (hk : dk_is n 0 k) : dk_Ty k 2 v ↔ (v = k + 11) := by
  show dk_tyS (dk_site k) k 2 v ↔ _
  rw [hk.2.2]
  show dk_ty0 k 2 v ↔ _
  simp [dk_ty0]
theorem gf_0_2 {E : dkE} {cc : ByteArray} {own : String} {d : Nat} {l0 : Launch} {G0 : dkG} {n00 : Int} {nL0 mc ms : Nat} (hE : dk_Good E cc own d dk_Ty l0 G0 n00 nL0 mc ms) {pc pc' : Nat} {ls st : List dkV} {n : Int} {σ : dkS} {k w : Int} {ix : Nat} {fin : Bool} (hF : dk_FL own ix 0 2 fin 4) (hd : decode cc pc = .ok (.getfield ix, 3)) (hk : dk_is n 0 k) (hw : k + 11 = w) (hp : pc + 3 = pc') (K : dk_PJ E pc' ls ((4, w) :: st) n σ) : dk_PJ E pc ls ((4, k) :: st) n σ :=
  dk_getf hE hF hd hk rfl hp (fun t _ => by have t := (ty_0_2 hk).mp t; rw [show σ k ((2 : Nat) : Int) = w from t.trans hw]; exact K)
theorem ty_0_3 {n k v : Int} (hk : dk_is n 0 k) : dk_Ty k 3 v ↔ (v = k + 12) := by
  show dk_tyS (dk_site k) k 3 v ↔ _
  rw [hk.2.2]
  show dk_ty0 k 3 v ↔ _
  simp [dk_ty0]
theorem gf_0_3 {E : dkE} {cc : ByteArray} {own : String} {d : Nat} {l0 : Launch} {G0 : dkG} {n00 : Int} {nL0 mc ms : Nat} (hE : dk_Good E cc own d dk_Ty l0 G0 n00 nL0 mc ms) {pc pc' : Nat} {ls st : List dkV} {n : Int} {σ : dkS} {k w : Int} {ix : Nat} {fin : Bool} (hF : dk_FL own ix 0 3 fin 4) (hd : decode cc pc = .ok (.getfield ix, 3)) (hk : dk_is n 0 k) (hw : k + 12 = w) (hp : pc + 3 = pc') (K : dk_PJ E pc' ls ((4, w) :: st) n σ) : dk_PJ E pc ls ((4, k) :: st) n σ :=
  dk_getf hE hF hd hk rfl hp (fun t _ => by have t := (ty_0_3 hk).mp t; rw [show σ k ((3 : Nat) : Int) = w from t.trans hw]; exact K)
theorem ty_0_4 {n k v : Int} (hk : dk_is n 0 k) : dk_Ty k 4 v ↔ (0 ≤ v ∧ v ≤ 8) := by
  show dk_tyS (dk_site k) k 4 v ↔ _
  rw [hk.2.2]
  show dk_ty0 k 4 v ↔ _
  simp [dk_ty0]
theorem gf_0_4 {E : dkE} {cc : ByteArray} {own : String} {d : Nat} {l0 : Launch} {G0 : dkG} {n00 : Int} {nL0 mc ms : Nat} (hE : dk_Good E cc own d dk_Ty l0 G0 n00 nL0 mc ms) {pc pc' : Nat} {ls st : List dkV} {n : Int} {σ : dkS} {k : Int} {ix : Nat} {fin : Bool} (hF : dk_FL own ix 0 4 fin 0) (hd : decode cc pc = .ok (.getfield ix, 3)) (hk : dk_is n 0 k) (hp : pc + 3 = pc') (K : ∀ v : Int, v = σ k 4 → (0 ≤ v ∧ v ≤ 8) → dk_i32 v → dk_PJ E pc' ls ((0, v) :: st) n σ) : dk_PJ E pc ls ((4, k) :: st) n σ :=
  dk_getf hE hF hd hk rfl hp (fun t q => K _ rfl ((ty_0_4 hk).mp t) q)
theorem pf_0_4 {E : dkE} {cc : ByteArray} {own : String} {d : Nat} {l0 : Launch} {G0 : dkG} {n00 : Int} {nL0 mc ms : Nat} (hE : dk_Good E cc own d dk_Ty l0 G0 n00 nL0 mc ms) {pc pc' : Nat} {ls st : List dkV} {n : Int} {σ : dkS} {k z : Int} {ix : Nat} (hF : dk_FL own ix 0 4 false 0) (hd : decode cc pc = .ok (.putfield ix, 3)) (hk : dk_is n 0 k) (ht : 0 ≤ z ∧ z ≤ 8) (hp : pc + 3 = pc') (K : ∀ σ1 : dkS, σ1 = dk_up σ k 4 z → dk_PJ E pc' ls st n σ1) : dk_PJ E pc ls ((0, z) :: (4, k) :: st) n σ :=
  dk_putf hE hF hd hk rfl (fun h => h.1 rfl) ((ty_0_4 hk).mpr ht) hp (K _ rfl)
theorem ty_0_5 {n k v : Int} (hk : dk_is n 0 k) : dk_Ty k 5 v ↔ (0 ≤ v ∧ v ≤ 10) := by
  show dk_tyS (dk_site k) k 5 v ↔ _
  rw [hk.2.2]
  show dk_ty0 k 5 v ↔ _
  simp [dk_ty0]
theorem gf_0_5 {E : dkE} {cc : ByteArray} {own : String} {d : Nat} {l0 : Launch} {G0 : dkG} {n00 : Int} {nL0 mc ms : Nat} (hE : dk_Good E cc own d dk_Ty l0 G0 n00 nL0 mc ms) {pc pc' : Nat} {ls st : List dkV} {n : Int} {σ : dkS} {k : Int} {ix : Nat} {fin : Bool} (hF : dk_FL own ix 0 5 fin 0) (hd : decode cc pc = .ok (.getfield ix, 3)) (hk : dk_is n 0 k) (hp : pc + 3 = pc') (K : ∀ v : Int, v = σ k 5 → (0 ≤ v ∧ v ≤ 10) → dk_i32 v → dk_PJ E pc' ls ((0, v) :: st) n σ) : dk_PJ E pc ls ((4, k) :: st) n σ :=
  dk_getf hE hF hd hk rfl hp (fun t q => K _ rfl ((ty_0_5 hk).mp t) q)
theorem pf_0_5 {E : dkE} {cc : ByteArray} {own : String} {d : Nat} {l0 : Launch} {G0 : dkG} {n00 : Int} {nL0 mc ms : Nat} (hE : dk_Good E cc own d dk_Ty l0 G0 n00 nL0 mc ms) {pc pc' : Nat} {ls st : List dkV} {n : Int} {σ : dkS} {k z : Int} {ix : Nat} (hF : dk_FL own ix 0 5 false 0) (hd : decode cc pc = .ok (.putfield ix, 3)) (hk : dk_is n 0 k) (ht : 0 ≤ z ∧ z ≤ 10) (hp : pc + 3 = pc') (K : ∀ σ1 : dkS, σ1 = dk_up σ k 5 z → dk_PJ E pc' ls st n σ1) : dk_PJ E pc ls ((0, z) :: (4, k) :: st) n σ :=
  dk_putf hE hF hd hk rfl (fun h => h.1 rfl) ((ty_0_5 hk).mpr ht) hp (K _ rfl)
theorem ty_0_6 {n k v : Int} (hk : dk_is n 0 k) : dk_Ty k 6 v ↔ (True) := by
  show dk_tyS (dk_site k) k 6 v ↔ _
  rw [hk.2.2]
  show dk_ty0 k 6 v ↔ _
  simp [dk_ty0]
theorem gf_0_6 {E : dkE} {cc : ByteArray} {own : String} {d : Nat} {l0 : Launch} {G0 : dkG} {n00 : Int} {nL0 mc ms : Nat} (hE : dk_Good E cc own d dk_Ty l0 G0 n00 nL0 mc ms) {pc pc' : Nat} {ls st : List dkV} {n : Int} {σ : dkS} {k : Int} {ix : Nat} {fin : Bool} (hF : dk_FL own ix 0 6 fin 2) (hd : decode cc pc = .ok (.getfield ix, 3)) (hk : dk_is n 0 k) (hp : pc + 3 = pc') (K : ∀ v : Int, v = σ k 6 → (True) → (0 ≤ v ∧ v ≤ 1) → dk_PJ E pc' ls ((0, v) :: st) n σ) : dk_PJ E pc ls ((4, k) :: st) n σ :=
  dk_getf hE hF hd hk rfl hp (fun t q => K _ rfl ((ty_0_6 hk).mp t) q)
theorem pf_0_6 {E : dkE} {cc : ByteArray} {own : String} {d : Nat} {l0 : Launch} {G0 : dkG} {n00 : Int} {nL0 mc ms : Nat} (hE : dk_Good E cc own d dk_Ty l0 G0 n00 nL0 mc ms) {pc pc' : Nat} {ls st : List dkV} {n : Int} {σ : dkS} {k z : Int} {ix : Nat} (hF : dk_FL own ix 0 6 false 2) (hd : decode cc pc = .ok (.putfield ix, 3)) (hk : dk_is n 0 k) (hz : 0 ≤ z ∧ z ≤ 1) (ht : True) (hp : pc + 3 = pc') (K : ∀ σ1 : dkS, σ1 = dk_up σ k 6 z → dk_PJ E pc' ls st n σ1) : dk_PJ E pc ls ((0, z) :: (4, k) :: st) n σ :=
  dk_putf hE hF hd hk rfl (fun _ => hz) ((ty_0_6 hk).mpr ht) hp (K _ rfl)
theorem ty_0_7 {n k v : Int} (hk : dk_is n 0 k) : dk_Ty k 7 v ↔ (True) := by
  show dk_tyS (dk_site k) k 7 v ↔ _
  rw [hk.2.2]
  show dk_ty0 k 7 v ↔ _
  simp [dk_ty0]
theorem gf_0_7 {E : dkE} {cc : ByteArray} {own : String} {d : Nat} {l0 : Launch} {G0 : dkG} {n00 : Int} {nL0 mc ms : Nat} (hE : dk_Good E cc own d dk_Ty l0 G0 n00 nL0 mc ms) {pc pc' : Nat} {ls st : List dkV} {n : Int} {σ : dkS} {k : Int} {ix : Nat} {fin : Bool} (hF : dk_FL own ix 0 7 fin 3) (hd : decode cc pc = .ok (.getfield ix, 3)) (hk : dk_is n 0 k) (hp : pc + 3 = pc') (K : ∀ v : Int, v = σ k 7 → (True) → dk_i64 v → dk_PJ E pc' ls ((3, v) :: st) n σ) : dk_PJ E pc ls ((4, k) :: st) n σ :=
  dk_getf hE hF hd hk rfl hp (fun t q => K _ rfl ((ty_0_7 hk).mp t) q)
theorem pf_0_7 {E : dkE} {cc : ByteArray} {own : String} {d : Nat} {l0 : Launch} {G0 : dkG} {n00 : Int} {nL0 mc ms : Nat} (hE : dk_Good E cc own d dk_Ty l0 G0 n00 nL0 mc ms) {pc pc' : Nat} {ls st : List dkV} {n : Int} {σ : dkS} {k z : Int} {ix : Nat} (hF : dk_FL own ix 0 7 false 3) (hd : decode cc pc = .ok (.putfield ix, 3)) (hk : dk_is n 0 k) (ht : True) (hp : pc + 3 = pc') (K : ∀ σ1 : dkS, σ1 = dk_up σ k 7 z → dk_PJ E pc' ls st n σ1) : dk_PJ E pc ls ((3, z) :: (4, k) :: st) n σ :=
  dk_putf hE hF hd hk rfl (fun h => h.2 rfl) ((ty_0_7 hk).mpr ht) hp (K _ rfl)
theorem ty_1_0 {n k v : Int} (hk : dk_is n 1 k) : dk_Ty k 0 v ↔ (v = k + 1) := by
  show dk_tyS (dk_site k) k 0 v ↔ _
  rw [hk.2.2]
  show dk_ty1 k 0 v ↔ _
  simp [dk_ty1]
theorem gf_1_0 {E : dkE} {cc : ByteArray} {own : String} {d : Nat} {l0 : Launch} {G0 : dkG} {n00 : Int} {nL0 mc ms : Nat} (hE : dk_Good E cc own d dk_Ty l0 G0 n00 nL0 mc ms) {pc pc' : Nat} {ls st : List dkV} {n : Int} {σ : dkS} {k w : Int} {ix : Nat} {fin : Bool} (hF : dk_FL own ix 1 0 fin 4) (hd : decode cc pc = .ok (.getfield ix, 3)) (hk : dk_is n 1 k) (hw : k + 1 = w) (hp : pc + 3 = pc') (K : dk_PJ E pc' ls ((4, w) :: st) n σ) : dk_PJ E pc ls ((4, k) :: st) n σ :=
  dk_getf hE hF hd hk rfl hp (fun t _ => by have t := (ty_1_0 hk).mp t; rw [show σ k ((0 : Nat) : Int) = w from t.trans hw]; exact K)
theorem ty_1_1 {n k v : Int} (hk : dk_is n 1 k) : dk_Ty k 1 v ↔ (v = k + 2) := by
  show dk_tyS (dk_site k) k 1 v ↔ _
  rw [hk.2.2]
  show dk_ty1 k 1 v ↔ _
  simp [dk_ty1]
theorem gf_1_1 {E : dkE} {cc : ByteArray} {own : String} {d : Nat} {l0 : Launch} {G0 : dkG} {n00 : Int} {nL0 mc ms : Nat} (hE : dk_Good E cc own d dk_Ty l0 G0 n00 nL0 mc ms) {pc pc' : Nat} {ls st : List dkV} {n : Int} {σ : dkS} {k w : Int} {ix : Nat} {fin : Bool} (hF : dk_FL own ix 1 1 fin 4) (hd : decode cc pc = .ok (.getfield ix, 3)) (hk : dk_is n 1 k) (hw : k + 2 = w) (hp : pc + 3 = pc') (K : dk_PJ E pc' ls ((4, w) :: st) n σ) : dk_PJ E pc ls ((4, k) :: st) n σ :=
  dk_getf hE hF hd hk rfl hp (fun t _ => by have t := (ty_1_1 hk).mp t; rw [show σ k ((1 : Nat) : Int) = w from t.trans hw]; exact K)
theorem ty_1_2 {n k v : Int} (hk : dk_is n 1 k) : dk_Ty k 2 v ↔ (v = k + 3) := by
  show dk_tyS (dk_site k) k 2 v ↔ _
  rw [hk.2.2]
  show dk_ty1 k 2 v ↔ _
  simp [dk_ty1]
theorem gf_1_2 {E : dkE} {cc : ByteArray} {own : String} {d : Nat} {l0 : Launch} {G0 : dkG} {n00 : Int} {nL0 mc ms : Nat} (hE : dk_Good E cc own d dk_Ty l0 G0 n00 nL0 mc ms) {pc pc' : Nat} {ls st : List dkV} {n : Int} {σ : dkS} {k w : Int} {ix : Nat} {fin : Bool} (hF : dk_FL own ix 1 2 fin 4) (hd : decode cc pc = .ok (.getfield ix, 3)) (hk : dk_is n 1 k) (hw : k + 3 = w) (hp : pc + 3 = pc') (K : dk_PJ E pc' ls ((4, w) :: st) n σ) : dk_PJ E pc ls ((4, k) :: st) n σ :=
  dk_getf hE hF hd hk rfl hp (fun t _ => by have t := (ty_1_2 hk).mp t; rw [show σ k ((2 : Nat) : Int) = w from t.trans hw]; exact K)
theorem ty_1_3 {n k v : Int} (hk : dk_is n 1 k) : dk_Ty k 3 v ↔ (v = k + 4) := by
  show dk_tyS (dk_site k) k 3 v ↔ _
  rw [hk.2.2]
  show dk_ty1 k 3 v ↔ _
  simp [dk_ty1]
theorem gf_1_3 {E : dkE} {cc : ByteArray} {own : String} {d : Nat} {l0 : Launch} {G0 : dkG} {n00 : Int} {nL0 mc ms : Nat} (hE : dk_Good E cc own d dk_Ty l0 G0 n00 nL0 mc ms) {pc pc' : Nat} {ls st : List dkV} {n : Int} {σ : dkS} {k w : Int} {ix : Nat} {fin : Bool} (hF : dk_FL own ix 1 3 fin 4) (hd : decode cc pc = .ok (.getfield ix, 3)) (hk : dk_is n 1 k) (hw : k + 4 = w) (hp : pc + 3 = pc') (K : dk_PJ E pc' ls ((4, w) :: st) n σ) : dk_PJ E pc ls ((4, k) :: st) n σ :=
  dk_getf hE hF hd hk rfl hp (fun t _ => by have t := (ty_1_3 hk).mp t; rw [show σ k ((3 : Nat) : Int) = w from t.trans hw]; exact K)
theorem ty_1_4 {n k v : Int} (hk : dk_is n 1 k) : dk_Ty k 4 v ↔ (v = k + 5) := by
  show dk_tyS (dk_site k) k 4 v ↔ _
  rw [hk.2.2]
  show dk_ty1 k 4 v ↔ _
  simp [dk_ty1]
theorem gf_1_4 {E : dkE} {cc : ByteArray} {own : String} {d : Nat} {l0 : Launch} {G0 : dkG} {n00 : Int} {nL0 mc ms : Nat} (hE : dk_Good E cc own d dk_Ty l0 G0 n00 nL0 mc ms) {pc pc' : Nat} {ls st : List dkV} {n : Int} {σ : dkS} {k w : Int} {ix : Nat} {fin : Bool} (hF : dk_FL own ix 1 4 fin 4) (hd : decode cc pc = .ok (.getfield ix, 3)) (hk : dk_is n 1 k) (hw : k + 5 = w) (hp : pc + 3 = pc') (K : dk_PJ E pc' ls ((4, w) :: st) n σ) : dk_PJ E pc ls ((4, k) :: st) n σ :=
  dk_getf hE hF hd hk rfl hp (fun t _ => by have t := (ty_1_4 hk).mp t; rw [show σ k ((4 : Nat) : Int) = w from t.trans hw]; exact K)
theorem ty_1_5 {n k v : Int} (hk : dk_is n 1 k) : dk_Ty k 5 v ↔ (v = k + 6) := by
  show dk_tyS (dk_site k) k 5 v ↔ _
  rw [hk.2.2]
  show dk_ty1 k 5 v ↔ _
  simp [dk_ty1]
theorem gf_1_5 {E : dkE} {cc : ByteArray} {own : String} {d : Nat} {l0 : Launch} {G0 : dkG} {n00 : Int} {nL0 mc ms : Nat} (hE : dk_Good E cc own d dk_Ty l0 G0 n00 nL0 mc ms) {pc pc' : Nat} {ls st : List dkV} {n : Int} {σ : dkS} {k w : Int} {ix : Nat} {fin : Bool} (hF : dk_FL own ix 1 5 fin 4) (hd : decode cc pc = .ok (.getfield ix, 3)) (hk : dk_is n 1 k) (hw : k + 6 = w) (hp : pc + 3 = pc') (K : dk_PJ E pc' ls ((4, w) :: st) n σ) : dk_PJ E pc ls ((4, k) :: st) n σ :=
  dk_getf hE hF hd hk rfl hp (fun t _ => by have t := (ty_1_5 hk).mp t; rw [show σ k ((5 : Nat) : Int) = w from t.trans hw]; exact K)
theorem ty_1_6 {n k v : Int} (hk : dk_is n 1 k) : dk_Ty k 6 v ↔ (v = k + 7) := by
  show dk_tyS (dk_site k) k 6 v ↔ _
  rw [hk.2.2]
  show dk_ty1 k 6 v ↔ _
  simp [dk_ty1]
theorem gf_1_6 {E : dkE} {cc : ByteArray} {own : String} {d : Nat} {l0 : Launch} {G0 : dkG} {n00 : Int} {nL0 mc ms : Nat} (hE : dk_Good E cc own d dk_Ty l0 G0 n00 nL0 mc ms) {pc pc' : Nat} {ls st : List dkV} {n : Int} {σ : dkS} {k w : Int} {ix : Nat} {fin : Bool} (hF : dk_FL own ix 1 6 fin 4) (hd : decode cc pc = .ok (.getfield ix, 3)) (hk : dk_is n 1 k) (hw : k + 7 = w) (hp : pc + 3 = pc') (K : dk_PJ E pc' ls ((4, w) :: st) n σ) : dk_PJ E pc ls ((4, k) :: st) n σ :=
  dk_getf hE hF hd hk rfl hp (fun t _ => by have t := (ty_1_6 hk).mp t; rw [show σ k ((6 : Nat) : Int) = w from t.trans hw]; exact K)
theorem ty_1_7 {n k v : Int} (hk : dk_is n 1 k) : dk_Ty k 7 v ↔ (0 ≤ v ∧ v ≤ 200) := by
  show dk_tyS (dk_site k) k 7 v ↔ _
  rw [hk.2.2]
  show dk_ty1 k 7 v ↔ _
  simp [dk_ty1]
theorem gf_1_7 {E : dkE} {cc : ByteArray} {own : String} {d : Nat} {l0 : Launch} {G0 : dkG} {n00 : Int} {nL0 mc ms : Nat} (hE : dk_Good E cc own d dk_Ty l0 G0 n00 nL0 mc ms) {pc pc' : Nat} {ls st : List dkV} {n : Int} {σ : dkS} {k : Int} {ix : Nat} {fin : Bool} (hF : dk_FL own ix 1 7 fin 0) (hd : decode cc pc = .ok (.getfield ix, 3)) (hk : dk_is n 1 k) (hp : pc + 3 = pc') (K : ∀ v : Int, v = σ k 7 → (0 ≤ v ∧ v ≤ 200) → dk_i32 v → dk_PJ E pc' ls ((0, v) :: st) n σ) : dk_PJ E pc ls ((4, k) :: st) n σ :=
  dk_getf hE hF hd hk rfl hp (fun t q => K _ rfl ((ty_1_7 hk).mp t) q)
theorem pf_1_7 {E : dkE} {cc : ByteArray} {own : String} {d : Nat} {l0 : Launch} {G0 : dkG} {n00 : Int} {nL0 mc ms : Nat} (hE : dk_Good E cc own d dk_Ty l0 G0 n00 nL0 mc ms) {pc pc' : Nat} {ls st : List dkV} {n : Int} {σ : dkS} {k z : Int} {ix : Nat} (hF : dk_FL own ix 1 7 false 0) (hd : decode cc pc = .ok (.putfield ix, 3)) (hk : dk_is n 1 k) (ht : 0 ≤ z ∧ z ≤ 200) (hp : pc + 3 = pc') (K : ∀ σ1 : dkS, σ1 = dk_up σ k 7 z → dk_PJ E pc' ls st n σ1) : dk_PJ E pc ls ((0, z) :: (4, k) :: st) n σ :=
  dk_putf hE hF hd hk rfl (fun h => h.1 rfl) ((ty_1_7 hk).mpr ht) hp (K _ rfl)
theorem ty_1_8 {n k v : Int} (hk : dk_is n 1 k) : dk_Ty k 8 v ↔ (0 ≤ v ∧ v ≤ 100000) := by
  show dk_tyS (dk_site k) k 8 v ↔ _
  rw [hk.2.2]
  show dk_ty1 k 8 v ↔ _
  simp [dk_ty1]
theorem gf_1_8 {E : dkE} {cc : ByteArray} {own : String} {d : Nat} {l0 : Launch} {G0 : dkG} {n00 : Int} {nL0 mc ms : Nat} (hE : dk_Good E cc own d dk_Ty l0 G0 n00 nL0 mc ms) {pc pc' : Nat} {ls st : List dkV} {n : Int} {σ : dkS} {k : Int} {ix : Nat} {fin : Bool} (hF : dk_FL own ix 1 8 fin 0) (hd : decode cc pc = .ok (.getfield ix, 3)) (hk : dk_is n 1 k) (hp : pc + 3 = pc') (K : ∀ v : Int, v = σ k 8 → (0 ≤ v ∧ v ≤ 100000) → dk_i32 v → dk_PJ E pc' ls ((0, v) :: st) n σ) : dk_PJ E pc ls ((4, k) :: st) n σ :=
  dk_getf hE hF hd hk rfl hp (fun t q => K _ rfl ((ty_1_8 hk).mp t) q)
theorem pf_1_8 {E : dkE} {cc : ByteArray} {own : String} {d : Nat} {l0 : Launch} {G0 : dkG} {n00 : Int} {nL0 mc ms : Nat} (hE : dk_Good E cc own d dk_Ty l0 G0 n00 nL0 mc ms) {pc pc' : Nat} {ls st : List dkV} {n : Int} {σ : dkS} {k z : Int} {ix : Nat} (hF : dk_FL own ix 1 8 false 0) (hd : decode cc pc = .ok (.putfield ix, 3)) (hk : dk_is n 1 k) (ht : 0 ≤ z ∧ z ≤ 100000) (hp : pc + 3 = pc') (K : ∀ σ1 : dkS, σ1 = dk_up σ k 8 z → dk_PJ E pc' ls st n σ1) : dk_PJ E pc ls ((0, z) :: (4, k) :: st) n σ :=
  dk_putf hE hF hd hk rfl (fun h => h.1 rfl) ((ty_1_8 hk).mpr ht) hp (K _ rfl)
theorem ty_2_0 {n k v : Int} (hk : dk_is n 2 k) : dk_Ty k 0 v ↔ (v = 6) := by
  show dk_tyS (dk_site k) k 0 v ↔ _
  rw [hk.2.2]
  show dk_ty2 k 0 v ↔ _
  simp [dk_ty2]
theorem gf_2_0 {E : dkE} {cc : ByteArray} {own : String} {d : Nat} {l0 : Launch} {G0 : dkG} {n00 : Int} {nL0 mc ms : Nat} (hE : dk_Good E cc own d dk_Ty l0 G0 n00 nL0 mc ms) {pc pc' : Nat} {ls st : List dkV} {n : Int} {σ : dkS} {k w : Int} {ix : Nat} {fin : Bool} (hF : dk_FL own ix 2 0 fin 4) (hd : decode cc pc = .ok (.getfield ix, 3)) (hk : dk_is n 2 k) (hw : 6 = w) (hp : pc + 3 = pc') (K : dk_PJ E pc' ls ((4, w) :: st) n σ) : dk_PJ E pc ls ((4, k) :: st) n σ :=
  dk_getf hE hF hd hk rfl hp (fun t _ => by have t := (ty_2_0 hk).mp t; rw [show σ k ((0 : Nat) : Int) = w from t.trans hw]; exact K)
theorem ty_2_1 {n k v : Int} (hk : dk_is n 2 k) : dk_Ty k 1 v ↔ (v = k + 1) := by
  show dk_tyS (dk_site k) k 1 v ↔ _
  rw [hk.2.2]
  show dk_ty2 k 1 v ↔ _
  simp [dk_ty2]
theorem gf_2_1 {E : dkE} {cc : ByteArray} {own : String} {d : Nat} {l0 : Launch} {G0 : dkG} {n00 : Int} {nL0 mc ms : Nat} (hE : dk_Good E cc own d dk_Ty l0 G0 n00 nL0 mc ms) {pc pc' : Nat} {ls st : List dkV} {n : Int} {σ : dkS} {k w : Int} {ix : Nat} {fin : Bool} (hF : dk_FL own ix 2 1 fin 4) (hd : decode cc pc = .ok (.getfield ix, 3)) (hk : dk_is n 2 k) (hw : k + 1 = w) (hp : pc + 3 = pc') (K : dk_PJ E pc' ls ((4, w) :: st) n σ) : dk_PJ E pc ls ((4, k) :: st) n σ :=
  dk_getf hE hF hd hk rfl hp (fun t _ => by have t := (ty_2_1 hk).mp t; rw [show σ k ((1 : Nat) : Int) = w from t.trans hw]; exact K)
theorem ty_2_2 {n k v : Int} (hk : dk_is n 2 k) : dk_Ty k 2 v ↔ (0 ≤ v ∧ v ≤ 48) := by
  show dk_tyS (dk_site k) k 2 v ↔ _
  rw [hk.2.2]
  show dk_ty2 k 2 v ↔ _
  simp [dk_ty2]
theorem gf_2_2 {E : dkE} {cc : ByteArray} {own : String} {d : Nat} {l0 : Launch} {G0 : dkG} {n00 : Int} {nL0 mc ms : Nat} (hE : dk_Good E cc own d dk_Ty l0 G0 n00 nL0 mc ms) {pc pc' : Nat} {ls st : List dkV} {n : Int} {σ : dkS} {k : Int} {ix : Nat} {fin : Bool} (hF : dk_FL own ix 2 2 fin 0) (hd : decode cc pc = .ok (.getfield ix, 3)) (hk : dk_is n 2 k) (hp : pc + 3 = pc') (K : ∀ v : Int, v = σ k 2 → (0 ≤ v ∧ v ≤ 48) → dk_i32 v → dk_PJ E pc' ls ((0, v) :: st) n σ) : dk_PJ E pc ls ((4, k) :: st) n σ :=
  dk_getf hE hF hd hk rfl hp (fun t q => K _ rfl ((ty_2_2 hk).mp t) q)
theorem pf_2_2 {E : dkE} {cc : ByteArray} {own : String} {d : Nat} {l0 : Launch} {G0 : dkG} {n00 : Int} {nL0 mc ms : Nat} (hE : dk_Good E cc own d dk_Ty l0 G0 n00 nL0 mc ms) {pc pc' : Nat} {ls st : List dkV} {n : Int} {σ : dkS} {k z : Int} {ix : Nat} (hF : dk_FL own ix 2 2 false 0) (hd : decode cc pc = .ok (.putfield ix, 3)) (hk : dk_is n 2 k) (ht : 0 ≤ z ∧ z ≤ 48) (hp : pc + 3 = pc') (K : ∀ σ1 : dkS, σ1 = dk_up σ k 2 z → dk_PJ E pc' ls st n σ1) : dk_PJ E pc ls ((0, z) :: (4, k) :: st) n σ :=
  dk_putf hE hF hd hk rfl (fun h => h.1 rfl) ((ty_2_2 hk).mpr ht) hp (K _ rfl)
theorem ty_2_3 {n k v : Int} (hk : dk_is n 2 k) : dk_Ty k 3 v ↔ (True) := by
  show dk_tyS (dk_site k) k 3 v ↔ _
  rw [hk.2.2]
  show dk_ty2 k 3 v ↔ _
  simp [dk_ty2]
theorem gf_2_3 {E : dkE} {cc : ByteArray} {own : String} {d : Nat} {l0 : Launch} {G0 : dkG} {n00 : Int} {nL0 mc ms : Nat} (hE : dk_Good E cc own d dk_Ty l0 G0 n00 nL0 mc ms) {pc pc' : Nat} {ls st : List dkV} {n : Int} {σ : dkS} {k : Int} {ix : Nat} {fin : Bool} (hF : dk_FL own ix 2 3 fin 0) (hd : decode cc pc = .ok (.getfield ix, 3)) (hk : dk_is n 2 k) (hp : pc + 3 = pc') (K : ∀ v : Int, v = σ k 3 → (True) → dk_i32 v → dk_PJ E pc' ls ((0, v) :: st) n σ) : dk_PJ E pc ls ((4, k) :: st) n σ :=
  dk_getf hE hF hd hk rfl hp (fun t q => K _ rfl ((ty_2_3 hk).mp t) q)
theorem pf_2_3 {E : dkE} {cc : ByteArray} {own : String} {d : Nat} {l0 : Launch} {G0 : dkG} {n00 : Int} {nL0 mc ms : Nat} (hE : dk_Good E cc own d dk_Ty l0 G0 n00 nL0 mc ms) {pc pc' : Nat} {ls st : List dkV} {n : Int} {σ : dkS} {k z : Int} {ix : Nat} (hF : dk_FL own ix 2 3 false 0) (hd : decode cc pc = .ok (.putfield ix, 3)) (hk : dk_is n 2 k) (ht : True) (hp : pc + 3 = pc') (K : ∀ σ1 : dkS, σ1 = dk_up σ k 3 z → dk_PJ E pc' ls st n σ1) : dk_PJ E pc ls ((0, z) :: (4, k) :: st) n σ :=
  dk_putf hE hF hd hk rfl (fun h => h.1 rfl) ((ty_2_3 hk).mpr ht) hp (K _ rfl)
theorem ty_2_4 {n k v : Int} (hk : dk_is n 2 k) : dk_Ty k 4 v ↔ (0 ≤ v ∧ v ≤ 60) := by
  show dk_tyS (dk_site k) k 4 v ↔ _
  rw [hk.2.2]
  show dk_ty2 k 4 v ↔ _
  simp [dk_ty2]
theorem gf_2_4 {E : dkE} {cc : ByteArray} {own : String} {d : Nat} {l0 : Launch} {G0 : dkG} {n00 : Int} {nL0 mc ms : Nat} (hE : dk_Good E cc own d dk_Ty l0 G0 n00 nL0 mc ms) {pc pc' : Nat} {ls st : List dkV} {n : Int} {σ : dkS} {k : Int} {ix : Nat} {fin : Bool} (hF : dk_FL own ix 2 4 fin 0) (hd : decode cc pc = .ok (.getfield ix, 3)) (hk : dk_is n 2 k) (hp : pc + 3 = pc') (K : ∀ v : Int, v = σ k 4 → (0 ≤ v ∧ v ≤ 60) → dk_i32 v → dk_PJ E pc' ls ((0, v) :: st) n σ) : dk_PJ E pc ls ((4, k) :: st) n σ :=
  dk_getf hE hF hd hk rfl hp (fun t q => K _ rfl ((ty_2_4 hk).mp t) q)
theorem pf_2_4 {E : dkE} {cc : ByteArray} {own : String} {d : Nat} {l0 : Launch} {G0 : dkG} {n00 : Int} {nL0 mc ms : Nat} (hE : dk_Good E cc own d dk_Ty l0 G0 n00 nL0 mc ms) {pc pc' : Nat} {ls st : List dkV} {n : Int} {σ : dkS} {k z : Int} {ix : Nat} (hF : dk_FL own ix 2 4 false 0) (hd : decode cc pc = .ok (.putfield ix, 3)) (hk : dk_is n 2 k) (ht : 0 ≤ z ∧ z ≤ 60) (hp : pc + 3 = pc') (K : ∀ σ1 : dkS, σ1 = dk_up σ k 4 z → dk_PJ E pc' ls st n σ1) : dk_PJ E pc ls ((0, z) :: (4, k) :: st) n σ :=
  dk_putf hE hF hd hk rfl (fun h => h.1 rfl) ((ty_2_4 hk).mpr ht) hp (K _ rfl)
theorem ty_2_5 {n k v : Int} (hk : dk_is n 2 k) : dk_Ty k 5 v ↔ (v = -1 ∨ (13 ≤ v ∧ v ≤ 33 ∧ (v - 13) % 4 = 0)) := by
  show dk_tyS (dk_site k) k 5 v ↔ _
  rw [hk.2.2]
  show dk_ty2 k 5 v ↔ _
  simp [dk_ty2]
theorem gf_2_5 {E : dkE} {cc : ByteArray} {own : String} {d : Nat} {l0 : Launch} {G0 : dkG} {n00 : Int} {nL0 mc ms : Nat} (hE : dk_Good E cc own d dk_Ty l0 G0 n00 nL0 mc ms) {pc pc' : Nat} {ls st : List dkV} {n : Int} {σ : dkS} {k : Int} {ix : Nat} {fin : Bool} (hF : dk_FL own ix 2 5 fin 4) (hd : decode cc pc = .ok (.getfield ix, 3)) (hk : dk_is n 2 k) (hp : pc + 3 = pc') (K : ∀ v : Int, v = σ k 5 → (v = -1 ∨ (13 ≤ v ∧ v ≤ 33 ∧ (v - 13) % 4 = 0)) → True → dk_PJ E pc' ls ((4, v) :: st) n σ) : dk_PJ E pc ls ((4, k) :: st) n σ :=
  dk_getf hE hF hd hk rfl hp (fun t q => K _ rfl ((ty_2_5 hk).mp t) q)
theorem pf_2_5 {E : dkE} {cc : ByteArray} {own : String} {d : Nat} {l0 : Launch} {G0 : dkG} {n00 : Int} {nL0 mc ms : Nat} (hE : dk_Good E cc own d dk_Ty l0 G0 n00 nL0 mc ms) {pc pc' : Nat} {ls st : List dkV} {n : Int} {σ : dkS} {k z : Int} {ix : Nat} (hF : dk_FL own ix 2 5 false 4) (hd : decode cc pc = .ok (.putfield ix, 3)) (hk : dk_is n 2 k) (ht : z = -1 ∨ (13 ≤ z ∧ z ≤ 33 ∧ (z - 13) % 4 = 0)) (hp : pc + 3 = pc') (K : ∀ σ1 : dkS, σ1 = dk_up σ k 5 z → dk_PJ E pc' ls st n σ1) : dk_PJ E pc ls ((4, z) :: (4, k) :: st) n σ :=
  dk_putf hE hF hd hk rfl (fun _ => trivial) ((ty_2_5 hk).mpr ht) hp (K _ rfl)
theorem ty_2_6 {n k v : Int} (hk : dk_is n 2 k) : dk_Ty k 6 v ↔ (True) := by
  show dk_tyS (dk_site k) k 6 v ↔ _
  rw [hk.2.2]
  show dk_ty2 k 6 v ↔ _
  simp [dk_ty2]
theorem gf_2_6 {E : dkE} {cc : ByteArray} {own : String} {d : Nat} {l0 : Launch} {G0 : dkG} {n00 : Int} {nL0 mc ms : Nat} (hE : dk_Good E cc own d dk_Ty l0 G0 n00 nL0 mc ms) {pc pc' : Nat} {ls st : List dkV} {n : Int} {σ : dkS} {k : Int} {ix : Nat} {fin : Bool} (hF : dk_FL own ix 2 6 fin 0) (hd : decode cc pc = .ok (.getfield ix, 3)) (hk : dk_is n 2 k) (hp : pc + 3 = pc') (K : ∀ v : Int, v = σ k 6 → (True) → dk_i32 v → dk_PJ E pc' ls ((0, v) :: st) n σ) : dk_PJ E pc ls ((4, k) :: st) n σ :=
  dk_getf hE hF hd hk rfl hp (fun t q => K _ rfl ((ty_2_6 hk).mp t) q)
theorem pf_2_6 {E : dkE} {cc : ByteArray} {own : String} {d : Nat} {l0 : Launch} {G0 : dkG} {n00 : Int} {nL0 mc ms : Nat} (hE : dk_Good E cc own d dk_Ty l0 G0 n00 nL0 mc ms) {pc pc' : Nat} {ls st : List dkV} {n : Int} {σ : dkS} {k z : Int} {ix : Nat} (hF : dk_FL own ix 2 6 false 0) (hd : decode cc pc = .ok (.putfield ix, 3)) (hk : dk_is n 2 k) (ht : True) (hp : pc + 3 = pc') (K : ∀ σ1 : dkS, σ1 = dk_up σ k 6 z → dk_PJ E pc' ls st n σ1) : dk_PJ E pc ls ((0, z) :: (4, k) :: st) n σ :=
  dk_putf hE hF hd hk rfl (fun h => h.1 rfl) ((ty_2_6 hk).mpr ht) hp (K _ rfl)
theorem ty_2_7 {n k v : Int} (hk : dk_is n 2 k) : dk_Ty k 7 v ↔ (True) := by
  show dk_tyS (dk_site k) k 7 v ↔ _
  rw [hk.2.2]
  show dk_ty2 k 7 v ↔ _
  simp [dk_ty2]
theorem gf_2_7 {E : dkE} {cc : ByteArray} {own : String} {d : Nat} {l0 : Launch} {G0 : dkG} {n00 : Int} {nL0 mc ms : Nat} (hE : dk_Good E cc own d dk_Ty l0 G0 n00 nL0 mc ms) {pc pc' : Nat} {ls st : List dkV} {n : Int} {σ : dkS} {k : Int} {ix : Nat} {fin : Bool} (hF : dk_FL own ix 2 7 fin 0) (hd : decode cc pc = .ok (.getfield ix, 3)) (hk : dk_is n 2 k) (hp : pc + 3 = pc') (K : ∀ v : Int, v = σ k 7 → (True) → dk_i32 v → dk_PJ E pc' ls ((0, v) :: st) n σ) : dk_PJ E pc ls ((4, k) :: st) n σ :=
  dk_getf hE hF hd hk rfl hp (fun t q => K _ rfl ((ty_2_7 hk).mp t) q)
theorem pf_2_7 {E : dkE} {cc : ByteArray} {own : String} {d : Nat} {l0 : Launch} {G0 : dkG} {n00 : Int} {nL0 mc ms : Nat} (hE : dk_Good E cc own d dk_Ty l0 G0 n00 nL0 mc ms) {pc pc' : Nat} {ls st : List dkV} {n : Int} {σ : dkS} {k z : Int} {ix : Nat} (hF : dk_FL own ix 2 7 false 0) (hd : decode cc pc = .ok (.putfield ix, 3)) (hk : dk_is n 2 k) (ht : True) (hp : pc + 3 = pc') (K : ∀ σ1 : dkS, σ1 = dk_up σ k 7 z → dk_PJ E pc' ls st n σ1) : dk_PJ E pc ls ((0, z) :: (4, k) :: st) n σ :=
  dk_putf hE hF hd hk rfl (fun h => h.1 rfl) ((ty_2_7 hk).mpr ht) hp (K _ rfl)
theorem ty_3_0 {n k v : Int} (hk : dk_is n 3 k) : dk_Ty k 0 v ↔ (v = k + 1) := by
  show dk_tyS (dk_site k) k 0 v ↔ _
  rw [hk.2.2]
  show dk_ty3 k 0 v ↔ _
  simp [dk_ty3]
theorem gf_3_0 {E : dkE} {cc : ByteArray} {own : String} {d : Nat} {l0 : Launch} {G0 : dkG} {n00 : Int} {nL0 mc ms : Nat} (hE : dk_Good E cc own d dk_Ty l0 G0 n00 nL0 mc ms) {pc pc' : Nat} {ls st : List dkV} {n : Int} {σ : dkS} {k w : Int} {ix : Nat} {fin : Bool} (hF : dk_FL own ix 3 0 fin 4) (hd : decode cc pc = .ok (.getfield ix, 3)) (hk : dk_is n 3 k) (hw : k + 1 = w) (hp : pc + 3 = pc') (K : dk_PJ E pc' ls ((4, w) :: st) n σ) : dk_PJ E pc ls ((4, k) :: st) n σ :=
  dk_getf hE hF hd hk rfl hp (fun t _ => by have t := (ty_3_0 hk).mp t; rw [show σ k ((0 : Nat) : Int) = w from t.trans hw]; exact K)
theorem ty_3_1 {n k v : Int} (hk : dk_is n 3 k) : dk_Ty k 1 v ↔ (v = k + 2) := by
  show dk_tyS (dk_site k) k 1 v ↔ _
  rw [hk.2.2]
  show dk_ty3 k 1 v ↔ _
  simp [dk_ty3]
theorem gf_3_1 {E : dkE} {cc : ByteArray} {own : String} {d : Nat} {l0 : Launch} {G0 : dkG} {n00 : Int} {nL0 mc ms : Nat} (hE : dk_Good E cc own d dk_Ty l0 G0 n00 nL0 mc ms) {pc pc' : Nat} {ls st : List dkV} {n : Int} {σ : dkS} {k w : Int} {ix : Nat} {fin : Bool} (hF : dk_FL own ix 3 1 fin 4) (hd : decode cc pc = .ok (.getfield ix, 3)) (hk : dk_is n 3 k) (hw : k + 2 = w) (hp : pc + 3 = pc') (K : dk_PJ E pc' ls ((4, w) :: st) n σ) : dk_PJ E pc ls ((4, k) :: st) n σ :=
  dk_getf hE hF hd hk rfl hp (fun t _ => by have t := (ty_3_1 hk).mp t; rw [show σ k ((1 : Nat) : Int) = w from t.trans hw]; exact K)
theorem ty_3_2 {n k v : Int} (hk : dk_is n 3 k) : dk_Ty k 2 v ↔ (v = k + 3) := by
  show dk_tyS (dk_site k) k 2 v ↔ _
  rw [hk.2.2]
  show dk_ty3 k 2 v ↔ _
  simp [dk_ty3]
theorem gf_3_2 {E : dkE} {cc : ByteArray} {own : String} {d : Nat} {l0 : Launch} {G0 : dkG} {n00 : Int} {nL0 mc ms : Nat} (hE : dk_Good E cc own d dk_Ty l0 G0 n00 nL0 mc ms) {pc pc' : Nat} {ls st : List dkV} {n : Int} {σ : dkS} {k w : Int} {ix : Nat} {fin : Bool} (hF : dk_FL own ix 3 2 fin 4) (hd : decode cc pc = .ok (.getfield ix, 3)) (hk : dk_is n 3 k) (hw : k + 3 = w) (hp : pc + 3 = pc') (K : dk_PJ E pc' ls ((4, w) :: st) n σ) : dk_PJ E pc ls ((4, k) :: st) n σ :=
  dk_getf hE hF hd hk rfl hp (fun t _ => by have t := (ty_3_2 hk).mp t; rw [show σ k ((2 : Nat) : Int) = w from t.trans hw]; exact K)
theorem ty_3_3 {n k v : Int} (hk : dk_is n 3 k) : dk_Ty k 3 v ↔ (0 ≤ v ∧ v ≤ 320) := by
  show dk_tyS (dk_site k) k 3 v ↔ _
  rw [hk.2.2]
  show dk_ty3 k 3 v ↔ _
  simp [dk_ty3]
theorem gf_3_3 {E : dkE} {cc : ByteArray} {own : String} {d : Nat} {l0 : Launch} {G0 : dkG} {n00 : Int} {nL0 mc ms : Nat} (hE : dk_Good E cc own d dk_Ty l0 G0 n00 nL0 mc ms) {pc pc' : Nat} {ls st : List dkV} {n : Int} {σ : dkS} {k : Int} {ix : Nat} {fin : Bool} (hF : dk_FL own ix 3 3 fin 0) (hd : decode cc pc = .ok (.getfield ix, 3)) (hk : dk_is n 3 k) (hp : pc + 3 = pc') (K : ∀ v : Int, v = σ k 3 → (0 ≤ v ∧ v ≤ 320) → dk_i32 v → dk_PJ E pc' ls ((0, v) :: st) n σ) : dk_PJ E pc ls ((4, k) :: st) n σ :=
  dk_getf hE hF hd hk rfl hp (fun t q => K _ rfl ((ty_3_3 hk).mp t) q)
theorem pf_3_3 {E : dkE} {cc : ByteArray} {own : String} {d : Nat} {l0 : Launch} {G0 : dkG} {n00 : Int} {nL0 mc ms : Nat} (hE : dk_Good E cc own d dk_Ty l0 G0 n00 nL0 mc ms) {pc pc' : Nat} {ls st : List dkV} {n : Int} {σ : dkS} {k z : Int} {ix : Nat} (hF : dk_FL own ix 3 3 false 0) (hd : decode cc pc = .ok (.putfield ix, 3)) (hk : dk_is n 3 k) (ht : 0 ≤ z ∧ z ≤ 320) (hp : pc + 3 = pc') (K : ∀ σ1 : dkS, σ1 = dk_up σ k 3 z → dk_PJ E pc' ls st n σ1) : dk_PJ E pc ls ((0, z) :: (4, k) :: st) n σ :=
  dk_putf hE hF hd hk rfl (fun h => h.1 rfl) ((ty_3_3 hk).mpr ht) hp (K _ rfl)
theorem ty_3_4 {n k v : Int} (hk : dk_is n 3 k) : dk_Ty k 4 v ↔ (True) := by
  show dk_tyS (dk_site k) k 4 v ↔ _
  rw [hk.2.2]
  show dk_ty3 k 4 v ↔ _
  simp [dk_ty3]
theorem gf_3_4 {E : dkE} {cc : ByteArray} {own : String} {d : Nat} {l0 : Launch} {G0 : dkG} {n00 : Int} {nL0 mc ms : Nat} (hE : dk_Good E cc own d dk_Ty l0 G0 n00 nL0 mc ms) {pc pc' : Nat} {ls st : List dkV} {n : Int} {σ : dkS} {k : Int} {ix : Nat} {fin : Bool} (hF : dk_FL own ix 3 4 fin 0) (hd : decode cc pc = .ok (.getfield ix, 3)) (hk : dk_is n 3 k) (hp : pc + 3 = pc') (K : ∀ v : Int, v = σ k 4 → (True) → dk_i32 v → dk_PJ E pc' ls ((0, v) :: st) n σ) : dk_PJ E pc ls ((4, k) :: st) n σ :=
  dk_getf hE hF hd hk rfl hp (fun t q => K _ rfl ((ty_3_4 hk).mp t) q)
theorem pf_3_4 {E : dkE} {cc : ByteArray} {own : String} {d : Nat} {l0 : Launch} {G0 : dkG} {n00 : Int} {nL0 mc ms : Nat} (hE : dk_Good E cc own d dk_Ty l0 G0 n00 nL0 mc ms) {pc pc' : Nat} {ls st : List dkV} {n : Int} {σ : dkS} {k z : Int} {ix : Nat} (hF : dk_FL own ix 3 4 false 0) (hd : decode cc pc = .ok (.putfield ix, 3)) (hk : dk_is n 3 k) (ht : True) (hp : pc + 3 = pc') (K : ∀ σ1 : dkS, σ1 = dk_up σ k 4 z → dk_PJ E pc' ls st n σ1) : dk_PJ E pc ls ((0, z) :: (4, k) :: st) n σ :=
  dk_putf hE hF hd hk rfl (fun h => h.1 rfl) ((ty_3_4 hk).mpr ht) hp (K _ rfl)
theorem ty_4_0 {n k v : Int} (hk : dk_is n 4 k) : dk_Ty k 0 v ↔ (v = 3) := by
  show dk_tyS (dk_site k) k 0 v ↔ _
  rw [hk.2.2]
  show dk_ty4 k 0 v ↔ _
  simp [dk_ty4]
theorem gf_4_0 {E : dkE} {cc : ByteArray} {own : String} {d : Nat} {l0 : Launch} {G0 : dkG} {n00 : Int} {nL0 mc ms : Nat} (hE : dk_Good E cc own d dk_Ty l0 G0 n00 nL0 mc ms) {pc pc' : Nat} {ls st : List dkV} {n : Int} {σ : dkS} {k w : Int} {ix : Nat} {fin : Bool} (hF : dk_FL own ix 4 0 fin 4) (hd : decode cc pc = .ok (.getfield ix, 3)) (hk : dk_is n 4 k) (hw : 3 = w) (hp : pc + 3 = pc') (K : dk_PJ E pc' ls ((4, w) :: st) n σ) : dk_PJ E pc ls ((4, k) :: st) n σ :=
  dk_getf hE hF hd hk rfl hp (fun t _ => by have t := (ty_4_0 hk).mp t; rw [show σ k ((0 : Nat) : Int) = w from t.trans hw]; exact K)
theorem ty_4_1 {n k v : Int} (hk : dk_is n 4 k) : dk_Ty k 1 v ↔ (v = k + 1) := by
  show dk_tyS (dk_site k) k 1 v ↔ _
  rw [hk.2.2]
  show dk_ty4 k 1 v ↔ _
  simp [dk_ty4]
theorem gf_4_1 {E : dkE} {cc : ByteArray} {own : String} {d : Nat} {l0 : Launch} {G0 : dkG} {n00 : Int} {nL0 mc ms : Nat} (hE : dk_Good E cc own d dk_Ty l0 G0 n00 nL0 mc ms) {pc pc' : Nat} {ls st : List dkV} {n : Int} {σ : dkS} {k w : Int} {ix : Nat} {fin : Bool} (hF : dk_FL own ix 4 1 fin 4) (hd : decode cc pc = .ok (.getfield ix, 3)) (hk : dk_is n 4 k) (hw : k + 1 = w) (hp : pc + 3 = pc') (K : dk_PJ E pc' ls ((4, w) :: st) n σ) : dk_PJ E pc ls ((4, k) :: st) n σ :=
  dk_getf hE hF hd hk rfl hp (fun t _ => by have t := (ty_4_1 hk).mp t; rw [show σ k ((1 : Nat) : Int) = w from t.trans hw]; exact K)
theorem ty_4_2 {n k v : Int} (hk : dk_is n 4 k) : dk_Ty k 2 v ↔ (v = k + 2) := by
  show dk_tyS (dk_site k) k 2 v ↔ _
  rw [hk.2.2]
  show dk_ty4 k 2 v ↔ _
  simp [dk_ty4]
theorem gf_4_2 {E : dkE} {cc : ByteArray} {own : String} {d : Nat} {l0 : Launch} {G0 : dkG} {n00 : Int} {nL0 mc ms : Nat} (hE : dk_Good E cc own d dk_Ty l0 G0 n00 nL0 mc ms) {pc pc' : Nat} {ls st : List dkV} {n : Int} {σ : dkS} {k w : Int} {ix : Nat} {fin : Bool} (hF : dk_FL own ix 4 2 fin 4) (hd : decode cc pc = .ok (.getfield ix, 3)) (hk : dk_is n 4 k) (hw : k + 2 = w) (hp : pc + 3 = pc') (K : dk_PJ E pc' ls ((4, w) :: st) n σ) : dk_PJ E pc ls ((4, k) :: st) n σ :=
  dk_getf hE hF hd hk rfl hp (fun t _ => by have t := (ty_4_2 hk).mp t; rw [show σ k ((2 : Nat) : Int) = w from t.trans hw]; exact K)
theorem ty_4_3 {n k v : Int} (hk : dk_is n 4 k) : dk_Ty k 3 v ↔ (v = k + 3) := by
  show dk_tyS (dk_site k) k 3 v ↔ _
  rw [hk.2.2]
  show dk_ty4 k 3 v ↔ _
  simp [dk_ty4]
theorem gf_4_3 {E : dkE} {cc : ByteArray} {own : String} {d : Nat} {l0 : Launch} {G0 : dkG} {n00 : Int} {nL0 mc ms : Nat} (hE : dk_Good E cc own d dk_Ty l0 G0 n00 nL0 mc ms) {pc pc' : Nat} {ls st : List dkV} {n : Int} {σ : dkS} {k w : Int} {ix : Nat} {fin : Bool} (hF : dk_FL own ix 4 3 fin 4) (hd : decode cc pc = .ok (.getfield ix, 3)) (hk : dk_is n 4 k) (hw : k + 3 = w) (hp : pc + 3 = pc') (K : dk_PJ E pc' ls ((4, w) :: st) n σ) : dk_PJ E pc ls ((4, k) :: st) n σ :=
  dk_getf hE hF hd hk rfl hp (fun t _ => by have t := (ty_4_3 hk).mp t; rw [show σ k ((3 : Nat) : Int) = w from t.trans hw]; exact K)
theorem ty_4_4 {n k v : Int} (hk : dk_is n 4 k) : dk_Ty k 4 v ↔ (v = k + 16) := by
  show dk_tyS (dk_site k) k 4 v ↔ _
  rw [hk.2.2]
  show dk_ty4 k 4 v ↔ _
  simp [dk_ty4]
theorem gf_4_4 {E : dkE} {cc : ByteArray} {own : String} {d : Nat} {l0 : Launch} {G0 : dkG} {n00 : Int} {nL0 mc ms : Nat} (hE : dk_Good E cc own d dk_Ty l0 G0 n00 nL0 mc ms) {pc pc' : Nat} {ls st : List dkV} {n : Int} {σ : dkS} {k w : Int} {ix : Nat} {fin : Bool} (hF : dk_FL own ix 4 4 fin 4) (hd : decode cc pc = .ok (.getfield ix, 3)) (hk : dk_is n 4 k) (hw : k + 16 = w) (hp : pc + 3 = pc') (K : dk_PJ E pc' ls ((4, w) :: st) n σ) : dk_PJ E pc ls ((4, k) :: st) n σ :=
  dk_getf hE hF hd hk rfl hp (fun t _ => by have t := (ty_4_4 hk).mp t; rw [show σ k ((4 : Nat) : Int) = w from t.trans hw]; exact K)
theorem ty_4_5 {n k v : Int} (hk : dk_is n 4 k) : dk_Ty k 5 v ↔ (v = k + 17) := by
  show dk_tyS (dk_site k) k 5 v ↔ _
  rw [hk.2.2]
  show dk_ty4 k 5 v ↔ _
  simp [dk_ty4]
theorem gf_4_5 {E : dkE} {cc : ByteArray} {own : String} {d : Nat} {l0 : Launch} {G0 : dkG} {n00 : Int} {nL0 mc ms : Nat} (hE : dk_Good E cc own d dk_Ty l0 G0 n00 nL0 mc ms) {pc pc' : Nat} {ls st : List dkV} {n : Int} {σ : dkS} {k w : Int} {ix : Nat} {fin : Bool} (hF : dk_FL own ix 4 5 fin 4) (hd : decode cc pc = .ok (.getfield ix, 3)) (hk : dk_is n 4 k) (hw : k + 17 = w) (hp : pc + 3 = pc') (K : dk_PJ E pc' ls ((4, w) :: st) n σ) : dk_PJ E pc ls ((4, k) :: st) n σ :=
  dk_getf hE hF hd hk rfl hp (fun t _ => by have t := (ty_4_5 hk).mp t; rw [show σ k ((5 : Nat) : Int) = w from t.trans hw]; exact K)
theorem ty_4_6 {n k v : Int} (hk : dk_is n 4 k) : dk_Ty k 6 v ↔ (v = k + 18) := by
  show dk_tyS (dk_site k) k 6 v ↔ _
  rw [hk.2.2]
  show dk_ty4 k 6 v ↔ _
  simp [dk_ty4]
theorem gf_4_6 {E : dkE} {cc : ByteArray} {own : String} {d : Nat} {l0 : Launch} {G0 : dkG} {n00 : Int} {nL0 mc ms : Nat} (hE : dk_Good E cc own d dk_Ty l0 G0 n00 nL0 mc ms) {pc pc' : Nat} {ls st : List dkV} {n : Int} {σ : dkS} {k w : Int} {ix : Nat} {fin : Bool} (hF : dk_FL own ix 4 6 fin 4) (hd : decode cc pc = .ok (.getfield ix, 3)) (hk : dk_is n 4 k) (hw : k + 18 = w) (hp : pc + 3 = pc') (K : dk_PJ E pc' ls ((4, w) :: st) n σ) : dk_PJ E pc ls ((4, k) :: st) n σ :=
  dk_getf hE hF hd hk rfl hp (fun t _ => by have t := (ty_4_6 hk).mp t; rw [show σ k ((6 : Nat) : Int) = w from t.trans hw]; exact K)
theorem ty_4_7 {n k v : Int} (hk : dk_is n 4 k) : dk_Ty k 7 v ↔ (v = k + 19) := by
  show dk_tyS (dk_site k) k 7 v ↔ _
  rw [hk.2.2]
  show dk_ty4 k 7 v ↔ _
  simp [dk_ty4]
theorem gf_4_7 {E : dkE} {cc : ByteArray} {own : String} {d : Nat} {l0 : Launch} {G0 : dkG} {n00 : Int} {nL0 mc ms : Nat} (hE : dk_Good E cc own d dk_Ty l0 G0 n00 nL0 mc ms) {pc pc' : Nat} {ls st : List dkV} {n : Int} {σ : dkS} {k w : Int} {ix : Nat} {fin : Bool} (hF : dk_FL own ix 4 7 fin 4) (hd : decode cc pc = .ok (.getfield ix, 3)) (hk : dk_is n 4 k) (hw : k + 19 = w) (hp : pc + 3 = pc') (K : dk_PJ E pc' ls ((4, w) :: st) n σ) : dk_PJ E pc ls ((4, k) :: st) n σ :=
  dk_getf hE hF hd hk rfl hp (fun t _ => by have t := (ty_4_7 hk).mp t; rw [show σ k ((7 : Nat) : Int) = w from t.trans hw]; exact K)
theorem ty_4_8 {n k v : Int} (hk : dk_is n 4 k) : dk_Ty k 8 v ↔ (v = k + 20) := by
  show dk_tyS (dk_site k) k 8 v ↔ _
  rw [hk.2.2]
  show dk_ty4 k 8 v ↔ _
  simp [dk_ty4]
theorem gf_4_8 {E : dkE} {cc : ByteArray} {own : String} {d : Nat} {l0 : Launch} {G0 : dkG} {n00 : Int} {nL0 mc ms : Nat} (hE : dk_Good E cc own d dk_Ty l0 G0 n00 nL0 mc ms) {pc pc' : Nat} {ls st : List dkV} {n : Int} {σ : dkS} {k w : Int} {ix : Nat} {fin : Bool} (hF : dk_FL own ix 4 8 fin 4) (hd : decode cc pc = .ok (.getfield ix, 3)) (hk : dk_is n 4 k) (hw : k + 20 = w) (hp : pc + 3 = pc') (K : dk_PJ E pc' ls ((4, w) :: st) n σ) : dk_PJ E pc ls ((4, k) :: st) n σ :=
  dk_getf hE hF hd hk rfl hp (fun t _ => by have t := (ty_4_8 hk).mp t; rw [show σ k ((8 : Nat) : Int) = w from t.trans hw]; exact K)
theorem ty_4_9 {n k v : Int} (hk : dk_is n 4 k) : dk_Ty k 9 v ↔ (v = k + 21) := by
  show dk_tyS (dk_site k) k 9 v ↔ _
  rw [hk.2.2]
  show dk_ty4 k 9 v ↔ _
  simp [dk_ty4]
theorem gf_4_9 {E : dkE} {cc : ByteArray} {own : String} {d : Nat} {l0 : Launch} {G0 : dkG} {n00 : Int} {nL0 mc ms : Nat} (hE : dk_Good E cc own d dk_Ty l0 G0 n00 nL0 mc ms) {pc pc' : Nat} {ls st : List dkV} {n : Int} {σ : dkS} {k w : Int} {ix : Nat} {fin : Bool} (hF : dk_FL own ix 4 9 fin 4) (hd : decode cc pc = .ok (.getfield ix, 3)) (hk : dk_is n 4 k) (hw : k + 21 = w) (hp : pc + 3 = pc') (K : dk_PJ E pc' ls ((4, w) :: st) n σ) : dk_PJ E pc ls ((4, k) :: st) n σ :=
  dk_getf hE hF hd hk rfl hp (fun t _ => by have t := (ty_4_9 hk).mp t; rw [show σ k ((9 : Nat) : Int) = w from t.trans hw]; exact K)
theorem ty_4_10 {n k v : Int} (hk : dk_is n 4 k) : dk_Ty k 10 v ↔ (v = k + 22) := by
  show dk_tyS (dk_site k) k 10 v ↔ _
  rw [hk.2.2]
  show dk_ty4 k 10 v ↔ _
  simp [dk_ty4]
theorem gf_4_10 {E : dkE} {cc : ByteArray} {own : String} {d : Nat} {l0 : Launch} {G0 : dkG} {n00 : Int} {nL0 mc ms : Nat} (hE : dk_Good E cc own d dk_Ty l0 G0 n00 nL0 mc ms) {pc pc' : Nat} {ls st : List dkV} {n : Int} {σ : dkS} {k w : Int} {ix : Nat} {fin : Bool} (hF : dk_FL own ix 4 10 fin 4) (hd : decode cc pc = .ok (.getfield ix, 3)) (hk : dk_is n 4 k) (hw : k + 22 = w) (hp : pc + 3 = pc') (K : dk_PJ E pc' ls ((4, w) :: st) n σ) : dk_PJ E pc ls ((4, k) :: st) n σ :=
  dk_getf hE hF hd hk rfl hp (fun t _ => by have t := (ty_4_10 hk).mp t; rw [show σ k ((10 : Nat) : Int) = w from t.trans hw]; exact K)
theorem ty_4_11 {n k v : Int} (hk : dk_is n 4 k) : dk_Ty k 11 v ↔ (0 ≤ v ∧ v ≤ 4) := by
  show dk_tyS (dk_site k) k 11 v ↔ _
  rw [hk.2.2]
  show dk_ty4 k 11 v ↔ _
  simp [dk_ty4]
theorem gf_4_11 {E : dkE} {cc : ByteArray} {own : String} {d : Nat} {l0 : Launch} {G0 : dkG} {n00 : Int} {nL0 mc ms : Nat} (hE : dk_Good E cc own d dk_Ty l0 G0 n00 nL0 mc ms) {pc pc' : Nat} {ls st : List dkV} {n : Int} {σ : dkS} {k : Int} {ix : Nat} {fin : Bool} (hF : dk_FL own ix 4 11 fin 0) (hd : decode cc pc = .ok (.getfield ix, 3)) (hk : dk_is n 4 k) (hp : pc + 3 = pc') (K : ∀ v : Int, v = σ k 11 → (0 ≤ v ∧ v ≤ 4) → dk_i32 v → dk_PJ E pc' ls ((0, v) :: st) n σ) : dk_PJ E pc ls ((4, k) :: st) n σ :=
  dk_getf hE hF hd hk rfl hp (fun t q => K _ rfl ((ty_4_11 hk).mp t) q)
theorem pf_4_11 {E : dkE} {cc : ByteArray} {own : String} {d : Nat} {l0 : Launch} {G0 : dkG} {n00 : Int} {nL0 mc ms : Nat} (hE : dk_Good E cc own d dk_Ty l0 G0 n00 nL0 mc ms) {pc pc' : Nat} {ls st : List dkV} {n : Int} {σ : dkS} {k z : Int} {ix : Nat} (hF : dk_FL own ix 4 11 false 0) (hd : decode cc pc = .ok (.putfield ix, 3)) (hk : dk_is n 4 k) (ht : 0 ≤ z ∧ z ≤ 4) (hp : pc + 3 = pc') (K : ∀ σ1 : dkS, σ1 = dk_up σ k 11 z → dk_PJ E pc' ls st n σ1) : dk_PJ E pc ls ((0, z) :: (4, k) :: st) n σ :=
  dk_putf hE hF hd hk rfl (fun h => h.1 rfl) ((ty_4_11 hk).mpr ht) hp (K _ rfl)
theorem ty_4_12 {n k v : Int} (hk : dk_is n 4 k) : dk_Ty k 12 v ↔ (0 ≤ v ∧ v ≤ 12) := by
  show dk_tyS (dk_site k) k 12 v ↔ _
  rw [hk.2.2]
  show dk_ty4 k 12 v ↔ _
  simp [dk_ty4]
theorem gf_4_12 {E : dkE} {cc : ByteArray} {own : String} {d : Nat} {l0 : Launch} {G0 : dkG} {n00 : Int} {nL0 mc ms : Nat} (hE : dk_Good E cc own d dk_Ty l0 G0 n00 nL0 mc ms) {pc pc' : Nat} {ls st : List dkV} {n : Int} {σ : dkS} {k : Int} {ix : Nat} {fin : Bool} (hF : dk_FL own ix 4 12 fin 0) (hd : decode cc pc = .ok (.getfield ix, 3)) (hk : dk_is n 4 k) (hp : pc + 3 = pc') (K : ∀ v : Int, v = σ k 12 → (0 ≤ v ∧ v ≤ 12) → dk_i32 v → dk_PJ E pc' ls ((0, v) :: st) n σ) : dk_PJ E pc ls ((4, k) :: st) n σ :=
  dk_getf hE hF hd hk rfl hp (fun t q => K _ rfl ((ty_4_12 hk).mp t) q)
theorem pf_4_12 {E : dkE} {cc : ByteArray} {own : String} {d : Nat} {l0 : Launch} {G0 : dkG} {n00 : Int} {nL0 mc ms : Nat} (hE : dk_Good E cc own d dk_Ty l0 G0 n00 nL0 mc ms) {pc pc' : Nat} {ls st : List dkV} {n : Int} {σ : dkS} {k z : Int} {ix : Nat} (hF : dk_FL own ix 4 12 false 0) (hd : decode cc pc = .ok (.putfield ix, 3)) (hk : dk_is n 4 k) (ht : 0 ≤ z ∧ z ≤ 12) (hp : pc + 3 = pc') (K : ∀ σ1 : dkS, σ1 = dk_up σ k 12 z → dk_PJ E pc' ls st n σ1) : dk_PJ E pc ls ((0, z) :: (4, k) :: st) n σ :=
  dk_putf hE hF hd hk rfl (fun h => h.1 rfl) ((ty_4_12 hk).mpr ht) hp (K _ rfl)
theorem ty_4_13 {n k v : Int} (hk : dk_is n 4 k) : dk_Ty k 13 v ↔ (True) := by
  show dk_tyS (dk_site k) k 13 v ↔ _
  rw [hk.2.2]
  show dk_ty4 k 13 v ↔ _
  simp [dk_ty4]
theorem gf_4_13 {E : dkE} {cc : ByteArray} {own : String} {d : Nat} {l0 : Launch} {G0 : dkG} {n00 : Int} {nL0 mc ms : Nat} (hE : dk_Good E cc own d dk_Ty l0 G0 n00 nL0 mc ms) {pc pc' : Nat} {ls st : List dkV} {n : Int} {σ : dkS} {k : Int} {ix : Nat} {fin : Bool} (hF : dk_FL own ix 4 13 fin 0) (hd : decode cc pc = .ok (.getfield ix, 3)) (hk : dk_is n 4 k) (hp : pc + 3 = pc') (K : ∀ v : Int, v = σ k 13 → (True) → dk_i32 v → dk_PJ E pc' ls ((0, v) :: st) n σ) : dk_PJ E pc ls ((4, k) :: st) n σ :=
  dk_getf hE hF hd hk rfl hp (fun t q => K _ rfl ((ty_4_13 hk).mp t) q)
theorem pf_4_13 {E : dkE} {cc : ByteArray} {own : String} {d : Nat} {l0 : Launch} {G0 : dkG} {n00 : Int} {nL0 mc ms : Nat} (hE : dk_Good E cc own d dk_Ty l0 G0 n00 nL0 mc ms) {pc pc' : Nat} {ls st : List dkV} {n : Int} {σ : dkS} {k z : Int} {ix : Nat} (hF : dk_FL own ix 4 13 false 0) (hd : decode cc pc = .ok (.putfield ix, 3)) (hk : dk_is n 4 k) (ht : True) (hp : pc + 3 = pc') (K : ∀ σ1 : dkS, σ1 = dk_up σ k 13 z → dk_PJ E pc' ls st n σ1) : dk_PJ E pc ls ((0, z) :: (4, k) :: st) n σ :=
  dk_putf hE hF hd hk rfl (fun h => h.1 rfl) ((ty_4_13 hk).mpr ht) hp (K _ rfl)
theorem ty_4_14 {n k v : Int} (hk : dk_is n 4 k) : dk_Ty k 14 v ↔ (True) := by
  show dk_tyS (dk_site k) k 14 v ↔ _
  rw [hk.2.2]
  show dk_ty4 k 14 v ↔ _
  simp [dk_ty4]
theorem gf_4_14 {E : dkE} {cc : ByteArray} {own : String} {d : Nat} {l0 : Launch} {G0 : dkG} {n00 : Int} {nL0 mc ms : Nat} (hE : dk_Good E cc own d dk_Ty l0 G0 n00 nL0 mc ms) {pc pc' : Nat} {ls st : List dkV} {n : Int} {σ : dkS} {k : Int} {ix : Nat} {fin : Bool} (hF : dk_FL own ix 4 14 fin 0) (hd : decode cc pc = .ok (.getfield ix, 3)) (hk : dk_is n 4 k) (hp : pc + 3 = pc') (K : ∀ v : Int, v = σ k 14 → (True) → dk_i32 v → dk_PJ E pc' ls ((0, v) :: st) n σ) : dk_PJ E pc ls ((4, k) :: st) n σ :=
  dk_getf hE hF hd hk rfl hp (fun t q => K _ rfl ((ty_4_14 hk).mp t) q)
theorem pf_4_14 {E : dkE} {cc : ByteArray} {own : String} {d : Nat} {l0 : Launch} {G0 : dkG} {n00 : Int} {nL0 mc ms : Nat} (hE : dk_Good E cc own d dk_Ty l0 G0 n00 nL0 mc ms) {pc pc' : Nat} {ls st : List dkV} {n : Int} {σ : dkS} {k z : Int} {ix : Nat} (hF : dk_FL own ix 4 14 false 0) (hd : decode cc pc = .ok (.putfield ix, 3)) (hk : dk_is n 4 k) (ht : True) (hp : pc + 3 = pc') (K : ∀ σ1 : dkS, σ1 = dk_up σ k 14 z → dk_PJ E pc' ls st n σ1) : dk_PJ E pc ls ((0, z) :: (4, k) :: st) n σ :=
  dk_putf hE hF hd hk rfl (fun h => h.1 rfl) ((ty_4_14 hk).mpr ht) hp (K _ rfl)
theorem ty_4_15 {n k v : Int} (hk : dk_is n 4 k) : dk_Ty k 15 v ↔ (True) := by
  show dk_tyS (dk_site k) k 15 v ↔ _
  rw [hk.2.2]
  show dk_ty4 k 15 v ↔ _
  simp [dk_ty4]
theorem gf_4_15 {E : dkE} {cc : ByteArray} {own : String} {d : Nat} {l0 : Launch} {G0 : dkG} {n00 : Int} {nL0 mc ms : Nat} (hE : dk_Good E cc own d dk_Ty l0 G0 n00 nL0 mc ms) {pc pc' : Nat} {ls st : List dkV} {n : Int} {σ : dkS} {k : Int} {ix : Nat} {fin : Bool} (hF : dk_FL own ix 4 15 fin 0) (hd : decode cc pc = .ok (.getfield ix, 3)) (hk : dk_is n 4 k) (hp : pc + 3 = pc') (K : ∀ v : Int, v = σ k 15 → (True) → dk_i32 v → dk_PJ E pc' ls ((0, v) :: st) n σ) : dk_PJ E pc ls ((4, k) :: st) n σ :=
  dk_getf hE hF hd hk rfl hp (fun t q => K _ rfl ((ty_4_15 hk).mp t) q)
theorem pf_4_15 {E : dkE} {cc : ByteArray} {own : String} {d : Nat} {l0 : Launch} {G0 : dkG} {n00 : Int} {nL0 mc ms : Nat} (hE : dk_Good E cc own d dk_Ty l0 G0 n00 nL0 mc ms) {pc pc' : Nat} {ls st : List dkV} {n : Int} {σ : dkS} {k z : Int} {ix : Nat} (hF : dk_FL own ix 4 15 false 0) (hd : decode cc pc = .ok (.putfield ix, 3)) (hk : dk_is n 4 k) (ht : True) (hp : pc + 3 = pc') (K : ∀ σ1 : dkS, σ1 = dk_up σ k 15 z → dk_PJ E pc' ls st n σ1) : dk_PJ E pc ls ((0, z) :: (4, k) :: st) n σ :=
  dk_putf hE hF hd hk rfl (fun h => h.1 rfl) ((ty_4_15 hk).mpr ht) hp (K _ rfl)
theorem ty_4_16 {n k v : Int} (hk : dk_is n 4 k) : dk_Ty k 16 v ↔ (0 ≤ v ∧ v ≤ 9) := by
  show dk_tyS (dk_site k) k 16 v ↔ _
  rw [hk.2.2]
  show dk_ty4 k 16 v ↔ _
  simp [dk_ty4]
theorem gf_4_16 {E : dkE} {cc : ByteArray} {own : String} {d : Nat} {l0 : Launch} {G0 : dkG} {n00 : Int} {nL0 mc ms : Nat} (hE : dk_Good E cc own d dk_Ty l0 G0 n00 nL0 mc ms) {pc pc' : Nat} {ls st : List dkV} {n : Int} {σ : dkS} {k : Int} {ix : Nat} {fin : Bool} (hF : dk_FL own ix 4 16 fin 0) (hd : decode cc pc = .ok (.getfield ix, 3)) (hk : dk_is n 4 k) (hp : pc + 3 = pc') (K : ∀ v : Int, v = σ k 16 → (0 ≤ v ∧ v ≤ 9) → dk_i32 v → dk_PJ E pc' ls ((0, v) :: st) n σ) : dk_PJ E pc ls ((4, k) :: st) n σ :=
  dk_getf hE hF hd hk rfl hp (fun t q => K _ rfl ((ty_4_16 hk).mp t) q)
theorem pf_4_16 {E : dkE} {cc : ByteArray} {own : String} {d : Nat} {l0 : Launch} {G0 : dkG} {n00 : Int} {nL0 mc ms : Nat} (hE : dk_Good E cc own d dk_Ty l0 G0 n00 nL0 mc ms) {pc pc' : Nat} {ls st : List dkV} {n : Int} {σ : dkS} {k z : Int} {ix : Nat} (hF : dk_FL own ix 4 16 false 0) (hd : decode cc pc = .ok (.putfield ix, 3)) (hk : dk_is n 4 k) (ht : 0 ≤ z ∧ z ≤ 9) (hp : pc + 3 = pc') (K : ∀ σ1 : dkS, σ1 = dk_up σ k 16 z → dk_PJ E pc' ls st n σ1) : dk_PJ E pc ls ((0, z) :: (4, k) :: st) n σ :=
  dk_putf hE hF hd hk rfl (fun h => h.1 rfl) ((ty_4_16 hk).mpr ht) hp (K _ rfl)
theorem ty_5_0 {n k v : Int} (hk : dk_is n 5 k) : dk_Ty k 0 v ↔ (v = 6) := by
  show dk_tyS (dk_site k) k 0 v ↔ _
  rw [hk.2.2]
  show dk_ty5 k 0 v ↔ _
  simp [dk_ty5]
theorem gf_5_0 {E : dkE} {cc : ByteArray} {own : String} {d : Nat} {l0 : Launch} {G0 : dkG} {n00 : Int} {nL0 mc ms : Nat} (hE : dk_Good E cc own d dk_Ty l0 G0 n00 nL0 mc ms) {pc pc' : Nat} {ls st : List dkV} {n : Int} {σ : dkS} {k w : Int} {ix : Nat} {fin : Bool} (hF : dk_FL own ix 5 0 fin 4) (hd : decode cc pc = .ok (.getfield ix, 3)) (hk : dk_is n 5 k) (hw : 6 = w) (hp : pc + 3 = pc') (K : dk_PJ E pc' ls ((4, w) :: st) n σ) : dk_PJ E pc ls ((4, k) :: st) n σ :=
  dk_getf hE hF hd hk rfl hp (fun t _ => by have t := (ty_5_0 hk).mp t; rw [show σ k ((0 : Nat) : Int) = w from t.trans hw]; exact K)
theorem ty_5_1 {n k v : Int} (hk : dk_is n 5 k) : dk_Ty k 1 v ↔ (v = k + 1) := by
  show dk_tyS (dk_site k) k 1 v ↔ _
  rw [hk.2.2]
  show dk_ty5 k 1 v ↔ _
  simp [dk_ty5]
theorem gf_5_1 {E : dkE} {cc : ByteArray} {own : String} {d : Nat} {l0 : Launch} {G0 : dkG} {n00 : Int} {nL0 mc ms : Nat} (hE : dk_Good E cc own d dk_Ty l0 G0 n00 nL0 mc ms) {pc pc' : Nat} {ls st : List dkV} {n : Int} {σ : dkS} {k w : Int} {ix : Nat} {fin : Bool} (hF : dk_FL own ix 5 1 fin 4) (hd : decode cc pc = .ok (.getfield ix, 3)) (hk : dk_is n 5 k) (hw : k + 1 = w) (hp : pc + 3 = pc') (K : dk_PJ E pc' ls ((4, w) :: st) n σ) : dk_PJ E pc ls ((4, k) :: st) n σ :=
  dk_getf hE hF hd hk rfl hp (fun t _ => by have t := (ty_5_1 hk).mp t; rw [show σ k ((1 : Nat) : Int) = w from t.trans hw]; exact K)
theorem ty_5_2 {n k v : Int} (hk : dk_is n 5 k) : dk_Ty k 2 v ↔ (0 ≤ v ∧ v ≤ 16) := by
  show dk_tyS (dk_site k) k 2 v ↔ _
  rw [hk.2.2]
  show dk_ty5 k 2 v ↔ _
  simp [dk_ty5]
theorem gf_5_2 {E : dkE} {cc : ByteArray} {own : String} {d : Nat} {l0 : Launch} {G0 : dkG} {n00 : Int} {nL0 mc ms : Nat} (hE : dk_Good E cc own d dk_Ty l0 G0 n00 nL0 mc ms) {pc pc' : Nat} {ls st : List dkV} {n : Int} {σ : dkS} {k : Int} {ix : Nat} {fin : Bool} (hF : dk_FL own ix 5 2 fin 0) (hd : decode cc pc = .ok (.getfield ix, 3)) (hk : dk_is n 5 k) (hp : pc + 3 = pc') (K : ∀ v : Int, v = σ k 2 → (0 ≤ v ∧ v ≤ 16) → dk_i32 v → dk_PJ E pc' ls ((0, v) :: st) n σ) : dk_PJ E pc ls ((4, k) :: st) n σ :=
  dk_getf hE hF hd hk rfl hp (fun t q => K _ rfl ((ty_5_2 hk).mp t) q)
theorem pf_5_2 {E : dkE} {cc : ByteArray} {own : String} {d : Nat} {l0 : Launch} {G0 : dkG} {n00 : Int} {nL0 mc ms : Nat} (hE : dk_Good E cc own d dk_Ty l0 G0 n00 nL0 mc ms) {pc pc' : Nat} {ls st : List dkV} {n : Int} {σ : dkS} {k z : Int} {ix : Nat} (hF : dk_FL own ix 5 2 false 0) (hd : decode cc pc = .ok (.putfield ix, 3)) (hk : dk_is n 5 k) (ht : 0 ≤ z ∧ z ≤ 16) (hp : pc + 3 = pc') (K : ∀ σ1 : dkS, σ1 = dk_up σ k 2 z → dk_PJ E pc' ls st n σ1) : dk_PJ E pc ls ((0, z) :: (4, k) :: st) n σ :=
  dk_putf hE hF hd hk rfl (fun h => h.1 rfl) ((ty_5_2 hk).mpr ht) hp (K _ rfl)
theorem ty_5_3 {n k v : Int} (hk : dk_is n 5 k) : dk_Ty k 3 v ↔ (True) := by
  show dk_tyS (dk_site k) k 3 v ↔ _
  rw [hk.2.2]
  show dk_ty5 k 3 v ↔ _
  simp [dk_ty5]
theorem gf_5_3 {E : dkE} {cc : ByteArray} {own : String} {d : Nat} {l0 : Launch} {G0 : dkG} {n00 : Int} {nL0 mc ms : Nat} (hE : dk_Good E cc own d dk_Ty l0 G0 n00 nL0 mc ms) {pc pc' : Nat} {ls st : List dkV} {n : Int} {σ : dkS} {k : Int} {ix : Nat} {fin : Bool} (hF : dk_FL own ix 5 3 fin 2) (hd : decode cc pc = .ok (.getfield ix, 3)) (hk : dk_is n 5 k) (hp : pc + 3 = pc') (K : ∀ v : Int, v = σ k 3 → (True) → (0 ≤ v ∧ v ≤ 1) → dk_PJ E pc' ls ((0, v) :: st) n σ) : dk_PJ E pc ls ((4, k) :: st) n σ :=
  dk_getf hE hF hd hk rfl hp (fun t q => K _ rfl ((ty_5_3 hk).mp t) q)
theorem pf_5_3 {E : dkE} {cc : ByteArray} {own : String} {d : Nat} {l0 : Launch} {G0 : dkG} {n00 : Int} {nL0 mc ms : Nat} (hE : dk_Good E cc own d dk_Ty l0 G0 n00 nL0 mc ms) {pc pc' : Nat} {ls st : List dkV} {n : Int} {σ : dkS} {k z : Int} {ix : Nat} (hF : dk_FL own ix 5 3 false 2) (hd : decode cc pc = .ok (.putfield ix, 3)) (hk : dk_is n 5 k) (hz : 0 ≤ z ∧ z ≤ 1) (ht : True) (hp : pc + 3 = pc') (K : ∀ σ1 : dkS, σ1 = dk_up σ k 3 z → dk_PJ E pc' ls st n σ1) : dk_PJ E pc ls ((0, z) :: (4, k) :: st) n σ :=
  dk_putf hE hF hd hk rfl (fun _ => hz) ((ty_5_3 hk).mpr ht) hp (K _ rfl)
theorem ty_5_4 {n k v : Int} (hk : dk_is n 5 k) : dk_Ty k 4 v ↔ (v = -1 ∨ v = 95 ∨ v = 118) := by
  show dk_tyS (dk_site k) k 4 v ↔ _
  rw [hk.2.2]
  show dk_ty5 k 4 v ↔ _
  simp [dk_ty5]
theorem gf_5_4 {E : dkE} {cc : ByteArray} {own : String} {d : Nat} {l0 : Launch} {G0 : dkG} {n00 : Int} {nL0 mc ms : Nat} (hE : dk_Good E cc own d dk_Ty l0 G0 n00 nL0 mc ms) {pc pc' : Nat} {ls st : List dkV} {n : Int} {σ : dkS} {k : Int} {ix : Nat} {fin : Bool} (hF : dk_FL own ix 5 4 fin 4) (hd : decode cc pc = .ok (.getfield ix, 3)) (hk : dk_is n 5 k) (hp : pc + 3 = pc') (K : ∀ v : Int, v = σ k 4 → (v = -1 ∨ v = 95 ∨ v = 118) → True → dk_PJ E pc' ls ((4, v) :: st) n σ) : dk_PJ E pc ls ((4, k) :: st) n σ :=
  dk_getf hE hF hd hk rfl hp (fun t q => K _ rfl ((ty_5_4 hk).mp t) q)
theorem pf_5_4 {E : dkE} {cc : ByteArray} {own : String} {d : Nat} {l0 : Launch} {G0 : dkG} {n00 : Int} {nL0 mc ms : Nat} (hE : dk_Good E cc own d dk_Ty l0 G0 n00 nL0 mc ms) {pc pc' : Nat} {ls st : List dkV} {n : Int} {σ : dkS} {k z : Int} {ix : Nat} (hF : dk_FL own ix 5 4 false 4) (hd : decode cc pc = .ok (.putfield ix, 3)) (hk : dk_is n 5 k) (ht : z = -1 ∨ z = 95 ∨ z = 118) (hp : pc + 3 = pc') (K : ∀ σ1 : dkS, σ1 = dk_up σ k 4 z → dk_PJ E pc' ls st n σ1) : dk_PJ E pc ls ((4, z) :: (4, k) :: st) n σ :=
  dk_putf hE hF hd hk rfl (fun _ => trivial) ((ty_5_4 hk).mpr ht) hp (K _ rfl)
theorem ty_5_5 {n k v : Int} (hk : dk_is n 5 k) : dk_Ty k 5 v ↔ (True) := by
  show dk_tyS (dk_site k) k 5 v ↔ _
  rw [hk.2.2]
  show dk_ty5 k 5 v ↔ _
  simp [dk_ty5]
theorem gf_5_5 {E : dkE} {cc : ByteArray} {own : String} {d : Nat} {l0 : Launch} {G0 : dkG} {n00 : Int} {nL0 mc ms : Nat} (hE : dk_Good E cc own d dk_Ty l0 G0 n00 nL0 mc ms) {pc pc' : Nat} {ls st : List dkV} {n : Int} {σ : dkS} {k : Int} {ix : Nat} {fin : Bool} (hF : dk_FL own ix 5 5 fin 0) (hd : decode cc pc = .ok (.getfield ix, 3)) (hk : dk_is n 5 k) (hp : pc + 3 = pc') (K : ∀ v : Int, v = σ k 5 → (True) → dk_i32 v → dk_PJ E pc' ls ((0, v) :: st) n σ) : dk_PJ E pc ls ((4, k) :: st) n σ :=
  dk_getf hE hF hd hk rfl hp (fun t q => K _ rfl ((ty_5_5 hk).mp t) q)
theorem pf_5_5 {E : dkE} {cc : ByteArray} {own : String} {d : Nat} {l0 : Launch} {G0 : dkG} {n00 : Int} {nL0 mc ms : Nat} (hE : dk_Good E cc own d dk_Ty l0 G0 n00 nL0 mc ms) {pc pc' : Nat} {ls st : List dkV} {n : Int} {σ : dkS} {k z : Int} {ix : Nat} (hF : dk_FL own ix 5 5 false 0) (hd : decode cc pc = .ok (.putfield ix, 3)) (hk : dk_is n 5 k) (ht : True) (hp : pc + 3 = pc') (K : ∀ σ1 : dkS, σ1 = dk_up σ k 5 z → dk_PJ E pc' ls st n σ1) : dk_PJ E pc ls ((0, z) :: (4, k) :: st) n σ :=
  dk_putf hE hF hd hk rfl (fun h => h.1 rfl) ((ty_5_5 hk).mpr ht) hp (K _ rfl)
theorem ty_5_6 {n k v : Int} (hk : dk_is n 5 k) : dk_Ty k 6 v ↔ (True) := by
  show dk_tyS (dk_site k) k 6 v ↔ _
  rw [hk.2.2]
  show dk_ty5 k 6 v ↔ _
  simp [dk_ty5]
theorem gf_5_6 {E : dkE} {cc : ByteArray} {own : String} {d : Nat} {l0 : Launch} {G0 : dkG} {n00 : Int} {nL0 mc ms : Nat} (hE : dk_Good E cc own d dk_Ty l0 G0 n00 nL0 mc ms) {pc pc' : Nat} {ls st : List dkV} {n : Int} {σ : dkS} {k : Int} {ix : Nat} {fin : Bool} (hF : dk_FL own ix 5 6 fin 0) (hd : decode cc pc = .ok (.getfield ix, 3)) (hk : dk_is n 5 k) (hp : pc + 3 = pc') (K : ∀ v : Int, v = σ k 6 → (True) → dk_i32 v → dk_PJ E pc' ls ((0, v) :: st) n σ) : dk_PJ E pc ls ((4, k) :: st) n σ :=
  dk_getf hE hF hd hk rfl hp (fun t q => K _ rfl ((ty_5_6 hk).mp t) q)
theorem pf_5_6 {E : dkE} {cc : ByteArray} {own : String} {d : Nat} {l0 : Launch} {G0 : dkG} {n00 : Int} {nL0 mc ms : Nat} (hE : dk_Good E cc own d dk_Ty l0 G0 n00 nL0 mc ms) {pc pc' : Nat} {ls st : List dkV} {n : Int} {σ : dkS} {k z : Int} {ix : Nat} (hF : dk_FL own ix 5 6 false 0) (hd : decode cc pc = .ok (.putfield ix, 3)) (hk : dk_is n 5 k) (ht : True) (hp : pc + 3 = pc') (K : ∀ σ1 : dkS, σ1 = dk_up σ k 6 z → dk_PJ E pc' ls st n σ1) : dk_PJ E pc ls ((0, z) :: (4, k) :: st) n σ :=
  dk_putf hE hF hd hk rfl (fun h => h.1 rfl) ((ty_5_6 hk).mpr ht) hp (K _ rfl)
theorem ty_6_0 {n k v : Int} (hk : dk_is n 6 k) : dk_Ty k 0 v ↔ (v = k + 1) := by
  show dk_tyS (dk_site k) k 0 v ↔ _
  rw [hk.2.2]
  show dk_ty6 k 0 v ↔ _
  simp [dk_ty6]
theorem gf_6_0 {E : dkE} {cc : ByteArray} {own : String} {d : Nat} {l0 : Launch} {G0 : dkG} {n00 : Int} {nL0 mc ms : Nat} (hE : dk_Good E cc own d dk_Ty l0 G0 n00 nL0 mc ms) {pc pc' : Nat} {ls st : List dkV} {n : Int} {σ : dkS} {k w : Int} {ix : Nat} {fin : Bool} (hF : dk_FL own ix 6 0 fin 4) (hd : decode cc pc = .ok (.getfield ix, 3)) (hk : dk_is n 6 k) (hw : k + 1 = w) (hp : pc + 3 = pc') (K : dk_PJ E pc' ls ((4, w) :: st) n σ) : dk_PJ E pc ls ((4, k) :: st) n σ :=
  dk_getf hE hF hd hk rfl hp (fun t _ => by have t := (ty_6_0 hk).mp t; rw [show σ k ((0 : Nat) : Int) = w from t.trans hw]; exact K)
theorem ty_6_1 {n k v : Int} (hk : dk_is n 6 k) : dk_Ty k 1 v ↔ (v = k + 12) := by
  show dk_tyS (dk_site k) k 1 v ↔ _
  rw [hk.2.2]
  show dk_ty6 k 1 v ↔ _
  simp [dk_ty6]
theorem gf_6_1 {E : dkE} {cc : ByteArray} {own : String} {d : Nat} {l0 : Launch} {G0 : dkG} {n00 : Int} {nL0 mc ms : Nat} (hE : dk_Good E cc own d dk_Ty l0 G0 n00 nL0 mc ms) {pc pc' : Nat} {ls st : List dkV} {n : Int} {σ : dkS} {k w : Int} {ix : Nat} {fin : Bool} (hF : dk_FL own ix 6 1 fin 4) (hd : decode cc pc = .ok (.getfield ix, 3)) (hk : dk_is n 6 k) (hw : k + 12 = w) (hp : pc + 3 = pc') (K : dk_PJ E pc' ls ((4, w) :: st) n σ) : dk_PJ E pc ls ((4, k) :: st) n σ :=
  dk_getf hE hF hd hk rfl hp (fun t _ => by have t := (ty_6_1 hk).mp t; rw [show σ k ((1 : Nat) : Int) = w from t.trans hw]; exact K)
theorem ty_6_2 {n k v : Int} (hk : dk_is n 6 k) : dk_Ty k 2 v ↔ (v = k + 23) := by
  show dk_tyS (dk_site k) k 2 v ↔ _
  rw [hk.2.2]
  show dk_ty6 k 2 v ↔ _
  simp [dk_ty6]
theorem gf_6_2 {E : dkE} {cc : ByteArray} {own : String} {d : Nat} {l0 : Launch} {G0 : dkG} {n00 : Int} {nL0 mc ms : Nat} (hE : dk_Good E cc own d dk_Ty l0 G0 n00 nL0 mc ms) {pc pc' : Nat} {ls st : List dkV} {n : Int} {σ : dkS} {k w : Int} {ix : Nat} {fin : Bool} (hF : dk_FL own ix 6 2 fin 4) (hd : decode cc pc = .ok (.getfield ix, 3)) (hk : dk_is n 6 k) (hw : k + 23 = w) (hp : pc + 3 = pc') (K : dk_PJ E pc' ls ((4, w) :: st) n σ) : dk_PJ E pc ls ((4, k) :: st) n σ :=
  dk_getf hE hF hd hk rfl hp (fun t _ => by have t := (ty_6_2 hk).mp t; rw [show σ k ((2 : Nat) : Int) = w from t.trans hw]; exact K)
theorem ty_6_3 {n k v : Int} (hk : dk_is n 6 k) : dk_Ty k 3 v ↔ (v = k + 24) := by
  show dk_tyS (dk_site k) k 3 v ↔ _
  rw [hk.2.2]
  show dk_ty6 k 3 v ↔ _
  simp [dk_ty6]
theorem gf_6_3 {E : dkE} {cc : ByteArray} {own : String} {d : Nat} {l0 : Launch} {G0 : dkG} {n00 : Int} {nL0 mc ms : Nat} (hE : dk_Good E cc own d dk_Ty l0 G0 n00 nL0 mc ms) {pc pc' : Nat} {ls st : List dkV} {n : Int} {σ : dkS} {k w : Int} {ix : Nat} {fin : Bool} (hF : dk_FL own ix 6 3 fin 4) (hd : decode cc pc = .ok (.getfield ix, 3)) (hk : dk_is n 6 k) (hw : k + 24 = w) (hp : pc + 3 = pc') (K : dk_PJ E pc' ls ((4, w) :: st) n σ) : dk_PJ E pc ls ((4, k) :: st) n σ :=
  dk_getf hE hF hd hk rfl hp (fun t _ => by have t := (ty_6_3 hk).mp t; rw [show σ k ((3 : Nat) : Int) = w from t.trans hw]; exact K)
theorem ty_6_4 {n k v : Int} (hk : dk_is n 6 k) : dk_Ty k 4 v ↔ (v = k + 25) := by
  show dk_tyS (dk_site k) k 4 v ↔ _
  rw [hk.2.2]
  show dk_ty6 k 4 v ↔ _
  simp [dk_ty6]
theorem gf_6_4 {E : dkE} {cc : ByteArray} {own : String} {d : Nat} {l0 : Launch} {G0 : dkG} {n00 : Int} {nL0 mc ms : Nat} (hE : dk_Good E cc own d dk_Ty l0 G0 n00 nL0 mc ms) {pc pc' : Nat} {ls st : List dkV} {n : Int} {σ : dkS} {k w : Int} {ix : Nat} {fin : Bool} (hF : dk_FL own ix 6 4 fin 4) (hd : decode cc pc = .ok (.getfield ix, 3)) (hk : dk_is n 6 k) (hw : k + 25 = w) (hp : pc + 3 = pc') (K : dk_PJ E pc' ls ((4, w) :: st) n σ) : dk_PJ E pc ls ((4, k) :: st) n σ :=
  dk_getf hE hF hd hk rfl hp (fun t _ => by have t := (ty_6_4 hk).mp t; rw [show σ k ((4 : Nat) : Int) = w from t.trans hw]; exact K)
theorem ty_6_5 {n k v : Int} (hk : dk_is n 6 k) : dk_Ty k 5 v ↔ (v = k + 26) := by
  show dk_tyS (dk_site k) k 5 v ↔ _
  rw [hk.2.2]
  show dk_ty6 k 5 v ↔ _
  simp [dk_ty6]
theorem gf_6_5 {E : dkE} {cc : ByteArray} {own : String} {d : Nat} {l0 : Launch} {G0 : dkG} {n00 : Int} {nL0 mc ms : Nat} (hE : dk_Good E cc own d dk_Ty l0 G0 n00 nL0 mc ms) {pc pc' : Nat} {ls st : List dkV} {n : Int} {σ : dkS} {k w : Int} {ix : Nat} {fin : Bool} (hF : dk_FL own ix 6 5 fin 4) (hd : decode cc pc = .ok (.getfield ix, 3)) (hk : dk_is n 6 k) (hw : k + 26 = w) (hp : pc + 3 = pc') (K : dk_PJ E pc' ls ((4, w) :: st) n σ) : dk_PJ E pc ls ((4, k) :: st) n σ :=
  dk_getf hE hF hd hk rfl hp (fun t _ => by have t := (ty_6_5 hk).mp t; rw [show σ k ((5 : Nat) : Int) = w from t.trans hw]; exact K)
theorem ty_6_6 {n k v : Int} (hk : dk_is n 6 k) : dk_Ty k 6 v ↔ (v = k + 27) := by
  show dk_tyS (dk_site k) k 6 v ↔ _
  rw [hk.2.2]
  show dk_ty6 k 6 v ↔ _
  simp [dk_ty6]
theorem gf_6_6 {E : dkE} {cc : ByteArray} {own : String} {d : Nat} {l0 : Launch} {G0 : dkG} {n00 : Int} {nL0 mc ms : Nat} (hE : dk_Good E cc own d dk_Ty l0 G0 n00 nL0 mc ms) {pc pc' : Nat} {ls st : List dkV} {n : Int} {σ : dkS} {k w : Int} {ix : Nat} {fin : Bool} (hF : dk_FL own ix 6 6 fin 4) (hd : decode cc pc = .ok (.getfield ix, 3)) (hk : dk_is n 6 k) (hw : k + 27 = w) (hp : pc + 3 = pc') (K : dk_PJ E pc' ls ((4, w) :: st) n σ) : dk_PJ E pc ls ((4, k) :: st) n σ :=
  dk_getf hE hF hd hk rfl hp (fun t _ => by have t := (ty_6_6 hk).mp t; rw [show σ k ((6 : Nat) : Int) = w from t.trans hw]; exact K)
theorem ty_6_7 {n k v : Int} (hk : dk_is n 6 k) : dk_Ty k 7 v ↔ (v = k + 28) := by
  show dk_tyS (dk_site k) k 7 v ↔ _
  rw [hk.2.2]
  show dk_ty6 k 7 v ↔ _
  simp [dk_ty6]
theorem gf_6_7 {E : dkE} {cc : ByteArray} {own : String} {d : Nat} {l0 : Launch} {G0 : dkG} {n00 : Int} {nL0 mc ms : Nat} (hE : dk_Good E cc own d dk_Ty l0 G0 n00 nL0 mc ms) {pc pc' : Nat} {ls st : List dkV} {n : Int} {σ : dkS} {k w : Int} {ix : Nat} {fin : Bool} (hF : dk_FL own ix 6 7 fin 4) (hd : decode cc pc = .ok (.getfield ix, 3)) (hk : dk_is n 6 k) (hw : k + 28 = w) (hp : pc + 3 = pc') (K : dk_PJ E pc' ls ((4, w) :: st) n σ) : dk_PJ E pc ls ((4, k) :: st) n σ :=
  dk_getf hE hF hd hk rfl hp (fun t _ => by have t := (ty_6_7 hk).mp t; rw [show σ k ((7 : Nat) : Int) = w from t.trans hw]; exact K)
theorem ty_6_8 {n k v : Int} (hk : dk_is n 6 k) : dk_Ty k 8 v ↔ (v = k + 29) := by
  show dk_tyS (dk_site k) k 8 v ↔ _
  rw [hk.2.2]
  show dk_ty6 k 8 v ↔ _
  simp [dk_ty6]
theorem gf_6_8 {E : dkE} {cc : ByteArray} {own : String} {d : Nat} {l0 : Launch} {G0 : dkG} {n00 : Int} {nL0 mc ms : Nat} (hE : dk_Good E cc own d dk_Ty l0 G0 n00 nL0 mc ms) {pc pc' : Nat} {ls st : List dkV} {n : Int} {σ : dkS} {k w : Int} {ix : Nat} {fin : Bool} (hF : dk_FL own ix 6 8 fin 4) (hd : decode cc pc = .ok (.getfield ix, 3)) (hk : dk_is n 6 k) (hw : k + 29 = w) (hp : pc + 3 = pc') (K : dk_PJ E pc' ls ((4, w) :: st) n σ) : dk_PJ E pc ls ((4, k) :: st) n σ :=
  dk_getf hE hF hd hk rfl hp (fun t _ => by have t := (ty_6_8 hk).mp t; rw [show σ k ((8 : Nat) : Int) = w from t.trans hw]; exact K)
theorem ty_6_9 {n k v : Int} (hk : dk_is n 6 k) : dk_Ty k 9 v ↔ (v = -1 ∨ v = 95 ∨ v = 118) := by
  show dk_tyS (dk_site k) k 9 v ↔ _
  rw [hk.2.2]
  show dk_ty6 k 9 v ↔ _
  simp [dk_ty6]
theorem gf_6_9 {E : dkE} {cc : ByteArray} {own : String} {d : Nat} {l0 : Launch} {G0 : dkG} {n00 : Int} {nL0 mc ms : Nat} (hE : dk_Good E cc own d dk_Ty l0 G0 n00 nL0 mc ms) {pc pc' : Nat} {ls st : List dkV} {n : Int} {σ : dkS} {k : Int} {ix : Nat} {fin : Bool} (hF : dk_FL own ix 6 9 fin 4) (hd : decode cc pc = .ok (.getfield ix, 3)) (hk : dk_is n 6 k) (hp : pc + 3 = pc') (K : ∀ v : Int, v = σ k 9 → (v = -1 ∨ v = 95 ∨ v = 118) → True → dk_PJ E pc' ls ((4, v) :: st) n σ) : dk_PJ E pc ls ((4, k) :: st) n σ :=
  dk_getf hE hF hd hk rfl hp (fun t q => K _ rfl ((ty_6_9 hk).mp t) q)
theorem pf_6_9 {E : dkE} {cc : ByteArray} {own : String} {d : Nat} {l0 : Launch} {G0 : dkG} {n00 : Int} {nL0 mc ms : Nat} (hE : dk_Good E cc own d dk_Ty l0 G0 n00 nL0 mc ms) {pc pc' : Nat} {ls st : List dkV} {n : Int} {σ : dkS} {k z : Int} {ix : Nat} (hF : dk_FL own ix 6 9 false 4) (hd : decode cc pc = .ok (.putfield ix, 3)) (hk : dk_is n 6 k) (ht : z = -1 ∨ z = 95 ∨ z = 118) (hp : pc + 3 = pc') (K : ∀ σ1 : dkS, σ1 = dk_up σ k 9 z → dk_PJ E pc' ls st n σ1) : dk_PJ E pc ls ((4, z) :: (4, k) :: st) n σ :=
  dk_putf hE hF hd hk rfl (fun _ => trivial) ((ty_6_9 hk).mpr ht) hp (K _ rfl)
theorem ty_6_10 {n k v : Int} (hk : dk_is n 6 k) : dk_Ty k 10 v ↔ (v = -1 ∨ (13 ≤ v ∧ v ≤ 33 ∧ (v - 13) % 4 = 0)) := by
  show dk_tyS (dk_site k) k 10 v ↔ _
  rw [hk.2.2]
  show dk_ty6 k 10 v ↔ _
  simp [dk_ty6]
theorem gf_6_10 {E : dkE} {cc : ByteArray} {own : String} {d : Nat} {l0 : Launch} {G0 : dkG} {n00 : Int} {nL0 mc ms : Nat} (hE : dk_Good E cc own d dk_Ty l0 G0 n00 nL0 mc ms) {pc pc' : Nat} {ls st : List dkV} {n : Int} {σ : dkS} {k : Int} {ix : Nat} {fin : Bool} (hF : dk_FL own ix 6 10 fin 4) (hd : decode cc pc = .ok (.getfield ix, 3)) (hk : dk_is n 6 k) (hp : pc + 3 = pc') (K : ∀ v : Int, v = σ k 10 → (v = -1 ∨ (13 ≤ v ∧ v ≤ 33 ∧ (v - 13) % 4 = 0)) → True → dk_PJ E pc' ls ((4, v) :: st) n σ) : dk_PJ E pc ls ((4, k) :: st) n σ :=
  dk_getf hE hF hd hk rfl hp (fun t q => K _ rfl ((ty_6_10 hk).mp t) q)
theorem pf_6_10 {E : dkE} {cc : ByteArray} {own : String} {d : Nat} {l0 : Launch} {G0 : dkG} {n00 : Int} {nL0 mc ms : Nat} (hE : dk_Good E cc own d dk_Ty l0 G0 n00 nL0 mc ms) {pc pc' : Nat} {ls st : List dkV} {n : Int} {σ : dkS} {k z : Int} {ix : Nat} (hF : dk_FL own ix 6 10 false 4) (hd : decode cc pc = .ok (.putfield ix, 3)) (hk : dk_is n 6 k) (ht : z = -1 ∨ (13 ≤ z ∧ z ≤ 33 ∧ (z - 13) % 4 = 0)) (hp : pc + 3 = pc') (K : ∀ σ1 : dkS, σ1 = dk_up σ k 10 z → dk_PJ E pc' ls st n σ1) : dk_PJ E pc ls ((4, z) :: (4, k) :: st) n σ :=
  dk_putf hE hF hd hk rfl (fun _ => trivial) ((ty_6_10 hk).mpr ht) hp (K _ rfl)
theorem ty_6_11 {n k v : Int} (hk : dk_is n 6 k) : dk_Ty k 11 v ↔ (0 ≤ v ∧ v ≤ 10) := by
  show dk_tyS (dk_site k) k 11 v ↔ _
  rw [hk.2.2]
  show dk_ty6 k 11 v ↔ _
  simp [dk_ty6]
theorem gf_6_11 {E : dkE} {cc : ByteArray} {own : String} {d : Nat} {l0 : Launch} {G0 : dkG} {n00 : Int} {nL0 mc ms : Nat} (hE : dk_Good E cc own d dk_Ty l0 G0 n00 nL0 mc ms) {pc pc' : Nat} {ls st : List dkV} {n : Int} {σ : dkS} {k : Int} {ix : Nat} {fin : Bool} (hF : dk_FL own ix 6 11 fin 0) (hd : decode cc pc = .ok (.getfield ix, 3)) (hk : dk_is n 6 k) (hp : pc + 3 = pc') (K : ∀ v : Int, v = σ k 11 → (0 ≤ v ∧ v ≤ 10) → dk_i32 v → dk_PJ E pc' ls ((0, v) :: st) n σ) : dk_PJ E pc ls ((4, k) :: st) n σ :=
  dk_getf hE hF hd hk rfl hp (fun t q => K _ rfl ((ty_6_11 hk).mp t) q)
theorem pf_6_11 {E : dkE} {cc : ByteArray} {own : String} {d : Nat} {l0 : Launch} {G0 : dkG} {n00 : Int} {nL0 mc ms : Nat} (hE : dk_Good E cc own d dk_Ty l0 G0 n00 nL0 mc ms) {pc pc' : Nat} {ls st : List dkV} {n : Int} {σ : dkS} {k z : Int} {ix : Nat} (hF : dk_FL own ix 6 11 false 0) (hd : decode cc pc = .ok (.putfield ix, 3)) (hk : dk_is n 6 k) (ht : 0 ≤ z ∧ z ≤ 10) (hp : pc + 3 = pc') (K : ∀ σ1 : dkS, σ1 = dk_up σ k 11 z → dk_PJ E pc' ls st n σ1) : dk_PJ E pc ls ((0, z) :: (4, k) :: st) n σ :=
  dk_putf hE hF hd hk rfl (fun h => h.1 rfl) ((ty_6_11 hk).mpr ht) hp (K _ rfl)
theorem ty_6_12 {n k v : Int} (hk : dk_is n 6 k) : dk_Ty k 12 v ↔ (0 ≤ v ∧ v ≤ 999) := by
  show dk_tyS (dk_site k) k 12 v ↔ _
  rw [hk.2.2]
  show dk_ty6 k 12 v ↔ _
  simp [dk_ty6]
theorem gf_6_12 {E : dkE} {cc : ByteArray} {own : String} {d : Nat} {l0 : Launch} {G0 : dkG} {n00 : Int} {nL0 mc ms : Nat} (hE : dk_Good E cc own d dk_Ty l0 G0 n00 nL0 mc ms) {pc pc' : Nat} {ls st : List dkV} {n : Int} {σ : dkS} {k : Int} {ix : Nat} {fin : Bool} (hF : dk_FL own ix 6 12 fin 0) (hd : decode cc pc = .ok (.getfield ix, 3)) (hk : dk_is n 6 k) (hp : pc + 3 = pc') (K : ∀ v : Int, v = σ k 12 → (0 ≤ v ∧ v ≤ 999) → dk_i32 v → dk_PJ E pc' ls ((0, v) :: st) n σ) : dk_PJ E pc ls ((4, k) :: st) n σ :=
  dk_getf hE hF hd hk rfl hp (fun t q => K _ rfl ((ty_6_12 hk).mp t) q)
theorem pf_6_12 {E : dkE} {cc : ByteArray} {own : String} {d : Nat} {l0 : Launch} {G0 : dkG} {n00 : Int} {nL0 mc ms : Nat} (hE : dk_Good E cc own d dk_Ty l0 G0 n00 nL0 mc ms) {pc pc' : Nat} {ls st : List dkV} {n : Int} {σ : dkS} {k z : Int} {ix : Nat} (hF : dk_FL own ix 6 12 false 0) (hd : decode cc pc = .ok (.putfield ix, 3)) (hk : dk_is n 6 k) (ht : 0 ≤ z ∧ z ≤ 999) (hp : pc + 3 = pc') (K : ∀ σ1 : dkS, σ1 = dk_up σ k 12 z → dk_PJ E pc' ls st n σ1) : dk_PJ E pc ls ((0, z) :: (4, k) :: st) n σ :=
  dk_putf hE hF hd hk rfl (fun h => h.1 rfl) ((ty_6_12 hk).mpr ht) hp (K _ rfl)
theorem ty_7_0 {n k v : Int} (hk : dk_is n 7 k) : dk_Ty k 0 v ↔ (v = k + 1) := by
  show dk_tyS (dk_site k) k 0 v ↔ _
  rw [hk.2.2]
  show dk_ty7 k 0 v ↔ _
  simp [dk_ty7]
theorem gf_7_0 {E : dkE} {cc : ByteArray} {own : String} {d : Nat} {l0 : Launch} {G0 : dkG} {n00 : Int} {nL0 mc ms : Nat} (hE : dk_Good E cc own d dk_Ty l0 G0 n00 nL0 mc ms) {pc pc' : Nat} {ls st : List dkV} {n : Int} {σ : dkS} {k w : Int} {ix : Nat} {fin : Bool} (hF : dk_FL own ix 7 0 fin 4) (hd : decode cc pc = .ok (.getfield ix, 3)) (hk : dk_is n 7 k) (hw : k + 1 = w) (hp : pc + 3 = pc') (K : dk_PJ E pc' ls ((4, w) :: st) n σ) : dk_PJ E pc ls ((4, k) :: st) n σ :=
  dk_getf hE hF hd hk rfl hp (fun t _ => by have t := (ty_7_0 hk).mp t; rw [show σ k ((0 : Nat) : Int) = w from t.trans hw]; exact K)
theorem ty_7_1 {n k v : Int} (hk : dk_is n 7 k) : dk_Ty k 1 v ↔ (0 ≤ v ∧ v ≤ 1400) := by
  show dk_tyS (dk_site k) k 1 v ↔ _
  rw [hk.2.2]
  show dk_ty7 k 1 v ↔ _
  simp [dk_ty7]
theorem gf_7_1 {E : dkE} {cc : ByteArray} {own : String} {d : Nat} {l0 : Launch} {G0 : dkG} {n00 : Int} {nL0 mc ms : Nat} (hE : dk_Good E cc own d dk_Ty l0 G0 n00 nL0 mc ms) {pc pc' : Nat} {ls st : List dkV} {n : Int} {σ : dkS} {k : Int} {ix : Nat} {fin : Bool} (hF : dk_FL own ix 7 1 fin 0) (hd : decode cc pc = .ok (.getfield ix, 3)) (hk : dk_is n 7 k) (hp : pc + 3 = pc') (K : ∀ v : Int, v = σ k 1 → (0 ≤ v ∧ v ≤ 1400) → dk_i32 v → dk_PJ E pc' ls ((0, v) :: st) n σ) : dk_PJ E pc ls ((4, k) :: st) n σ :=
  dk_getf hE hF hd hk rfl hp (fun t q => K _ rfl ((ty_7_1 hk).mp t) q)
theorem pf_7_1 {E : dkE} {cc : ByteArray} {own : String} {d : Nat} {l0 : Launch} {G0 : dkG} {n00 : Int} {nL0 mc ms : Nat} (hE : dk_Good E cc own d dk_Ty l0 G0 n00 nL0 mc ms) {pc pc' : Nat} {ls st : List dkV} {n : Int} {σ : dkS} {k z : Int} {ix : Nat} (hF : dk_FL own ix 7 1 false 0) (hd : decode cc pc = .ok (.putfield ix, 3)) (hk : dk_is n 7 k) (ht : 0 ≤ z ∧ z ≤ 1400) (hp : pc + 3 = pc') (K : ∀ σ1 : dkS, σ1 = dk_up σ k 1 z → dk_PJ E pc' ls st n σ1) : dk_PJ E pc ls ((0, z) :: (4, k) :: st) n σ :=
  dk_putf hE hF hd hk rfl (fun h => h.1 rfl) ((ty_7_1 hk).mpr ht) hp (K _ rfl)
theorem ty_8_0 {n k v : Int} (hk : dk_is n 8 k) : dk_Ty k 0 v ↔ (v = k + 1) := by
  show dk_tyS (dk_site k) k 0 v ↔ _
  rw [hk.2.2]
  show dk_ty8 k 0 v ↔ _
  simp [dk_ty8]
theorem gf_8_0 {E : dkE} {cc : ByteArray} {own : String} {d : Nat} {l0 : Launch} {G0 : dkG} {n00 : Int} {nL0 mc ms : Nat} (hE : dk_Good E cc own d dk_Ty l0 G0 n00 nL0 mc ms) {pc pc' : Nat} {ls st : List dkV} {n : Int} {σ : dkS} {k w : Int} {ix : Nat} {fin : Bool} (hF : dk_FL own ix 8 0 fin 4) (hd : decode cc pc = .ok (.getfield ix, 3)) (hk : dk_is n 8 k) (hw : k + 1 = w) (hp : pc + 3 = pc') (K : dk_PJ E pc' ls ((4, w) :: st) n σ) : dk_PJ E pc ls ((4, k) :: st) n σ :=
  dk_getf hE hF hd hk rfl hp (fun t _ => by have t := (ty_8_0 hk).mp t; rw [show σ k ((0 : Nat) : Int) = w from t.trans hw]; exact K)
theorem ty_8_1 {n k v : Int} (hk : dk_is n 8 k) : dk_Ty k 1 v ↔ (v = k + 2) := by
  show dk_tyS (dk_site k) k 1 v ↔ _
  rw [hk.2.2]
  show dk_ty8 k 1 v ↔ _
  simp [dk_ty8]
theorem gf_8_1 {E : dkE} {cc : ByteArray} {own : String} {d : Nat} {l0 : Launch} {G0 : dkG} {n00 : Int} {nL0 mc ms : Nat} (hE : dk_Good E cc own d dk_Ty l0 G0 n00 nL0 mc ms) {pc pc' : Nat} {ls st : List dkV} {n : Int} {σ : dkS} {k w : Int} {ix : Nat} {fin : Bool} (hF : dk_FL own ix 8 1 fin 4) (hd : decode cc pc = .ok (.getfield ix, 3)) (hk : dk_is n 8 k) (hw : k + 2 = w) (hp : pc + 3 = pc') (K : dk_PJ E pc' ls ((4, w) :: st) n σ) : dk_PJ E pc ls ((4, k) :: st) n σ :=
  dk_getf hE hF hd hk rfl hp (fun t _ => by have t := (ty_8_1 hk).mp t; rw [show σ k ((1 : Nat) : Int) = w from t.trans hw]; exact K)
theorem ty_8_2 {n k v : Int} (hk : dk_is n 8 k) : dk_Ty k 2 v ↔ (v = k + 3) := by
  show dk_tyS (dk_site k) k 2 v ↔ _
  rw [hk.2.2]
  show dk_ty8 k 2 v ↔ _
  simp [dk_ty8]
theorem gf_8_2 {E : dkE} {cc : ByteArray} {own : String} {d : Nat} {l0 : Launch} {G0 : dkG} {n00 : Int} {nL0 mc ms : Nat} (hE : dk_Good E cc own d dk_Ty l0 G0 n00 nL0 mc ms) {pc pc' : Nat} {ls st : List dkV} {n : Int} {σ : dkS} {k w : Int} {ix : Nat} {fin : Bool} (hF : dk_FL own ix 8 2 fin 4) (hd : decode cc pc = .ok (.getfield ix, 3)) (hk : dk_is n 8 k) (hw : k + 3 = w) (hp : pc + 3 = pc') (K : dk_PJ E pc' ls ((4, w) :: st) n σ) : dk_PJ E pc ls ((4, k) :: st) n σ :=
  dk_getf hE hF hd hk rfl hp (fun t _ => by have t := (ty_8_2 hk).mp t; rw [show σ k ((2 : Nat) : Int) = w from t.trans hw]; exact K)
theorem ty_8_3 {n k v : Int} (hk : dk_is n 8 k) : dk_Ty k 3 v ↔ (v = k + 4) := by
  show dk_tyS (dk_site k) k 3 v ↔ _
  rw [hk.2.2]
  show dk_ty8 k 3 v ↔ _
  simp [dk_ty8]
theorem gf_8_3 {E : dkE} {cc : ByteArray} {own : String} {d : Nat} {l0 : Launch} {G0 : dkG} {n00 : Int} {nL0 mc ms : Nat} (hE : dk_Good E cc own d dk_Ty l0 G0 n00 nL0 mc ms) {pc pc' : Nat} {ls st : List dkV} {n : Int} {σ : dkS} {k w : Int} {ix : Nat} {fin : Bool} (hF : dk_FL own ix 8 3 fin 4) (hd : decode cc pc = .ok (.getfield ix, 3)) (hk : dk_is n 8 k) (hw : k + 4 = w) (hp : pc + 3 = pc') (K : dk_PJ E pc' ls ((4, w) :: st) n σ) : dk_PJ E pc ls ((4, k) :: st) n σ :=
  dk_getf hE hF hd hk rfl hp (fun t _ => by have t := (ty_8_3 hk).mp t; rw [show σ k ((3 : Nat) : Int) = w from t.trans hw]; exact K)
theorem ty_8_4 {n k v : Int} (hk : dk_is n 8 k) : dk_Ty k 4 v ↔ (v = k + 5) := by
  show dk_tyS (dk_site k) k 4 v ↔ _
  rw [hk.2.2]
  show dk_ty8 k 4 v ↔ _
  simp [dk_ty8]
theorem gf_8_4 {E : dkE} {cc : ByteArray} {own : String} {d : Nat} {l0 : Launch} {G0 : dkG} {n00 : Int} {nL0 mc ms : Nat} (hE : dk_Good E cc own d dk_Ty l0 G0 n00 nL0 mc ms) {pc pc' : Nat} {ls st : List dkV} {n : Int} {σ : dkS} {k w : Int} {ix : Nat} {fin : Bool} (hF : dk_FL own ix 8 4 fin 4) (hd : decode cc pc = .ok (.getfield ix, 3)) (hk : dk_is n 8 k) (hw : k + 5 = w) (hp : pc + 3 = pc') (K : dk_PJ E pc' ls ((4, w) :: st) n σ) : dk_PJ E pc ls ((4, k) :: st) n σ :=
  dk_getf hE hF hd hk rfl hp (fun t _ => by have t := (ty_8_4 hk).mp t; rw [show σ k ((4 : Nat) : Int) = w from t.trans hw]; exact K)
theorem ty_8_5 {n k v : Int} (hk : dk_is n 8 k) : dk_Ty k 5 v ↔ (v = k + 6) := by
  show dk_tyS (dk_site k) k 5 v ↔ _
  rw [hk.2.2]
  show dk_ty8 k 5 v ↔ _
  simp [dk_ty8]
theorem gf_8_5 {E : dkE} {cc : ByteArray} {own : String} {d : Nat} {l0 : Launch} {G0 : dkG} {n00 : Int} {nL0 mc ms : Nat} (hE : dk_Good E cc own d dk_Ty l0 G0 n00 nL0 mc ms) {pc pc' : Nat} {ls st : List dkV} {n : Int} {σ : dkS} {k w : Int} {ix : Nat} {fin : Bool} (hF : dk_FL own ix 8 5 fin 4) (hd : decode cc pc = .ok (.getfield ix, 3)) (hk : dk_is n 8 k) (hw : k + 6 = w) (hp : pc + 3 = pc') (K : dk_PJ E pc' ls ((4, w) :: st) n σ) : dk_PJ E pc ls ((4, k) :: st) n σ :=
  dk_getf hE hF hd hk rfl hp (fun t _ => by have t := (ty_8_5 hk).mp t; rw [show σ k ((5 : Nat) : Int) = w from t.trans hw]; exact K)
theorem ty_8_6 {n k v : Int} (hk : dk_is n 8 k) : dk_Ty k 6 v ↔ (0 ≤ v ∧ v ≤ 9) := by
  show dk_tyS (dk_site k) k 6 v ↔ _
  rw [hk.2.2]
  show dk_ty8 k 6 v ↔ _
  simp [dk_ty8]
theorem gf_8_6 {E : dkE} {cc : ByteArray} {own : String} {d : Nat} {l0 : Launch} {G0 : dkG} {n00 : Int} {nL0 mc ms : Nat} (hE : dk_Good E cc own d dk_Ty l0 G0 n00 nL0 mc ms) {pc pc' : Nat} {ls st : List dkV} {n : Int} {σ : dkS} {k : Int} {ix : Nat} {fin : Bool} (hF : dk_FL own ix 8 6 fin 0) (hd : decode cc pc = .ok (.getfield ix, 3)) (hk : dk_is n 8 k) (hp : pc + 3 = pc') (K : ∀ v : Int, v = σ k 6 → (0 ≤ v ∧ v ≤ 9) → dk_i32 v → dk_PJ E pc' ls ((0, v) :: st) n σ) : dk_PJ E pc ls ((4, k) :: st) n σ :=
  dk_getf hE hF hd hk rfl hp (fun t q => K _ rfl ((ty_8_6 hk).mp t) q)
theorem pf_8_6 {E : dkE} {cc : ByteArray} {own : String} {d : Nat} {l0 : Launch} {G0 : dkG} {n00 : Int} {nL0 mc ms : Nat} (hE : dk_Good E cc own d dk_Ty l0 G0 n00 nL0 mc ms) {pc pc' : Nat} {ls st : List dkV} {n : Int} {σ : dkS} {k z : Int} {ix : Nat} (hF : dk_FL own ix 8 6 false 0) (hd : decode cc pc = .ok (.putfield ix, 3)) (hk : dk_is n 8 k) (ht : 0 ≤ z ∧ z ≤ 9) (hp : pc + 3 = pc') (K : ∀ σ1 : dkS, σ1 = dk_up σ k 6 z → dk_PJ E pc' ls st n σ1) : dk_PJ E pc ls ((0, z) :: (4, k) :: st) n σ :=
  dk_putf hE hF hd hk rfl (fun h => h.1 rfl) ((ty_8_6 hk).mpr ht) hp (K _ rfl)
theorem ty_8_7 {n k v : Int} (hk : dk_is n 8 k) : dk_Ty k 7 v ↔ (0 ≤ v ∧ v ≤ 5) := by
  show dk_tyS (dk_site k) k 7 v ↔ _
  rw [hk.2.2]
  show dk_ty8 k 7 v ↔ _
  simp [dk_ty8]
theorem gf_8_7 {E : dkE} {cc : ByteArray} {own : String} {d : Nat} {l0 : Launch} {G0 : dkG} {n00 : Int} {nL0 mc ms : Nat} (hE : dk_Good E cc own d dk_Ty l0 G0 n00 nL0 mc ms) {pc pc' : Nat} {ls st : List dkV} {n : Int} {σ : dkS} {k : Int} {ix : Nat} {fin : Bool} (hF : dk_FL own ix 8 7 fin 0) (hd : decode cc pc = .ok (.getfield ix, 3)) (hk : dk_is n 8 k) (hp : pc + 3 = pc') (K : ∀ v : Int, v = σ k 7 → (0 ≤ v ∧ v ≤ 5) → dk_i32 v → dk_PJ E pc' ls ((0, v) :: st) n σ) : dk_PJ E pc ls ((4, k) :: st) n σ :=
  dk_getf hE hF hd hk rfl hp (fun t q => K _ rfl ((ty_8_7 hk).mp t) q)
theorem pf_8_7 {E : dkE} {cc : ByteArray} {own : String} {d : Nat} {l0 : Launch} {G0 : dkG} {n00 : Int} {nL0 mc ms : Nat} (hE : dk_Good E cc own d dk_Ty l0 G0 n00 nL0 mc ms) {pc pc' : Nat} {ls st : List dkV} {n : Int} {σ : dkS} {k z : Int} {ix : Nat} (hF : dk_FL own ix 8 7 false 0) (hd : decode cc pc = .ok (.putfield ix, 3)) (hk : dk_is n 8 k) (ht : 0 ≤ z ∧ z ≤ 5) (hp : pc + 3 = pc') (K : ∀ σ1 : dkS, σ1 = dk_up σ k 7 z → dk_PJ E pc' ls st n σ1) : dk_PJ E pc ls ((0, z) :: (4, k) :: st) n σ :=
  dk_putf hE hF hd hk rfl (fun h => h.1 rfl) ((ty_8_7 hk).mpr ht) hp (K _ rfl)
theorem ty_9_0 {n k v : Int} (hk : dk_is n 9 k) : dk_Ty k 0 v ↔ (v = 1) := by
  show dk_tyS (dk_site k) k 0 v ↔ _
  rw [hk.2.2]
  show dk_ty9 k 0 v ↔ _
  simp [dk_ty9]
theorem gf_9_0 {E : dkE} {cc : ByteArray} {own : String} {d : Nat} {l0 : Launch} {G0 : dkG} {n00 : Int} {nL0 mc ms : Nat} (hE : dk_Good E cc own d dk_Ty l0 G0 n00 nL0 mc ms) {pc pc' : Nat} {ls st : List dkV} {n : Int} {σ : dkS} {k w : Int} {ix : Nat} {fin : Bool} (hF : dk_FL own ix 9 0 fin 4) (hd : decode cc pc = .ok (.getfield ix, 3)) (hk : dk_is n 9 k) (hw : 1 = w) (hp : pc + 3 = pc') (K : dk_PJ E pc' ls ((4, w) :: st) n σ) : dk_PJ E pc ls ((4, k) :: st) n σ :=
  dk_getf hE hF hd hk rfl hp (fun t _ => by have t := (ty_9_0 hk).mp t; rw [show σ k ((0 : Nat) : Int) = w from t.trans hw]; exact K)
theorem ty_9_1 {n k v : Int} (hk : dk_is n 9 k) : dk_Ty k 1 v ↔ (v = k + 1) := by
  show dk_tyS (dk_site k) k 1 v ↔ _
  rw [hk.2.2]
  show dk_ty9 k 1 v ↔ _
  simp [dk_ty9]
theorem gf_9_1 {E : dkE} {cc : ByteArray} {own : String} {d : Nat} {l0 : Launch} {G0 : dkG} {n00 : Int} {nL0 mc ms : Nat} (hE : dk_Good E cc own d dk_Ty l0 G0 n00 nL0 mc ms) {pc pc' : Nat} {ls st : List dkV} {n : Int} {σ : dkS} {k w : Int} {ix : Nat} {fin : Bool} (hF : dk_FL own ix 9 1 fin 4) (hd : decode cc pc = .ok (.getfield ix, 3)) (hk : dk_is n 9 k) (hw : k + 1 = w) (hp : pc + 3 = pc') (K : dk_PJ E pc' ls ((4, w) :: st) n σ) : dk_PJ E pc ls ((4, k) :: st) n σ :=
  dk_getf hE hF hd hk rfl hp (fun t _ => by have t := (ty_9_1 hk).mp t; rw [show σ k ((1 : Nat) : Int) = w from t.trans hw]; exact K)
theorem ty_9_2 {n k v : Int} (hk : dk_is n 9 k) : dk_Ty k 2 v ↔ (0 ≤ v ∧ v ≤ 1400) := by
  show dk_tyS (dk_site k) k 2 v ↔ _
  rw [hk.2.2]
  show dk_ty9 k 2 v ↔ _
  simp [dk_ty9]
theorem gf_9_2 {E : dkE} {cc : ByteArray} {own : String} {d : Nat} {l0 : Launch} {G0 : dkG} {n00 : Int} {nL0 mc ms : Nat} (hE : dk_Good E cc own d dk_Ty l0 G0 n00 nL0 mc ms) {pc pc' : Nat} {ls st : List dkV} {n : Int} {σ : dkS} {k : Int} {ix : Nat} {fin : Bool} (hF : dk_FL own ix 9 2 fin 0) (hd : decode cc pc = .ok (.getfield ix, 3)) (hk : dk_is n 9 k) (hp : pc + 3 = pc') (K : ∀ v : Int, v = σ k 2 → (0 ≤ v ∧ v ≤ 1400) → dk_i32 v → dk_PJ E pc' ls ((0, v) :: st) n σ) : dk_PJ E pc ls ((4, k) :: st) n σ :=
  dk_getf hE hF hd hk rfl hp (fun t q => K _ rfl ((ty_9_2 hk).mp t) q)
theorem pf_9_2 {E : dkE} {cc : ByteArray} {own : String} {d : Nat} {l0 : Launch} {G0 : dkG} {n00 : Int} {nL0 mc ms : Nat} (hE : dk_Good E cc own d dk_Ty l0 G0 n00 nL0 mc ms) {pc pc' : Nat} {ls st : List dkV} {n : Int} {σ : dkS} {k z : Int} {ix : Nat} (hF : dk_FL own ix 9 2 false 0) (hd : decode cc pc = .ok (.putfield ix, 3)) (hk : dk_is n 9 k) (ht : 0 ≤ z ∧ z ≤ 1400) (hp : pc + 3 = pc') (K : ∀ σ1 : dkS, σ1 = dk_up σ k 2 z → dk_PJ E pc' ls st n σ1) : dk_PJ E pc ls ((0, z) :: (4, k) :: st) n σ :=
  dk_putf hE hF hd hk rfl (fun h => h.1 rfl) ((ty_9_2 hk).mpr ht) hp (K _ rfl)
theorem ty_9_3 {n k v : Int} (hk : dk_is n 9 k) : dk_Ty k 3 v ↔ (0 ≤ v ∧ v ≤ 127) := by
  show dk_tyS (dk_site k) k 3 v ↔ _
  rw [hk.2.2]
  show dk_ty9 k 3 v ↔ _
  simp [dk_ty9]
theorem gf_9_3 {E : dkE} {cc : ByteArray} {own : String} {d : Nat} {l0 : Launch} {G0 : dkG} {n00 : Int} {nL0 mc ms : Nat} (hE : dk_Good E cc own d dk_Ty l0 G0 n00 nL0 mc ms) {pc pc' : Nat} {ls st : List dkV} {n : Int} {σ : dkS} {k : Int} {ix : Nat} {fin : Bool} (hF : dk_FL own ix 9 3 fin 0) (hd : decode cc pc = .ok (.getfield ix, 3)) (hk : dk_is n 9 k) (hp : pc + 3 = pc') (K : ∀ v : Int, v = σ k 3 → (0 ≤ v ∧ v ≤ 127) → dk_i32 v → dk_PJ E pc' ls ((0, v) :: st) n σ) : dk_PJ E pc ls ((4, k) :: st) n σ :=
  dk_getf hE hF hd hk rfl hp (fun t q => K _ rfl ((ty_9_3 hk).mp t) q)
theorem pf_9_3 {E : dkE} {cc : ByteArray} {own : String} {d : Nat} {l0 : Launch} {G0 : dkG} {n00 : Int} {nL0 mc ms : Nat} (hE : dk_Good E cc own d dk_Ty l0 G0 n00 nL0 mc ms) {pc pc' : Nat} {ls st : List dkV} {n : Int} {σ : dkS} {k z : Int} {ix : Nat} (hF : dk_FL own ix 9 3 false 0) (hd : decode cc pc = .ok (.putfield ix, 3)) (hk : dk_is n 9 k) (ht : 0 ≤ z ∧ z ≤ 127) (hp : pc + 3 = pc') (K : ∀ σ1 : dkS, σ1 = dk_up σ k 3 z → dk_PJ E pc' ls st n σ1) : dk_PJ E pc ls ((0, z) :: (4, k) :: st) n σ :=
  dk_putf hE hF hd hk rfl (fun h => h.1 rfl) ((ty_9_3 hk).mpr ht) hp (K _ rfl)
theorem ty_9_4 {n k v : Int} (hk : dk_is n 9 k) : dk_Ty k 4 v ↔ (0 ≤ v ∧ v ≤ 1400) := by
  show dk_tyS (dk_site k) k 4 v ↔ _
  rw [hk.2.2]
  show dk_ty9 k 4 v ↔ _
  simp [dk_ty9]
theorem gf_9_4 {E : dkE} {cc : ByteArray} {own : String} {d : Nat} {l0 : Launch} {G0 : dkG} {n00 : Int} {nL0 mc ms : Nat} (hE : dk_Good E cc own d dk_Ty l0 G0 n00 nL0 mc ms) {pc pc' : Nat} {ls st : List dkV} {n : Int} {σ : dkS} {k : Int} {ix : Nat} {fin : Bool} (hF : dk_FL own ix 9 4 fin 0) (hd : decode cc pc = .ok (.getfield ix, 3)) (hk : dk_is n 9 k) (hp : pc + 3 = pc') (K : ∀ v : Int, v = σ k 4 → (0 ≤ v ∧ v ≤ 1400) → dk_i32 v → dk_PJ E pc' ls ((0, v) :: st) n σ) : dk_PJ E pc ls ((4, k) :: st) n σ :=
  dk_getf hE hF hd hk rfl hp (fun t q => K _ rfl ((ty_9_4 hk).mp t) q)
theorem pf_9_4 {E : dkE} {cc : ByteArray} {own : String} {d : Nat} {l0 : Launch} {G0 : dkG} {n00 : Int} {nL0 mc ms : Nat} (hE : dk_Good E cc own d dk_Ty l0 G0 n00 nL0 mc ms) {pc pc' : Nat} {ls st : List dkV} {n : Int} {σ : dkS} {k z : Int} {ix : Nat} (hF : dk_FL own ix 9 4 false 0) (hd : decode cc pc = .ok (.putfield ix, 3)) (hk : dk_is n 9 k) (ht : 0 ≤ z ∧ z ≤ 1400) (hp : pc + 3 = pc') (K : ∀ σ1 : dkS, σ1 = dk_up σ k 4 z → dk_PJ E pc' ls st n σ1) : dk_PJ E pc ls ((0, z) :: (4, k) :: st) n σ :=
  dk_putf hE hF hd hk rfl (fun h => h.1 rfl) ((ty_9_4 hk).mpr ht) hp (K _ rfl)
theorem ty_9_5 {n k v : Int} (hk : dk_is n 9 k) : dk_Ty k 5 v ↔ (0 ≤ v ∧ v ≤ 8) := by
  show dk_tyS (dk_site k) k 5 v ↔ _
  rw [hk.2.2]
  show dk_ty9 k 5 v ↔ _
  simp [dk_ty9]
theorem gf_9_5 {E : dkE} {cc : ByteArray} {own : String} {d : Nat} {l0 : Launch} {G0 : dkG} {n00 : Int} {nL0 mc ms : Nat} (hE : dk_Good E cc own d dk_Ty l0 G0 n00 nL0 mc ms) {pc pc' : Nat} {ls st : List dkV} {n : Int} {σ : dkS} {k : Int} {ix : Nat} {fin : Bool} (hF : dk_FL own ix 9 5 fin 0) (hd : decode cc pc = .ok (.getfield ix, 3)) (hk : dk_is n 9 k) (hp : pc + 3 = pc') (K : ∀ v : Int, v = σ k 5 → (0 ≤ v ∧ v ≤ 8) → dk_i32 v → dk_PJ E pc' ls ((0, v) :: st) n σ) : dk_PJ E pc ls ((4, k) :: st) n σ :=
  dk_getf hE hF hd hk rfl hp (fun t q => K _ rfl ((ty_9_5 hk).mp t) q)
theorem pf_9_5 {E : dkE} {cc : ByteArray} {own : String} {d : Nat} {l0 : Launch} {G0 : dkG} {n00 : Int} {nL0 mc ms : Nat} (hE : dk_Good E cc own d dk_Ty l0 G0 n00 nL0 mc ms) {pc pc' : Nat} {ls st : List dkV} {n : Int} {σ : dkS} {k z : Int} {ix : Nat} (hF : dk_FL own ix 9 5 false 0) (hd : decode cc pc = .ok (.putfield ix, 3)) (hk : dk_is n 9 k) (ht : 0 ≤ z ∧ z ≤ 8) (hp : pc + 3 = pc') (K : ∀ σ1 : dkS, σ1 = dk_up σ k 5 z → dk_PJ E pc' ls st n σ1) : dk_PJ E pc ls ((0, z) :: (4, k) :: st) n σ :=
  dk_putf hE hF hd hk rfl (fun h => h.1 rfl) ((ty_9_5 hk).mpr ht) hp (K _ rfl)
theorem ty_9_6 {n k v : Int} (hk : dk_is n 9 k) : dk_Ty k 6 v ↔ (0 ≤ v ∧ v ≤ 9999) := by
  show dk_tyS (dk_site k) k 6 v ↔ _
  rw [hk.2.2]
  show dk_ty9 k 6 v ↔ _
  simp [dk_ty9]
theorem gf_9_6 {E : dkE} {cc : ByteArray} {own : String} {d : Nat} {l0 : Launch} {G0 : dkG} {n00 : Int} {nL0 mc ms : Nat} (hE : dk_Good E cc own d dk_Ty l0 G0 n00 nL0 mc ms) {pc pc' : Nat} {ls st : List dkV} {n : Int} {σ : dkS} {k : Int} {ix : Nat} {fin : Bool} (hF : dk_FL own ix 9 6 fin 0) (hd : decode cc pc = .ok (.getfield ix, 3)) (hk : dk_is n 9 k) (hp : pc + 3 = pc') (K : ∀ v : Int, v = σ k 6 → (0 ≤ v ∧ v ≤ 9999) → dk_i32 v → dk_PJ E pc' ls ((0, v) :: st) n σ) : dk_PJ E pc ls ((4, k) :: st) n σ :=
  dk_getf hE hF hd hk rfl hp (fun t q => K _ rfl ((ty_9_6 hk).mp t) q)
theorem pf_9_6 {E : dkE} {cc : ByteArray} {own : String} {d : Nat} {l0 : Launch} {G0 : dkG} {n00 : Int} {nL0 mc ms : Nat} (hE : dk_Good E cc own d dk_Ty l0 G0 n00 nL0 mc ms) {pc pc' : Nat} {ls st : List dkV} {n : Int} {σ : dkS} {k z : Int} {ix : Nat} (hF : dk_FL own ix 9 6 false 0) (hd : decode cc pc = .ok (.putfield ix, 3)) (hk : dk_is n 9 k) (ht : 0 ≤ z ∧ z ≤ 9999) (hp : pc + 3 = pc') (K : ∀ σ1 : dkS, σ1 = dk_up σ k 6 z → dk_PJ E pc' ls st n σ1) : dk_PJ E pc ls ((0, z) :: (4, k) :: st) n σ :=
  dk_putf hE hF hd hk rfl (fun h => h.1 rfl) ((ty_9_6 hk).mpr ht) hp (K _ rfl)
theorem ty_9_7 {n k v : Int} (hk : dk_is n 9 k) : dk_Ty k 7 v ↔ (True) := by
  show dk_tyS (dk_site k) k 7 v ↔ _
  rw [hk.2.2]
  show dk_ty9 k 7 v ↔ _
  simp [dk_ty9]
theorem gf_9_7 {E : dkE} {cc : ByteArray} {own : String} {d : Nat} {l0 : Launch} {G0 : dkG} {n00 : Int} {nL0 mc ms : Nat} (hE : dk_Good E cc own d dk_Ty l0 G0 n00 nL0 mc ms) {pc pc' : Nat} {ls st : List dkV} {n : Int} {σ : dkS} {k : Int} {ix : Nat} {fin : Bool} (hF : dk_FL own ix 9 7 fin 3) (hd : decode cc pc = .ok (.getfield ix, 3)) (hk : dk_is n 9 k) (hp : pc + 3 = pc') (K : ∀ v : Int, v = σ k 7 → (True) → dk_i64 v → dk_PJ E pc' ls ((3, v) :: st) n σ) : dk_PJ E pc ls ((4, k) :: st) n σ :=
  dk_getf hE hF hd hk rfl hp (fun t q => K _ rfl ((ty_9_7 hk).mp t) q)
theorem pf_9_7 {E : dkE} {cc : ByteArray} {own : String} {d : Nat} {l0 : Launch} {G0 : dkG} {n00 : Int} {nL0 mc ms : Nat} (hE : dk_Good E cc own d dk_Ty l0 G0 n00 nL0 mc ms) {pc pc' : Nat} {ls st : List dkV} {n : Int} {σ : dkS} {k z : Int} {ix : Nat} (hF : dk_FL own ix 9 7 false 3) (hd : decode cc pc = .ok (.putfield ix, 3)) (hk : dk_is n 9 k) (ht : True) (hp : pc + 3 = pc') (K : ∀ σ1 : dkS, σ1 = dk_up σ k 7 z → dk_PJ E pc' ls st n σ1) : dk_PJ E pc ls ((3, z) :: (4, k) :: st) n σ :=
  dk_putf hE hF hd hk rfl (fun h => h.2 rfl) ((ty_9_7 hk).mpr ht) hp (K _ rfl)
theorem ty_10_0 {n k v : Int} (hk : dk_is n 10 k) : dk_Ty k 0 v ↔ (v = 1) := by
  show dk_tyS (dk_site k) k 0 v ↔ _
  rw [hk.2.2]
  show dk_ty10 k 0 v ↔ _
  simp [dk_ty10]
theorem gf_10_0 {E : dkE} {cc : ByteArray} {own : String} {d : Nat} {l0 : Launch} {G0 : dkG} {n00 : Int} {nL0 mc ms : Nat} (hE : dk_Good E cc own d dk_Ty l0 G0 n00 nL0 mc ms) {pc pc' : Nat} {ls st : List dkV} {n : Int} {σ : dkS} {k w : Int} {ix : Nat} {fin : Bool} (hF : dk_FL own ix 10 0 fin 4) (hd : decode cc pc = .ok (.getfield ix, 3)) (hk : dk_is n 10 k) (hw : 1 = w) (hp : pc + 3 = pc') (K : dk_PJ E pc' ls ((4, w) :: st) n σ) : dk_PJ E pc ls ((4, k) :: st) n σ :=
  dk_getf hE hF hd hk rfl hp (fun t _ => by have t := (ty_10_0 hk).mp t; rw [show σ k ((0 : Nat) : Int) = w from t.trans hw]; exact K)
theorem ty_10_1 {n k v : Int} (hk : dk_is n 10 k) : dk_Ty k 1 v ↔ (v = 3) := by
  show dk_tyS (dk_site k) k 1 v ↔ _
  rw [hk.2.2]
  show dk_ty10 k 1 v ↔ _
  simp [dk_ty10]
theorem gf_10_1 {E : dkE} {cc : ByteArray} {own : String} {d : Nat} {l0 : Launch} {G0 : dkG} {n00 : Int} {nL0 mc ms : Nat} (hE : dk_Good E cc own d dk_Ty l0 G0 n00 nL0 mc ms) {pc pc' : Nat} {ls st : List dkV} {n : Int} {σ : dkS} {k w : Int} {ix : Nat} {fin : Bool} (hF : dk_FL own ix 10 1 fin 4) (hd : decode cc pc = .ok (.getfield ix, 3)) (hk : dk_is n 10 k) (hw : 3 = w) (hp : pc + 3 = pc') (K : dk_PJ E pc' ls ((4, w) :: st) n σ) : dk_PJ E pc ls ((4, k) :: st) n σ :=
  dk_getf hE hF hd hk rfl hp (fun t _ => by have t := (ty_10_1 hk).mp t; rw [show σ k ((1 : Nat) : Int) = w from t.trans hw]; exact K)
theorem ty_10_2 {n k v : Int} (hk : dk_is n 10 k) : dk_Ty k 2 v ↔ (v = 8) := by
  show dk_tyS (dk_site k) k 2 v ↔ _
  rw [hk.2.2]
  show dk_ty10 k 2 v ↔ _
  simp [dk_ty10]
theorem gf_10_2 {E : dkE} {cc : ByteArray} {own : String} {d : Nat} {l0 : Launch} {G0 : dkG} {n00 : Int} {nL0 mc ms : Nat} (hE : dk_Good E cc own d dk_Ty l0 G0 n00 nL0 mc ms) {pc pc' : Nat} {ls st : List dkV} {n : Int} {σ : dkS} {k w : Int} {ix : Nat} {fin : Bool} (hF : dk_FL own ix 10 2 fin 4) (hd : decode cc pc = .ok (.getfield ix, 3)) (hk : dk_is n 10 k) (hw : 8 = w) (hp : pc + 3 = pc') (K : dk_PJ E pc' ls ((4, w) :: st) n σ) : dk_PJ E pc ls ((4, k) :: st) n σ :=
  dk_getf hE hF hd hk rfl hp (fun t _ => by have t := (ty_10_2 hk).mp t; rw [show σ k ((2 : Nat) : Int) = w from t.trans hw]; exact K)
theorem ty_10_3 {n k v : Int} (hk : dk_is n 10 k) : dk_Ty k 3 v ↔ (v = 10) := by
  show dk_tyS (dk_site k) k 3 v ↔ _
  rw [hk.2.2]
  show dk_ty10 k 3 v ↔ _
  simp [dk_ty10]
theorem gf_10_3 {E : dkE} {cc : ByteArray} {own : String} {d : Nat} {l0 : Launch} {G0 : dkG} {n00 : Int} {nL0 mc ms : Nat} (hE : dk_Good E cc own d dk_Ty l0 G0 n00 nL0 mc ms) {pc pc' : Nat} {ls st : List dkV} {n : Int} {σ : dkS} {k w : Int} {ix : Nat} {fin : Bool} (hF : dk_FL own ix 10 3 fin 4) (hd : decode cc pc = .ok (.getfield ix, 3)) (hk : dk_is n 10 k) (hw : 10 = w) (hp : pc + 3 = pc') (K : dk_PJ E pc' ls ((4, w) :: st) n σ) : dk_PJ E pc ls ((4, k) :: st) n σ :=
  dk_getf hE hF hd hk rfl hp (fun t _ => by have t := (ty_10_3 hk).mp t; rw [show σ k ((3 : Nat) : Int) = w from t.trans hw]; exact K)
theorem ty_10_4 {n k v : Int} (hk : dk_is n 10 k) : dk_Ty k 4 v ↔ (v = 12) := by
  show dk_tyS (dk_site k) k 4 v ↔ _
  rw [hk.2.2]
  show dk_ty10 k 4 v ↔ _
  simp [dk_ty10]
theorem gf_10_4 {E : dkE} {cc : ByteArray} {own : String} {d : Nat} {l0 : Launch} {G0 : dkG} {n00 : Int} {nL0 mc ms : Nat} (hE : dk_Good E cc own d dk_Ty l0 G0 n00 nL0 mc ms) {pc pc' : Nat} {ls st : List dkV} {n : Int} {σ : dkS} {k w : Int} {ix : Nat} {fin : Bool} (hF : dk_FL own ix 10 4 fin 4) (hd : decode cc pc = .ok (.getfield ix, 3)) (hk : dk_is n 10 k) (hw : 12 = w) (hp : pc + 3 = pc') (K : dk_PJ E pc' ls ((4, w) :: st) n σ) : dk_PJ E pc ls ((4, k) :: st) n σ :=
  dk_getf hE hF hd hk rfl hp (fun t _ => by have t := (ty_10_4 hk).mp t; rw [show σ k ((4 : Nat) : Int) = w from t.trans hw]; exact K)
theorem ty_10_5 {n k v : Int} (hk : dk_is n 10 k) : dk_Ty k 5 v ↔ (v = 37) := by
  show dk_tyS (dk_site k) k 5 v ↔ _
  rw [hk.2.2]
  show dk_ty10 k 5 v ↔ _
  simp [dk_ty10]
theorem gf_10_5 {E : dkE} {cc : ByteArray} {own : String} {d : Nat} {l0 : Launch} {G0 : dkG} {n00 : Int} {nL0 mc ms : Nat} (hE : dk_Good E cc own d dk_Ty l0 G0 n00 nL0 mc ms) {pc pc' : Nat} {ls st : List dkV} {n : Int} {σ : dkS} {k w : Int} {ix : Nat} {fin : Bool} (hF : dk_FL own ix 10 5 fin 4) (hd : decode cc pc = .ok (.getfield ix, 3)) (hk : dk_is n 10 k) (hw : 37 = w) (hp : pc + 3 = pc') (K : dk_PJ E pc' ls ((4, w) :: st) n σ) : dk_PJ E pc ls ((4, k) :: st) n σ :=
  dk_getf hE hF hd hk rfl hp (fun t _ => by have t := (ty_10_5 hk).mp t; rw [show σ k ((5 : Nat) : Int) = w from t.trans hw]; exact K)
theorem ty_10_6 {n k v : Int} (hk : dk_is n 10 k) : dk_Ty k 6 v ↔ (v = 45) := by
  show dk_tyS (dk_site k) k 6 v ↔ _
  rw [hk.2.2]
  show dk_ty10 k 6 v ↔ _
  simp [dk_ty10]
theorem gf_10_6 {E : dkE} {cc : ByteArray} {own : String} {d : Nat} {l0 : Launch} {G0 : dkG} {n00 : Int} {nL0 mc ms : Nat} (hE : dk_Good E cc own d dk_Ty l0 G0 n00 nL0 mc ms) {pc pc' : Nat} {ls st : List dkV} {n : Int} {σ : dkS} {k w : Int} {ix : Nat} {fin : Bool} (hF : dk_FL own ix 10 6 fin 4) (hd : decode cc pc = .ok (.getfield ix, 3)) (hk : dk_is n 10 k) (hw : 45 = w) (hp : pc + 3 = pc') (K : dk_PJ E pc' ls ((4, w) :: st) n σ) : dk_PJ E pc ls ((4, k) :: st) n σ :=
  dk_getf hE hF hd hk rfl hp (fun t _ => by have t := (ty_10_6 hk).mp t; rw [show σ k ((6 : Nat) : Int) = w from t.trans hw]; exact K)
theorem ty_10_7 {n k v : Int} (hk : dk_is n 10 k) : dk_Ty k 7 v ↔ (v = 75) := by
  show dk_tyS (dk_site k) k 7 v ↔ _
  rw [hk.2.2]
  show dk_ty10 k 7 v ↔ _
  simp [dk_ty10]
theorem gf_10_7 {E : dkE} {cc : ByteArray} {own : String} {d : Nat} {l0 : Launch} {G0 : dkG} {n00 : Int} {nL0 mc ms : Nat} (hE : dk_Good E cc own d dk_Ty l0 G0 n00 nL0 mc ms) {pc pc' : Nat} {ls st : List dkV} {n : Int} {σ : dkS} {k w : Int} {ix : Nat} {fin : Bool} (hF : dk_FL own ix 10 7 fin 4) (hd : decode cc pc = .ok (.getfield ix, 3)) (hk : dk_is n 10 k) (hw : 75 = w) (hp : pc + 3 = pc') (K : dk_PJ E pc' ls ((4, w) :: st) n σ) : dk_PJ E pc ls ((4, k) :: st) n σ :=
  dk_getf hE hF hd hk rfl hp (fun t _ => by have t := (ty_10_7 hk).mp t; rw [show σ k ((7 : Nat) : Int) = w from t.trans hw]; exact K)
theorem ty_10_8 {n k v : Int} (hk : dk_is n 10 k) : dk_Ty k 8 v ↔ (v = 88) := by
  show dk_tyS (dk_site k) k 8 v ↔ _
  rw [hk.2.2]
  show dk_ty10 k 8 v ↔ _
  simp [dk_ty10]
theorem gf_10_8 {E : dkE} {cc : ByteArray} {own : String} {d : Nat} {l0 : Launch} {G0 : dkG} {n00 : Int} {nL0 mc ms : Nat} (hE : dk_Good E cc own d dk_Ty l0 G0 n00 nL0 mc ms) {pc pc' : Nat} {ls st : List dkV} {n : Int} {σ : dkS} {k w : Int} {ix : Nat} {fin : Bool} (hF : dk_FL own ix 10 8 fin 4) (hd : decode cc pc = .ok (.getfield ix, 3)) (hk : dk_is n 10 k) (hw : 88 = w) (hp : pc + 3 = pc') (K : dk_PJ E pc' ls ((4, w) :: st) n σ) : dk_PJ E pc ls ((4, k) :: st) n σ :=
  dk_getf hE hF hd hk rfl hp (fun t _ => by have t := (ty_10_8 hk).mp t; rw [show σ k ((8 : Nat) : Int) = w from t.trans hw]; exact K)
theorem ty_10_9 {n k v : Int} (hk : dk_is n 10 k) : dk_Ty k 9 v ↔ (v = 95 ∨ v = 118) := by
  show dk_tyS (dk_site k) k 9 v ↔ _
  rw [hk.2.2]
  show dk_ty10 k 9 v ↔ _
  simp [dk_ty10]
theorem gf_10_9 {E : dkE} {cc : ByteArray} {own : String} {d : Nat} {l0 : Launch} {G0 : dkG} {n00 : Int} {nL0 mc ms : Nat} (hE : dk_Good E cc own d dk_Ty l0 G0 n00 nL0 mc ms) {pc pc' : Nat} {ls st : List dkV} {n : Int} {σ : dkS} {k : Int} {ix : Nat} {fin : Bool} (hF : dk_FL own ix 10 9 fin 4) (hd : decode cc pc = .ok (.getfield ix, 3)) (hk : dk_is n 10 k) (hp : pc + 3 = pc') (K : ∀ v : Int, v = σ k 9 → (v = 95 ∨ v = 118) → True → dk_PJ E pc' ls ((4, v) :: st) n σ) : dk_PJ E pc ls ((4, k) :: st) n σ :=
  dk_getf hE hF hd hk rfl hp (fun t q => K _ rfl ((ty_10_9 hk).mp t) q)
theorem pf_10_9 {E : dkE} {cc : ByteArray} {own : String} {d : Nat} {l0 : Launch} {G0 : dkG} {n00 : Int} {nL0 mc ms : Nat} (hE : dk_Good E cc own d dk_Ty l0 G0 n00 nL0 mc ms) {pc pc' : Nat} {ls st : List dkV} {n : Int} {σ : dkS} {k z : Int} {ix : Nat} (hF : dk_FL own ix 10 9 false 4) (hd : decode cc pc = .ok (.putfield ix, 3)) (hk : dk_is n 10 k) (ht : z = 95 ∨ z = 118) (hp : pc + 3 = pc') (K : ∀ σ1 : dkS, σ1 = dk_up σ k 9 z → dk_PJ E pc' ls st n σ1) : dk_PJ E pc ls ((4, z) :: (4, k) :: st) n σ :=
  dk_putf hE hF hd hk rfl (fun _ => trivial) ((ty_10_9 hk).mpr ht) hp (K _ rfl)
theorem ty_10_10 {n k v : Int} (hk : dk_is n 10 k) : dk_Ty k 10 v ↔ (v = 95 ∨ v = 118) := by
  show dk_tyS (dk_site k) k 10 v ↔ _
  rw [hk.2.2]
  show dk_ty10 k 10 v ↔ _
  simp [dk_ty10]
theorem gf_10_10 {E : dkE} {cc : ByteArray} {own : String} {d : Nat} {l0 : Launch} {G0 : dkG} {n00 : Int} {nL0 mc ms : Nat} (hE : dk_Good E cc own d dk_Ty l0 G0 n00 nL0 mc ms) {pc pc' : Nat} {ls st : List dkV} {n : Int} {σ : dkS} {k : Int} {ix : Nat} {fin : Bool} (hF : dk_FL own ix 10 10 fin 4) (hd : decode cc pc = .ok (.getfield ix, 3)) (hk : dk_is n 10 k) (hp : pc + 3 = pc') (K : ∀ v : Int, v = σ k 10 → (v = 95 ∨ v = 118) → True → dk_PJ E pc' ls ((4, v) :: st) n σ) : dk_PJ E pc ls ((4, k) :: st) n σ :=
  dk_getf hE hF hd hk rfl hp (fun t q => K _ rfl ((ty_10_10 hk).mp t) q)
theorem pf_10_10 {E : dkE} {cc : ByteArray} {own : String} {d : Nat} {l0 : Launch} {G0 : dkG} {n00 : Int} {nL0 mc ms : Nat} (hE : dk_Good E cc own d dk_Ty l0 G0 n00 nL0 mc ms) {pc pc' : Nat} {ls st : List dkV} {n : Int} {σ : dkS} {k z : Int} {ix : Nat} (hF : dk_FL own ix 10 10 false 4) (hd : decode cc pc = .ok (.putfield ix, 3)) (hk : dk_is n 10 k) (ht : z = 95 ∨ z = 118) (hp : pc + 3 = pc') (K : ∀ σ1 : dkS, σ1 = dk_up σ k 10 z → dk_PJ E pc' ls st n σ1) : dk_PJ E pc ls ((4, z) :: (4, k) :: st) n σ :=
  dk_putf hE hF hd hk rfl (fun _ => trivial) ((ty_10_10 hk).mpr ht) hp (K _ rfl)
theorem ty_10_11 {n k v : Int} (hk : dk_is n 10 k) : dk_Ty k 11 v ↔ (0 ≤ v ∧ v ≤ 6) := by
  show dk_tyS (dk_site k) k 11 v ↔ _
  rw [hk.2.2]
  show dk_ty10 k 11 v ↔ _
  simp [dk_ty10]
theorem gf_10_11 {E : dkE} {cc : ByteArray} {own : String} {d : Nat} {l0 : Launch} {G0 : dkG} {n00 : Int} {nL0 mc ms : Nat} (hE : dk_Good E cc own d dk_Ty l0 G0 n00 nL0 mc ms) {pc pc' : Nat} {ls st : List dkV} {n : Int} {σ : dkS} {k : Int} {ix : Nat} {fin : Bool} (hF : dk_FL own ix 10 11 fin 0) (hd : decode cc pc = .ok (.getfield ix, 3)) (hk : dk_is n 10 k) (hp : pc + 3 = pc') (K : ∀ v : Int, v = σ k 11 → (0 ≤ v ∧ v ≤ 6) → dk_i32 v → dk_PJ E pc' ls ((0, v) :: st) n σ) : dk_PJ E pc ls ((4, k) :: st) n σ :=
  dk_getf hE hF hd hk rfl hp (fun t q => K _ rfl ((ty_10_11 hk).mp t) q)
theorem pf_10_11 {E : dkE} {cc : ByteArray} {own : String} {d : Nat} {l0 : Launch} {G0 : dkG} {n00 : Int} {nL0 mc ms : Nat} (hE : dk_Good E cc own d dk_Ty l0 G0 n00 nL0 mc ms) {pc pc' : Nat} {ls st : List dkV} {n : Int} {σ : dkS} {k z : Int} {ix : Nat} (hF : dk_FL own ix 10 11 false 0) (hd : decode cc pc = .ok (.putfield ix, 3)) (hk : dk_is n 10 k) (ht : 0 ≤ z ∧ z ≤ 6) (hp : pc + 3 = pc') (K : ∀ σ1 : dkS, σ1 = dk_up σ k 11 z → dk_PJ E pc' ls st n σ1) : dk_PJ E pc ls ((0, z) :: (4, k) :: st) n σ :=
  dk_putf hE hF hd hk rfl (fun h => h.1 rfl) ((ty_10_11 hk).mpr ht) hp (K _ rfl)
theorem ty_10_12 {n k v : Int} (hk : dk_is n 10 k) : dk_Ty k 12 v ↔ (0 ≤ v ∧ v ≤ 10) := by
  show dk_tyS (dk_site k) k 12 v ↔ _
  rw [hk.2.2]
  show dk_ty10 k 12 v ↔ _
  simp [dk_ty10]
theorem gf_10_12 {E : dkE} {cc : ByteArray} {own : String} {d : Nat} {l0 : Launch} {G0 : dkG} {n00 : Int} {nL0 mc ms : Nat} (hE : dk_Good E cc own d dk_Ty l0 G0 n00 nL0 mc ms) {pc pc' : Nat} {ls st : List dkV} {n : Int} {σ : dkS} {k : Int} {ix : Nat} {fin : Bool} (hF : dk_FL own ix 10 12 fin 0) (hd : decode cc pc = .ok (.getfield ix, 3)) (hk : dk_is n 10 k) (hp : pc + 3 = pc') (K : ∀ v : Int, v = σ k 12 → (0 ≤ v ∧ v ≤ 10) → dk_i32 v → dk_PJ E pc' ls ((0, v) :: st) n σ) : dk_PJ E pc ls ((4, k) :: st) n σ :=
  dk_getf hE hF hd hk rfl hp (fun t q => K _ rfl ((ty_10_12 hk).mp t) q)
theorem pf_10_12 {E : dkE} {cc : ByteArray} {own : String} {d : Nat} {l0 : Launch} {G0 : dkG} {n00 : Int} {nL0 mc ms : Nat} (hE : dk_Good E cc own d dk_Ty l0 G0 n00 nL0 mc ms) {pc pc' : Nat} {ls st : List dkV} {n : Int} {σ : dkS} {k z : Int} {ix : Nat} (hF : dk_FL own ix 10 12 false 0) (hd : decode cc pc = .ok (.putfield ix, 3)) (hk : dk_is n 10 k) (ht : 0 ≤ z ∧ z ≤ 10) (hp : pc + 3 = pc') (K : ∀ σ1 : dkS, σ1 = dk_up σ k 12 z → dk_PJ E pc' ls st n σ1) : dk_PJ E pc ls ((0, z) :: (4, k) :: st) n σ :=
  dk_putf hE hF hd hk rfl (fun h => h.1 rfl) ((ty_10_12 hk).mpr ht) hp (K _ rfl)
theorem ty_10_13 {n k v : Int} (hk : dk_is n 10 k) : dk_Ty k 13 v ↔ (True) := by
  show dk_tyS (dk_site k) k 13 v ↔ _
  rw [hk.2.2]
  show dk_ty10 k 13 v ↔ _
  simp [dk_ty10]
theorem gf_10_13 {E : dkE} {cc : ByteArray} {own : String} {d : Nat} {l0 : Launch} {G0 : dkG} {n00 : Int} {nL0 mc ms : Nat} (hE : dk_Good E cc own d dk_Ty l0 G0 n00 nL0 mc ms) {pc pc' : Nat} {ls st : List dkV} {n : Int} {σ : dkS} {k : Int} {ix : Nat} {fin : Bool} (hF : dk_FL own ix 10 13 fin 0) (hd : decode cc pc = .ok (.getfield ix, 3)) (hk : dk_is n 10 k) (hp : pc + 3 = pc') (K : ∀ v : Int, v = σ k 13 → (True) → dk_i32 v → dk_PJ E pc' ls ((0, v) :: st) n σ) : dk_PJ E pc ls ((4, k) :: st) n σ :=
  dk_getf hE hF hd hk rfl hp (fun t q => K _ rfl ((ty_10_13 hk).mp t) q)
theorem pf_10_13 {E : dkE} {cc : ByteArray} {own : String} {d : Nat} {l0 : Launch} {G0 : dkG} {n00 : Int} {nL0 mc ms : Nat} (hE : dk_Good E cc own d dk_Ty l0 G0 n00 nL0 mc ms) {pc pc' : Nat} {ls st : List dkV} {n : Int} {σ : dkS} {k z : Int} {ix : Nat} (hF : dk_FL own ix 10 13 false 0) (hd : decode cc pc = .ok (.putfield ix, 3)) (hk : dk_is n 10 k) (ht : True) (hp : pc + 3 = pc') (K : ∀ σ1 : dkS, σ1 = dk_up σ k 13 z → dk_PJ E pc' ls st n σ1) : dk_PJ E pc ls ((0, z) :: (4, k) :: st) n σ :=
  dk_putf hE hF hd hk rfl (fun h => h.1 rfl) ((ty_10_13 hk).mpr ht) hp (K _ rfl)
theorem ty_10_14 {n k v : Int} (hk : dk_is n 10 k) : dk_Ty k 14 v ↔ (True) := by
  show dk_tyS (dk_site k) k 14 v ↔ _
  rw [hk.2.2]
  show dk_ty10 k 14 v ↔ _
  simp [dk_ty10]
theorem gf_10_14 {E : dkE} {cc : ByteArray} {own : String} {d : Nat} {l0 : Launch} {G0 : dkG} {n00 : Int} {nL0 mc ms : Nat} (hE : dk_Good E cc own d dk_Ty l0 G0 n00 nL0 mc ms) {pc pc' : Nat} {ls st : List dkV} {n : Int} {σ : dkS} {k : Int} {ix : Nat} {fin : Bool} (hF : dk_FL own ix 10 14 fin 0) (hd : decode cc pc = .ok (.getfield ix, 3)) (hk : dk_is n 10 k) (hp : pc + 3 = pc') (K : ∀ v : Int, v = σ k 14 → (True) → dk_i32 v → dk_PJ E pc' ls ((0, v) :: st) n σ) : dk_PJ E pc ls ((4, k) :: st) n σ :=
  dk_getf hE hF hd hk rfl hp (fun t q => K _ rfl ((ty_10_14 hk).mp t) q)
theorem pf_10_14 {E : dkE} {cc : ByteArray} {own : String} {d : Nat} {l0 : Launch} {G0 : dkG} {n00 : Int} {nL0 mc ms : Nat} (hE : dk_Good E cc own d dk_Ty l0 G0 n00 nL0 mc ms) {pc pc' : Nat} {ls st : List dkV} {n : Int} {σ : dkS} {k z : Int} {ix : Nat} (hF : dk_FL own ix 10 14 false 0) (hd : decode cc pc = .ok (.putfield ix, 3)) (hk : dk_is n 10 k) (ht : True) (hp : pc + 3 = pc') (K : ∀ σ1 : dkS, σ1 = dk_up σ k 14 z → dk_PJ E pc' ls st n σ1) : dk_PJ E pc ls ((0, z) :: (4, k) :: st) n σ :=
  dk_putf hE hF hd hk rfl (fun h => h.1 rfl) ((ty_10_14 hk).mpr ht) hp (K _ rfl)
theorem ty_11_0 {n k v : Int} (hk : dk_is n 11 k) : dk_Ty k 0 v ↔ (v = k + 1) := by
  show dk_tyS (dk_site k) k 0 v ↔ _
  rw [hk.2.2]
  show dk_ty11 k 0 v ↔ _
  simp [dk_ty11]
theorem gf_11_0 {E : dkE} {cc : ByteArray} {own : String} {d : Nat} {l0 : Launch} {G0 : dkG} {n00 : Int} {nL0 mc ms : Nat} (hE : dk_Good E cc own d dk_Ty l0 G0 n00 nL0 mc ms) {pc pc' : Nat} {ls st : List dkV} {n : Int} {σ : dkS} {k w : Int} {ix : Nat} {fin : Bool} (hF : dk_FL own ix 11 0 fin 4) (hd : decode cc pc = .ok (.getfield ix, 3)) (hk : dk_is n 11 k) (hw : k + 1 = w) (hp : pc + 3 = pc') (K : dk_PJ E pc' ls ((4, w) :: st) n σ) : dk_PJ E pc ls ((4, k) :: st) n σ :=
  dk_getf hE hF hd hk rfl hp (fun t _ => by have t := (ty_11_0 hk).mp t; rw [show σ k ((0 : Nat) : Int) = w from t.trans hw]; exact K)
theorem ty_11_1 {n k v : Int} (hk : dk_is n 11 k) : dk_Ty k 1 v ↔ (v = k + 2) := by
  show dk_tyS (dk_site k) k 1 v ↔ _
  rw [hk.2.2]
  show dk_ty11 k 1 v ↔ _
  simp [dk_ty11]
theorem gf_11_1 {E : dkE} {cc : ByteArray} {own : String} {d : Nat} {l0 : Launch} {G0 : dkG} {n00 : Int} {nL0 mc ms : Nat} (hE : dk_Good E cc own d dk_Ty l0 G0 n00 nL0 mc ms) {pc pc' : Nat} {ls st : List dkV} {n : Int} {σ : dkS} {k w : Int} {ix : Nat} {fin : Bool} (hF : dk_FL own ix 11 1 fin 4) (hd : decode cc pc = .ok (.getfield ix, 3)) (hk : dk_is n 11 k) (hw : k + 2 = w) (hp : pc + 3 = pc') (K : dk_PJ E pc' ls ((4, w) :: st) n σ) : dk_PJ E pc ls ((4, k) :: st) n σ :=
  dk_getf hE hF hd hk rfl hp (fun t _ => by have t := (ty_11_1 hk).mp t; rw [show σ k ((1 : Nat) : Int) = w from t.trans hw]; exact K)
theorem ty_11_2 {n k v : Int} (hk : dk_is n 11 k) : dk_Ty k 2 v ↔ (0 ≤ v ∧ v ≤ 1400) := by
  show dk_tyS (dk_site k) k 2 v ↔ _
  rw [hk.2.2]
  show dk_ty11 k 2 v ↔ _
  simp [dk_ty11]
theorem gf_11_2 {E : dkE} {cc : ByteArray} {own : String} {d : Nat} {l0 : Launch} {G0 : dkG} {n00 : Int} {nL0 mc ms : Nat} (hE : dk_Good E cc own d dk_Ty l0 G0 n00 nL0 mc ms) {pc pc' : Nat} {ls st : List dkV} {n : Int} {σ : dkS} {k : Int} {ix : Nat} {fin : Bool} (hF : dk_FL own ix 11 2 fin 0) (hd : decode cc pc = .ok (.getfield ix, 3)) (hk : dk_is n 11 k) (hp : pc + 3 = pc') (K : ∀ v : Int, v = σ k 2 → (0 ≤ v ∧ v ≤ 1400) → dk_i32 v → dk_PJ E pc' ls ((0, v) :: st) n σ) : dk_PJ E pc ls ((4, k) :: st) n σ :=
  dk_getf hE hF hd hk rfl hp (fun t q => K _ rfl ((ty_11_2 hk).mp t) q)
theorem pf_11_2 {E : dkE} {cc : ByteArray} {own : String} {d : Nat} {l0 : Launch} {G0 : dkG} {n00 : Int} {nL0 mc ms : Nat} (hE : dk_Good E cc own d dk_Ty l0 G0 n00 nL0 mc ms) {pc pc' : Nat} {ls st : List dkV} {n : Int} {σ : dkS} {k z : Int} {ix : Nat} (hF : dk_FL own ix 11 2 false 0) (hd : decode cc pc = .ok (.putfield ix, 3)) (hk : dk_is n 11 k) (ht : 0 ≤ z ∧ z ≤ 1400) (hp : pc + 3 = pc') (K : ∀ σ1 : dkS, σ1 = dk_up σ k 2 z → dk_PJ E pc' ls st n σ1) : dk_PJ E pc ls ((0, z) :: (4, k) :: st) n σ :=
  dk_putf hE hF hd hk rfl (fun h => h.1 rfl) ((ty_11_2 hk).mpr ht) hp (K _ rfl)
theorem ty_11_3 {n k v : Int} (hk : dk_is n 11 k) : dk_Ty k 3 v ↔ (0 ≤ v ∧ v ≤ 1400) := by
  show dk_tyS (dk_site k) k 3 v ↔ _
  rw [hk.2.2]
  show dk_ty11 k 3 v ↔ _
  simp [dk_ty11]
theorem gf_11_3 {E : dkE} {cc : ByteArray} {own : String} {d : Nat} {l0 : Launch} {G0 : dkG} {n00 : Int} {nL0 mc ms : Nat} (hE : dk_Good E cc own d dk_Ty l0 G0 n00 nL0 mc ms) {pc pc' : Nat} {ls st : List dkV} {n : Int} {σ : dkS} {k : Int} {ix : Nat} {fin : Bool} (hF : dk_FL own ix 11 3 fin 0) (hd : decode cc pc = .ok (.getfield ix, 3)) (hk : dk_is n 11 k) (hp : pc + 3 = pc') (K : ∀ v : Int, v = σ k 3 → (0 ≤ v ∧ v ≤ 1400) → dk_i32 v → dk_PJ E pc' ls ((0, v) :: st) n σ) : dk_PJ E pc ls ((4, k) :: st) n σ :=
  dk_getf hE hF hd hk rfl hp (fun t q => K _ rfl ((ty_11_3 hk).mp t) q)
theorem pf_11_3 {E : dkE} {cc : ByteArray} {own : String} {d : Nat} {l0 : Launch} {G0 : dkG} {n00 : Int} {nL0 mc ms : Nat} (hE : dk_Good E cc own d dk_Ty l0 G0 n00 nL0 mc ms) {pc pc' : Nat} {ls st : List dkV} {n : Int} {σ : dkS} {k z : Int} {ix : Nat} (hF : dk_FL own ix 11 3 false 0) (hd : decode cc pc = .ok (.putfield ix, 3)) (hk : dk_is n 11 k) (ht : 0 ≤ z ∧ z ≤ 1400) (hp : pc + 3 = pc') (K : ∀ σ1 : dkS, σ1 = dk_up σ k 3 z → dk_PJ E pc' ls st n σ1) : dk_PJ E pc ls ((0, z) :: (4, k) :: st) n σ :=
  dk_putf hE hF hd hk rfl (fun h => h.1 rfl) ((ty_11_3 hk).mpr ht) hp (K _ rfl)
theorem ty_11_4 {n k v : Int} (hk : dk_is n 11 k) : dk_Ty k 4 v ↔ (0 ≤ v ∧ v ≤ 5) := by
  show dk_tyS (dk_site k) k 4 v ↔ _
  rw [hk.2.2]
  show dk_ty11 k 4 v ↔ _
  simp [dk_ty11]
theorem gf_11_4 {E : dkE} {cc : ByteArray} {own : String} {d : Nat} {l0 : Launch} {G0 : dkG} {n00 : Int} {nL0 mc ms : Nat} (hE : dk_Good E cc own d dk_Ty l0 G0 n00 nL0 mc ms) {pc pc' : Nat} {ls st : List dkV} {n : Int} {σ : dkS} {k : Int} {ix : Nat} {fin : Bool} (hF : dk_FL own ix 11 4 fin 0) (hd : decode cc pc = .ok (.getfield ix, 3)) (hk : dk_is n 11 k) (hp : pc + 3 = pc') (K : ∀ v : Int, v = σ k 4 → (0 ≤ v ∧ v ≤ 5) → dk_i32 v → dk_PJ E pc' ls ((0, v) :: st) n σ) : dk_PJ E pc ls ((4, k) :: st) n σ :=
  dk_getf hE hF hd hk rfl hp (fun t q => K _ rfl ((ty_11_4 hk).mp t) q)
theorem pf_11_4 {E : dkE} {cc : ByteArray} {own : String} {d : Nat} {l0 : Launch} {G0 : dkG} {n00 : Int} {nL0 mc ms : Nat} (hE : dk_Good E cc own d dk_Ty l0 G0 n00 nL0 mc ms) {pc pc' : Nat} {ls st : List dkV} {n : Int} {σ : dkS} {k z : Int} {ix : Nat} (hF : dk_FL own ix 11 4 false 0) (hd : decode cc pc = .ok (.putfield ix, 3)) (hk : dk_is n 11 k) (ht : 0 ≤ z ∧ z ≤ 5) (hp : pc + 3 = pc') (K : ∀ σ1 : dkS, σ1 = dk_up σ k 4 z → dk_PJ E pc' ls st n σ1) : dk_PJ E pc ls ((0, z) :: (4, k) :: st) n σ :=
  dk_putf hE hF hd hk rfl (fun h => h.1 rfl) ((ty_11_4 hk).mpr ht) hp (K _ rfl)
theorem ty_11_5 {n k v : Int} (hk : dk_is n 11 k) : dk_Ty k 5 v ↔ (True) := by
  show dk_tyS (dk_site k) k 5 v ↔ _
  rw [hk.2.2]
  show dk_ty11 k 5 v ↔ _
  simp [dk_ty11]
theorem gf_11_5 {E : dkE} {cc : ByteArray} {own : String} {d : Nat} {l0 : Launch} {G0 : dkG} {n00 : Int} {nL0 mc ms : Nat} (hE : dk_Good E cc own d dk_Ty l0 G0 n00 nL0 mc ms) {pc pc' : Nat} {ls st : List dkV} {n : Int} {σ : dkS} {k : Int} {ix : Nat} {fin : Bool} (hF : dk_FL own ix 11 5 fin 0) (hd : decode cc pc = .ok (.getfield ix, 3)) (hk : dk_is n 11 k) (hp : pc + 3 = pc') (K : ∀ v : Int, v = σ k 5 → (True) → dk_i32 v → dk_PJ E pc' ls ((0, v) :: st) n σ) : dk_PJ E pc ls ((4, k) :: st) n σ :=
  dk_getf hE hF hd hk rfl hp (fun t q => K _ rfl ((ty_11_5 hk).mp t) q)
theorem pf_11_5 {E : dkE} {cc : ByteArray} {own : String} {d : Nat} {l0 : Launch} {G0 : dkG} {n00 : Int} {nL0 mc ms : Nat} (hE : dk_Good E cc own d dk_Ty l0 G0 n00 nL0 mc ms) {pc pc' : Nat} {ls st : List dkV} {n : Int} {σ : dkS} {k z : Int} {ix : Nat} (hF : dk_FL own ix 11 5 false 0) (hd : decode cc pc = .ok (.putfield ix, 3)) (hk : dk_is n 11 k) (ht : True) (hp : pc + 3 = pc') (K : ∀ σ1 : dkS, σ1 = dk_up σ k 5 z → dk_PJ E pc' ls st n σ1) : dk_PJ E pc ls ((0, z) :: (4, k) :: st) n σ :=
  dk_putf hE hF hd hk rfl (fun h => h.1 rfl) ((ty_11_5 hk).mpr ht) hp (K _ rfl)
theorem ty_11_6 {n k v : Int} (hk : dk_is n 11 k) : dk_Ty k 6 v ↔ (0 ≤ v ∧ v ≤ 1400) := by
  show dk_tyS (dk_site k) k 6 v ↔ _
  rw [hk.2.2]
  show dk_ty11 k 6 v ↔ _
  simp [dk_ty11]
theorem gf_11_6 {E : dkE} {cc : ByteArray} {own : String} {d : Nat} {l0 : Launch} {G0 : dkG} {n00 : Int} {nL0 mc ms : Nat} (hE : dk_Good E cc own d dk_Ty l0 G0 n00 nL0 mc ms) {pc pc' : Nat} {ls st : List dkV} {n : Int} {σ : dkS} {k : Int} {ix : Nat} {fin : Bool} (hF : dk_FL own ix 11 6 fin 0) (hd : decode cc pc = .ok (.getfield ix, 3)) (hk : dk_is n 11 k) (hp : pc + 3 = pc') (K : ∀ v : Int, v = σ k 6 → (0 ≤ v ∧ v ≤ 1400) → dk_i32 v → dk_PJ E pc' ls ((0, v) :: st) n σ) : dk_PJ E pc ls ((4, k) :: st) n σ :=
  dk_getf hE hF hd hk rfl hp (fun t q => K _ rfl ((ty_11_6 hk).mp t) q)
theorem pf_11_6 {E : dkE} {cc : ByteArray} {own : String} {d : Nat} {l0 : Launch} {G0 : dkG} {n00 : Int} {nL0 mc ms : Nat} (hE : dk_Good E cc own d dk_Ty l0 G0 n00 nL0 mc ms) {pc pc' : Nat} {ls st : List dkV} {n : Int} {σ : dkS} {k z : Int} {ix : Nat} (hF : dk_FL own ix 11 6 false 0) (hd : decode cc pc = .ok (.putfield ix, 3)) (hk : dk_is n 11 k) (ht : 0 ≤ z ∧ z ≤ 1400) (hp : pc + 3 = pc') (K : ∀ σ1 : dkS, σ1 = dk_up σ k 6 z → dk_PJ E pc' ls st n σ1) : dk_PJ E pc ls ((0, z) :: (4, k) :: st) n σ :=
  dk_putf hE hF hd hk rfl (fun h => h.1 rfl) ((ty_11_6 hk).mpr ht) hp (K _ rfl)
theorem ty_11_7 {n k v : Int} (hk : dk_is n 11 k) : dk_Ty k 7 v ↔ (0 ≤ v ∧ v ≤ 1401) := by
  show dk_tyS (dk_site k) k 7 v ↔ _
  rw [hk.2.2]
  show dk_ty11 k 7 v ↔ _
  simp [dk_ty11]
theorem gf_11_7 {E : dkE} {cc : ByteArray} {own : String} {d : Nat} {l0 : Launch} {G0 : dkG} {n00 : Int} {nL0 mc ms : Nat} (hE : dk_Good E cc own d dk_Ty l0 G0 n00 nL0 mc ms) {pc pc' : Nat} {ls st : List dkV} {n : Int} {σ : dkS} {k : Int} {ix : Nat} {fin : Bool} (hF : dk_FL own ix 11 7 fin 0) (hd : decode cc pc = .ok (.getfield ix, 3)) (hk : dk_is n 11 k) (hp : pc + 3 = pc') (K : ∀ v : Int, v = σ k 7 → (0 ≤ v ∧ v ≤ 1401) → dk_i32 v → dk_PJ E pc' ls ((0, v) :: st) n σ) : dk_PJ E pc ls ((4, k) :: st) n σ :=
  dk_getf hE hF hd hk rfl hp (fun t q => K _ rfl ((ty_11_7 hk).mp t) q)
theorem pf_11_7 {E : dkE} {cc : ByteArray} {own : String} {d : Nat} {l0 : Launch} {G0 : dkG} {n00 : Int} {nL0 mc ms : Nat} (hE : dk_Good E cc own d dk_Ty l0 G0 n00 nL0 mc ms) {pc pc' : Nat} {ls st : List dkV} {n : Int} {σ : dkS} {k z : Int} {ix : Nat} (hF : dk_FL own ix 11 7 false 0) (hd : decode cc pc = .ok (.putfield ix, 3)) (hk : dk_is n 11 k) (ht : 0 ≤ z ∧ z ≤ 1401) (hp : pc + 3 = pc') (K : ∀ σ1 : dkS, σ1 = dk_up σ k 7 z → dk_PJ E pc' ls st n σ1) : dk_PJ E pc ls ((0, z) :: (4, k) :: st) n σ :=
  dk_putf hE hF hd hk rfl (fun h => h.1 rfl) ((ty_11_7 hk).mpr ht) hp (K _ rfl)
theorem ty_11_8 {n k v : Int} (hk : dk_is n 11 k) : dk_Ty k 8 v ↔ (0 ≤ v ∧ v ≤ 5) := by
  show dk_tyS (dk_site k) k 8 v ↔ _
  rw [hk.2.2]
  show dk_ty11 k 8 v ↔ _
  simp [dk_ty11]
theorem gf_11_8 {E : dkE} {cc : ByteArray} {own : String} {d : Nat} {l0 : Launch} {G0 : dkG} {n00 : Int} {nL0 mc ms : Nat} (hE : dk_Good E cc own d dk_Ty l0 G0 n00 nL0 mc ms) {pc pc' : Nat} {ls st : List dkV} {n : Int} {σ : dkS} {k : Int} {ix : Nat} {fin : Bool} (hF : dk_FL own ix 11 8 fin 0) (hd : decode cc pc = .ok (.getfield ix, 3)) (hk : dk_is n 11 k) (hp : pc + 3 = pc') (K : ∀ v : Int, v = σ k 8 → (0 ≤ v ∧ v ≤ 5) → dk_i32 v → dk_PJ E pc' ls ((0, v) :: st) n σ) : dk_PJ E pc ls ((4, k) :: st) n σ :=
  dk_getf hE hF hd hk rfl hp (fun t q => K _ rfl ((ty_11_8 hk).mp t) q)
theorem pf_11_8 {E : dkE} {cc : ByteArray} {own : String} {d : Nat} {l0 : Launch} {G0 : dkG} {n00 : Int} {nL0 mc ms : Nat} (hE : dk_Good E cc own d dk_Ty l0 G0 n00 nL0 mc ms) {pc pc' : Nat} {ls st : List dkV} {n : Int} {σ : dkS} {k z : Int} {ix : Nat} (hF : dk_FL own ix 11 8 false 0) (hd : decode cc pc = .ok (.putfield ix, 3)) (hk : dk_is n 11 k) (ht : 0 ≤ z ∧ z ≤ 5) (hp : pc + 3 = pc') (K : ∀ σ1 : dkS, σ1 = dk_up σ k 8 z → dk_PJ E pc' ls st n σ1) : dk_PJ E pc ls ((0, z) :: (4, k) :: st) n σ :=
  dk_putf hE hF hd hk rfl (fun h => h.1 rfl) ((ty_11_8 hk).mpr ht) hp (K _ rfl)
theorem ty_11_9 {n k v : Int} (hk : dk_is n 11 k) : dk_Ty k 9 v ↔ (0 ≤ v ∧ v ≤ 9999) := by
  show dk_tyS (dk_site k) k 9 v ↔ _
  rw [hk.2.2]
  show dk_ty11 k 9 v ↔ _
  simp [dk_ty11]
theorem gf_11_9 {E : dkE} {cc : ByteArray} {own : String} {d : Nat} {l0 : Launch} {G0 : dkG} {n00 : Int} {nL0 mc ms : Nat} (hE : dk_Good E cc own d dk_Ty l0 G0 n00 nL0 mc ms) {pc pc' : Nat} {ls st : List dkV} {n : Int} {σ : dkS} {k : Int} {ix : Nat} {fin : Bool} (hF : dk_FL own ix 11 9 fin 0) (hd : decode cc pc = .ok (.getfield ix, 3)) (hk : dk_is n 11 k) (hp : pc + 3 = pc') (K : ∀ v : Int, v = σ k 9 → (0 ≤ v ∧ v ≤ 9999) → dk_i32 v → dk_PJ E pc' ls ((0, v) :: st) n σ) : dk_PJ E pc ls ((4, k) :: st) n σ :=
  dk_getf hE hF hd hk rfl hp (fun t q => K _ rfl ((ty_11_9 hk).mp t) q)
theorem pf_11_9 {E : dkE} {cc : ByteArray} {own : String} {d : Nat} {l0 : Launch} {G0 : dkG} {n00 : Int} {nL0 mc ms : Nat} (hE : dk_Good E cc own d dk_Ty l0 G0 n00 nL0 mc ms) {pc pc' : Nat} {ls st : List dkV} {n : Int} {σ : dkS} {k z : Int} {ix : Nat} (hF : dk_FL own ix 11 9 false 0) (hd : decode cc pc = .ok (.putfield ix, 3)) (hk : dk_is n 11 k) (ht : 0 ≤ z ∧ z ≤ 9999) (hp : pc + 3 = pc') (K : ∀ σ1 : dkS, σ1 = dk_up σ k 9 z → dk_PJ E pc' ls st n σ1) : dk_PJ E pc ls ((0, z) :: (4, k) :: st) n σ :=
  dk_putf hE hF hd hk rfl (fun h => h.1 rfl) ((ty_11_9 hk).mpr ht) hp (K _ rfl)
theorem ty_11_10 {n k v : Int} (hk : dk_is n 11 k) : dk_Ty k 10 v ↔ (True) := by
  show dk_tyS (dk_site k) k 10 v ↔ _
  rw [hk.2.2]
  show dk_ty11 k 10 v ↔ _
  simp [dk_ty11]
theorem gf_11_10 {E : dkE} {cc : ByteArray} {own : String} {d : Nat} {l0 : Launch} {G0 : dkG} {n00 : Int} {nL0 mc ms : Nat} (hE : dk_Good E cc own d dk_Ty l0 G0 n00 nL0 mc ms) {pc pc' : Nat} {ls st : List dkV} {n : Int} {σ : dkS} {k : Int} {ix : Nat} {fin : Bool} (hF : dk_FL own ix 11 10 fin 3) (hd : decode cc pc = .ok (.getfield ix, 3)) (hk : dk_is n 11 k) (hp : pc + 3 = pc') (K : ∀ v : Int, v = σ k 10 → (True) → dk_i64 v → dk_PJ E pc' ls ((3, v) :: st) n σ) : dk_PJ E pc ls ((4, k) :: st) n σ :=
  dk_getf hE hF hd hk rfl hp (fun t q => K _ rfl ((ty_11_10 hk).mp t) q)
theorem pf_11_10 {E : dkE} {cc : ByteArray} {own : String} {d : Nat} {l0 : Launch} {G0 : dkG} {n00 : Int} {nL0 mc ms : Nat} (hE : dk_Good E cc own d dk_Ty l0 G0 n00 nL0 mc ms) {pc pc' : Nat} {ls st : List dkV} {n : Int} {σ : dkS} {k z : Int} {ix : Nat} (hF : dk_FL own ix 11 10 false 3) (hd : decode cc pc = .ok (.putfield ix, 3)) (hk : dk_is n 11 k) (ht : True) (hp : pc + 3 = pc') (K : ∀ σ1 : dkS, σ1 = dk_up σ k 10 z → dk_PJ E pc' ls st n σ1) : dk_PJ E pc ls ((3, z) :: (4, k) :: st) n σ :=
  dk_putf hE hF hd hk rfl (fun h => h.2 rfl) ((ty_11_10 hk).mpr ht) hp (K _ rfl)
theorem ty_11_11 {n k v : Int} (hk : dk_is n 11 k) : dk_Ty k 11 v ↔ (v = k + 3) := by
  show dk_tyS (dk_site k) k 11 v ↔ _
  rw [hk.2.2]
  show dk_ty11 k 11 v ↔ _
  simp [dk_ty11]
theorem gf_11_11 {E : dkE} {cc : ByteArray} {own : String} {d : Nat} {l0 : Launch} {G0 : dkG} {n00 : Int} {nL0 mc ms : Nat} (hE : dk_Good E cc own d dk_Ty l0 G0 n00 nL0 mc ms) {pc pc' : Nat} {ls st : List dkV} {n : Int} {σ : dkS} {k w : Int} {ix : Nat} {fin : Bool} (hF : dk_FL own ix 11 11 fin 4) (hd : decode cc pc = .ok (.getfield ix, 3)) (hk : dk_is n 11 k) (hw : k + 3 = w) (hp : pc + 3 = pc') (K : dk_PJ E pc' ls ((4, w) :: st) n σ) : dk_PJ E pc ls ((4, k) :: st) n σ :=
  dk_getf hE hF hd hk rfl hp (fun t _ => by have t := (ty_11_11 hk).mp t; rw [show σ k ((11 : Nat) : Int) = w from t.trans hw]; exact K)
theorem ty_11_12 {n k v : Int} (hk : dk_is n 11 k) : dk_Ty k 12 v ↔ (v = k + 4) := by
  show dk_tyS (dk_site k) k 12 v ↔ _
  rw [hk.2.2]
  show dk_ty11 k 12 v ↔ _
  simp [dk_ty11]
theorem gf_11_12 {E : dkE} {cc : ByteArray} {own : String} {d : Nat} {l0 : Launch} {G0 : dkG} {n00 : Int} {nL0 mc ms : Nat} (hE : dk_Good E cc own d dk_Ty l0 G0 n00 nL0 mc ms) {pc pc' : Nat} {ls st : List dkV} {n : Int} {σ : dkS} {k w : Int} {ix : Nat} {fin : Bool} (hF : dk_FL own ix 11 12 fin 4) (hd : decode cc pc = .ok (.getfield ix, 3)) (hk : dk_is n 11 k) (hw : k + 4 = w) (hp : pc + 3 = pc') (K : dk_PJ E pc' ls ((4, w) :: st) n σ) : dk_PJ E pc ls ((4, k) :: st) n σ :=
  dk_getf hE hF hd hk rfl hp (fun t _ => by have t := (ty_11_12 hk).mp t; rw [show σ k ((12 : Nat) : Int) = w from t.trans hw]; exact K)
theorem ty_11_13 {n k v : Int} (hk : dk_is n 11 k) : dk_Ty k 13 v ↔ (v = k + 5) := by
  show dk_tyS (dk_site k) k 13 v ↔ _
  rw [hk.2.2]
  show dk_ty11 k 13 v ↔ _
  simp [dk_ty11]
theorem gf_11_13 {E : dkE} {cc : ByteArray} {own : String} {d : Nat} {l0 : Launch} {G0 : dkG} {n00 : Int} {nL0 mc ms : Nat} (hE : dk_Good E cc own d dk_Ty l0 G0 n00 nL0 mc ms) {pc pc' : Nat} {ls st : List dkV} {n : Int} {σ : dkS} {k w : Int} {ix : Nat} {fin : Bool} (hF : dk_FL own ix 11 13 fin 4) (hd : decode cc pc = .ok (.getfield ix, 3)) (hk : dk_is n 11 k) (hw : k + 5 = w) (hp : pc + 3 = pc') (K : dk_PJ E pc' ls ((4, w) :: st) n σ) : dk_PJ E pc ls ((4, k) :: st) n σ :=
  dk_getf hE hF hd hk rfl hp (fun t _ => by have t := (ty_11_13 hk).mp t; rw [show σ k ((13 : Nat) : Int) = w from t.trans hw]; exact K)
theorem ty_11_14 {n k v : Int} (hk : dk_is n 11 k) : dk_Ty k 14 v ↔ (v = k + 6) := by
  show dk_tyS (dk_site k) k 14 v ↔ _
  rw [hk.2.2]
  show dk_ty11 k 14 v ↔ _
  simp [dk_ty11]
theorem gf_11_14 {E : dkE} {cc : ByteArray} {own : String} {d : Nat} {l0 : Launch} {G0 : dkG} {n00 : Int} {nL0 mc ms : Nat} (hE : dk_Good E cc own d dk_Ty l0 G0 n00 nL0 mc ms) {pc pc' : Nat} {ls st : List dkV} {n : Int} {σ : dkS} {k w : Int} {ix : Nat} {fin : Bool} (hF : dk_FL own ix 11 14 fin 4) (hd : decode cc pc = .ok (.getfield ix, 3)) (hk : dk_is n 11 k) (hw : k + 6 = w) (hp : pc + 3 = pc') (K : dk_PJ E pc' ls ((4, w) :: st) n σ) : dk_PJ E pc ls ((4, k) :: st) n σ :=
  dk_getf hE hF hd hk rfl hp (fun t _ => by have t := (ty_11_14 hk).mp t; rw [show σ k ((14 : Nat) : Int) = w from t.trans hw]; exact K)
theorem ty_11_15 {n k v : Int} (hk : dk_is n 11 k) : dk_Ty k 15 v ↔ (v = k + 7) := by
  show dk_tyS (dk_site k) k 15 v ↔ _
  rw [hk.2.2]
  show dk_ty11 k 15 v ↔ _
  simp [dk_ty11]
theorem gf_11_15 {E : dkE} {cc : ByteArray} {own : String} {d : Nat} {l0 : Launch} {G0 : dkG} {n00 : Int} {nL0 mc ms : Nat} (hE : dk_Good E cc own d dk_Ty l0 G0 n00 nL0 mc ms) {pc pc' : Nat} {ls st : List dkV} {n : Int} {σ : dkS} {k w : Int} {ix : Nat} {fin : Bool} (hF : dk_FL own ix 11 15 fin 4) (hd : decode cc pc = .ok (.getfield ix, 3)) (hk : dk_is n 11 k) (hw : k + 7 = w) (hp : pc + 3 = pc') (K : dk_PJ E pc' ls ((4, w) :: st) n σ) : dk_PJ E pc ls ((4, k) :: st) n σ :=
  dk_getf hE hF hd hk rfl hp (fun t _ => by have t := (ty_11_15 hk).mp t; rw [show σ k ((15 : Nat) : Int) = w from t.trans hw]; exact K)
theorem ty_11_16 {n k v : Int} (hk : dk_is n 11 k) : dk_Ty k 16 v ↔ (v = k + 8) := by
  show dk_tyS (dk_site k) k 16 v ↔ _
  rw [hk.2.2]
  show dk_ty11 k 16 v ↔ _
  simp [dk_ty11]
theorem gf_11_16 {E : dkE} {cc : ByteArray} {own : String} {d : Nat} {l0 : Launch} {G0 : dkG} {n00 : Int} {nL0 mc ms : Nat} (hE : dk_Good E cc own d dk_Ty l0 G0 n00 nL0 mc ms) {pc pc' : Nat} {ls st : List dkV} {n : Int} {σ : dkS} {k w : Int} {ix : Nat} {fin : Bool} (hF : dk_FL own ix 11 16 fin 4) (hd : decode cc pc = .ok (.getfield ix, 3)) (hk : dk_is n 11 k) (hw : k + 8 = w) (hp : pc + 3 = pc') (K : dk_PJ E pc' ls ((4, w) :: st) n σ) : dk_PJ E pc ls ((4, k) :: st) n σ :=
  dk_getf hE hF hd hk rfl hp (fun t _ => by have t := (ty_11_16 hk).mp t; rw [show σ k ((16 : Nat) : Int) = w from t.trans hw]; exact K)
theorem ty_11_17 {n k v : Int} (hk : dk_is n 11 k) : dk_Ty k 17 v ↔ (v = k + 9) := by
  show dk_tyS (dk_site k) k 17 v ↔ _
  rw [hk.2.2]
  show dk_ty11 k 17 v ↔ _
  simp [dk_ty11]
theorem gf_11_17 {E : dkE} {cc : ByteArray} {own : String} {d : Nat} {l0 : Launch} {G0 : dkG} {n00 : Int} {nL0 mc ms : Nat} (hE : dk_Good E cc own d dk_Ty l0 G0 n00 nL0 mc ms) {pc pc' : Nat} {ls st : List dkV} {n : Int} {σ : dkS} {k w : Int} {ix : Nat} {fin : Bool} (hF : dk_FL own ix 11 17 fin 4) (hd : decode cc pc = .ok (.getfield ix, 3)) (hk : dk_is n 11 k) (hw : k + 9 = w) (hp : pc + 3 = pc') (K : dk_PJ E pc' ls ((4, w) :: st) n σ) : dk_PJ E pc ls ((4, k) :: st) n σ :=
  dk_getf hE hF hd hk rfl hp (fun t _ => by have t := (ty_11_17 hk).mp t; rw [show σ k ((17 : Nat) : Int) = w from t.trans hw]; exact K)
theorem ty_11_18 {n k v : Int} (hk : dk_is n 11 k) : dk_Ty k 18 v ↔ (v = k + 10) := by
  show dk_tyS (dk_site k) k 18 v ↔ _
  rw [hk.2.2]
  show dk_ty11 k 18 v ↔ _
  simp [dk_ty11]
theorem gf_11_18 {E : dkE} {cc : ByteArray} {own : String} {d : Nat} {l0 : Launch} {G0 : dkG} {n00 : Int} {nL0 mc ms : Nat} (hE : dk_Good E cc own d dk_Ty l0 G0 n00 nL0 mc ms) {pc pc' : Nat} {ls st : List dkV} {n : Int} {σ : dkS} {k w : Int} {ix : Nat} {fin : Bool} (hF : dk_FL own ix 11 18 fin 4) (hd : decode cc pc = .ok (.getfield ix, 3)) (hk : dk_is n 11 k) (hw : k + 10 = w) (hp : pc + 3 = pc') (K : dk_PJ E pc' ls ((4, w) :: st) n σ) : dk_PJ E pc ls ((4, k) :: st) n σ :=
  dk_getf hE hF hd hk rfl hp (fun t _ => by have t := (ty_11_18 hk).mp t; rw [show σ k ((18 : Nat) : Int) = w from t.trans hw]; exact K)
theorem ty_11_19 {n k v : Int} (hk : dk_is n 11 k) : dk_Ty k 19 v ↔ (v = k + 11) := by
  show dk_tyS (dk_site k) k 19 v ↔ _
  rw [hk.2.2]
  show dk_ty11 k 19 v ↔ _
  simp [dk_ty11]
theorem gf_11_19 {E : dkE} {cc : ByteArray} {own : String} {d : Nat} {l0 : Launch} {G0 : dkG} {n00 : Int} {nL0 mc ms : Nat} (hE : dk_Good E cc own d dk_Ty l0 G0 n00 nL0 mc ms) {pc pc' : Nat} {ls st : List dkV} {n : Int} {σ : dkS} {k w : Int} {ix : Nat} {fin : Bool} (hF : dk_FL own ix 11 19 fin 4) (hd : decode cc pc = .ok (.getfield ix, 3)) (hk : dk_is n 11 k) (hw : k + 11 = w) (hp : pc + 3 = pc') (K : dk_PJ E pc' ls ((4, w) :: st) n σ) : dk_PJ E pc ls ((4, k) :: st) n σ :=
  dk_getf hE hF hd hk rfl hp (fun t _ => by have t := (ty_11_19 hk).mp t; rw [show σ k ((19 : Nat) : Int) = w from t.trans hw]; exact K)
theorem ty_11_20 {n k v : Int} (hk : dk_is n 11 k) : dk_Ty k 20 v ↔ (v = k + 12) := by
  show dk_tyS (dk_site k) k 20 v ↔ _
  rw [hk.2.2]
  show dk_ty11 k 20 v ↔ _
  simp [dk_ty11]
theorem gf_11_20 {E : dkE} {cc : ByteArray} {own : String} {d : Nat} {l0 : Launch} {G0 : dkG} {n00 : Int} {nL0 mc ms : Nat} (hE : dk_Good E cc own d dk_Ty l0 G0 n00 nL0 mc ms) {pc pc' : Nat} {ls st : List dkV} {n : Int} {σ : dkS} {k w : Int} {ix : Nat} {fin : Bool} (hF : dk_FL own ix 11 20 fin 4) (hd : decode cc pc = .ok (.getfield ix, 3)) (hk : dk_is n 11 k) (hw : k + 12 = w) (hp : pc + 3 = pc') (K : dk_PJ E pc' ls ((4, w) :: st) n σ) : dk_PJ E pc ls ((4, k) :: st) n σ :=
  dk_getf hE hF hd hk rfl hp (fun t _ => by have t := (ty_11_20 hk).mp t; rw [show σ k ((20 : Nat) : Int) = w from t.trans hw]; exact K)
theorem ty_11_21 {n k v : Int} (hk : dk_is n 11 k) : dk_Ty k 21 v ↔ (v = k + 13) := by
  show dk_tyS (dk_site k) k 21 v ↔ _
  rw [hk.2.2]
  show dk_ty11 k 21 v ↔ _
  simp [dk_ty11]
theorem gf_11_21 {E : dkE} {cc : ByteArray} {own : String} {d : Nat} {l0 : Launch} {G0 : dkG} {n00 : Int} {nL0 mc ms : Nat} (hE : dk_Good E cc own d dk_Ty l0 G0 n00 nL0 mc ms) {pc pc' : Nat} {ls st : List dkV} {n : Int} {σ : dkS} {k w : Int} {ix : Nat} {fin : Bool} (hF : dk_FL own ix 11 21 fin 4) (hd : decode cc pc = .ok (.getfield ix, 3)) (hk : dk_is n 11 k) (hw : k + 13 = w) (hp : pc + 3 = pc') (K : dk_PJ E pc' ls ((4, w) :: st) n σ) : dk_PJ E pc ls ((4, k) :: st) n σ :=
  dk_getf hE hF hd hk rfl hp (fun t _ => by have t := (ty_11_21 hk).mp t; rw [show σ k ((21 : Nat) : Int) = w from t.trans hw]; exact K)
theorem ty_11_22 {n k v : Int} (hk : dk_is n 11 k) : dk_Ty k 22 v ↔ (v = k + 14) := by
  show dk_tyS (dk_site k) k 22 v ↔ _
  rw [hk.2.2]
  show dk_ty11 k 22 v ↔ _
  simp [dk_ty11]
theorem gf_11_22 {E : dkE} {cc : ByteArray} {own : String} {d : Nat} {l0 : Launch} {G0 : dkG} {n00 : Int} {nL0 mc ms : Nat} (hE : dk_Good E cc own d dk_Ty l0 G0 n00 nL0 mc ms) {pc pc' : Nat} {ls st : List dkV} {n : Int} {σ : dkS} {k w : Int} {ix : Nat} {fin : Bool} (hF : dk_FL own ix 11 22 fin 4) (hd : decode cc pc = .ok (.getfield ix, 3)) (hk : dk_is n 11 k) (hw : k + 14 = w) (hp : pc + 3 = pc') (K : dk_PJ E pc' ls ((4, w) :: st) n σ) : dk_PJ E pc ls ((4, k) :: st) n σ :=
  dk_getf hE hF hd hk rfl hp (fun t _ => by have t := (ty_11_22 hk).mp t; rw [show σ k ((22 : Nat) : Int) = w from t.trans hw]; exact K)
theorem ty_11_23 {n k v : Int} (hk : dk_is n 11 k) : dk_Ty k 23 v ↔ (v = k + 15) := by
  show dk_tyS (dk_site k) k 23 v ↔ _
  rw [hk.2.2]
  show dk_ty11 k 23 v ↔ _
  simp [dk_ty11]
theorem gf_11_23 {E : dkE} {cc : ByteArray} {own : String} {d : Nat} {l0 : Launch} {G0 : dkG} {n00 : Int} {nL0 mc ms : Nat} (hE : dk_Good E cc own d dk_Ty l0 G0 n00 nL0 mc ms) {pc pc' : Nat} {ls st : List dkV} {n : Int} {σ : dkS} {k w : Int} {ix : Nat} {fin : Bool} (hF : dk_FL own ix 11 23 fin 4) (hd : decode cc pc = .ok (.getfield ix, 3)) (hk : dk_is n 11 k) (hw : k + 15 = w) (hp : pc + 3 = pc') (K : dk_PJ E pc' ls ((4, w) :: st) n σ) : dk_PJ E pc ls ((4, k) :: st) n σ :=
  dk_getf hE hF hd hk rfl hp (fun t _ => by have t := (ty_11_23 hk).mp t; rw [show σ k ((23 : Nat) : Int) = w from t.trans hw]; exact K)
theorem ty_11_24 {n k v : Int} (hk : dk_is n 11 k) : dk_Ty k 24 v ↔ (v = k + 16) := by
  show dk_tyS (dk_site k) k 24 v ↔ _
  rw [hk.2.2]
  show dk_ty11 k 24 v ↔ _
  simp [dk_ty11]
theorem gf_11_24 {E : dkE} {cc : ByteArray} {own : String} {d : Nat} {l0 : Launch} {G0 : dkG} {n00 : Int} {nL0 mc ms : Nat} (hE : dk_Good E cc own d dk_Ty l0 G0 n00 nL0 mc ms) {pc pc' : Nat} {ls st : List dkV} {n : Int} {σ : dkS} {k w : Int} {ix : Nat} {fin : Bool} (hF : dk_FL own ix 11 24 fin 4) (hd : decode cc pc = .ok (.getfield ix, 3)) (hk : dk_is n 11 k) (hw : k + 16 = w) (hp : pc + 3 = pc') (K : dk_PJ E pc' ls ((4, w) :: st) n σ) : dk_PJ E pc ls ((4, k) :: st) n σ :=
  dk_getf hE hF hd hk rfl hp (fun t _ => by have t := (ty_11_24 hk).mp t; rw [show σ k ((24 : Nat) : Int) = w from t.trans hw]; exact K)
theorem ty_11_25 {n k v : Int} (hk : dk_is n 11 k) : dk_Ty k 25 v ↔ (v = k + 17) := by
  show dk_tyS (dk_site k) k 25 v ↔ _
  rw [hk.2.2]
  show dk_ty11 k 25 v ↔ _
  simp [dk_ty11]
theorem gf_11_25 {E : dkE} {cc : ByteArray} {own : String} {d : Nat} {l0 : Launch} {G0 : dkG} {n00 : Int} {nL0 mc ms : Nat} (hE : dk_Good E cc own d dk_Ty l0 G0 n00 nL0 mc ms) {pc pc' : Nat} {ls st : List dkV} {n : Int} {σ : dkS} {k w : Int} {ix : Nat} {fin : Bool} (hF : dk_FL own ix 11 25 fin 4) (hd : decode cc pc = .ok (.getfield ix, 3)) (hk : dk_is n 11 k) (hw : k + 17 = w) (hp : pc + 3 = pc') (K : dk_PJ E pc' ls ((4, w) :: st) n σ) : dk_PJ E pc ls ((4, k) :: st) n σ :=
  dk_getf hE hF hd hk rfl hp (fun t _ => by have t := (ty_11_25 hk).mp t; rw [show σ k ((25 : Nat) : Int) = w from t.trans hw]; exact K)
theorem ty_11_26 {n k v : Int} (hk : dk_is n 11 k) : dk_Ty k 26 v ↔ (v = k + 18) := by
  show dk_tyS (dk_site k) k 26 v ↔ _
  rw [hk.2.2]
  show dk_ty11 k 26 v ↔ _
  simp [dk_ty11]
theorem gf_11_26 {E : dkE} {cc : ByteArray} {own : String} {d : Nat} {l0 : Launch} {G0 : dkG} {n00 : Int} {nL0 mc ms : Nat} (hE : dk_Good E cc own d dk_Ty l0 G0 n00 nL0 mc ms) {pc pc' : Nat} {ls st : List dkV} {n : Int} {σ : dkS} {k w : Int} {ix : Nat} {fin : Bool} (hF : dk_FL own ix 11 26 fin 4) (hd : decode cc pc = .ok (.getfield ix, 3)) (hk : dk_is n 11 k) (hw : k + 18 = w) (hp : pc + 3 = pc') (K : dk_PJ E pc' ls ((4, w) :: st) n σ) : dk_PJ E pc ls ((4, k) :: st) n σ :=
  dk_getf hE hF hd hk rfl hp (fun t _ => by have t := (ty_11_26 hk).mp t; rw [show σ k ((26 : Nat) : Int) = w from t.trans hw]; exact K)
theorem ty_11_27 {n k v : Int} (hk : dk_is n 11 k) : dk_Ty k 27 v ↔ (0 ≤ v ∧ v ≤ 1) := by
  show dk_tyS (dk_site k) k 27 v ↔ _
  rw [hk.2.2]
  show dk_ty11 k 27 v ↔ _
  simp [dk_ty11]
theorem gf_11_27 {E : dkE} {cc : ByteArray} {own : String} {d : Nat} {l0 : Launch} {G0 : dkG} {n00 : Int} {nL0 mc ms : Nat} (hE : dk_Good E cc own d dk_Ty l0 G0 n00 nL0 mc ms) {pc pc' : Nat} {ls st : List dkV} {n : Int} {σ : dkS} {k : Int} {ix : Nat} {fin : Bool} (hF : dk_FL own ix 11 27 fin 0) (hd : decode cc pc = .ok (.getfield ix, 3)) (hk : dk_is n 11 k) (hp : pc + 3 = pc') (K : ∀ v : Int, v = σ k 27 → (0 ≤ v ∧ v ≤ 1) → dk_i32 v → dk_PJ E pc' ls ((0, v) :: st) n σ) : dk_PJ E pc ls ((4, k) :: st) n σ :=
  dk_getf hE hF hd hk rfl hp (fun t q => K _ rfl ((ty_11_27 hk).mp t) q)
theorem pf_11_27 {E : dkE} {cc : ByteArray} {own : String} {d : Nat} {l0 : Launch} {G0 : dkG} {n00 : Int} {nL0 mc ms : Nat} (hE : dk_Good E cc own d dk_Ty l0 G0 n00 nL0 mc ms) {pc pc' : Nat} {ls st : List dkV} {n : Int} {σ : dkS} {k z : Int} {ix : Nat} (hF : dk_FL own ix 11 27 false 0) (hd : decode cc pc = .ok (.putfield ix, 3)) (hk : dk_is n 11 k) (ht : 0 ≤ z ∧ z ≤ 1) (hp : pc + 3 = pc') (K : ∀ σ1 : dkS, σ1 = dk_up σ k 27 z → dk_PJ E pc' ls st n σ1) : dk_PJ E pc ls ((0, z) :: (4, k) :: st) n σ :=
  dk_putf hE hF hd hk rfl (fun h => h.1 rfl) ((ty_11_27 hk).mpr ht) hp (K _ rfl)
theorem ty_11_28 {n k v : Int} (hk : dk_is n 11 k) : dk_Ty k 28 v ↔ (0 ≤ v ∧ v ≤ 1) := by
  show dk_tyS (dk_site k) k 28 v ↔ _
  rw [hk.2.2]
  show dk_ty11 k 28 v ↔ _
  simp [dk_ty11]
theorem gf_11_28 {E : dkE} {cc : ByteArray} {own : String} {d : Nat} {l0 : Launch} {G0 : dkG} {n00 : Int} {nL0 mc ms : Nat} (hE : dk_Good E cc own d dk_Ty l0 G0 n00 nL0 mc ms) {pc pc' : Nat} {ls st : List dkV} {n : Int} {σ : dkS} {k : Int} {ix : Nat} {fin : Bool} (hF : dk_FL own ix 11 28 fin 0) (hd : decode cc pc = .ok (.getfield ix, 3)) (hk : dk_is n 11 k) (hp : pc + 3 = pc') (K : ∀ v : Int, v = σ k 28 → (0 ≤ v ∧ v ≤ 1) → dk_i32 v → dk_PJ E pc' ls ((0, v) :: st) n σ) : dk_PJ E pc ls ((4, k) :: st) n σ :=
  dk_getf hE hF hd hk rfl hp (fun t q => K _ rfl ((ty_11_28 hk).mp t) q)
theorem pf_11_28 {E : dkE} {cc : ByteArray} {own : String} {d : Nat} {l0 : Launch} {G0 : dkG} {n00 : Int} {nL0 mc ms : Nat} (hE : dk_Good E cc own d dk_Ty l0 G0 n00 nL0 mc ms) {pc pc' : Nat} {ls st : List dkV} {n : Int} {σ : dkS} {k z : Int} {ix : Nat} (hF : dk_FL own ix 11 28 false 0) (hd : decode cc pc = .ok (.putfield ix, 3)) (hk : dk_is n 11 k) (ht : 0 ≤ z ∧ z ≤ 1) (hp : pc + 3 = pc') (K : ∀ σ1 : dkS, σ1 = dk_up σ k 28 z → dk_PJ E pc' ls st n σ1) : dk_PJ E pc ls ((0, z) :: (4, k) :: st) n σ :=
  dk_putf hE hF hd hk rfl (fun h => h.1 rfl) ((ty_11_28 hk).mpr ht) hp (K _ rfl)
theorem ty_11_29 {n k v : Int} (hk : dk_is n 11 k) : dk_Ty k 29 v ↔ (v = k + 19) := by
  show dk_tyS (dk_site k) k 29 v ↔ _
  rw [hk.2.2]
  show dk_ty11 k 29 v ↔ _
  simp [dk_ty11]
theorem gf_11_29 {E : dkE} {cc : ByteArray} {own : String} {d : Nat} {l0 : Launch} {G0 : dkG} {n00 : Int} {nL0 mc ms : Nat} (hE : dk_Good E cc own d dk_Ty l0 G0 n00 nL0 mc ms) {pc pc' : Nat} {ls st : List dkV} {n : Int} {σ : dkS} {k w : Int} {ix : Nat} {fin : Bool} (hF : dk_FL own ix 11 29 fin 4) (hd : decode cc pc = .ok (.getfield ix, 3)) (hk : dk_is n 11 k) (hw : k + 19 = w) (hp : pc + 3 = pc') (K : dk_PJ E pc' ls ((4, w) :: st) n σ) : dk_PJ E pc ls ((4, k) :: st) n σ :=
  dk_getf hE hF hd hk rfl hp (fun t _ => by have t := (ty_11_29 hk).mp t; rw [show σ k ((29 : Nat) : Int) = w from t.trans hw]; exact K)
theorem ty_11_30 {n k v : Int} (hk : dk_is n 11 k) : dk_Ty k 30 v ↔ (True) := by
  show dk_tyS (dk_site k) k 30 v ↔ _
  rw [hk.2.2]
  show dk_ty11 k 30 v ↔ _
  simp [dk_ty11]
theorem gf_11_30 {E : dkE} {cc : ByteArray} {own : String} {d : Nat} {l0 : Launch} {G0 : dkG} {n00 : Int} {nL0 mc ms : Nat} (hE : dk_Good E cc own d dk_Ty l0 G0 n00 nL0 mc ms) {pc pc' : Nat} {ls st : List dkV} {n : Int} {σ : dkS} {k : Int} {ix : Nat} {fin : Bool} (hF : dk_FL own ix 11 30 fin 0) (hd : decode cc pc = .ok (.getfield ix, 3)) (hk : dk_is n 11 k) (hp : pc + 3 = pc') (K : ∀ v : Int, v = σ k 30 → (True) → dk_i32 v → dk_PJ E pc' ls ((0, v) :: st) n σ) : dk_PJ E pc ls ((4, k) :: st) n σ :=
  dk_getf hE hF hd hk rfl hp (fun t q => K _ rfl ((ty_11_30 hk).mp t) q)
theorem pf_11_30 {E : dkE} {cc : ByteArray} {own : String} {d : Nat} {l0 : Launch} {G0 : dkG} {n00 : Int} {nL0 mc ms : Nat} (hE : dk_Good E cc own d dk_Ty l0 G0 n00 nL0 mc ms) {pc pc' : Nat} {ls st : List dkV} {n : Int} {σ : dkS} {k z : Int} {ix : Nat} (hF : dk_FL own ix 11 30 false 0) (hd : decode cc pc = .ok (.putfield ix, 3)) (hk : dk_is n 11 k) (ht : True) (hp : pc + 3 = pc') (K : ∀ σ1 : dkS, σ1 = dk_up σ k 30 z → dk_PJ E pc' ls st n σ1) : dk_PJ E pc ls ((0, z) :: (4, k) :: st) n σ :=
  dk_putf hE hF hd hk rfl (fun h => h.1 rfl) ((ty_11_30 hk).mpr ht) hp (K _ rfl)
theorem ty_11_31 {n k v : Int} (hk : dk_is n 11 k) : dk_Ty k 31 v ↔ (True) := by
  show dk_tyS (dk_site k) k 31 v ↔ _
  rw [hk.2.2]
  show dk_ty11 k 31 v ↔ _
  simp [dk_ty11]
theorem gf_11_31 {E : dkE} {cc : ByteArray} {own : String} {d : Nat} {l0 : Launch} {G0 : dkG} {n00 : Int} {nL0 mc ms : Nat} (hE : dk_Good E cc own d dk_Ty l0 G0 n00 nL0 mc ms) {pc pc' : Nat} {ls st : List dkV} {n : Int} {σ : dkS} {k : Int} {ix : Nat} {fin : Bool} (hF : dk_FL own ix 11 31 fin 0) (hd : decode cc pc = .ok (.getfield ix, 3)) (hk : dk_is n 11 k) (hp : pc + 3 = pc') (K : ∀ v : Int, v = σ k 31 → (True) → dk_i32 v → dk_PJ E pc' ls ((0, v) :: st) n σ) : dk_PJ E pc ls ((4, k) :: st) n σ :=
  dk_getf hE hF hd hk rfl hp (fun t q => K _ rfl ((ty_11_31 hk).mp t) q)
theorem pf_11_31 {E : dkE} {cc : ByteArray} {own : String} {d : Nat} {l0 : Launch} {G0 : dkG} {n00 : Int} {nL0 mc ms : Nat} (hE : dk_Good E cc own d dk_Ty l0 G0 n00 nL0 mc ms) {pc pc' : Nat} {ls st : List dkV} {n : Int} {σ : dkS} {k z : Int} {ix : Nat} (hF : dk_FL own ix 11 31 false 0) (hd : decode cc pc = .ok (.putfield ix, 3)) (hk : dk_is n 11 k) (ht : True) (hp : pc + 3 = pc') (K : ∀ σ1 : dkS, σ1 = dk_up σ k 31 z → dk_PJ E pc' ls st n σ1) : dk_PJ E pc ls ((0, z) :: (4, k) :: st) n σ :=
  dk_putf hE hF hd hk rfl (fun h => h.1 rfl) ((ty_11_31 hk).mpr ht) hp (K _ rfl)
theorem ty_11_32 {n k v : Int} (hk : dk_is n 11 k) : dk_Ty k 32 v ↔ (v = k + 20) := by
  show dk_tyS (dk_site k) k 32 v ↔ _
  rw [hk.2.2]
  show dk_ty11 k 32 v ↔ _
  simp [dk_ty11]
theorem gf_11_32 {E : dkE} {cc : ByteArray} {own : String} {d : Nat} {l0 : Launch} {G0 : dkG} {n00 : Int} {nL0 mc ms : Nat} (hE : dk_Good E cc own d dk_Ty l0 G0 n00 nL0 mc ms) {pc pc' : Nat} {ls st : List dkV} {n : Int} {σ : dkS} {k w : Int} {ix : Nat} {fin : Bool} (hF : dk_FL own ix 11 32 fin 4) (hd : decode cc pc = .ok (.getfield ix, 3)) (hk : dk_is n 11 k) (hw : k + 20 = w) (hp : pc + 3 = pc') (K : dk_PJ E pc' ls ((4, w) :: st) n σ) : dk_PJ E pc ls ((4, k) :: st) n σ :=
  dk_getf hE hF hd hk rfl hp (fun t _ => by have t := (ty_11_32 hk).mp t; rw [show σ k ((32 : Nat) : Int) = w from t.trans hw]; exact K)
theorem ty_11_33 {n k v : Int} (hk : dk_is n 11 k) : dk_Ty k 33 v ↔ (v = k + 21) := by
  show dk_tyS (dk_site k) k 33 v ↔ _
  rw [hk.2.2]
  show dk_ty11 k 33 v ↔ _
  simp [dk_ty11]
theorem gf_11_33 {E : dkE} {cc : ByteArray} {own : String} {d : Nat} {l0 : Launch} {G0 : dkG} {n00 : Int} {nL0 mc ms : Nat} (hE : dk_Good E cc own d dk_Ty l0 G0 n00 nL0 mc ms) {pc pc' : Nat} {ls st : List dkV} {n : Int} {σ : dkS} {k w : Int} {ix : Nat} {fin : Bool} (hF : dk_FL own ix 11 33 fin 4) (hd : decode cc pc = .ok (.getfield ix, 3)) (hk : dk_is n 11 k) (hw : k + 21 = w) (hp : pc + 3 = pc') (K : dk_PJ E pc' ls ((4, w) :: st) n σ) : dk_PJ E pc ls ((4, k) :: st) n σ :=
  dk_getf hE hF hd hk rfl hp (fun t _ => by have t := (ty_11_33 hk).mp t; rw [show σ k ((33 : Nat) : Int) = w from t.trans hw]; exact K)
theorem ty_11_34 {n k v : Int} (hk : dk_is n 11 k) : dk_Ty k 34 v ↔ (v = k + 22) := by
  show dk_tyS (dk_site k) k 34 v ↔ _
  rw [hk.2.2]
  show dk_ty11 k 34 v ↔ _
  simp [dk_ty11]
theorem gf_11_34 {E : dkE} {cc : ByteArray} {own : String} {d : Nat} {l0 : Launch} {G0 : dkG} {n00 : Int} {nL0 mc ms : Nat} (hE : dk_Good E cc own d dk_Ty l0 G0 n00 nL0 mc ms) {pc pc' : Nat} {ls st : List dkV} {n : Int} {σ : dkS} {k w : Int} {ix : Nat} {fin : Bool} (hF : dk_FL own ix 11 34 fin 4) (hd : decode cc pc = .ok (.getfield ix, 3)) (hk : dk_is n 11 k) (hw : k + 22 = w) (hp : pc + 3 = pc') (K : dk_PJ E pc' ls ((4, w) :: st) n σ) : dk_PJ E pc ls ((4, k) :: st) n σ :=
  dk_getf hE hF hd hk rfl hp (fun t _ => by have t := (ty_11_34 hk).mp t; rw [show σ k ((34 : Nat) : Int) = w from t.trans hw]; exact K)
theorem ty_11_35 {n k v : Int} (hk : dk_is n 11 k) : dk_Ty k 35 v ↔ (v = k + 23) := by
  show dk_tyS (dk_site k) k 35 v ↔ _
  rw [hk.2.2]
  show dk_ty11 k 35 v ↔ _
  simp [dk_ty11]
theorem gf_11_35 {E : dkE} {cc : ByteArray} {own : String} {d : Nat} {l0 : Launch} {G0 : dkG} {n00 : Int} {nL0 mc ms : Nat} (hE : dk_Good E cc own d dk_Ty l0 G0 n00 nL0 mc ms) {pc pc' : Nat} {ls st : List dkV} {n : Int} {σ : dkS} {k w : Int} {ix : Nat} {fin : Bool} (hF : dk_FL own ix 11 35 fin 4) (hd : decode cc pc = .ok (.getfield ix, 3)) (hk : dk_is n 11 k) (hw : k + 23 = w) (hp : pc + 3 = pc') (K : dk_PJ E pc' ls ((4, w) :: st) n σ) : dk_PJ E pc ls ((4, k) :: st) n σ :=
  dk_getf hE hF hd hk rfl hp (fun t _ => by have t := (ty_11_35 hk).mp t; rw [show σ k ((35 : Nat) : Int) = w from t.trans hw]; exact K)
theorem ty_11_36 {n k v : Int} (hk : dk_is n 11 k) : dk_Ty k 36 v ↔ (v = k + 24) := by
  show dk_tyS (dk_site k) k 36 v ↔ _
  rw [hk.2.2]
  show dk_ty11 k 36 v ↔ _
  simp [dk_ty11]
theorem gf_11_36 {E : dkE} {cc : ByteArray} {own : String} {d : Nat} {l0 : Launch} {G0 : dkG} {n00 : Int} {nL0 mc ms : Nat} (hE : dk_Good E cc own d dk_Ty l0 G0 n00 nL0 mc ms) {pc pc' : Nat} {ls st : List dkV} {n : Int} {σ : dkS} {k w : Int} {ix : Nat} {fin : Bool} (hF : dk_FL own ix 11 36 fin 4) (hd : decode cc pc = .ok (.getfield ix, 3)) (hk : dk_is n 11 k) (hw : k + 24 = w) (hp : pc + 3 = pc') (K : dk_PJ E pc' ls ((4, w) :: st) n σ) : dk_PJ E pc ls ((4, k) :: st) n σ :=
  dk_getf hE hF hd hk rfl hp (fun t _ => by have t := (ty_11_36 hk).mp t; rw [show σ k ((36 : Nat) : Int) = w from t.trans hw]; exact K)
theorem ty_11_37 {n k v : Int} (hk : dk_is n 11 k) : dk_Ty k 37 v ↔ (v = k + 25) := by
  show dk_tyS (dk_site k) k 37 v ↔ _
  rw [hk.2.2]
  show dk_ty11 k 37 v ↔ _
  simp [dk_ty11]
theorem gf_11_37 {E : dkE} {cc : ByteArray} {own : String} {d : Nat} {l0 : Launch} {G0 : dkG} {n00 : Int} {nL0 mc ms : Nat} (hE : dk_Good E cc own d dk_Ty l0 G0 n00 nL0 mc ms) {pc pc' : Nat} {ls st : List dkV} {n : Int} {σ : dkS} {k w : Int} {ix : Nat} {fin : Bool} (hF : dk_FL own ix 11 37 fin 4) (hd : decode cc pc = .ok (.getfield ix, 3)) (hk : dk_is n 11 k) (hw : k + 25 = w) (hp : pc + 3 = pc') (K : dk_PJ E pc' ls ((4, w) :: st) n σ) : dk_PJ E pc ls ((4, k) :: st) n σ :=
  dk_getf hE hF hd hk rfl hp (fun t _ => by have t := (ty_11_37 hk).mp t; rw [show σ k ((37 : Nat) : Int) = w from t.trans hw]; exact K)
theorem ty_11_38 {n k v : Int} (hk : dk_is n 11 k) : dk_Ty k 38 v ↔ (v = k + 26) := by
  show dk_tyS (dk_site k) k 38 v ↔ _
  rw [hk.2.2]
  show dk_ty11 k 38 v ↔ _
  simp [dk_ty11]
theorem gf_11_38 {E : dkE} {cc : ByteArray} {own : String} {d : Nat} {l0 : Launch} {G0 : dkG} {n00 : Int} {nL0 mc ms : Nat} (hE : dk_Good E cc own d dk_Ty l0 G0 n00 nL0 mc ms) {pc pc' : Nat} {ls st : List dkV} {n : Int} {σ : dkS} {k w : Int} {ix : Nat} {fin : Bool} (hF : dk_FL own ix 11 38 fin 4) (hd : decode cc pc = .ok (.getfield ix, 3)) (hk : dk_is n 11 k) (hw : k + 26 = w) (hp : pc + 3 = pc') (K : dk_PJ E pc' ls ((4, w) :: st) n σ) : dk_PJ E pc ls ((4, k) :: st) n σ :=
  dk_getf hE hF hd hk rfl hp (fun t _ => by have t := (ty_11_38 hk).mp t; rw [show σ k ((38 : Nat) : Int) = w from t.trans hw]; exact K)
theorem ty_11_39 {n k v : Int} (hk : dk_is n 11 k) : dk_Ty k 39 v ↔ (v = k + 27) := by
  show dk_tyS (dk_site k) k 39 v ↔ _
  rw [hk.2.2]
  show dk_ty11 k 39 v ↔ _
  simp [dk_ty11]
theorem gf_11_39 {E : dkE} {cc : ByteArray} {own : String} {d : Nat} {l0 : Launch} {G0 : dkG} {n00 : Int} {nL0 mc ms : Nat} (hE : dk_Good E cc own d dk_Ty l0 G0 n00 nL0 mc ms) {pc pc' : Nat} {ls st : List dkV} {n : Int} {σ : dkS} {k w : Int} {ix : Nat} {fin : Bool} (hF : dk_FL own ix 11 39 fin 4) (hd : decode cc pc = .ok (.getfield ix, 3)) (hk : dk_is n 11 k) (hw : k + 27 = w) (hp : pc + 3 = pc') (K : dk_PJ E pc' ls ((4, w) :: st) n σ) : dk_PJ E pc ls ((4, k) :: st) n σ :=
  dk_getf hE hF hd hk rfl hp (fun t _ => by have t := (ty_11_39 hk).mp t; rw [show σ k ((39 : Nat) : Int) = w from t.trans hw]; exact K)
theorem ty_11_40 {n k v : Int} (hk : dk_is n 11 k) : dk_Ty k 40 v ↔ (v = k + 28) := by
  show dk_tyS (dk_site k) k 40 v ↔ _
  rw [hk.2.2]
  show dk_ty11 k 40 v ↔ _
  simp [dk_ty11]
theorem gf_11_40 {E : dkE} {cc : ByteArray} {own : String} {d : Nat} {l0 : Launch} {G0 : dkG} {n00 : Int} {nL0 mc ms : Nat} (hE : dk_Good E cc own d dk_Ty l0 G0 n00 nL0 mc ms) {pc pc' : Nat} {ls st : List dkV} {n : Int} {σ : dkS} {k w : Int} {ix : Nat} {fin : Bool} (hF : dk_FL own ix 11 40 fin 4) (hd : decode cc pc = .ok (.getfield ix, 3)) (hk : dk_is n 11 k) (hw : k + 28 = w) (hp : pc + 3 = pc') (K : dk_PJ E pc' ls ((4, w) :: st) n σ) : dk_PJ E pc ls ((4, k) :: st) n σ :=
  dk_getf hE hF hd hk rfl hp (fun t _ => by have t := (ty_11_40 hk).mp t; rw [show σ k ((40 : Nat) : Int) = w from t.trans hw]; exact K)
theorem ty_11_41 {n k v : Int} (hk : dk_is n 11 k) : dk_Ty k 41 v ↔ (0 ≤ v ∧ v ≤ 6) := by
  show dk_tyS (dk_site k) k 41 v ↔ _
  rw [hk.2.2]
  show dk_ty11 k 41 v ↔ _
  simp [dk_ty11]
theorem gf_11_41 {E : dkE} {cc : ByteArray} {own : String} {d : Nat} {l0 : Launch} {G0 : dkG} {n00 : Int} {nL0 mc ms : Nat} (hE : dk_Good E cc own d dk_Ty l0 G0 n00 nL0 mc ms) {pc pc' : Nat} {ls st : List dkV} {n : Int} {σ : dkS} {k : Int} {ix : Nat} {fin : Bool} (hF : dk_FL own ix 11 41 fin 0) (hd : decode cc pc = .ok (.getfield ix, 3)) (hk : dk_is n 11 k) (hp : pc + 3 = pc') (K : ∀ v : Int, v = σ k 41 → (0 ≤ v ∧ v ≤ 6) → dk_i32 v → dk_PJ E pc' ls ((0, v) :: st) n σ) : dk_PJ E pc ls ((4, k) :: st) n σ :=
  dk_getf hE hF hd hk rfl hp (fun t q => K _ rfl ((ty_11_41 hk).mp t) q)
theorem pf_11_41 {E : dkE} {cc : ByteArray} {own : String} {d : Nat} {l0 : Launch} {G0 : dkG} {n00 : Int} {nL0 mc ms : Nat} (hE : dk_Good E cc own d dk_Ty l0 G0 n00 nL0 mc ms) {pc pc' : Nat} {ls st : List dkV} {n : Int} {σ : dkS} {k z : Int} {ix : Nat} (hF : dk_FL own ix 11 41 false 0) (hd : decode cc pc = .ok (.putfield ix, 3)) (hk : dk_is n 11 k) (ht : 0 ≤ z ∧ z ≤ 6) (hp : pc + 3 = pc') (K : ∀ σ1 : dkS, σ1 = dk_up σ k 41 z → dk_PJ E pc' ls st n σ1) : dk_PJ E pc ls ((0, z) :: (4, k) :: st) n σ :=
  dk_putf hE hF hd hk rfl (fun h => h.1 rfl) ((ty_11_41 hk).mpr ht) hp (K _ rfl)
theorem ty_11_42 {n k v : Int} (hk : dk_is n 11 k) : dk_Ty k 42 v ↔ (0 ≤ v ∧ v ≤ 1199) := by
  show dk_tyS (dk_site k) k 42 v ↔ _
  rw [hk.2.2]
  show dk_ty11 k 42 v ↔ _
  simp [dk_ty11]
theorem gf_11_42 {E : dkE} {cc : ByteArray} {own : String} {d : Nat} {l0 : Launch} {G0 : dkG} {n00 : Int} {nL0 mc ms : Nat} (hE : dk_Good E cc own d dk_Ty l0 G0 n00 nL0 mc ms) {pc pc' : Nat} {ls st : List dkV} {n : Int} {σ : dkS} {k : Int} {ix : Nat} {fin : Bool} (hF : dk_FL own ix 11 42 fin 0) (hd : decode cc pc = .ok (.getfield ix, 3)) (hk : dk_is n 11 k) (hp : pc + 3 = pc') (K : ∀ v : Int, v = σ k 42 → (0 ≤ v ∧ v ≤ 1199) → dk_i32 v → dk_PJ E pc' ls ((0, v) :: st) n σ) : dk_PJ E pc ls ((4, k) :: st) n σ :=
  dk_getf hE hF hd hk rfl hp (fun t q => K _ rfl ((ty_11_42 hk).mp t) q)
theorem pf_11_42 {E : dkE} {cc : ByteArray} {own : String} {d : Nat} {l0 : Launch} {G0 : dkG} {n00 : Int} {nL0 mc ms : Nat} (hE : dk_Good E cc own d dk_Ty l0 G0 n00 nL0 mc ms) {pc pc' : Nat} {ls st : List dkV} {n : Int} {σ : dkS} {k z : Int} {ix : Nat} (hF : dk_FL own ix 11 42 false 0) (hd : decode cc pc = .ok (.putfield ix, 3)) (hk : dk_is n 11 k) (ht : 0 ≤ z ∧ z ≤ 1199) (hp : pc + 3 = pc') (K : ∀ σ1 : dkS, σ1 = dk_up σ k 42 z → dk_PJ E pc' ls st n σ1) : dk_PJ E pc ls ((0, z) :: (4, k) :: st) n σ :=
  dk_putf hE hF hd hk rfl (fun h => h.1 rfl) ((ty_11_42 hk).mpr ht) hp (K _ rfl)
theorem ty_11_43 {n k v : Int} (hk : dk_is n 11 k) : dk_Ty k 43 v ↔ (0 ≤ v ∧ v ≤ 60) := by
  show dk_tyS (dk_site k) k 43 v ↔ _
  rw [hk.2.2]
  show dk_ty11 k 43 v ↔ _
  simp [dk_ty11]
theorem gf_11_43 {E : dkE} {cc : ByteArray} {own : String} {d : Nat} {l0 : Launch} {G0 : dkG} {n00 : Int} {nL0 mc ms : Nat} (hE : dk_Good E cc own d dk_Ty l0 G0 n00 nL0 mc ms) {pc pc' : Nat} {ls st : List dkV} {n : Int} {σ : dkS} {k : Int} {ix : Nat} {fin : Bool} (hF : dk_FL own ix 11 43 fin 0) (hd : decode cc pc = .ok (.getfield ix, 3)) (hk : dk_is n 11 k) (hp : pc + 3 = pc') (K : ∀ v : Int, v = σ k 43 → (0 ≤ v ∧ v ≤ 60) → dk_i32 v → dk_PJ E pc' ls ((0, v) :: st) n σ) : dk_PJ E pc ls ((4, k) :: st) n σ :=
  dk_getf hE hF hd hk rfl hp (fun t q => K _ rfl ((ty_11_43 hk).mp t) q)
theorem pf_11_43 {E : dkE} {cc : ByteArray} {own : String} {d : Nat} {l0 : Launch} {G0 : dkG} {n00 : Int} {nL0 mc ms : Nat} (hE : dk_Good E cc own d dk_Ty l0 G0 n00 nL0 mc ms) {pc pc' : Nat} {ls st : List dkV} {n : Int} {σ : dkS} {k z : Int} {ix : Nat} (hF : dk_FL own ix 11 43 false 0) (hd : decode cc pc = .ok (.putfield ix, 3)) (hk : dk_is n 11 k) (ht : 0 ≤ z ∧ z ≤ 60) (hp : pc + 3 = pc') (K : ∀ σ1 : dkS, σ1 = dk_up σ k 43 z → dk_PJ E pc' ls st n σ1) : dk_PJ E pc ls ((0, z) :: (4, k) :: st) n σ :=
  dk_putf hE hF hd hk rfl (fun h => h.1 rfl) ((ty_11_43 hk).mpr ht) hp (K _ rfl)
theorem ty_11_44 {n k v : Int} (hk : dk_is n 11 k) : dk_Ty k 44 v ↔ (True) := by
  show dk_tyS (dk_site k) k 44 v ↔ _
  rw [hk.2.2]
  show dk_ty11 k 44 v ↔ _
  simp [dk_ty11]
theorem gf_11_44 {E : dkE} {cc : ByteArray} {own : String} {d : Nat} {l0 : Launch} {G0 : dkG} {n00 : Int} {nL0 mc ms : Nat} (hE : dk_Good E cc own d dk_Ty l0 G0 n00 nL0 mc ms) {pc pc' : Nat} {ls st : List dkV} {n : Int} {σ : dkS} {k : Int} {ix : Nat} {fin : Bool} (hF : dk_FL own ix 11 44 fin 0) (hd : decode cc pc = .ok (.getfield ix, 3)) (hk : dk_is n 11 k) (hp : pc + 3 = pc') (K : ∀ v : Int, v = σ k 44 → (True) → dk_i32 v → dk_PJ E pc' ls ((0, v) :: st) n σ) : dk_PJ E pc ls ((4, k) :: st) n σ :=
  dk_getf hE hF hd hk rfl hp (fun t q => K _ rfl ((ty_11_44 hk).mp t) q)
theorem pf_11_44 {E : dkE} {cc : ByteArray} {own : String} {d : Nat} {l0 : Launch} {G0 : dkG} {n00 : Int} {nL0 mc ms : Nat} (hE : dk_Good E cc own d dk_Ty l0 G0 n00 nL0 mc ms) {pc pc' : Nat} {ls st : List dkV} {n : Int} {σ : dkS} {k z : Int} {ix : Nat} (hF : dk_FL own ix 11 44 false 0) (hd : decode cc pc = .ok (.putfield ix, 3)) (hk : dk_is n 11 k) (ht : True) (hp : pc + 3 = pc') (K : ∀ σ1 : dkS, σ1 = dk_up σ k 44 z → dk_PJ E pc' ls st n σ1) : dk_PJ E pc ls ((0, z) :: (4, k) :: st) n σ :=
  dk_putf hE hF hd hk rfl (fun h => h.1 rfl) ((ty_11_44 hk).mpr ht) hp (K _ rfl)
theorem ty_11_45 {n k v : Int} (hk : dk_is n 11 k) : dk_Ty k 45 v ↔ (0 ≤ v ∧ v ≤ 80) := by
  show dk_tyS (dk_site k) k 45 v ↔ _
  rw [hk.2.2]
  show dk_ty11 k 45 v ↔ _
  simp [dk_ty11]
theorem gf_11_45 {E : dkE} {cc : ByteArray} {own : String} {d : Nat} {l0 : Launch} {G0 : dkG} {n00 : Int} {nL0 mc ms : Nat} (hE : dk_Good E cc own d dk_Ty l0 G0 n00 nL0 mc ms) {pc pc' : Nat} {ls st : List dkV} {n : Int} {σ : dkS} {k : Int} {ix : Nat} {fin : Bool} (hF : dk_FL own ix 11 45 fin 0) (hd : decode cc pc = .ok (.getfield ix, 3)) (hk : dk_is n 11 k) (hp : pc + 3 = pc') (K : ∀ v : Int, v = σ k 45 → (0 ≤ v ∧ v ≤ 80) → dk_i32 v → dk_PJ E pc' ls ((0, v) :: st) n σ) : dk_PJ E pc ls ((4, k) :: st) n σ :=
  dk_getf hE hF hd hk rfl hp (fun t q => K _ rfl ((ty_11_45 hk).mp t) q)
theorem pf_11_45 {E : dkE} {cc : ByteArray} {own : String} {d : Nat} {l0 : Launch} {G0 : dkG} {n00 : Int} {nL0 mc ms : Nat} (hE : dk_Good E cc own d dk_Ty l0 G0 n00 nL0 mc ms) {pc pc' : Nat} {ls st : List dkV} {n : Int} {σ : dkS} {k z : Int} {ix : Nat} (hF : dk_FL own ix 11 45 false 0) (hd : decode cc pc = .ok (.putfield ix, 3)) (hk : dk_is n 11 k) (ht : 0 ≤ z ∧ z ≤ 80) (hp : pc + 3 = pc') (K : ∀ σ1 : dkS, σ1 = dk_up σ k 45 z → dk_PJ E pc' ls st n σ1) : dk_PJ E pc ls ((0, z) :: (4, k) :: st) n σ :=
  dk_putf hE hF hd hk rfl (fun h => h.1 rfl) ((ty_11_45 hk).mpr ht) hp (K _ rfl)
theorem ty_11_46 {n k v : Int} (hk : dk_is n 11 k) : dk_Ty k 46 v ↔ (v = k + 29) := by
  show dk_tyS (dk_site k) k 46 v ↔ _
  rw [hk.2.2]
  show dk_ty11 k 46 v ↔ _
  simp [dk_ty11]
theorem gf_11_46 {E : dkE} {cc : ByteArray} {own : String} {d : Nat} {l0 : Launch} {G0 : dkG} {n00 : Int} {nL0 mc ms : Nat} (hE : dk_Good E cc own d dk_Ty l0 G0 n00 nL0 mc ms) {pc pc' : Nat} {ls st : List dkV} {n : Int} {σ : dkS} {k w : Int} {ix : Nat} {fin : Bool} (hF : dk_FL own ix 11 46 fin 4) (hd : decode cc pc = .ok (.getfield ix, 3)) (hk : dk_is n 11 k) (hw : k + 29 = w) (hp : pc + 3 = pc') (K : dk_PJ E pc' ls ((4, w) :: st) n σ) : dk_PJ E pc ls ((4, k) :: st) n σ :=
  dk_getf hE hF hd hk rfl hp (fun t _ => by have t := (ty_11_46 hk).mp t; rw [show σ k ((46 : Nat) : Int) = w from t.trans hw]; exact K)
theorem ty_11_47 {n k v : Int} (hk : dk_is n 11 k) : dk_Ty k 47 v ↔ (v = k + 30) := by
  show dk_tyS (dk_site k) k 47 v ↔ _
  rw [hk.2.2]
  show dk_ty11 k 47 v ↔ _
  simp [dk_ty11]
theorem gf_11_47 {E : dkE} {cc : ByteArray} {own : String} {d : Nat} {l0 : Launch} {G0 : dkG} {n00 : Int} {nL0 mc ms : Nat} (hE : dk_Good E cc own d dk_Ty l0 G0 n00 nL0 mc ms) {pc pc' : Nat} {ls st : List dkV} {n : Int} {σ : dkS} {k w : Int} {ix : Nat} {fin : Bool} (hF : dk_FL own ix 11 47 fin 4) (hd : decode cc pc = .ok (.getfield ix, 3)) (hk : dk_is n 11 k) (hw : k + 30 = w) (hp : pc + 3 = pc') (K : dk_PJ E pc' ls ((4, w) :: st) n σ) : dk_PJ E pc ls ((4, k) :: st) n σ :=
  dk_getf hE hF hd hk rfl hp (fun t _ => by have t := (ty_11_47 hk).mp t; rw [show σ k ((47 : Nat) : Int) = w from t.trans hw]; exact K)
theorem ty_11_48 {n k v : Int} (hk : dk_is n 11 k) : dk_Ty k 48 v ↔ (v = k + 31) := by
  show dk_tyS (dk_site k) k 48 v ↔ _
  rw [hk.2.2]
  show dk_ty11 k 48 v ↔ _
  simp [dk_ty11]
theorem gf_11_48 {E : dkE} {cc : ByteArray} {own : String} {d : Nat} {l0 : Launch} {G0 : dkG} {n00 : Int} {nL0 mc ms : Nat} (hE : dk_Good E cc own d dk_Ty l0 G0 n00 nL0 mc ms) {pc pc' : Nat} {ls st : List dkV} {n : Int} {σ : dkS} {k w : Int} {ix : Nat} {fin : Bool} (hF : dk_FL own ix 11 48 fin 4) (hd : decode cc pc = .ok (.getfield ix, 3)) (hk : dk_is n 11 k) (hw : k + 31 = w) (hp : pc + 3 = pc') (K : dk_PJ E pc' ls ((4, w) :: st) n σ) : dk_PJ E pc ls ((4, k) :: st) n σ :=
  dk_getf hE hF hd hk rfl hp (fun t _ => by have t := (ty_11_48 hk).mp t; rw [show σ k ((48 : Nat) : Int) = w from t.trans hw]; exact K)
theorem ty_11_49 {n k v : Int} (hk : dk_is n 11 k) : dk_Ty k 49 v ↔ (v = k + 32) := by
  show dk_tyS (dk_site k) k 49 v ↔ _
  rw [hk.2.2]
  show dk_ty11 k 49 v ↔ _
  simp [dk_ty11]
theorem gf_11_49 {E : dkE} {cc : ByteArray} {own : String} {d : Nat} {l0 : Launch} {G0 : dkG} {n00 : Int} {nL0 mc ms : Nat} (hE : dk_Good E cc own d dk_Ty l0 G0 n00 nL0 mc ms) {pc pc' : Nat} {ls st : List dkV} {n : Int} {σ : dkS} {k w : Int} {ix : Nat} {fin : Bool} (hF : dk_FL own ix 11 49 fin 4) (hd : decode cc pc = .ok (.getfield ix, 3)) (hk : dk_is n 11 k) (hw : k + 32 = w) (hp : pc + 3 = pc') (K : dk_PJ E pc' ls ((4, w) :: st) n σ) : dk_PJ E pc ls ((4, k) :: st) n σ :=
  dk_getf hE hF hd hk rfl hp (fun t _ => by have t := (ty_11_49 hk).mp t; rw [show σ k ((49 : Nat) : Int) = w from t.trans hw]; exact K)
theorem ty_11_50 {n k v : Int} (hk : dk_is n 11 k) : dk_Ty k 50 v ↔ (v = k + 33) := by
  show dk_tyS (dk_site k) k 50 v ↔ _
  rw [hk.2.2]
  show dk_ty11 k 50 v ↔ _
  simp [dk_ty11]
theorem gf_11_50 {E : dkE} {cc : ByteArray} {own : String} {d : Nat} {l0 : Launch} {G0 : dkG} {n00 : Int} {nL0 mc ms : Nat} (hE : dk_Good E cc own d dk_Ty l0 G0 n00 nL0 mc ms) {pc pc' : Nat} {ls st : List dkV} {n : Int} {σ : dkS} {k w : Int} {ix : Nat} {fin : Bool} (hF : dk_FL own ix 11 50 fin 4) (hd : decode cc pc = .ok (.getfield ix, 3)) (hk : dk_is n 11 k) (hw : k + 33 = w) (hp : pc + 3 = pc') (K : dk_PJ E pc' ls ((4, w) :: st) n σ) : dk_PJ E pc ls ((4, k) :: st) n σ :=
  dk_getf hE hF hd hk rfl hp (fun t _ => by have t := (ty_11_50 hk).mp t; rw [show σ k ((50 : Nat) : Int) = w from t.trans hw]; exact K)
theorem ty_11_51 {n k v : Int} (hk : dk_is n 11 k) : dk_Ty k 51 v ↔ (v = k + 34) := by
  show dk_tyS (dk_site k) k 51 v ↔ _
  rw [hk.2.2]
  show dk_ty11 k 51 v ↔ _
  simp [dk_ty11]
theorem gf_11_51 {E : dkE} {cc : ByteArray} {own : String} {d : Nat} {l0 : Launch} {G0 : dkG} {n00 : Int} {nL0 mc ms : Nat} (hE : dk_Good E cc own d dk_Ty l0 G0 n00 nL0 mc ms) {pc pc' : Nat} {ls st : List dkV} {n : Int} {σ : dkS} {k w : Int} {ix : Nat} {fin : Bool} (hF : dk_FL own ix 11 51 fin 4) (hd : decode cc pc = .ok (.getfield ix, 3)) (hk : dk_is n 11 k) (hw : k + 34 = w) (hp : pc + 3 = pc') (K : dk_PJ E pc' ls ((4, w) :: st) n σ) : dk_PJ E pc ls ((4, k) :: st) n σ :=
  dk_getf hE hF hd hk rfl hp (fun t _ => by have t := (ty_11_51 hk).mp t; rw [show σ k ((51 : Nat) : Int) = w from t.trans hw]; exact K)
theorem ty_11_52 {n k v : Int} (hk : dk_is n 11 k) : dk_Ty k 52 v ↔ (0 ≤ v ∧ v ≤ 10) := by
  show dk_tyS (dk_site k) k 52 v ↔ _
  rw [hk.2.2]
  show dk_ty11 k 52 v ↔ _
  simp [dk_ty11]
theorem gf_11_52 {E : dkE} {cc : ByteArray} {own : String} {d : Nat} {l0 : Launch} {G0 : dkG} {n00 : Int} {nL0 mc ms : Nat} (hE : dk_Good E cc own d dk_Ty l0 G0 n00 nL0 mc ms) {pc pc' : Nat} {ls st : List dkV} {n : Int} {σ : dkS} {k : Int} {ix : Nat} {fin : Bool} (hF : dk_FL own ix 11 52 fin 0) (hd : decode cc pc = .ok (.getfield ix, 3)) (hk : dk_is n 11 k) (hp : pc + 3 = pc') (K : ∀ v : Int, v = σ k 52 → (0 ≤ v ∧ v ≤ 10) → dk_i32 v → dk_PJ E pc' ls ((0, v) :: st) n σ) : dk_PJ E pc ls ((4, k) :: st) n σ :=
  dk_getf hE hF hd hk rfl hp (fun t q => K _ rfl ((ty_11_52 hk).mp t) q)
theorem pf_11_52 {E : dkE} {cc : ByteArray} {own : String} {d : Nat} {l0 : Launch} {G0 : dkG} {n00 : Int} {nL0 mc ms : Nat} (hE : dk_Good E cc own d dk_Ty l0 G0 n00 nL0 mc ms) {pc pc' : Nat} {ls st : List dkV} {n : Int} {σ : dkS} {k z : Int} {ix : Nat} (hF : dk_FL own ix 11 52 false 0) (hd : decode cc pc = .ok (.putfield ix, 3)) (hk : dk_is n 11 k) (ht : 0 ≤ z ∧ z ≤ 10) (hp : pc + 3 = pc') (K : ∀ σ1 : dkS, σ1 = dk_up σ k 52 z → dk_PJ E pc' ls st n σ1) : dk_PJ E pc ls ((0, z) :: (4, k) :: st) n σ :=
  dk_putf hE hF hd hk rfl (fun h => h.1 rfl) ((ty_11_52 hk).mpr ht) hp (K _ rfl)
theorem ty_11_53 {n k v : Int} (hk : dk_is n 11 k) : dk_Ty k 53 v ↔ (0 ≤ v ∧ v ≤ 200) := by
  show dk_tyS (dk_site k) k 53 v ↔ _
  rw [hk.2.2]
  show dk_ty11 k 53 v ↔ _
  simp [dk_ty11]
theorem gf_11_53 {E : dkE} {cc : ByteArray} {own : String} {d : Nat} {l0 : Launch} {G0 : dkG} {n00 : Int} {nL0 mc ms : Nat} (hE : dk_Good E cc own d dk_Ty l0 G0 n00 nL0 mc ms) {pc pc' : Nat} {ls st : List dkV} {n : Int} {σ : dkS} {k : Int} {ix : Nat} {fin : Bool} (hF : dk_FL own ix 11 53 fin 0) (hd : decode cc pc = .ok (.getfield ix, 3)) (hk : dk_is n 11 k) (hp : pc + 3 = pc') (K : ∀ v : Int, v = σ k 53 → (0 ≤ v ∧ v ≤ 200) → dk_i32 v → dk_PJ E pc' ls ((0, v) :: st) n σ) : dk_PJ E pc ls ((4, k) :: st) n σ :=
  dk_getf hE hF hd hk rfl hp (fun t q => K _ rfl ((ty_11_53 hk).mp t) q)
theorem pf_11_53 {E : dkE} {cc : ByteArray} {own : String} {d : Nat} {l0 : Launch} {G0 : dkG} {n00 : Int} {nL0 mc ms : Nat} (hE : dk_Good E cc own d dk_Ty l0 G0 n00 nL0 mc ms) {pc pc' : Nat} {ls st : List dkV} {n : Int} {σ : dkS} {k z : Int} {ix : Nat} (hF : dk_FL own ix 11 53 false 0) (hd : decode cc pc = .ok (.putfield ix, 3)) (hk : dk_is n 11 k) (ht : 0 ≤ z ∧ z ≤ 200) (hp : pc + 3 = pc') (K : ∀ σ1 : dkS, σ1 = dk_up σ k 53 z → dk_PJ E pc' ls st n σ1) : dk_PJ E pc ls ((0, z) :: (4, k) :: st) n σ :=
  dk_putf hE hF hd hk rfl (fun h => h.1 rfl) ((ty_11_53 hk).mpr ht) hp (K _ rfl)
theorem ty_11_54 {n k v : Int} (hk : dk_is n 11 k) : dk_Ty k 54 v ↔ (0 ≤ v ∧ v ≤ 100000) := by
  show dk_tyS (dk_site k) k 54 v ↔ _
  rw [hk.2.2]
  show dk_ty11 k 54 v ↔ _
  simp [dk_ty11]
theorem gf_11_54 {E : dkE} {cc : ByteArray} {own : String} {d : Nat} {l0 : Launch} {G0 : dkG} {n00 : Int} {nL0 mc ms : Nat} (hE : dk_Good E cc own d dk_Ty l0 G0 n00 nL0 mc ms) {pc pc' : Nat} {ls st : List dkV} {n : Int} {σ : dkS} {k : Int} {ix : Nat} {fin : Bool} (hF : dk_FL own ix 11 54 fin 0) (hd : decode cc pc = .ok (.getfield ix, 3)) (hk : dk_is n 11 k) (hp : pc + 3 = pc') (K : ∀ v : Int, v = σ k 54 → (0 ≤ v ∧ v ≤ 100000) → dk_i32 v → dk_PJ E pc' ls ((0, v) :: st) n σ) : dk_PJ E pc ls ((4, k) :: st) n σ :=
  dk_getf hE hF hd hk rfl hp (fun t q => K _ rfl ((ty_11_54 hk).mp t) q)
theorem pf_11_54 {E : dkE} {cc : ByteArray} {own : String} {d : Nat} {l0 : Launch} {G0 : dkG} {n00 : Int} {nL0 mc ms : Nat} (hE : dk_Good E cc own d dk_Ty l0 G0 n00 nL0 mc ms) {pc pc' : Nat} {ls st : List dkV} {n : Int} {σ : dkS} {k z : Int} {ix : Nat} (hF : dk_FL own ix 11 54 false 0) (hd : decode cc pc = .ok (.putfield ix, 3)) (hk : dk_is n 11 k) (ht : 0 ≤ z ∧ z ≤ 100000) (hp : pc + 3 = pc') (K : ∀ σ1 : dkS, σ1 = dk_up σ k 54 z → dk_PJ E pc' ls st n σ1) : dk_PJ E pc ls ((0, z) :: (4, k) :: st) n σ :=
  dk_putf hE hF hd hk rfl (fun h => h.1 rfl) ((ty_11_54 hk).mpr ht) hp (K _ rfl)
theorem ty_11_55 {n k v : Int} (hk : dk_is n 11 k) : dk_Ty k 55 v ↔ (True) := by
  show dk_tyS (dk_site k) k 55 v ↔ _
  rw [hk.2.2]
  show dk_ty11 k 55 v ↔ _
  simp [dk_ty11]
theorem gf_11_55 {E : dkE} {cc : ByteArray} {own : String} {d : Nat} {l0 : Launch} {G0 : dkG} {n00 : Int} {nL0 mc ms : Nat} (hE : dk_Good E cc own d dk_Ty l0 G0 n00 nL0 mc ms) {pc pc' : Nat} {ls st : List dkV} {n : Int} {σ : dkS} {k : Int} {ix : Nat} {fin : Bool} (hF : dk_FL own ix 11 55 fin 0) (hd : decode cc pc = .ok (.getfield ix, 3)) (hk : dk_is n 11 k) (hp : pc + 3 = pc') (K : ∀ v : Int, v = σ k 55 → (True) → dk_i32 v → dk_PJ E pc' ls ((0, v) :: st) n σ) : dk_PJ E pc ls ((4, k) :: st) n σ :=
  dk_getf hE hF hd hk rfl hp (fun t q => K _ rfl ((ty_11_55 hk).mp t) q)
theorem pf_11_55 {E : dkE} {cc : ByteArray} {own : String} {d : Nat} {l0 : Launch} {G0 : dkG} {n00 : Int} {nL0 mc ms : Nat} (hE : dk_Good E cc own d dk_Ty l0 G0 n00 nL0 mc ms) {pc pc' : Nat} {ls st : List dkV} {n : Int} {σ : dkS} {k z : Int} {ix : Nat} (hF : dk_FL own ix 11 55 false 0) (hd : decode cc pc = .ok (.putfield ix, 3)) (hk : dk_is n 11 k) (ht : True) (hp : pc + 3 = pc') (K : ∀ σ1 : dkS, σ1 = dk_up σ k 55 z → dk_PJ E pc' ls st n σ1) : dk_PJ E pc ls ((0, z) :: (4, k) :: st) n σ :=
  dk_putf hE hF hd hk rfl (fun h => h.1 rfl) ((ty_11_55 hk).mpr ht) hp (K _ rfl)
theorem ty_11_56 {n k v : Int} (hk : dk_is n 11 k) : dk_Ty k 56 v ↔ (0 ≤ v ∧ v ≤ 11) := by
  show dk_tyS (dk_site k) k 56 v ↔ _
  rw [hk.2.2]
  show dk_ty11 k 56 v ↔ _
  simp [dk_ty11]
theorem gf_11_56 {E : dkE} {cc : ByteArray} {own : String} {d : Nat} {l0 : Launch} {G0 : dkG} {n00 : Int} {nL0 mc ms : Nat} (hE : dk_Good E cc own d dk_Ty l0 G0 n00 nL0 mc ms) {pc pc' : Nat} {ls st : List dkV} {n : Int} {σ : dkS} {k : Int} {ix : Nat} {fin : Bool} (hF : dk_FL own ix 11 56 fin 0) (hd : decode cc pc = .ok (.getfield ix, 3)) (hk : dk_is n 11 k) (hp : pc + 3 = pc') (K : ∀ v : Int, v = σ k 56 → (0 ≤ v ∧ v ≤ 11) → dk_i32 v → dk_PJ E pc' ls ((0, v) :: st) n σ) : dk_PJ E pc ls ((4, k) :: st) n σ :=
  dk_getf hE hF hd hk rfl hp (fun t q => K _ rfl ((ty_11_56 hk).mp t) q)
theorem pf_11_56 {E : dkE} {cc : ByteArray} {own : String} {d : Nat} {l0 : Launch} {G0 : dkG} {n00 : Int} {nL0 mc ms : Nat} (hE : dk_Good E cc own d dk_Ty l0 G0 n00 nL0 mc ms) {pc pc' : Nat} {ls st : List dkV} {n : Int} {σ : dkS} {k z : Int} {ix : Nat} (hF : dk_FL own ix 11 56 false 0) (hd : decode cc pc = .ok (.putfield ix, 3)) (hk : dk_is n 11 k) (ht : 0 ≤ z ∧ z ≤ 11) (hp : pc + 3 = pc') (K : ∀ σ1 : dkS, σ1 = dk_up σ k 56 z → dk_PJ E pc' ls st n σ1) : dk_PJ E pc ls ((0, z) :: (4, k) :: st) n σ :=
  dk_putf hE hF hd hk rfl (fun h => h.1 rfl) ((ty_11_56 hk).mpr ht) hp (K _ rfl)
theorem ty_11_57 {n k v : Int} (hk : dk_is n 11 k) : dk_Ty k 57 v ↔ (True) := by
  show dk_tyS (dk_site k) k 57 v ↔ _
  rw [hk.2.2]
  show dk_ty11 k 57 v ↔ _
  simp [dk_ty11]
theorem gf_11_57 {E : dkE} {cc : ByteArray} {own : String} {d : Nat} {l0 : Launch} {G0 : dkG} {n00 : Int} {nL0 mc ms : Nat} (hE : dk_Good E cc own d dk_Ty l0 G0 n00 nL0 mc ms) {pc pc' : Nat} {ls st : List dkV} {n : Int} {σ : dkS} {k : Int} {ix : Nat} {fin : Bool} (hF : dk_FL own ix 11 57 fin 0) (hd : decode cc pc = .ok (.getfield ix, 3)) (hk : dk_is n 11 k) (hp : pc + 3 = pc') (K : ∀ v : Int, v = σ k 57 → (True) → dk_i32 v → dk_PJ E pc' ls ((0, v) :: st) n σ) : dk_PJ E pc ls ((4, k) :: st) n σ :=
  dk_getf hE hF hd hk rfl hp (fun t q => K _ rfl ((ty_11_57 hk).mp t) q)
theorem pf_11_57 {E : dkE} {cc : ByteArray} {own : String} {d : Nat} {l0 : Launch} {G0 : dkG} {n00 : Int} {nL0 mc ms : Nat} (hE : dk_Good E cc own d dk_Ty l0 G0 n00 nL0 mc ms) {pc pc' : Nat} {ls st : List dkV} {n : Int} {σ : dkS} {k z : Int} {ix : Nat} (hF : dk_FL own ix 11 57 false 0) (hd : decode cc pc = .ok (.putfield ix, 3)) (hk : dk_is n 11 k) (ht : True) (hp : pc + 3 = pc') (K : ∀ σ1 : dkS, σ1 = dk_up σ k 57 z → dk_PJ E pc' ls st n σ1) : dk_PJ E pc ls ((0, z) :: (4, k) :: st) n σ :=
  dk_putf hE hF hd hk rfl (fun h => h.1 rfl) ((ty_11_57 hk).mpr ht) hp (K _ rfl)
theorem ty_11_58 {n k v : Int} (hk : dk_is n 11 k) : dk_Ty k 58 v ↔ (True) := by
  show dk_tyS (dk_site k) k 58 v ↔ _
  rw [hk.2.2]
  show dk_ty11 k 58 v ↔ _
  simp [dk_ty11]
theorem gf_11_58 {E : dkE} {cc : ByteArray} {own : String} {d : Nat} {l0 : Launch} {G0 : dkG} {n00 : Int} {nL0 mc ms : Nat} (hE : dk_Good E cc own d dk_Ty l0 G0 n00 nL0 mc ms) {pc pc' : Nat} {ls st : List dkV} {n : Int} {σ : dkS} {k : Int} {ix : Nat} {fin : Bool} (hF : dk_FL own ix 11 58 fin 0) (hd : decode cc pc = .ok (.getfield ix, 3)) (hk : dk_is n 11 k) (hp : pc + 3 = pc') (K : ∀ v : Int, v = σ k 58 → (True) → dk_i32 v → dk_PJ E pc' ls ((0, v) :: st) n σ) : dk_PJ E pc ls ((4, k) :: st) n σ :=
  dk_getf hE hF hd hk rfl hp (fun t q => K _ rfl ((ty_11_58 hk).mp t) q)
theorem pf_11_58 {E : dkE} {cc : ByteArray} {own : String} {d : Nat} {l0 : Launch} {G0 : dkG} {n00 : Int} {nL0 mc ms : Nat} (hE : dk_Good E cc own d dk_Ty l0 G0 n00 nL0 mc ms) {pc pc' : Nat} {ls st : List dkV} {n : Int} {σ : dkS} {k z : Int} {ix : Nat} (hF : dk_FL own ix 11 58 false 0) (hd : decode cc pc = .ok (.putfield ix, 3)) (hk : dk_is n 11 k) (ht : True) (hp : pc + 3 = pc') (K : ∀ σ1 : dkS, σ1 = dk_up σ k 58 z → dk_PJ E pc' ls st n σ1) : dk_PJ E pc ls ((0, z) :: (4, k) :: st) n σ :=
  dk_putf hE hF hd hk rfl (fun h => h.1 rfl) ((ty_11_58 hk).mpr ht) hp (K _ rfl)
theorem ty_11_59 {n k v : Int} (hk : dk_is n 11 k) : dk_Ty k 59 v ↔ (True) := by
  show dk_tyS (dk_site k) k 59 v ↔ _
  rw [hk.2.2]
  show dk_ty11 k 59 v ↔ _
  simp [dk_ty11]
theorem gf_11_59 {E : dkE} {cc : ByteArray} {own : String} {d : Nat} {l0 : Launch} {G0 : dkG} {n00 : Int} {nL0 mc ms : Nat} (hE : dk_Good E cc own d dk_Ty l0 G0 n00 nL0 mc ms) {pc pc' : Nat} {ls st : List dkV} {n : Int} {σ : dkS} {k : Int} {ix : Nat} {fin : Bool} (hF : dk_FL own ix 11 59 fin 0) (hd : decode cc pc = .ok (.getfield ix, 3)) (hk : dk_is n 11 k) (hp : pc + 3 = pc') (K : ∀ v : Int, v = σ k 59 → (True) → dk_i32 v → dk_PJ E pc' ls ((0, v) :: st) n σ) : dk_PJ E pc ls ((4, k) :: st) n σ :=
  dk_getf hE hF hd hk rfl hp (fun t q => K _ rfl ((ty_11_59 hk).mp t) q)
theorem pf_11_59 {E : dkE} {cc : ByteArray} {own : String} {d : Nat} {l0 : Launch} {G0 : dkG} {n00 : Int} {nL0 mc ms : Nat} (hE : dk_Good E cc own d dk_Ty l0 G0 n00 nL0 mc ms) {pc pc' : Nat} {ls st : List dkV} {n : Int} {σ : dkS} {k z : Int} {ix : Nat} (hF : dk_FL own ix 11 59 false 0) (hd : decode cc pc = .ok (.putfield ix, 3)) (hk : dk_is n 11 k) (ht : True) (hp : pc + 3 = pc') (K : ∀ σ1 : dkS, σ1 = dk_up σ k 59 z → dk_PJ E pc' ls st n σ1) : dk_PJ E pc ls ((0, z) :: (4, k) :: st) n σ :=
  dk_putf hE hF hd hk rfl (fun h => h.1 rfl) ((ty_11_59 hk).mpr ht) hp (K _ rfl)
theorem ty_11_60 {n k v : Int} (hk : dk_is n 11 k) : dk_Ty k 60 v ↔ (True) := by
  show dk_tyS (dk_site k) k 60 v ↔ _
  rw [hk.2.2]
  show dk_ty11 k 60 v ↔ _
  simp [dk_ty11]
theorem gf_11_60 {E : dkE} {cc : ByteArray} {own : String} {d : Nat} {l0 : Launch} {G0 : dkG} {n00 : Int} {nL0 mc ms : Nat} (hE : dk_Good E cc own d dk_Ty l0 G0 n00 nL0 mc ms) {pc pc' : Nat} {ls st : List dkV} {n : Int} {σ : dkS} {k : Int} {ix : Nat} {fin : Bool} (hF : dk_FL own ix 11 60 fin 0) (hd : decode cc pc = .ok (.getfield ix, 3)) (hk : dk_is n 11 k) (hp : pc + 3 = pc') (K : ∀ v : Int, v = σ k 60 → (True) → dk_i32 v → dk_PJ E pc' ls ((0, v) :: st) n σ) : dk_PJ E pc ls ((4, k) :: st) n σ :=
  dk_getf hE hF hd hk rfl hp (fun t q => K _ rfl ((ty_11_60 hk).mp t) q)
theorem pf_11_60 {E : dkE} {cc : ByteArray} {own : String} {d : Nat} {l0 : Launch} {G0 : dkG} {n00 : Int} {nL0 mc ms : Nat} (hE : dk_Good E cc own d dk_Ty l0 G0 n00 nL0 mc ms) {pc pc' : Nat} {ls st : List dkV} {n : Int} {σ : dkS} {k z : Int} {ix : Nat} (hF : dk_FL own ix 11 60 false 0) (hd : decode cc pc = .ok (.putfield ix, 3)) (hk : dk_is n 11 k) (ht : True) (hp : pc + 3 = pc') (K : ∀ σ1 : dkS, σ1 = dk_up σ k 60 z → dk_PJ E pc' ls st n σ1) : dk_PJ E pc ls ((0, z) :: (4, k) :: st) n σ :=
  dk_putf hE hF hd hk rfl (fun h => h.1 rfl) ((ty_11_60 hk).mpr ht) hp (K _ rfl)
theorem ty_11_61 {n k v : Int} (hk : dk_is n 11 k) : dk_Ty k 61 v ↔ (True) := by
  show dk_tyS (dk_site k) k 61 v ↔ _
  rw [hk.2.2]
  show dk_ty11 k 61 v ↔ _
  simp [dk_ty11]
theorem gf_11_61 {E : dkE} {cc : ByteArray} {own : String} {d : Nat} {l0 : Launch} {G0 : dkG} {n00 : Int} {nL0 mc ms : Nat} (hE : dk_Good E cc own d dk_Ty l0 G0 n00 nL0 mc ms) {pc pc' : Nat} {ls st : List dkV} {n : Int} {σ : dkS} {k : Int} {ix : Nat} {fin : Bool} (hF : dk_FL own ix 11 61 fin 0) (hd : decode cc pc = .ok (.getfield ix, 3)) (hk : dk_is n 11 k) (hp : pc + 3 = pc') (K : ∀ v : Int, v = σ k 61 → (True) → dk_i32 v → dk_PJ E pc' ls ((0, v) :: st) n σ) : dk_PJ E pc ls ((4, k) :: st) n σ :=
  dk_getf hE hF hd hk rfl hp (fun t q => K _ rfl ((ty_11_61 hk).mp t) q)
theorem pf_11_61 {E : dkE} {cc : ByteArray} {own : String} {d : Nat} {l0 : Launch} {G0 : dkG} {n00 : Int} {nL0 mc ms : Nat} (hE : dk_Good E cc own d dk_Ty l0 G0 n00 nL0 mc ms) {pc pc' : Nat} {ls st : List dkV} {n : Int} {σ : dkS} {k z : Int} {ix : Nat} (hF : dk_FL own ix 11 61 false 0) (hd : decode cc pc = .ok (.putfield ix, 3)) (hk : dk_is n 11 k) (ht : True) (hp : pc + 3 = pc') (K : ∀ σ1 : dkS, σ1 = dk_up σ k 61 z → dk_PJ E pc' ls st n σ1) : dk_PJ E pc ls ((0, z) :: (4, k) :: st) n σ :=
  dk_putf hE hF hd hk rfl (fun h => h.1 rfl) ((ty_11_61 hk).mpr ht) hp (K _ rfl)
theorem ty_11_62 {n k v : Int} (hk : dk_is n 11 k) : dk_Ty k 62 v ↔ (v = k + 35) := by
  show dk_tyS (dk_site k) k 62 v ↔ _
  rw [hk.2.2]
  show dk_ty11 k 62 v ↔ _
  simp [dk_ty11]
theorem gf_11_62 {E : dkE} {cc : ByteArray} {own : String} {d : Nat} {l0 : Launch} {G0 : dkG} {n00 : Int} {nL0 mc ms : Nat} (hE : dk_Good E cc own d dk_Ty l0 G0 n00 nL0 mc ms) {pc pc' : Nat} {ls st : List dkV} {n : Int} {σ : dkS} {k w : Int} {ix : Nat} {fin : Bool} (hF : dk_FL own ix 11 62 fin 4) (hd : decode cc pc = .ok (.getfield ix, 3)) (hk : dk_is n 11 k) (hw : k + 35 = w) (hp : pc + 3 = pc') (K : dk_PJ E pc' ls ((4, w) :: st) n σ) : dk_PJ E pc ls ((4, k) :: st) n σ :=
  dk_getf hE hF hd hk rfl hp (fun t _ => by have t := (ty_11_62 hk).mp t; rw [show σ k ((62 : Nat) : Int) = w from t.trans hw]; exact K)
theorem ty_11_63 {n k v : Int} (hk : dk_is n 11 k) : dk_Ty k 63 v ↔ (v = k + 36) := by
  show dk_tyS (dk_site k) k 63 v ↔ _
  rw [hk.2.2]
  show dk_ty11 k 63 v ↔ _
  simp [dk_ty11]
theorem gf_11_63 {E : dkE} {cc : ByteArray} {own : String} {d : Nat} {l0 : Launch} {G0 : dkG} {n00 : Int} {nL0 mc ms : Nat} (hE : dk_Good E cc own d dk_Ty l0 G0 n00 nL0 mc ms) {pc pc' : Nat} {ls st : List dkV} {n : Int} {σ : dkS} {k w : Int} {ix : Nat} {fin : Bool} (hF : dk_FL own ix 11 63 fin 4) (hd : decode cc pc = .ok (.getfield ix, 3)) (hk : dk_is n 11 k) (hw : k + 36 = w) (hp : pc + 3 = pc') (K : dk_PJ E pc' ls ((4, w) :: st) n σ) : dk_PJ E pc ls ((4, k) :: st) n σ :=
  dk_getf hE hF hd hk rfl hp (fun t _ => by have t := (ty_11_63 hk).mp t; rw [show σ k ((63 : Nat) : Int) = w from t.trans hw]; exact K)
theorem ty_11_64 {n k v : Int} (hk : dk_is n 11 k) : dk_Ty k 64 v ↔ (v = k + 37) := by
  show dk_tyS (dk_site k) k 64 v ↔ _
  rw [hk.2.2]
  show dk_ty11 k 64 v ↔ _
  simp [dk_ty11]
theorem gf_11_64 {E : dkE} {cc : ByteArray} {own : String} {d : Nat} {l0 : Launch} {G0 : dkG} {n00 : Int} {nL0 mc ms : Nat} (hE : dk_Good E cc own d dk_Ty l0 G0 n00 nL0 mc ms) {pc pc' : Nat} {ls st : List dkV} {n : Int} {σ : dkS} {k w : Int} {ix : Nat} {fin : Bool} (hF : dk_FL own ix 11 64 fin 4) (hd : decode cc pc = .ok (.getfield ix, 3)) (hk : dk_is n 11 k) (hw : k + 37 = w) (hp : pc + 3 = pc') (K : dk_PJ E pc' ls ((4, w) :: st) n σ) : dk_PJ E pc ls ((4, k) :: st) n σ :=
  dk_getf hE hF hd hk rfl hp (fun t _ => by have t := (ty_11_64 hk).mp t; rw [show σ k ((64 : Nat) : Int) = w from t.trans hw]; exact K)
theorem ty_11_65 {n k v : Int} (hk : dk_is n 11 k) : dk_Ty k 65 v ↔ (v = k + 38) := by
  show dk_tyS (dk_site k) k 65 v ↔ _
  rw [hk.2.2]
  show dk_ty11 k 65 v ↔ _
  simp [dk_ty11]
theorem gf_11_65 {E : dkE} {cc : ByteArray} {own : String} {d : Nat} {l0 : Launch} {G0 : dkG} {n00 : Int} {nL0 mc ms : Nat} (hE : dk_Good E cc own d dk_Ty l0 G0 n00 nL0 mc ms) {pc pc' : Nat} {ls st : List dkV} {n : Int} {σ : dkS} {k w : Int} {ix : Nat} {fin : Bool} (hF : dk_FL own ix 11 65 fin 4) (hd : decode cc pc = .ok (.getfield ix, 3)) (hk : dk_is n 11 k) (hw : k + 38 = w) (hp : pc + 3 = pc') (K : dk_PJ E pc' ls ((4, w) :: st) n σ) : dk_PJ E pc ls ((4, k) :: st) n σ :=
  dk_getf hE hF hd hk rfl hp (fun t _ => by have t := (ty_11_65 hk).mp t; rw [show σ k ((65 : Nat) : Int) = w from t.trans hw]; exact K)
theorem ty_11_66 {n k v : Int} (hk : dk_is n 11 k) : dk_Ty k 66 v ↔ (v = k + 39) := by
  show dk_tyS (dk_site k) k 66 v ↔ _
  rw [hk.2.2]
  show dk_ty11 k 66 v ↔ _
  simp [dk_ty11]
theorem gf_11_66 {E : dkE} {cc : ByteArray} {own : String} {d : Nat} {l0 : Launch} {G0 : dkG} {n00 : Int} {nL0 mc ms : Nat} (hE : dk_Good E cc own d dk_Ty l0 G0 n00 nL0 mc ms) {pc pc' : Nat} {ls st : List dkV} {n : Int} {σ : dkS} {k w : Int} {ix : Nat} {fin : Bool} (hF : dk_FL own ix 11 66 fin 4) (hd : decode cc pc = .ok (.getfield ix, 3)) (hk : dk_is n 11 k) (hw : k + 39 = w) (hp : pc + 3 = pc') (K : dk_PJ E pc' ls ((4, w) :: st) n σ) : dk_PJ E pc ls ((4, k) :: st) n σ :=
  dk_getf hE hF hd hk rfl hp (fun t _ => by have t := (ty_11_66 hk).mp t; rw [show σ k ((66 : Nat) : Int) = w from t.trans hw]; exact K)
theorem ty_11_67 {n k v : Int} (hk : dk_is n 11 k) : dk_Ty k 67 v ↔ (v = k + 40) := by
  show dk_tyS (dk_site k) k 67 v ↔ _
  rw [hk.2.2]
  show dk_ty11 k 67 v ↔ _
  simp [dk_ty11]
theorem gf_11_67 {E : dkE} {cc : ByteArray} {own : String} {d : Nat} {l0 : Launch} {G0 : dkG} {n00 : Int} {nL0 mc ms : Nat} (hE : dk_Good E cc own d dk_Ty l0 G0 n00 nL0 mc ms) {pc pc' : Nat} {ls st : List dkV} {n : Int} {σ : dkS} {k w : Int} {ix : Nat} {fin : Bool} (hF : dk_FL own ix 11 67 fin 4) (hd : decode cc pc = .ok (.getfield ix, 3)) (hk : dk_is n 11 k) (hw : k + 40 = w) (hp : pc + 3 = pc') (K : dk_PJ E pc' ls ((4, w) :: st) n σ) : dk_PJ E pc ls ((4, k) :: st) n σ :=
  dk_getf hE hF hd hk rfl hp (fun t _ => by have t := (ty_11_67 hk).mp t; rw [show σ k ((67 : Nat) : Int) = w from t.trans hw]; exact K)
theorem ty_11_68 {n k v : Int} (hk : dk_is n 11 k) : dk_Ty k 68 v ↔ (v = k + 41) := by
  show dk_tyS (dk_site k) k 68 v ↔ _
  rw [hk.2.2]
  show dk_ty11 k 68 v ↔ _
  simp [dk_ty11]
theorem gf_11_68 {E : dkE} {cc : ByteArray} {own : String} {d : Nat} {l0 : Launch} {G0 : dkG} {n00 : Int} {nL0 mc ms : Nat} (hE : dk_Good E cc own d dk_Ty l0 G0 n00 nL0 mc ms) {pc pc' : Nat} {ls st : List dkV} {n : Int} {σ : dkS} {k w : Int} {ix : Nat} {fin : Bool} (hF : dk_FL own ix 11 68 fin 4) (hd : decode cc pc = .ok (.getfield ix, 3)) (hk : dk_is n 11 k) (hw : k + 41 = w) (hp : pc + 3 = pc') (K : dk_PJ E pc' ls ((4, w) :: st) n σ) : dk_PJ E pc ls ((4, k) :: st) n σ :=
  dk_getf hE hF hd hk rfl hp (fun t _ => by have t := (ty_11_68 hk).mp t; rw [show σ k ((68 : Nat) : Int) = w from t.trans hw]; exact K)
theorem ty_11_69 {n k v : Int} (hk : dk_is n 11 k) : dk_Ty k 69 v ↔ (v = k + 42) := by
  show dk_tyS (dk_site k) k 69 v ↔ _
  rw [hk.2.2]
  show dk_ty11 k 69 v ↔ _
  simp [dk_ty11]
theorem gf_11_69 {E : dkE} {cc : ByteArray} {own : String} {d : Nat} {l0 : Launch} {G0 : dkG} {n00 : Int} {nL0 mc ms : Nat} (hE : dk_Good E cc own d dk_Ty l0 G0 n00 nL0 mc ms) {pc pc' : Nat} {ls st : List dkV} {n : Int} {σ : dkS} {k w : Int} {ix : Nat} {fin : Bool} (hF : dk_FL own ix 11 69 fin 4) (hd : decode cc pc = .ok (.getfield ix, 3)) (hk : dk_is n 11 k) (hw : k + 42 = w) (hp : pc + 3 = pc') (K : dk_PJ E pc' ls ((4, w) :: st) n σ) : dk_PJ E pc ls ((4, k) :: st) n σ :=
  dk_getf hE hF hd hk rfl hp (fun t _ => by have t := (ty_11_69 hk).mp t; rw [show σ k ((69 : Nat) : Int) = w from t.trans hw]; exact K)
theorem ty_11_70 {n k v : Int} (hk : dk_is n 11 k) : dk_Ty k 70 v ↔ (0 ≤ v ∧ v ≤ 8) := by
  show dk_tyS (dk_site k) k 70 v ↔ _
  rw [hk.2.2]
  show dk_ty11 k 70 v ↔ _
  simp [dk_ty11]
theorem gf_11_70 {E : dkE} {cc : ByteArray} {own : String} {d : Nat} {l0 : Launch} {G0 : dkG} {n00 : Int} {nL0 mc ms : Nat} (hE : dk_Good E cc own d dk_Ty l0 G0 n00 nL0 mc ms) {pc pc' : Nat} {ls st : List dkV} {n : Int} {σ : dkS} {k : Int} {ix : Nat} {fin : Bool} (hF : dk_FL own ix 11 70 fin 0) (hd : decode cc pc = .ok (.getfield ix, 3)) (hk : dk_is n 11 k) (hp : pc + 3 = pc') (K : ∀ v : Int, v = σ k 70 → (0 ≤ v ∧ v ≤ 8) → dk_i32 v → dk_PJ E pc' ls ((0, v) :: st) n σ) : dk_PJ E pc ls ((4, k) :: st) n σ :=
  dk_getf hE hF hd hk rfl hp (fun t q => K _ rfl ((ty_11_70 hk).mp t) q)
theorem pf_11_70 {E : dkE} {cc : ByteArray} {own : String} {d : Nat} {l0 : Launch} {G0 : dkG} {n00 : Int} {nL0 mc ms : Nat} (hE : dk_Good E cc own d dk_Ty l0 G0 n00 nL0 mc ms) {pc pc' : Nat} {ls st : List dkV} {n : Int} {σ : dkS} {k z : Int} {ix : Nat} (hF : dk_FL own ix 11 70 false 0) (hd : decode cc pc = .ok (.putfield ix, 3)) (hk : dk_is n 11 k) (ht : 0 ≤ z ∧ z ≤ 8) (hp : pc + 3 = pc') (K : ∀ σ1 : dkS, σ1 = dk_up σ k 70 z → dk_PJ E pc' ls st n σ1) : dk_PJ E pc ls ((0, z) :: (4, k) :: st) n σ :=
  dk_putf hE hF hd hk rfl (fun h => h.1 rfl) ((ty_11_70 hk).mpr ht) hp (K _ rfl)
theorem ty_11_71 {n k v : Int} (hk : dk_is n 11 k) : dk_Ty k 71 v ↔ (True) := by
  show dk_tyS (dk_site k) k 71 v ↔ _
  rw [hk.2.2]
  show dk_ty11 k 71 v ↔ _
  simp [dk_ty11]
theorem gf_11_71 {E : dkE} {cc : ByteArray} {own : String} {d : Nat} {l0 : Launch} {G0 : dkG} {n00 : Int} {nL0 mc ms : Nat} (hE : dk_Good E cc own d dk_Ty l0 G0 n00 nL0 mc ms) {pc pc' : Nat} {ls st : List dkV} {n : Int} {σ : dkS} {k : Int} {ix : Nat} {fin : Bool} (hF : dk_FL own ix 11 71 fin 0) (hd : decode cc pc = .ok (.getfield ix, 3)) (hk : dk_is n 11 k) (hp : pc + 3 = pc') (K : ∀ v : Int, v = σ k 71 → (True) → dk_i32 v → dk_PJ E pc' ls ((0, v) :: st) n σ) : dk_PJ E pc ls ((4, k) :: st) n σ :=
  dk_getf hE hF hd hk rfl hp (fun t q => K _ rfl ((ty_11_71 hk).mp t) q)
theorem pf_11_71 {E : dkE} {cc : ByteArray} {own : String} {d : Nat} {l0 : Launch} {G0 : dkG} {n00 : Int} {nL0 mc ms : Nat} (hE : dk_Good E cc own d dk_Ty l0 G0 n00 nL0 mc ms) {pc pc' : Nat} {ls st : List dkV} {n : Int} {σ : dkS} {k z : Int} {ix : Nat} (hF : dk_FL own ix 11 71 false 0) (hd : decode cc pc = .ok (.putfield ix, 3)) (hk : dk_is n 11 k) (ht : True) (hp : pc + 3 = pc') (K : ∀ σ1 : dkS, σ1 = dk_up σ k 71 z → dk_PJ E pc' ls st n σ1) : dk_PJ E pc ls ((0, z) :: (4, k) :: st) n σ :=
  dk_putf hE hF hd hk rfl (fun h => h.1 rfl) ((ty_11_71 hk).mpr ht) hp (K _ rfl)
theorem ty_11_72 {n k v : Int} (hk : dk_is n 11 k) : dk_Ty k 72 v ↔ (True) := by
  show dk_tyS (dk_site k) k 72 v ↔ _
  rw [hk.2.2]
  show dk_ty11 k 72 v ↔ _
  simp [dk_ty11]
theorem gf_11_72 {E : dkE} {cc : ByteArray} {own : String} {d : Nat} {l0 : Launch} {G0 : dkG} {n00 : Int} {nL0 mc ms : Nat} (hE : dk_Good E cc own d dk_Ty l0 G0 n00 nL0 mc ms) {pc pc' : Nat} {ls st : List dkV} {n : Int} {σ : dkS} {k : Int} {ix : Nat} {fin : Bool} (hF : dk_FL own ix 11 72 fin 3) (hd : decode cc pc = .ok (.getfield ix, 3)) (hk : dk_is n 11 k) (hp : pc + 3 = pc') (K : ∀ v : Int, v = σ k 72 → (True) → dk_i64 v → dk_PJ E pc' ls ((3, v) :: st) n σ) : dk_PJ E pc ls ((4, k) :: st) n σ :=
  dk_getf hE hF hd hk rfl hp (fun t q => K _ rfl ((ty_11_72 hk).mp t) q)
theorem pf_11_72 {E : dkE} {cc : ByteArray} {own : String} {d : Nat} {l0 : Launch} {G0 : dkG} {n00 : Int} {nL0 mc ms : Nat} (hE : dk_Good E cc own d dk_Ty l0 G0 n00 nL0 mc ms) {pc pc' : Nat} {ls st : List dkV} {n : Int} {σ : dkS} {k z : Int} {ix : Nat} (hF : dk_FL own ix 11 72 false 3) (hd : decode cc pc = .ok (.putfield ix, 3)) (hk : dk_is n 11 k) (ht : True) (hp : pc + 3 = pc') (K : ∀ σ1 : dkS, σ1 = dk_up σ k 72 z → dk_PJ E pc' ls st n σ1) : dk_PJ E pc ls ((3, z) :: (4, k) :: st) n σ :=
  dk_putf hE hF hd hk rfl (fun h => h.2 rfl) ((ty_11_72 hk).mpr ht) hp (K _ rfl)
theorem ty_11_73 {n k v : Int} (hk : dk_is n 11 k) : dk_Ty k 73 v ↔ (v = k + 43) := by
  show dk_tyS (dk_site k) k 73 v ↔ _
  rw [hk.2.2]
  show dk_ty11 k 73 v ↔ _
  simp [dk_ty11]
theorem gf_11_73 {E : dkE} {cc : ByteArray} {own : String} {d : Nat} {l0 : Launch} {G0 : dkG} {n00 : Int} {nL0 mc ms : Nat} (hE : dk_Good E cc own d dk_Ty l0 G0 n00 nL0 mc ms) {pc pc' : Nat} {ls st : List dkV} {n : Int} {σ : dkS} {k w : Int} {ix : Nat} {fin : Bool} (hF : dk_FL own ix 11 73 fin 4) (hd : decode cc pc = .ok (.getfield ix, 3)) (hk : dk_is n 11 k) (hw : k + 43 = w) (hp : pc + 3 = pc') (K : dk_PJ E pc' ls ((4, w) :: st) n σ) : dk_PJ E pc ls ((4, k) :: st) n σ :=
  dk_getf hE hF hd hk rfl hp (fun t _ => by have t := (ty_11_73 hk).mp t; rw [show σ k ((73 : Nat) : Int) = w from t.trans hw]; exact K)
theorem ty_11_74 {n k v : Int} (hk : dk_is n 11 k) : dk_Ty k 74 v ↔ (v = k + 44) := by
  show dk_tyS (dk_site k) k 74 v ↔ _
  rw [hk.2.2]
  show dk_ty11 k 74 v ↔ _
  simp [dk_ty11]
theorem gf_11_74 {E : dkE} {cc : ByteArray} {own : String} {d : Nat} {l0 : Launch} {G0 : dkG} {n00 : Int} {nL0 mc ms : Nat} (hE : dk_Good E cc own d dk_Ty l0 G0 n00 nL0 mc ms) {pc pc' : Nat} {ls st : List dkV} {n : Int} {σ : dkS} {k w : Int} {ix : Nat} {fin : Bool} (hF : dk_FL own ix 11 74 fin 4) (hd : decode cc pc = .ok (.getfield ix, 3)) (hk : dk_is n 11 k) (hw : k + 44 = w) (hp : pc + 3 = pc') (K : dk_PJ E pc' ls ((4, w) :: st) n σ) : dk_PJ E pc ls ((4, k) :: st) n σ :=
  dk_getf hE hF hd hk rfl hp (fun t _ => by have t := (ty_11_74 hk).mp t; rw [show σ k ((74 : Nat) : Int) = w from t.trans hw]; exact K)
theorem ty_11_75 {n k v : Int} (hk : dk_is n 11 k) : dk_Ty k 75 v ↔ (v = k + 45) := by
  show dk_tyS (dk_site k) k 75 v ↔ _
  rw [hk.2.2]
  show dk_ty11 k 75 v ↔ _
  simp [dk_ty11]
theorem gf_11_75 {E : dkE} {cc : ByteArray} {own : String} {d : Nat} {l0 : Launch} {G0 : dkG} {n00 : Int} {nL0 mc ms : Nat} (hE : dk_Good E cc own d dk_Ty l0 G0 n00 nL0 mc ms) {pc pc' : Nat} {ls st : List dkV} {n : Int} {σ : dkS} {k w : Int} {ix : Nat} {fin : Bool} (hF : dk_FL own ix 11 75 fin 4) (hd : decode cc pc = .ok (.getfield ix, 3)) (hk : dk_is n 11 k) (hw : k + 45 = w) (hp : pc + 3 = pc') (K : dk_PJ E pc' ls ((4, w) :: st) n σ) : dk_PJ E pc ls ((4, k) :: st) n σ :=
  dk_getf hE hF hd hk rfl hp (fun t _ => by have t := (ty_11_75 hk).mp t; rw [show σ k ((75 : Nat) : Int) = w from t.trans hw]; exact K)
theorem ty_11_76 {n k v : Int} (hk : dk_is n 11 k) : dk_Ty k 76 v ↔ (v = k + 46) := by
  show dk_tyS (dk_site k) k 76 v ↔ _
  rw [hk.2.2]
  show dk_ty11 k 76 v ↔ _
  simp [dk_ty11]
theorem gf_11_76 {E : dkE} {cc : ByteArray} {own : String} {d : Nat} {l0 : Launch} {G0 : dkG} {n00 : Int} {nL0 mc ms : Nat} (hE : dk_Good E cc own d dk_Ty l0 G0 n00 nL0 mc ms) {pc pc' : Nat} {ls st : List dkV} {n : Int} {σ : dkS} {k w : Int} {ix : Nat} {fin : Bool} (hF : dk_FL own ix 11 76 fin 4) (hd : decode cc pc = .ok (.getfield ix, 3)) (hk : dk_is n 11 k) (hw : k + 46 = w) (hp : pc + 3 = pc') (K : dk_PJ E pc' ls ((4, w) :: st) n σ) : dk_PJ E pc ls ((4, k) :: st) n σ :=
  dk_getf hE hF hd hk rfl hp (fun t _ => by have t := (ty_11_76 hk).mp t; rw [show σ k ((76 : Nat) : Int) = w from t.trans hw]; exact K)
theorem ty_11_77 {n k v : Int} (hk : dk_is n 11 k) : dk_Ty k 77 v ↔ (v = k + 47) := by
  show dk_tyS (dk_site k) k 77 v ↔ _
  rw [hk.2.2]
  show dk_ty11 k 77 v ↔ _
  simp [dk_ty11]
theorem gf_11_77 {E : dkE} {cc : ByteArray} {own : String} {d : Nat} {l0 : Launch} {G0 : dkG} {n00 : Int} {nL0 mc ms : Nat} (hE : dk_Good E cc own d dk_Ty l0 G0 n00 nL0 mc ms) {pc pc' : Nat} {ls st : List dkV} {n : Int} {σ : dkS} {k w : Int} {ix : Nat} {fin : Bool} (hF : dk_FL own ix 11 77 fin 4) (hd : decode cc pc = .ok (.getfield ix, 3)) (hk : dk_is n 11 k) (hw : k + 47 = w) (hp : pc + 3 = pc') (K : dk_PJ E pc' ls ((4, w) :: st) n σ) : dk_PJ E pc ls ((4, k) :: st) n σ :=
  dk_getf hE hF hd hk rfl hp (fun t _ => by have t := (ty_11_77 hk).mp t; rw [show σ k ((77 : Nat) : Int) = w from t.trans hw]; exact K)
theorem ty_11_78 {n k v : Int} (hk : dk_is n 11 k) : dk_Ty k 78 v ↔ (v = k + 48) := by
  show dk_tyS (dk_site k) k 78 v ↔ _
  rw [hk.2.2]
  show dk_ty11 k 78 v ↔ _
  simp [dk_ty11]
theorem gf_11_78 {E : dkE} {cc : ByteArray} {own : String} {d : Nat} {l0 : Launch} {G0 : dkG} {n00 : Int} {nL0 mc ms : Nat} (hE : dk_Good E cc own d dk_Ty l0 G0 n00 nL0 mc ms) {pc pc' : Nat} {ls st : List dkV} {n : Int} {σ : dkS} {k w : Int} {ix : Nat} {fin : Bool} (hF : dk_FL own ix 11 78 fin 4) (hd : decode cc pc = .ok (.getfield ix, 3)) (hk : dk_is n 11 k) (hw : k + 48 = w) (hp : pc + 3 = pc') (K : dk_PJ E pc' ls ((4, w) :: st) n σ) : dk_PJ E pc ls ((4, k) :: st) n σ :=
  dk_getf hE hF hd hk rfl hp (fun t _ => by have t := (ty_11_78 hk).mp t; rw [show σ k ((78 : Nat) : Int) = w from t.trans hw]; exact K)
theorem ty_11_79 {n k v : Int} (hk : dk_is n 11 k) : dk_Ty k 79 v ↔ (0 ≤ v ∧ v ≤ 9) := by
  show dk_tyS (dk_site k) k 79 v ↔ _
  rw [hk.2.2]
  show dk_ty11 k 79 v ↔ _
  simp [dk_ty11]
theorem gf_11_79 {E : dkE} {cc : ByteArray} {own : String} {d : Nat} {l0 : Launch} {G0 : dkG} {n00 : Int} {nL0 mc ms : Nat} (hE : dk_Good E cc own d dk_Ty l0 G0 n00 nL0 mc ms) {pc pc' : Nat} {ls st : List dkV} {n : Int} {σ : dkS} {k : Int} {ix : Nat} {fin : Bool} (hF : dk_FL own ix 11 79 fin 0) (hd : decode cc pc = .ok (.getfield ix, 3)) (hk : dk_is n 11 k) (hp : pc + 3 = pc') (K : ∀ v : Int, v = σ k 79 → (0 ≤ v ∧ v ≤ 9) → dk_i32 v → dk_PJ E pc' ls ((0, v) :: st) n σ) : dk_PJ E pc ls ((4, k) :: st) n σ :=
  dk_getf hE hF hd hk rfl hp (fun t q => K _ rfl ((ty_11_79 hk).mp t) q)
theorem pf_11_79 {E : dkE} {cc : ByteArray} {own : String} {d : Nat} {l0 : Launch} {G0 : dkG} {n00 : Int} {nL0 mc ms : Nat} (hE : dk_Good E cc own d dk_Ty l0 G0 n00 nL0 mc ms) {pc pc' : Nat} {ls st : List dkV} {n : Int} {σ : dkS} {k z : Int} {ix : Nat} (hF : dk_FL own ix 11 79 false 0) (hd : decode cc pc = .ok (.putfield ix, 3)) (hk : dk_is n 11 k) (ht : 0 ≤ z ∧ z ≤ 9) (hp : pc + 3 = pc') (K : ∀ σ1 : dkS, σ1 = dk_up σ k 79 z → dk_PJ E pc' ls st n σ1) : dk_PJ E pc ls ((0, z) :: (4, k) :: st) n σ :=
  dk_putf hE hF hd hk rfl (fun h => h.1 rfl) ((ty_11_79 hk).mpr ht) hp (K _ rfl)
theorem ty_11_80 {n k v : Int} (hk : dk_is n 11 k) : dk_Ty k 80 v ↔ (1 ≤ v ∧ v ≤ 5) := by
  show dk_tyS (dk_site k) k 80 v ↔ _
  rw [hk.2.2]
  show dk_ty11 k 80 v ↔ _
  simp [dk_ty11]
theorem gf_11_80 {E : dkE} {cc : ByteArray} {own : String} {d : Nat} {l0 : Launch} {G0 : dkG} {n00 : Int} {nL0 mc ms : Nat} (hE : dk_Good E cc own d dk_Ty l0 G0 n00 nL0 mc ms) {pc pc' : Nat} {ls st : List dkV} {n : Int} {σ : dkS} {k : Int} {ix : Nat} {fin : Bool} (hF : dk_FL own ix 11 80 fin 0) (hd : decode cc pc = .ok (.getfield ix, 3)) (hk : dk_is n 11 k) (hp : pc + 3 = pc') (K : ∀ v : Int, v = σ k 80 → (1 ≤ v ∧ v ≤ 5) → dk_i32 v → dk_PJ E pc' ls ((0, v) :: st) n σ) : dk_PJ E pc ls ((4, k) :: st) n σ :=
  dk_getf hE hF hd hk rfl hp (fun t q => K _ rfl ((ty_11_80 hk).mp t) q)
theorem pf_11_80 {E : dkE} {cc : ByteArray} {own : String} {d : Nat} {l0 : Launch} {G0 : dkG} {n00 : Int} {nL0 mc ms : Nat} (hE : dk_Good E cc own d dk_Ty l0 G0 n00 nL0 mc ms) {pc pc' : Nat} {ls st : List dkV} {n : Int} {σ : dkS} {k z : Int} {ix : Nat} (hF : dk_FL own ix 11 80 false 0) (hd : decode cc pc = .ok (.putfield ix, 3)) (hk : dk_is n 11 k) (ht : 1 ≤ z ∧ z ≤ 5) (hp : pc + 3 = pc') (K : ∀ σ1 : dkS, σ1 = dk_up σ k 80 z → dk_PJ E pc' ls st n σ1) : dk_PJ E pc ls ((0, z) :: (4, k) :: st) n σ :=
  dk_putf hE hF hd hk rfl (fun h => h.1 rfl) ((ty_11_80 hk).mpr ht) hp (K _ rfl)
theorem ty_11_81 {n k v : Int} (hk : dk_is n 11 k) : dk_Ty k 81 v ↔ (True) := by
  show dk_tyS (dk_site k) k 81 v ↔ _
  rw [hk.2.2]
  show dk_ty11 k 81 v ↔ _
  simp [dk_ty11]
theorem gf_11_81 {E : dkE} {cc : ByteArray} {own : String} {d : Nat} {l0 : Launch} {G0 : dkG} {n00 : Int} {nL0 mc ms : Nat} (hE : dk_Good E cc own d dk_Ty l0 G0 n00 nL0 mc ms) {pc pc' : Nat} {ls st : List dkV} {n : Int} {σ : dkS} {k : Int} {ix : Nat} {fin : Bool} (hF : dk_FL own ix 11 81 fin 0) (hd : decode cc pc = .ok (.getfield ix, 3)) (hk : dk_is n 11 k) (hp : pc + 3 = pc') (K : ∀ v : Int, v = σ k 81 → (True) → dk_i32 v → dk_PJ E pc' ls ((0, v) :: st) n σ) : dk_PJ E pc ls ((4, k) :: st) n σ :=
  dk_getf hE hF hd hk rfl hp (fun t q => K _ rfl ((ty_11_81 hk).mp t) q)
theorem pf_11_81 {E : dkE} {cc : ByteArray} {own : String} {d : Nat} {l0 : Launch} {G0 : dkG} {n00 : Int} {nL0 mc ms : Nat} (hE : dk_Good E cc own d dk_Ty l0 G0 n00 nL0 mc ms) {pc pc' : Nat} {ls st : List dkV} {n : Int} {σ : dkS} {k z : Int} {ix : Nat} (hF : dk_FL own ix 11 81 false 0) (hd : decode cc pc = .ok (.putfield ix, 3)) (hk : dk_is n 11 k) (ht : True) (hp : pc + 3 = pc') (K : ∀ σ1 : dkS, σ1 = dk_up σ k 81 z → dk_PJ E pc' ls st n σ1) : dk_PJ E pc ls ((0, z) :: (4, k) :: st) n σ :=
  dk_putf hE hF hd hk rfl (fun h => h.1 rfl) ((ty_11_81 hk).mpr ht) hp (K _ rfl)
-- Tape.bytes
theorem ta_20 {n k i v : Int} (hk : dk_is n 20 k) : dk_Ty k i v ↔ (True) := by
  show dk_tyS (dk_site k) k i v ↔ _
  rw [hk.2.2]
  exact Iff.rfl
theorem ga_20 {E : dkE} {cc : ByteArray} {own : String} {d : Nat} {l0 : Launch} {G0 : dkG} {n00 : Int} {nL0 mc ms : Nat} (hE : dk_Good E cc own d dk_Ty l0 G0 n00 nL0 mc ms) {pc pc' : Nat} {ls st : List dkV} {n : Int} {σ : dkS} {k i : Int} (hd : decode cc pc = .ok (.baload, 1)) (hk : dk_is n 20 k) (hi : 0 ≤ i ∧ i < 1400) (hp : pc + 1 = pc') (K : ∀ v : Int, v = σ k i → (True) → (-128 ≤ v ∧ v ≤ 127) → dk_PJ E pc' ls ((0, v) :: st) n σ) : dk_PJ E pc ls ((0, i) :: (4, k) :: st) n σ :=
  dk_bald hE hd hk rfl hi hp (fun t q => K _ rfl ((ta_20 hk).mp t) q)
theorem pa_20 {E : dkE} {cc : ByteArray} {own : String} {d : Nat} {l0 : Launch} {G0 : dkG} {n00 : Int} {nL0 mc ms : Nat} (hE : dk_Good E cc own d dk_Ty l0 G0 n00 nL0 mc ms) {pc pc' : Nat} {ls st : List dkV} {n : Int} {σ : dkS} {k i z : Int} (hd : decode cc pc = .ok (.bastore, 1)) (hk : dk_is n 20 k) (hi : 0 ≤ i ∧ i < 1400) (hz : -128 ≤ z ∧ z ≤ 127) (ht : True) (hp : pc + 1 = pc') (K : ∀ σ1 : dkS, σ1 = dk_up σ k i z → dk_PJ E pc' ls st n σ1) : dk_PJ E pc ls ((0, z) :: (0, i) :: (4, k) :: st) n σ :=
  dk_bast hE hd hk rfl hi (fun _ => hz) ((ta_20 hk).mpr ht) hp (K _ rfl)
-- readings
theorem ta_21 {n k i v : Int} (hk : dk_is n 21 k) : dk_Ty k i v ↔ (v = k + 1 + i) := by
  show dk_tyS (dk_site k) k i v ↔ _
  rw [hk.2.2]
  exact Iff.rfl
theorem ga_21 {E : dkE} {cc : ByteArray} {own : String} {d : Nat} {l0 : Launch} {G0 : dkG} {n00 : Int} {nL0 mc ms : Nat} (hE : dk_Good E cc own d dk_Ty l0 G0 n00 nL0 mc ms) {pc pc' : Nat} {ls st : List dkV} {n : Int} {σ : dkS} {k i w : Int} (hd : decode cc pc = .ok (.aaload, 1)) (hk : dk_is n 21 k) (hi : 0 ≤ i ∧ i < 2) (hw : k + 1 + i = w) (hp : pc + 1 = pc') (K : dk_PJ E pc' ls ((4, w) :: st) n σ) : dk_PJ E pc ls ((0, i) :: (4, k) :: st) n σ :=
  dk_aald5 hE hd hk rfl hi hp (fun t => by have t := (ta_21 hk).mp t; rw [show σ k i = w from t.trans hw]; exact K)
-- readings.row
theorem ta_22 {n k i v : Int} (hk : dk_is n 22 k) : dk_Ty k i v ↔ (0 ≤ v ∧ v ≤ 5) := by
  show dk_tyS (dk_site k) k i v ↔ _
  rw [hk.2.2]
  exact Iff.rfl
theorem ga_22 {E : dkE} {cc : ByteArray} {own : String} {d : Nat} {l0 : Launch} {G0 : dkG} {n00 : Int} {nL0 mc ms : Nat} (hE : dk_Good E cc own d dk_Ty l0 G0 n00 nL0 mc ms) {pc pc' : Nat} {ls st : List dkV} {n : Int} {σ : dkS} {k i : Int} (hd : decode cc pc = .ok (.iaload, 1)) (hk : dk_is n 22 k) (hi : 0 ≤ i ∧ i < 8) (hp : pc + 1 = pc') (K : ∀ v : Int, v = σ k i → (0 ≤ v ∧ v ≤ 5) → dk_i32 v → dk_PJ E pc' ls ((0, v) :: st) n σ) : dk_PJ E pc ls ((0, i) :: (4, k) :: st) n σ :=
  dk_iald hE hd hk rfl hi hp (fun t q => K _ rfl ((ta_22 hk).mp t) q)
theorem pa_22 {E : dkE} {cc : ByteArray} {own : String} {d : Nat} {l0 : Launch} {G0 : dkG} {n00 : Int} {nL0 mc ms : Nat} (hE : dk_Good E cc own d dk_Ty l0 G0 n00 nL0 mc ms) {pc pc' : Nat} {ls st : List dkV} {n : Int} {σ : dkS} {k i z : Int} (hd : decode cc pc = .ok (.iastore, 1)) (hk : dk_is n 22 k) (hi : 0 ≤ i ∧ i < 8) (ht : 0 ≤ z ∧ z ≤ 5) (hp : pc + 1 = pc') (K : ∀ σ1 : dkS, σ1 = dk_up σ k i z → dk_PJ E pc' ls st n σ1) : dk_PJ E pc ls ((0, z) :: (0, i) :: (4, k) :: st) n σ :=
  dk_iast hE hd hk rfl hi (fun h => h.1 rfl) ((ta_22 hk).mpr ht) hp (K _ rfl)
-- Tokens.keywords
theorem ta_23 {n k i v : Int} (hk : dk_is n 23 k) : dk_Ty k i v ↔ (True) := by
  show dk_tyS (dk_site k) k i v ↔ _
  rw [hk.2.2]
  exact Iff.rfl
theorem ga_23 {E : dkE} {cc : ByteArray} {own : String} {d : Nat} {l0 : Launch} {G0 : dkG} {n00 : Int} {nL0 mc ms : Nat} (hE : dk_Good E cc own d dk_Ty l0 G0 n00 nL0 mc ms) {pc pc' : Nat} {ls st : List dkV} {n : Int} {σ : dkS} {k i : Int} (hd : decode cc pc = .ok (.laload, 1)) (hk : dk_is n 23 k) (hi : 0 ≤ i ∧ i < 21) (hp : pc + 1 = pc') (K : ∀ v : Int, v = σ k i → (True) → dk_i64 v → dk_PJ E pc' ls ((3, v) :: st) n σ) : dk_PJ E pc ls ((0, i) :: (4, k) :: st) n σ :=
  dk_lald hE hd hk rfl hi hp (fun t q => K _ rfl ((ta_23 hk).mp t) q)
theorem pa_23 {E : dkE} {cc : ByteArray} {own : String} {d : Nat} {l0 : Launch} {G0 : dkG} {n00 : Int} {nL0 mc ms : Nat} (hE : dk_Good E cc own d dk_Ty l0 G0 n00 nL0 mc ms) {pc pc' : Nat} {ls st : List dkV} {n : Int} {σ : dkS} {k i z : Int} (hd : decode cc pc = .ok (.lastore, 1)) (hk : dk_is n 23 k) (hi : 0 ≤ i ∧ i < 21) (ht : True) (hp : pc + 1 = pc') (K : ∀ σ1 : dkS, σ1 = dk_up σ k i z → dk_PJ E pc' ls st n σ1) : dk_PJ E pc ls ((3, z) :: (0, i) :: (4, k) :: st) n σ :=
  dk_last hE hd hk rfl hi (fun h => h.2 rfl) ((ta_23 hk).mpr ht) hp (K _ rfl)
-- ScoreReader.names
theorem ta_24 {n k i v : Int} (hk : dk_is n 24 k) : dk_Ty k i v ↔ (True) := by
  show dk_tyS (dk_site k) k i v ↔ _
  rw [hk.2.2]
  exact Iff.rfl
theorem ga_24 {E : dkE} {cc : ByteArray} {own : String} {d : Nat} {l0 : Launch} {G0 : dkG} {n00 : Int} {nL0 mc ms : Nat} (hE : dk_Good E cc own d dk_Ty l0 G0 n00 nL0 mc ms) {pc pc' : Nat} {ls st : List dkV} {n : Int} {σ : dkS} {k i : Int} (hd : decode cc pc = .ok (.laload, 1)) (hk : dk_is n 24 k) (hi : 0 ≤ i ∧ i < 16) (hp : pc + 1 = pc') (K : ∀ v : Int, v = σ k i → (True) → dk_i64 v → dk_PJ E pc' ls ((3, v) :: st) n σ) : dk_PJ E pc ls ((0, i) :: (4, k) :: st) n σ :=
  dk_lald hE hd hk rfl hi hp (fun t q => K _ rfl ((ta_24 hk).mp t) q)
theorem pa_24 {E : dkE} {cc : ByteArray} {own : String} {d : Nat} {l0 : Launch} {G0 : dkG} {n00 : Int} {nL0 mc ms : Nat} (hE : dk_Good E cc own d dk_Ty l0 G0 n00 nL0 mc ms) {pc pc' : Nat} {ls st : List dkV} {n : Int} {σ : dkS} {k i z : Int} (hd : decode cc pc = .ok (.lastore, 1)) (hk : dk_is n 24 k) (hi : 0 ≤ i ∧ i < 16) (ht : True) (hp : pc + 1 = pc') (K : ∀ σ1 : dkS, σ1 = dk_up σ k i z → dk_PJ E pc' ls st n σ1) : dk_PJ E pc ls ((3, z) :: (0, i) :: (4, k) :: st) n σ :=
  dk_last hE hd hk rfl hi (fun h => h.2 rfl) ((ta_24 hk).mpr ht) hp (K _ rfl)
-- RuleReader.waiting
theorem ta_25 {n k i v : Int} (hk : dk_is n 25 k) : dk_Ty k i v ↔ (0 ≤ v ∧ v ≤ 127) := by
  show dk_tyS (dk_site k) k i v ↔ _
  rw [hk.2.2]
  exact Iff.rfl
theorem ga_25 {E : dkE} {cc : ByteArray} {own : String} {d : Nat} {l0 : Launch} {G0 : dkG} {n00 : Int} {nL0 mc ms : Nat} (hE : dk_Good E cc own d dk_Ty l0 G0 n00 nL0 mc ms) {pc pc' : Nat} {ls st : List dkV} {n : Int} {σ : dkS} {k i : Int} (hd : decode cc pc = .ok (.iaload, 1)) (hk : dk_is n 25 k) (hi : 0 ≤ i ∧ i < 48) (hp : pc + 1 = pc') (K : ∀ v : Int, v = σ k i → (0 ≤ v ∧ v ≤ 127) → dk_i32 v → dk_PJ E pc' ls ((0, v) :: st) n σ) : dk_PJ E pc ls ((0, i) :: (4, k) :: st) n σ :=
  dk_iald hE hd hk rfl hi hp (fun t q => K _ rfl ((ta_25 hk).mp t) q)
theorem pa_25 {E : dkE} {cc : ByteArray} {own : String} {d : Nat} {l0 : Launch} {G0 : dkG} {n00 : Int} {nL0 mc ms : Nat} (hE : dk_Good E cc own d dk_Ty l0 G0 n00 nL0 mc ms) {pc pc' : Nat} {ls st : List dkV} {n : Int} {σ : dkS} {k i z : Int} (hd : decode cc pc = .ok (.iastore, 1)) (hk : dk_is n 25 k) (hi : 0 ≤ i ∧ i < 48) (ht : 0 ≤ z ∧ z ≤ 127) (hp : pc + 1 = pc') (K : ∀ σ1 : dkS, σ1 = dk_up σ k i z → dk_PJ E pc' ls st n σ1) : dk_PJ E pc ls ((0, z) :: (0, i) :: (4, k) :: st) n σ :=
  dk_iast hE hd hk rfl hi (fun h => h.1 rfl) ((ta_25 hk).mpr ht) hp (K _ rfl)
-- rulings
theorem ta_26 {n k i v : Int} (hk : dk_is n 26 k) : dk_Ty k i v ↔ (v = 13 + 4 * i) := by
  show dk_tyS (dk_site k) k i v ↔ _
  rw [hk.2.2]
  exact Iff.rfl
theorem ga_26 {E : dkE} {cc : ByteArray} {own : String} {d : Nat} {l0 : Launch} {G0 : dkG} {n00 : Int} {nL0 mc ms : Nat} (hE : dk_Good E cc own d dk_Ty l0 G0 n00 nL0 mc ms) {pc pc' : Nat} {ls st : List dkV} {n : Int} {σ : dkS} {k i w : Int} (hd : decode cc pc = .ok (.aaload, 1)) (hk : dk_is n 26 k) (hi : 0 ≤ i ∧ i < 6) (hw : 13 + 4 * i = w) (hp : pc + 1 = pc') (K : dk_PJ E pc' ls ((4, w) :: st) n σ) : dk_PJ E pc ls ((0, i) :: (4, k) :: st) n σ :=
  dk_aald4 hE hd hk rfl hi hp (fun t => by have t := (ta_26 hk).mp t; rw [show σ k i = w from t.trans hw]; exact K)
-- Ruling.codes
theorem ta_27 {n k i v : Int} (hk : dk_is n 27 k) : dk_Ty k i v ↔ ((0 ≤ v ∧ v ≤ 10009) ∨ (20000 ≤ v ∧ v ≤ 20127)) := by
  show dk_tyS (dk_site k) k i v ↔ _
  rw [hk.2.2]
  exact Iff.rfl
theorem ga_27 {E : dkE} {cc : ByteArray} {own : String} {d : Nat} {l0 : Launch} {G0 : dkG} {n00 : Int} {nL0 mc ms : Nat} (hE : dk_Good E cc own d dk_Ty l0 G0 n00 nL0 mc ms) {pc pc' : Nat} {ls st : List dkV} {n : Int} {σ : dkS} {k i : Int} (hd : decode cc pc = .ok (.iaload, 1)) (hk : dk_is n 27 k) (hi : 0 ≤ i ∧ i < 320) (hp : pc + 1 = pc') (K : ∀ v : Int, v = σ k i → ((0 ≤ v ∧ v ≤ 10009) ∨ (20000 ≤ v ∧ v ≤ 20127)) → dk_i32 v → dk_PJ E pc' ls ((0, v) :: st) n σ) : dk_PJ E pc ls ((0, i) :: (4, k) :: st) n σ :=
  dk_iald hE hd hk rfl hi hp (fun t q => K _ rfl ((ta_27 hk).mp t) q)
theorem pa_27 {E : dkE} {cc : ByteArray} {own : String} {d : Nat} {l0 : Launch} {G0 : dkG} {n00 : Int} {nL0 mc ms : Nat} (hE : dk_Good E cc own d dk_Ty l0 G0 n00 nL0 mc ms) {pc pc' : Nat} {ls st : List dkV} {n : Int} {σ : dkS} {k i z : Int} (hd : decode cc pc = .ok (.iastore, 1)) (hk : dk_is n 27 k) (hi : 0 ≤ i ∧ i < 320) (ht : (0 ≤ z ∧ z ≤ 10009) ∨ (20000 ≤ z ∧ z ≤ 20127)) (hp : pc + 1 = pc') (K : ∀ σ1 : dkS, σ1 = dk_up σ k i z → dk_PJ E pc' ls st n σ1) : dk_PJ E pc ls ((0, z) :: (0, i) :: (4, k) :: st) n σ :=
  dk_iast hE hd hk rfl hi (fun h => h.1 rfl) ((ta_27 hk).mpr ht) hp (K _ rfl)
-- Ruling.starts
theorem ta_28 {n k i v : Int} (hk : dk_is n 28 k) : dk_Ty k i v ↔ (-1 ≤ v ∧ v ≤ 320) := by
  show dk_tyS (dk_site k) k i v ↔ _
  rw [hk.2.2]
  exact Iff.rfl
theorem ga_28 {E : dkE} {cc : ByteArray} {own : String} {d : Nat} {l0 : Launch} {G0 : dkG} {n00 : Int} {nL0 mc ms : Nat} (hE : dk_Good E cc own d dk_Ty l0 G0 n00 nL0 mc ms) {pc pc' : Nat} {ls st : List dkV} {n : Int} {σ : dkS} {k i : Int} (hd : decode cc pc = .ok (.iaload, 1)) (hk : dk_is n 28 k) (hi : 0 ≤ i ∧ i < 3) (hp : pc + 1 = pc') (K : ∀ v : Int, v = σ k i → (-1 ≤ v ∧ v ≤ 320) → dk_i32 v → dk_PJ E pc' ls ((0, v) :: st) n σ) : dk_PJ E pc ls ((0, i) :: (4, k) :: st) n σ :=
  dk_iald hE hd hk rfl hi hp (fun t q => K _ rfl ((ta_28 hk).mp t) q)
theorem pa_28 {E : dkE} {cc : ByteArray} {own : String} {d : Nat} {l0 : Launch} {G0 : dkG} {n00 : Int} {nL0 mc ms : Nat} (hE : dk_Good E cc own d dk_Ty l0 G0 n00 nL0 mc ms) {pc pc' : Nat} {ls st : List dkV} {n : Int} {σ : dkS} {k i z : Int} (hd : decode cc pc = .ok (.iastore, 1)) (hk : dk_is n 28 k) (hi : 0 ≤ i ∧ i < 3) (ht : -1 ≤ z ∧ z ≤ 320) (hp : pc + 1 = pc') (K : ∀ σ1 : dkS, σ1 = dk_up σ k i z → dk_PJ E pc' ls st n σ1) : dk_PJ E pc ls ((0, z) :: (0, i) :: (4, k) :: st) n σ :=
  dk_iast hE hd hk rfl hi (fun h => h.1 rfl) ((ta_28 hk).mpr ht) hp (K _ rfl)
-- Ruling.stops
theorem ta_29 {n k i v : Int} (hk : dk_is n 29 k) : dk_Ty k i v ↔ (-1 ≤ v ∧ v ≤ 320) := by
  show dk_tyS (dk_site k) k i v ↔ _
  rw [hk.2.2]
  exact Iff.rfl
theorem ga_29 {E : dkE} {cc : ByteArray} {own : String} {d : Nat} {l0 : Launch} {G0 : dkG} {n00 : Int} {nL0 mc ms : Nat} (hE : dk_Good E cc own d dk_Ty l0 G0 n00 nL0 mc ms) {pc pc' : Nat} {ls st : List dkV} {n : Int} {σ : dkS} {k i : Int} (hd : decode cc pc = .ok (.iaload, 1)) (hk : dk_is n 29 k) (hi : 0 ≤ i ∧ i < 3) (hp : pc + 1 = pc') (K : ∀ v : Int, v = σ k i → (-1 ≤ v ∧ v ≤ 320) → dk_i32 v → dk_PJ E pc' ls ((0, v) :: st) n σ) : dk_PJ E pc ls ((0, i) :: (4, k) :: st) n σ :=
  dk_iald hE hd hk rfl hi hp (fun t q => K _ rfl ((ta_29 hk).mp t) q)
theorem pa_29 {E : dkE} {cc : ByteArray} {own : String} {d : Nat} {l0 : Launch} {G0 : dkG} {n00 : Int} {nL0 mc ms : Nat} (hE : dk_Good E cc own d dk_Ty l0 G0 n00 nL0 mc ms) {pc pc' : Nat} {ls st : List dkV} {n : Int} {σ : dkS} {k i z : Int} (hd : decode cc pc = .ok (.iastore, 1)) (hk : dk_is n 29 k) (hi : 0 ≤ i ∧ i < 3) (ht : -1 ≤ z ∧ z ≤ 320) (hp : pc + 1 = pc') (K : ∀ σ1 : dkS, σ1 = dk_up σ k i z → dk_PJ E pc' ls st n σ1) : dk_PJ E pc ls ((0, z) :: (0, i) :: (4, k) :: st) n σ :=
  dk_iast hE hd hk rfl hi (fun h => h.1 rfl) ((ta_29 hk).mpr ht) hp (K _ rfl)
-- Ledger.kind
theorem ta_30 {n k i v : Int} (hk : dk_is n 30 k) : dk_Ty k i v ↔ (0 ≤ v ∧ v ≤ 4) := by
  show dk_tyS (dk_site k) k i v ↔ _
  rw [hk.2.2]
  exact Iff.rfl
theorem ga_30 {E : dkE} {cc : ByteArray} {own : String} {d : Nat} {l0 : Launch} {G0 : dkG} {n00 : Int} {nL0 mc ms : Nat} (hE : dk_Good E cc own d dk_Ty l0 G0 n00 nL0 mc ms) {pc pc' : Nat} {ls st : List dkV} {n : Int} {σ : dkS} {k i : Int} (hd : decode cc pc = .ok (.iaload, 1)) (hk : dk_is n 30 k) (hi : 0 ≤ i ∧ i < 200) (hp : pc + 1 = pc') (K : ∀ v : Int, v = σ k i → (0 ≤ v ∧ v ≤ 4) → dk_i32 v → dk_PJ E pc' ls ((0, v) :: st) n σ) : dk_PJ E pc ls ((0, i) :: (4, k) :: st) n σ :=
  dk_iald hE hd hk rfl hi hp (fun t q => K _ rfl ((ta_30 hk).mp t) q)
theorem pa_30 {E : dkE} {cc : ByteArray} {own : String} {d : Nat} {l0 : Launch} {G0 : dkG} {n00 : Int} {nL0 mc ms : Nat} (hE : dk_Good E cc own d dk_Ty l0 G0 n00 nL0 mc ms) {pc pc' : Nat} {ls st : List dkV} {n : Int} {σ : dkS} {k i z : Int} (hd : decode cc pc = .ok (.iastore, 1)) (hk : dk_is n 30 k) (hi : 0 ≤ i ∧ i < 200) (ht : 0 ≤ z ∧ z ≤ 4) (hp : pc + 1 = pc') (K : ∀ σ1 : dkS, σ1 = dk_up σ k i z → dk_PJ E pc' ls st n σ1) : dk_PJ E pc ls ((0, z) :: (0, i) :: (4, k) :: st) n σ :=
  dk_iast hE hd hk rfl hi (fun h => h.1 rfl) ((ta_30 hk).mpr ht) hp (K _ rfl)
-- Ledger.body
theorem ta_31 {n k i v : Int} (hk : dk_is n 31 k) : dk_Ty k i v ↔ (0 ≤ v ∧ v ≤ 9) := by
  show dk_tyS (dk_site k) k i v ↔ _
  rw [hk.2.2]
  exact Iff.rfl
theorem ga_31 {E : dkE} {cc : ByteArray} {own : String} {d : Nat} {l0 : Launch} {G0 : dkG} {n00 : Int} {nL0 mc ms : Nat} (hE : dk_Good E cc own d dk_Ty l0 G0 n00 nL0 mc ms) {pc pc' : Nat} {ls st : List dkV} {n : Int} {σ : dkS} {k i : Int} (hd : decode cc pc = .ok (.iaload, 1)) (hk : dk_is n 31 k) (hi : 0 ≤ i ∧ i < 200) (hp : pc + 1 = pc') (K : ∀ v : Int, v = σ k i → (0 ≤ v ∧ v ≤ 9) → dk_i32 v → dk_PJ E pc' ls ((0, v) :: st) n σ) : dk_PJ E pc ls ((0, i) :: (4, k) :: st) n σ :=
  dk_iald hE hd hk rfl hi hp (fun t q => K _ rfl ((ta_31 hk).mp t) q)
theorem pa_31 {E : dkE} {cc : ByteArray} {own : String} {d : Nat} {l0 : Launch} {G0 : dkG} {n00 : Int} {nL0 mc ms : Nat} (hE : dk_Good E cc own d dk_Ty l0 G0 n00 nL0 mc ms) {pc pc' : Nat} {ls st : List dkV} {n : Int} {σ : dkS} {k i z : Int} (hd : decode cc pc = .ok (.iastore, 1)) (hk : dk_is n 31 k) (hi : 0 ≤ i ∧ i < 200) (ht : 0 ≤ z ∧ z ≤ 9) (hp : pc + 1 = pc') (K : ∀ σ1 : dkS, σ1 = dk_up σ k i z → dk_PJ E pc' ls st n σ1) : dk_PJ E pc ls ((0, z) :: (0, i) :: (4, k) :: st) n σ :=
  dk_iast hE hd hk rfl hi (fun h => h.1 rfl) ((ta_31 hk).mpr ht) hp (K _ rfl)
-- Ledger.part
theorem ta_32 {n k i v : Int} (hk : dk_is n 32 k) : dk_Ty k i v ↔ (0 ≤ v ∧ v ≤ 11) := by
  show dk_tyS (dk_site k) k i v ↔ _
  rw [hk.2.2]
  exact Iff.rfl
theorem ga_32 {E : dkE} {cc : ByteArray} {own : String} {d : Nat} {l0 : Launch} {G0 : dkG} {n00 : Int} {nL0 mc ms : Nat} (hE : dk_Good E cc own d dk_Ty l0 G0 n00 nL0 mc ms) {pc pc' : Nat} {ls st : List dkV} {n : Int} {σ : dkS} {k i : Int} (hd : decode cc pc = .ok (.iaload, 1)) (hk : dk_is n 32 k) (hi : 0 ≤ i ∧ i < 200) (hp : pc + 1 = pc') (K : ∀ v : Int, v = σ k i → (0 ≤ v ∧ v ≤ 11) → dk_i32 v → dk_PJ E pc' ls ((0, v) :: st) n σ) : dk_PJ E pc ls ((0, i) :: (4, k) :: st) n σ :=
  dk_iald hE hd hk rfl hi hp (fun t q => K _ rfl ((ta_32 hk).mp t) q)
theorem pa_32 {E : dkE} {cc : ByteArray} {own : String} {d : Nat} {l0 : Launch} {G0 : dkG} {n00 : Int} {nL0 mc ms : Nat} (hE : dk_Good E cc own d dk_Ty l0 G0 n00 nL0 mc ms) {pc pc' : Nat} {ls st : List dkV} {n : Int} {σ : dkS} {k i z : Int} (hd : decode cc pc = .ok (.iastore, 1)) (hk : dk_is n 32 k) (hi : 0 ≤ i ∧ i < 200) (ht : 0 ≤ z ∧ z ≤ 11) (hp : pc + 1 = pc') (K : ∀ σ1 : dkS, σ1 = dk_up σ k i z → dk_PJ E pc' ls st n σ1) : dk_PJ E pc ls ((0, z) :: (0, i) :: (4, k) :: st) n σ :=
  dk_iast hE hd hk rfl hi (fun h => h.1 rfl) ((ta_32 hk).mpr ht) hp (K _ rfl)
-- Ledger.from
theorem ta_33 {n k i v : Int} (hk : dk_is n 33 k) : dk_Ty k i v ↔ (0 ≤ v ∧ v ≤ 999) := by
  show dk_tyS (dk_site k) k i v ↔ _
  rw [hk.2.2]
  exact Iff.rfl
theorem ga_33 {E : dkE} {cc : ByteArray} {own : String} {d : Nat} {l0 : Launch} {G0 : dkG} {n00 : Int} {nL0 mc ms : Nat} (hE : dk_Good E cc own d dk_Ty l0 G0 n00 nL0 mc ms) {pc pc' : Nat} {ls st : List dkV} {n : Int} {σ : dkS} {k i : Int} (hd : decode cc pc = .ok (.iaload, 1)) (hk : dk_is n 33 k) (hi : 0 ≤ i ∧ i < 200) (hp : pc + 1 = pc') (K : ∀ v : Int, v = σ k i → (0 ≤ v ∧ v ≤ 999) → dk_i32 v → dk_PJ E pc' ls ((0, v) :: st) n σ) : dk_PJ E pc ls ((0, i) :: (4, k) :: st) n σ :=
  dk_iald hE hd hk rfl hi hp (fun t q => K _ rfl ((ta_33 hk).mp t) q)
theorem pa_33 {E : dkE} {cc : ByteArray} {own : String} {d : Nat} {l0 : Launch} {G0 : dkG} {n00 : Int} {nL0 mc ms : Nat} (hE : dk_Good E cc own d dk_Ty l0 G0 n00 nL0 mc ms) {pc pc' : Nat} {ls st : List dkV} {n : Int} {σ : dkS} {k i z : Int} (hd : decode cc pc = .ok (.iastore, 1)) (hk : dk_is n 33 k) (hi : 0 ≤ i ∧ i < 200) (ht : 0 ≤ z ∧ z ≤ 999) (hp : pc + 1 = pc') (K : ∀ σ1 : dkS, σ1 = dk_up σ k i z → dk_PJ E pc' ls st n σ1) : dk_PJ E pc ls ((0, z) :: (0, i) :: (4, k) :: st) n σ :=
  dk_iast hE hd hk rfl hi (fun h => h.1 rfl) ((ta_33 hk).mpr ht) hp (K _ rfl)
-- Ledger.to
theorem ta_34 {n k i v : Int} (hk : dk_is n 34 k) : dk_Ty k i v ↔ (0 ≤ v ∧ v ≤ 999) := by
  show dk_tyS (dk_site k) k i v ↔ _
  rw [hk.2.2]
  exact Iff.rfl
theorem ga_34 {E : dkE} {cc : ByteArray} {own : String} {d : Nat} {l0 : Launch} {G0 : dkG} {n00 : Int} {nL0 mc ms : Nat} (hE : dk_Good E cc own d dk_Ty l0 G0 n00 nL0 mc ms) {pc pc' : Nat} {ls st : List dkV} {n : Int} {σ : dkS} {k i : Int} (hd : decode cc pc = .ok (.iaload, 1)) (hk : dk_is n 34 k) (hi : 0 ≤ i ∧ i < 200) (hp : pc + 1 = pc') (K : ∀ v : Int, v = σ k i → (0 ≤ v ∧ v ≤ 999) → dk_i32 v → dk_PJ E pc' ls ((0, v) :: st) n σ) : dk_PJ E pc ls ((0, i) :: (4, k) :: st) n σ :=
  dk_iald hE hd hk rfl hi hp (fun t q => K _ rfl ((ta_34 hk).mp t) q)
theorem pa_34 {E : dkE} {cc : ByteArray} {own : String} {d : Nat} {l0 : Launch} {G0 : dkG} {n00 : Int} {nL0 mc ms : Nat} (hE : dk_Good E cc own d dk_Ty l0 G0 n00 nL0 mc ms) {pc pc' : Nat} {ls st : List dkV} {n : Int} {σ : dkS} {k i z : Int} (hd : decode cc pc = .ok (.iastore, 1)) (hk : dk_is n 34 k) (hi : 0 ≤ i ∧ i < 200) (ht : 0 ≤ z ∧ z ≤ 999) (hp : pc + 1 = pc') (K : ∀ σ1 : dkS, σ1 = dk_up σ k i z → dk_PJ E pc' ls st n σ1) : dk_PJ E pc ls ((0, z) :: (0, i) :: (4, k) :: st) n σ :=
  dk_iast hE hd hk rfl hi (fun h => h.1 rfl) ((ta_34 hk).mpr ht) hp (K _ rfl)
-- Ledger.toldAt
theorem ta_35 {n k i v : Int} (hk : dk_is n 35 k) : dk_Ty k i v ↔ (True) := by
  show dk_tyS (dk_site k) k i v ↔ _
  rw [hk.2.2]
  exact Iff.rfl
theorem ga_35 {E : dkE} {cc : ByteArray} {own : String} {d : Nat} {l0 : Launch} {G0 : dkG} {n00 : Int} {nL0 mc ms : Nat} (hE : dk_Good E cc own d dk_Ty l0 G0 n00 nL0 mc ms) {pc pc' : Nat} {ls st : List dkV} {n : Int} {σ : dkS} {k i : Int} (hd : decode cc pc = .ok (.iaload, 1)) (hk : dk_is n 35 k) (hi : 0 ≤ i ∧ i < 200) (hp : pc + 1 = pc') (K : ∀ v : Int, v = σ k i → (True) → dk_i32 v → dk_PJ E pc' ls ((0, v) :: st) n σ) : dk_PJ E pc ls ((0, i) :: (4, k) :: st) n σ :=
  dk_iald hE hd hk rfl hi hp (fun t q => K _ rfl ((ta_35 hk).mp t) q)
theorem pa_35 {E : dkE} {cc : ByteArray} {own : String} {d : Nat} {l0 : Launch} {G0 : dkG} {n00 : Int} {nL0 mc ms : Nat} (hE : dk_Good E cc own d dk_Ty l0 G0 n00 nL0 mc ms) {pc pc' : Nat} {ls st : List dkV} {n : Int} {σ : dkS} {k i z : Int} (hd : decode cc pc = .ok (.iastore, 1)) (hk : dk_is n 35 k) (hi : 0 ≤ i ∧ i < 200) (ht : True) (hp : pc + 1 = pc') (K : ∀ σ1 : dkS, σ1 = dk_up σ k i z → dk_PJ E pc' ls st n σ1) : dk_PJ E pc ls ((0, z) :: (0, i) :: (4, k) :: st) n σ :=
  dk_iast hE hd hk rfl hi (fun h => h.1 rfl) ((ta_35 hk).mpr ht) hp (K _ rfl)
-- Ledger.untoldAt
theorem ta_36 {n k i v : Int} (hk : dk_is n 36 k) : dk_Ty k i v ↔ (True) := by
  show dk_tyS (dk_site k) k i v ↔ _
  rw [hk.2.2]
  exact Iff.rfl
theorem ga_36 {E : dkE} {cc : ByteArray} {own : String} {d : Nat} {l0 : Launch} {G0 : dkG} {n00 : Int} {nL0 mc ms : Nat} (hE : dk_Good E cc own d dk_Ty l0 G0 n00 nL0 mc ms) {pc pc' : Nat} {ls st : List dkV} {n : Int} {σ : dkS} {k i : Int} (hd : decode cc pc = .ok (.iaload, 1)) (hk : dk_is n 36 k) (hi : 0 ≤ i ∧ i < 200) (hp : pc + 1 = pc') (K : ∀ v : Int, v = σ k i → (True) → dk_i32 v → dk_PJ E pc' ls ((0, v) :: st) n σ) : dk_PJ E pc ls ((0, i) :: (4, k) :: st) n σ :=
  dk_iald hE hd hk rfl hi hp (fun t q => K _ rfl ((ta_36 hk).mp t) q)
theorem pa_36 {E : dkE} {cc : ByteArray} {own : String} {d : Nat} {l0 : Launch} {G0 : dkG} {n00 : Int} {nL0 mc ms : Nat} (hE : dk_Good E cc own d dk_Ty l0 G0 n00 nL0 mc ms) {pc pc' : Nat} {ls st : List dkV} {n : Int} {σ : dkS} {k i z : Int} (hd : decode cc pc = .ok (.iastore, 1)) (hk : dk_is n 36 k) (hi : 0 ≤ i ∧ i < 200) (ht : True) (hp : pc + 1 = pc') (K : ∀ σ1 : dkS, σ1 = dk_up σ k i z → dk_PJ E pc' ls st n σ1) : dk_PJ E pc ls ((0, z) :: (0, i) :: (4, k) :: st) n σ :=
  dk_iast hE hd hk rfl hi (fun h => h.1 rfl) ((ta_36 hk).mpr ht) hp (K _ rfl)
-- Standing.knownFrom
theorem ta_37 {n k i v : Int} (hk : dk_is n 37 k) : dk_Ty k i v ↔ (v = k + 1 + i) := by
  show dk_tyS (dk_site k) k i v ↔ _
  rw [hk.2.2]
  exact Iff.rfl
theorem ga_37 {E : dkE} {cc : ByteArray} {own : String} {d : Nat} {l0 : Launch} {G0 : dkG} {n00 : Int} {nL0 mc ms : Nat} (hE : dk_Good E cc own d dk_Ty l0 G0 n00 nL0 mc ms) {pc pc' : Nat} {ls st : List dkV} {n : Int} {σ : dkS} {k i w : Int} (hd : decode cc pc = .ok (.aaload, 1)) (hk : dk_is n 37 k) (hi : 0 ≤ i ∧ i < 10) (hw : k + 1 + i = w) (hp : pc + 1 = pc') (K : dk_PJ E pc' ls ((4, w) :: st) n σ) : dk_PJ E pc ls ((0, i) :: (4, k) :: st) n σ :=
  dk_aald5 hE hd hk rfl hi hp (fun t => by have t := (ta_37 hk).mp t; rw [show σ k i = w from t.trans hw]; exact K)
-- Standing.knownFrom.row
theorem ta_38 {n k i v : Int} (hk : dk_is n 38 k) : dk_Ty k i v ↔ (True) := by
  show dk_tyS (dk_site k) k i v ↔ _
  rw [hk.2.2]
  exact Iff.rfl
theorem ga_38 {E : dkE} {cc : ByteArray} {own : String} {d : Nat} {l0 : Launch} {G0 : dkG} {n00 : Int} {nL0 mc ms : Nat} (hE : dk_Good E cc own d dk_Ty l0 G0 n00 nL0 mc ms) {pc pc' : Nat} {ls st : List dkV} {n : Int} {σ : dkS} {k i : Int} (hd : decode cc pc = .ok (.iaload, 1)) (hk : dk_is n 38 k) (hi : 0 ≤ i ∧ i < 12) (hp : pc + 1 = pc') (K : ∀ v : Int, v = σ k i → (True) → dk_i32 v → dk_PJ E pc' ls ((0, v) :: st) n σ) : dk_PJ E pc ls ((0, i) :: (4, k) :: st) n σ :=
  dk_iald hE hd hk rfl hi hp (fun t q => K _ rfl ((ta_38 hk).mp t) q)
theorem pa_38 {E : dkE} {cc : ByteArray} {own : String} {d : Nat} {l0 : Launch} {G0 : dkG} {n00 : Int} {nL0 mc ms : Nat} (hE : dk_Good E cc own d dk_Ty l0 G0 n00 nL0 mc ms) {pc pc' : Nat} {ls st : List dkV} {n : Int} {σ : dkS} {k i z : Int} (hd : decode cc pc = .ok (.iastore, 1)) (hk : dk_is n 38 k) (hi : 0 ≤ i ∧ i < 12) (ht : True) (hp : pc + 1 = pc') (K : ∀ σ1 : dkS, σ1 = dk_up σ k i z → dk_PJ E pc' ls st n σ1) : dk_PJ E pc ls ((0, z) :: (0, i) :: (4, k) :: st) n σ :=
  dk_iast hE hd hk rfl hi (fun h => h.1 rfl) ((ta_38 hk).mpr ht) hp (K _ rfl)
-- Standing.lastDanced
theorem ta_39 {n k i v : Int} (hk : dk_is n 39 k) : dk_Ty k i v ↔ (v = k + 1 + i) := by
  show dk_tyS (dk_site k) k i v ↔ _
  rw [hk.2.2]
  exact Iff.rfl
theorem ga_39 {E : dkE} {cc : ByteArray} {own : String} {d : Nat} {l0 : Launch} {G0 : dkG} {n00 : Int} {nL0 mc ms : Nat} (hE : dk_Good E cc own d dk_Ty l0 G0 n00 nL0 mc ms) {pc pc' : Nat} {ls st : List dkV} {n : Int} {σ : dkS} {k i w : Int} (hd : decode cc pc = .ok (.aaload, 1)) (hk : dk_is n 39 k) (hi : 0 ≤ i ∧ i < 10) (hw : k + 1 + i = w) (hp : pc + 1 = pc') (K : dk_PJ E pc' ls ((4, w) :: st) n σ) : dk_PJ E pc ls ((0, i) :: (4, k) :: st) n σ :=
  dk_aald5 hE hd hk rfl hi hp (fun t => by have t := (ta_39 hk).mp t; rw [show σ k i = w from t.trans hw]; exact K)
-- Standing.lastDanced.row
theorem ta_40 {n k i v : Int} (hk : dk_is n 40 k) : dk_Ty k i v ↔ (True) := by
  show dk_tyS (dk_site k) k i v ↔ _
  rw [hk.2.2]
  exact Iff.rfl
theorem ga_40 {E : dkE} {cc : ByteArray} {own : String} {d : Nat} {l0 : Launch} {G0 : dkG} {n00 : Int} {nL0 mc ms : Nat} (hE : dk_Good E cc own d dk_Ty l0 G0 n00 nL0 mc ms) {pc pc' : Nat} {ls st : List dkV} {n : Int} {σ : dkS} {k i : Int} (hd : decode cc pc = .ok (.iaload, 1)) (hk : dk_is n 40 k) (hi : 0 ≤ i ∧ i < 12) (hp : pc + 1 = pc') (K : ∀ v : Int, v = σ k i → (True) → dk_i32 v → dk_PJ E pc' ls ((0, v) :: st) n σ) : dk_PJ E pc ls ((0, i) :: (4, k) :: st) n σ :=
  dk_iald hE hd hk rfl hi hp (fun t q => K _ rfl ((ta_40 hk).mp t) q)
theorem pa_40 {E : dkE} {cc : ByteArray} {own : String} {d : Nat} {l0 : Launch} {G0 : dkG} {n00 : Int} {nL0 mc ms : Nat} (hE : dk_Good E cc own d dk_Ty l0 G0 n00 nL0 mc ms) {pc pc' : Nat} {ls st : List dkV} {n : Int} {σ : dkS} {k i z : Int} (hd : decode cc pc = .ok (.iastore, 1)) (hk : dk_is n 40 k) (hi : 0 ≤ i ∧ i < 12) (ht : True) (hp : pc + 1 = pc') (K : ∀ σ1 : dkS, σ1 = dk_up σ k i z → dk_PJ E pc' ls st n σ1) : dk_PJ E pc ls ((0, z) :: (0, i) :: (4, k) :: st) n σ :=
  dk_iast hE hd hk rfl hi (fun h => h.1 rfl) ((ta_40 hk).mpr ht) hp (K _ rfl)
-- Standing.lastDay
theorem ta_41 {n k i v : Int} (hk : dk_is n 41 k) : dk_Ty k i v ↔ (True) := by
  show dk_tyS (dk_site k) k i v ↔ _
  rw [hk.2.2]
  exact Iff.rfl
theorem ga_41 {E : dkE} {cc : ByteArray} {own : String} {d : Nat} {l0 : Launch} {G0 : dkG} {n00 : Int} {nL0 mc ms : Nat} (hE : dk_Good E cc own d dk_Ty l0 G0 n00 nL0 mc ms) {pc pc' : Nat} {ls st : List dkV} {n : Int} {σ : dkS} {k i : Int} (hd : decode cc pc = .ok (.iaload, 1)) (hk : dk_is n 41 k) (hi : 0 ≤ i ∧ i < 10) (hp : pc + 1 = pc') (K : ∀ v : Int, v = σ k i → (True) → dk_i32 v → dk_PJ E pc' ls ((0, v) :: st) n σ) : dk_PJ E pc ls ((0, i) :: (4, k) :: st) n σ :=
  dk_iald hE hd hk rfl hi hp (fun t q => K _ rfl ((ta_41 hk).mp t) q)
theorem pa_41 {E : dkE} {cc : ByteArray} {own : String} {d : Nat} {l0 : Launch} {G0 : dkG} {n00 : Int} {nL0 mc ms : Nat} (hE : dk_Good E cc own d dk_Ty l0 G0 n00 nL0 mc ms) {pc pc' : Nat} {ls st : List dkV} {n : Int} {σ : dkS} {k i z : Int} (hd : decode cc pc = .ok (.iastore, 1)) (hk : dk_is n 41 k) (hi : 0 ≤ i ∧ i < 10) (ht : True) (hp : pc + 1 = pc') (K : ∀ σ1 : dkS, σ1 = dk_up σ k i z → dk_PJ E pc' ls st n σ1) : dk_PJ E pc ls ((0, z) :: (0, i) :: (4, k) :: st) n σ :=
  dk_iast hE hd hk rfl hi (fun h => h.1 rfl) ((ta_41 hk).mpr ht) hp (K _ rfl)
-- Standing.away
theorem ta_42 {n k i v : Int} (hk : dk_is n 42 k) : dk_Ty k i v ↔ (True) := by
  show dk_tyS (dk_site k) k i v ↔ _
  rw [hk.2.2]
  exact Iff.rfl
theorem ga_42 {E : dkE} {cc : ByteArray} {own : String} {d : Nat} {l0 : Launch} {G0 : dkG} {n00 : Int} {nL0 mc ms : Nat} (hE : dk_Good E cc own d dk_Ty l0 G0 n00 nL0 mc ms) {pc pc' : Nat} {ls st : List dkV} {n : Int} {σ : dkS} {k i : Int} (hd : decode cc pc = .ok (.baload, 1)) (hk : dk_is n 42 k) (hi : 0 ≤ i ∧ i < 10) (hp : pc + 1 = pc') (K : ∀ v : Int, v = σ k i → (True) → (0 ≤ v ∧ v ≤ 1) → dk_PJ E pc' ls ((0, v) :: st) n σ) : dk_PJ E pc ls ((0, i) :: (4, k) :: st) n σ :=
  dk_zald hE hd hk rfl hi hp (fun t q => K _ rfl ((ta_42 hk).mp t) q)
theorem pa_42 {E : dkE} {cc : ByteArray} {own : String} {d : Nat} {l0 : Launch} {G0 : dkG} {n00 : Int} {nL0 mc ms : Nat} (hE : dk_Good E cc own d dk_Ty l0 G0 n00 nL0 mc ms) {pc pc' : Nat} {ls st : List dkV} {n : Int} {σ : dkS} {k i z : Int} (hd : decode cc pc = .ok (.bastore, 1)) (hk : dk_is n 42 k) (hi : 0 ≤ i ∧ i < 10) (hz : 0 ≤ z ∧ z ≤ 1) (ht : True) (hp : pc + 1 = pc') (K : ∀ σ1 : dkS, σ1 = dk_up σ k i z → dk_PJ E pc' ls st n σ1) : dk_PJ E pc ls ((0, z) :: (0, i) :: (4, k) :: st) n σ :=
  dk_zast hE hd hk rfl hi (fun _ => hz) ((ta_42 hk).mpr ht) hp (K _ rfl)
-- Standing.gone
theorem ta_43 {n k i v : Int} (hk : dk_is n 43 k) : dk_Ty k i v ↔ (True) := by
  show dk_tyS (dk_site k) k i v ↔ _
  rw [hk.2.2]
  exact Iff.rfl
theorem ga_43 {E : dkE} {cc : ByteArray} {own : String} {d : Nat} {l0 : Launch} {G0 : dkG} {n00 : Int} {nL0 mc ms : Nat} (hE : dk_Good E cc own d dk_Ty l0 G0 n00 nL0 mc ms) {pc pc' : Nat} {ls st : List dkV} {n : Int} {σ : dkS} {k i : Int} (hd : decode cc pc = .ok (.baload, 1)) (hk : dk_is n 43 k) (hi : 0 ≤ i ∧ i < 10) (hp : pc + 1 = pc') (K : ∀ v : Int, v = σ k i → (True) → (0 ≤ v ∧ v ≤ 1) → dk_PJ E pc' ls ((0, v) :: st) n σ) : dk_PJ E pc ls ((0, i) :: (4, k) :: st) n σ :=
  dk_zald hE hd hk rfl hi hp (fun t q => K _ rfl ((ta_43 hk).mp t) q)
theorem pa_43 {E : dkE} {cc : ByteArray} {own : String} {d : Nat} {l0 : Launch} {G0 : dkG} {n00 : Int} {nL0 mc ms : Nat} (hE : dk_Good E cc own d dk_Ty l0 G0 n00 nL0 mc ms) {pc pc' : Nat} {ls st : List dkV} {n : Int} {σ : dkS} {k i z : Int} (hd : decode cc pc = .ok (.bastore, 1)) (hk : dk_is n 43 k) (hi : 0 ≤ i ∧ i < 10) (hz : 0 ≤ z ∧ z ≤ 1) (ht : True) (hp : pc + 1 = pc') (K : ∀ σ1 : dkS, σ1 = dk_up σ k i z → dk_PJ E pc' ls st n σ1) : dk_PJ E pc ls ((0, z) :: (0, i) :: (4, k) :: st) n σ :=
  dk_zast hE hd hk rfl hi (fun _ => hz) ((ta_43 hk).mpr ht) hp (K _ rfl)
-- Standing.loads
theorem ta_44 {n k i v : Int} (hk : dk_is n 44 k) : dk_Ty k i v ↔ (True) := by
  show dk_tyS (dk_site k) k i v ↔ _
  rw [hk.2.2]
  exact Iff.rfl
theorem ga_44 {E : dkE} {cc : ByteArray} {own : String} {d : Nat} {l0 : Launch} {G0 : dkG} {n00 : Int} {nL0 mc ms : Nat} (hE : dk_Good E cc own d dk_Ty l0 G0 n00 nL0 mc ms) {pc pc' : Nat} {ls st : List dkV} {n : Int} {σ : dkS} {k i : Int} (hd : decode cc pc = .ok (.iaload, 1)) (hk : dk_is n 44 k) (hi : 0 ≤ i ∧ i < 12) (hp : pc + 1 = pc') (K : ∀ v : Int, v = σ k i → (True) → dk_i32 v → dk_PJ E pc' ls ((0, v) :: st) n σ) : dk_PJ E pc ls ((0, i) :: (4, k) :: st) n σ :=
  dk_iald hE hd hk rfl hi hp (fun t q => K _ rfl ((ta_44 hk).mp t) q)
theorem pa_44 {E : dkE} {cc : ByteArray} {own : String} {d : Nat} {l0 : Launch} {G0 : dkG} {n00 : Int} {nL0 mc ms : Nat} (hE : dk_Good E cc own d dk_Ty l0 G0 n00 nL0 mc ms) {pc pc' : Nat} {ls st : List dkV} {n : Int} {σ : dkS} {k i z : Int} (hd : decode cc pc = .ok (.iastore, 1)) (hk : dk_is n 44 k) (hi : 0 ≤ i ∧ i < 12) (ht : True) (hp : pc + 1 = pc') (K : ∀ σ1 : dkS, σ1 = dk_up σ k i z → dk_PJ E pc' ls st n σ1) : dk_PJ E pc ls ((0, z) :: (0, i) :: (4, k) :: st) n σ :=
  dk_iast hE hd hk rfl hi (fun h => h.1 rfl) ((ta_44 hk).mpr ht) hp (K _ rfl)
-- Standing.variables
theorem ta_45 {n k i v : Int} (hk : dk_is n 45 k) : dk_Ty k i v ↔ (True) := by
  show dk_tyS (dk_site k) k i v ↔ _
  rw [hk.2.2]
  exact Iff.rfl
theorem ga_45 {E : dkE} {cc : ByteArray} {own : String} {d : Nat} {l0 : Launch} {G0 : dkG} {n00 : Int} {nL0 mc ms : Nat} (hE : dk_Good E cc own d dk_Ty l0 G0 n00 nL0 mc ms) {pc pc' : Nat} {ls st : List dkV} {n : Int} {σ : dkS} {k i : Int} (hd : decode cc pc = .ok (.iaload, 1)) (hk : dk_is n 45 k) (hi : 0 ≤ i ∧ i < 10) (hp : pc + 1 = pc') (K : ∀ v : Int, v = σ k i → (True) → dk_i32 v → dk_PJ E pc' ls ((0, v) :: st) n σ) : dk_PJ E pc ls ((0, i) :: (4, k) :: st) n σ :=
  dk_iald hE hd hk rfl hi hp (fun t q => K _ rfl ((ta_45 hk).mp t) q)
theorem pa_45 {E : dkE} {cc : ByteArray} {own : String} {d : Nat} {l0 : Launch} {G0 : dkG} {n00 : Int} {nL0 mc ms : Nat} (hE : dk_Good E cc own d dk_Ty l0 G0 n00 nL0 mc ms) {pc pc' : Nat} {ls st : List dkV} {n : Int} {σ : dkS} {k i z : Int} (hd : decode cc pc = .ok (.iastore, 1)) (hk : dk_is n 45 k) (hi : 0 ≤ i ∧ i < 10) (ht : True) (hp : pc + 1 = pc') (K : ∀ σ1 : dkS, σ1 = dk_up σ k i z → dk_PJ E pc' ls st n σ1) : dk_PJ E pc ls ((0, z) :: (0, i) :: (4, k) :: st) n σ :=
  dk_iast hE hd hk rfl hi (fun h => h.1 rfl) ((ta_45 hk).mpr ht) hp (K _ rfl)
-- Standing.stack
theorem ta_46 {n k i v : Int} (hk : dk_is n 46 k) : dk_Ty k i v ↔ (True) := by
  show dk_tyS (dk_site k) k i v ↔ _
  rw [hk.2.2]
  exact Iff.rfl
theorem ga_46 {E : dkE} {cc : ByteArray} {own : String} {d : Nat} {l0 : Launch} {G0 : dkG} {n00 : Int} {nL0 mc ms : Nat} (hE : dk_Good E cc own d dk_Ty l0 G0 n00 nL0 mc ms) {pc pc' : Nat} {ls st : List dkV} {n : Int} {σ : dkS} {k i : Int} (hd : decode cc pc = .ok (.iaload, 1)) (hk : dk_is n 46 k) (hi : 0 ≤ i ∧ i < 60) (hp : pc + 1 = pc') (K : ∀ v : Int, v = σ k i → (True) → dk_i32 v → dk_PJ E pc' ls ((0, v) :: st) n σ) : dk_PJ E pc ls ((0, i) :: (4, k) :: st) n σ :=
  dk_iald hE hd hk rfl hi hp (fun t q => K _ rfl ((ta_46 hk).mp t) q)
theorem pa_46 {E : dkE} {cc : ByteArray} {own : String} {d : Nat} {l0 : Launch} {G0 : dkG} {n00 : Int} {nL0 mc ms : Nat} (hE : dk_Good E cc own d dk_Ty l0 G0 n00 nL0 mc ms) {pc pc' : Nat} {ls st : List dkV} {n : Int} {σ : dkS} {k i z : Int} (hd : decode cc pc = .ok (.iastore, 1)) (hk : dk_is n 46 k) (hi : 0 ≤ i ∧ i < 60) (ht : True) (hp : pc + 1 = pc') (K : ∀ σ1 : dkS, σ1 = dk_up σ k i z → dk_PJ E pc' ls st n σ1) : dk_PJ E pc ls ((0, z) :: (0, i) :: (4, k) :: st) n σ :=
  dk_iast hE hd hk rfl hi (fun h => h.1 rfl) ((ta_46 hk).mpr ht) hp (K _ rfl)
-- Standing.burden
theorem ta_47 {n k i v : Int} (hk : dk_is n 47 k) : dk_Ty k i v ↔ (True) := by
  show dk_tyS (dk_site k) k i v ↔ _
  rw [hk.2.2]
  exact Iff.rfl
theorem ga_47 {E : dkE} {cc : ByteArray} {own : String} {d : Nat} {l0 : Launch} {G0 : dkG} {n00 : Int} {nL0 mc ms : Nat} (hE : dk_Good E cc own d dk_Ty l0 G0 n00 nL0 mc ms) {pc pc' : Nat} {ls st : List dkV} {n : Int} {σ : dkS} {k i : Int} (hd : decode cc pc = .ok (.iaload, 1)) (hk : dk_is n 47 k) (hi : 0 ≤ i ∧ i < 10) (hp : pc + 1 = pc') (K : ∀ v : Int, v = σ k i → (True) → dk_i32 v → dk_PJ E pc' ls ((0, v) :: st) n σ) : dk_PJ E pc ls ((0, i) :: (4, k) :: st) n σ :=
  dk_iald hE hd hk rfl hi hp (fun t q => K _ rfl ((ta_47 hk).mp t) q)
theorem pa_47 {E : dkE} {cc : ByteArray} {own : String} {d : Nat} {l0 : Launch} {G0 : dkG} {n00 : Int} {nL0 mc ms : Nat} (hE : dk_Good E cc own d dk_Ty l0 G0 n00 nL0 mc ms) {pc pc' : Nat} {ls st : List dkV} {n : Int} {σ : dkS} {k i z : Int} (hd : decode cc pc = .ok (.iastore, 1)) (hk : dk_is n 47 k) (hi : 0 ≤ i ∧ i < 10) (ht : True) (hp : pc + 1 = pc') (K : ∀ σ1 : dkS, σ1 = dk_up σ k i z → dk_PJ E pc' ls st n σ1) : dk_PJ E pc ls ((0, z) :: (0, i) :: (4, k) :: st) n σ :=
  dk_iast hE hd hk rfl hi (fun h => h.1 rfl) ((ta_47 hk).mpr ht) hp (K _ rfl)
-- Casting.weights
theorem ta_48 {n k i v : Int} (hk : dk_is n 48 k) : dk_Ty k i v ↔ (v = k + 1 + i) := by
  show dk_tyS (dk_site k) k i v ↔ _
  rw [hk.2.2]
  exact Iff.rfl
theorem ga_48 {E : dkE} {cc : ByteArray} {own : String} {d : Nat} {l0 : Launch} {G0 : dkG} {n00 : Int} {nL0 mc ms : Nat} (hE : dk_Good E cc own d dk_Ty l0 G0 n00 nL0 mc ms) {pc pc' : Nat} {ls st : List dkV} {n : Int} {σ : dkS} {k i w : Int} (hd : decode cc pc = .ok (.aaload, 1)) (hk : dk_is n 48 k) (hi : 0 ≤ i ∧ i < 8) (hw : k + 1 + i = w) (hp : pc + 1 = pc') (K : dk_PJ E pc' ls ((4, w) :: st) n σ) : dk_PJ E pc ls ((0, i) :: (4, k) :: st) n σ :=
  dk_aald6 hE hd hk rfl hi hp (fun t => by have t := (ta_48 hk).mp t; rw [show σ k i = w from t.trans hw]; exact K)
-- Casting.weights.row
theorem ta_49 {n k i v : Int} (hk : dk_is n 49 k) : dk_Ty k i v ↔ (True) := by
  show dk_tyS (dk_site k) k i v ↔ _
  rw [hk.2.2]
  exact Iff.rfl
theorem ga_49 {E : dkE} {cc : ByteArray} {own : String} {d : Nat} {l0 : Launch} {G0 : dkG} {n00 : Int} {nL0 mc ms : Nat} (hE : dk_Good E cc own d dk_Ty l0 G0 n00 nL0 mc ms) {pc pc' : Nat} {ls st : List dkV} {n : Int} {σ : dkS} {k i : Int} (hd : decode cc pc = .ok (.laload, 1)) (hk : dk_is n 49 k) (hi : 0 ≤ i ∧ i < 10) (hp : pc + 1 = pc') (K : ∀ v : Int, v = σ k i → (True) → dk_i64 v → dk_PJ E pc' ls ((3, v) :: st) n σ) : dk_PJ E pc ls ((0, i) :: (4, k) :: st) n σ :=
  dk_lald hE hd hk rfl hi hp (fun t q => K _ rfl ((ta_49 hk).mp t) q)
theorem pa_49 {E : dkE} {cc : ByteArray} {own : String} {d : Nat} {l0 : Launch} {G0 : dkG} {n00 : Int} {nL0 mc ms : Nat} (hE : dk_Good E cc own d dk_Ty l0 G0 n00 nL0 mc ms) {pc pc' : Nat} {ls st : List dkV} {n : Int} {σ : dkS} {k i z : Int} (hd : decode cc pc = .ok (.lastore, 1)) (hk : dk_is n 49 k) (hi : 0 ≤ i ∧ i < 10) (ht : True) (hp : pc + 1 = pc') (K : ∀ σ1 : dkS, σ1 = dk_up σ k i z → dk_PJ E pc' ls st n σ1) : dk_PJ E pc ls ((3, z) :: (0, i) :: (4, k) :: st) n σ :=
  dk_last hE hd hk rfl hi (fun h => h.2 rfl) ((ta_49 hk).mpr ht) hp (K _ rfl)
-- Casting.rest
theorem ta_50 {n k i v : Int} (hk : dk_is n 50 k) : dk_Ty k i v ↔ (True) := by
  show dk_tyS (dk_site k) k i v ↔ _
  rw [hk.2.2]
  exact Iff.rfl
theorem ga_50 {E : dkE} {cc : ByteArray} {own : String} {d : Nat} {l0 : Launch} {G0 : dkG} {n00 : Int} {nL0 mc ms : Nat} (hE : dk_Good E cc own d dk_Ty l0 G0 n00 nL0 mc ms) {pc pc' : Nat} {ls st : List dkV} {n : Int} {σ : dkS} {k i : Int} (hd : decode cc pc = .ok (.laload, 1)) (hk : dk_is n 50 k) (hi : 0 ≤ i ∧ i < 1024) (hp : pc + 1 = pc') (K : ∀ v : Int, v = σ k i → (True) → dk_i64 v → dk_PJ E pc' ls ((3, v) :: st) n σ) : dk_PJ E pc ls ((0, i) :: (4, k) :: st) n σ :=
  dk_lald hE hd hk rfl hi hp (fun t q => K _ rfl ((ta_50 hk).mp t) q)
theorem pa_50 {E : dkE} {cc : ByteArray} {own : String} {d : Nat} {l0 : Launch} {G0 : dkG} {n00 : Int} {nL0 mc ms : Nat} (hE : dk_Good E cc own d dk_Ty l0 G0 n00 nL0 mc ms) {pc pc' : Nat} {ls st : List dkV} {n : Int} {σ : dkS} {k i z : Int} (hd : decode cc pc = .ok (.lastore, 1)) (hk : dk_is n 50 k) (hi : 0 ≤ i ∧ i < 1024) (ht : True) (hp : pc + 1 = pc') (K : ∀ σ1 : dkS, σ1 = dk_up σ k i z → dk_PJ E pc' ls st n σ1) : dk_PJ E pc ls ((3, z) :: (0, i) :: (4, k) :: st) n σ :=
  dk_last hE hd hk rfl hi (fun h => h.2 rfl) ((ta_50 hk).mpr ht) hp (K _ rfl)
-- Casting.chosen
theorem ta_51 {n k i v : Int} (hk : dk_is n 51 k) : dk_Ty k i v ↔ (0 ≤ v ∧ v ≤ 9) := by
  show dk_tyS (dk_site k) k i v ↔ _
  rw [hk.2.2]
  exact Iff.rfl
theorem ga_51 {E : dkE} {cc : ByteArray} {own : String} {d : Nat} {l0 : Launch} {G0 : dkG} {n00 : Int} {nL0 mc ms : Nat} (hE : dk_Good E cc own d dk_Ty l0 G0 n00 nL0 mc ms) {pc pc' : Nat} {ls st : List dkV} {n : Int} {σ : dkS} {k i : Int} (hd : decode cc pc = .ok (.iaload, 1)) (hk : dk_is n 51 k) (hi : 0 ≤ i ∧ i < 8) (hp : pc + 1 = pc') (K : ∀ v : Int, v = σ k i → (0 ≤ v ∧ v ≤ 9) → dk_i32 v → dk_PJ E pc' ls ((0, v) :: st) n σ) : dk_PJ E pc ls ((0, i) :: (4, k) :: st) n σ :=
  dk_iald hE hd hk rfl hi hp (fun t q => K _ rfl ((ta_51 hk).mp t) q)
theorem pa_51 {E : dkE} {cc : ByteArray} {own : String} {d : Nat} {l0 : Launch} {G0 : dkG} {n00 : Int} {nL0 mc ms : Nat} (hE : dk_Good E cc own d dk_Ty l0 G0 n00 nL0 mc ms) {pc pc' : Nat} {ls st : List dkV} {n : Int} {σ : dkS} {k i z : Int} (hd : decode cc pc = .ok (.iastore, 1)) (hk : dk_is n 51 k) (hi : 0 ≤ i ∧ i < 8) (ht : 0 ≤ z ∧ z ≤ 9) (hp : pc + 1 = pc') (K : ∀ σ1 : dkS, σ1 = dk_up σ k i z → dk_PJ E pc' ls st n σ1) : dk_PJ E pc ls ((0, z) :: (0, i) :: (4, k) :: st) n σ :=
  dk_iast hE hd hk rfl hi (fun h => h.1 rfl) ((ta_51 hk).mpr ht) hp (K _ rfl)
-- Casting.before
theorem ta_52 {n k i v : Int} (hk : dk_is n 52 k) : dk_Ty k i v ↔ (0 ≤ v ∧ v ≤ 9) := by
  show dk_tyS (dk_site k) k i v ↔ _
  rw [hk.2.2]
  exact Iff.rfl
theorem ga_52 {E : dkE} {cc : ByteArray} {own : String} {d : Nat} {l0 : Launch} {G0 : dkG} {n00 : Int} {nL0 mc ms : Nat} (hE : dk_Good E cc own d dk_Ty l0 G0 n00 nL0 mc ms) {pc pc' : Nat} {ls st : List dkV} {n : Int} {σ : dkS} {k i : Int} (hd : decode cc pc = .ok (.iaload, 1)) (hk : dk_is n 52 k) (hi : 0 ≤ i ∧ i < 8) (hp : pc + 1 = pc') (K : ∀ v : Int, v = σ k i → (0 ≤ v ∧ v ≤ 9) → dk_i32 v → dk_PJ E pc' ls ((0, v) :: st) n σ) : dk_PJ E pc ls ((0, i) :: (4, k) :: st) n σ :=
  dk_iald hE hd hk rfl hi hp (fun t q => K _ rfl ((ta_52 hk).mp t) q)
theorem pa_52 {E : dkE} {cc : ByteArray} {own : String} {d : Nat} {l0 : Launch} {G0 : dkG} {n00 : Int} {nL0 mc ms : Nat} (hE : dk_Good E cc own d dk_Ty l0 G0 n00 nL0 mc ms) {pc pc' : Nat} {ls st : List dkV} {n : Int} {σ : dkS} {k i z : Int} (hd : decode cc pc = .ok (.iastore, 1)) (hk : dk_is n 52 k) (hi : 0 ≤ i ∧ i < 8) (ht : 0 ≤ z ∧ z ≤ 9) (hp : pc + 1 = pc') (K : ∀ σ1 : dkS, σ1 = dk_up σ k i z → dk_PJ E pc' ls st n σ1) : dk_PJ E pc ls ((0, z) :: (0, i) :: (4, k) :: st) n σ :=
  dk_iast hE hd hk rfl hi (fun h => h.1 rfl) ((ta_52 hk).mpr ht) hp (K _ rfl)
-- Timetable.work
theorem ta_53 {n k i v : Int} (hk : dk_is n 53 k) : dk_Ty k i v ↔ (0 ≤ v ∧ v ≤ 3) := by
  show dk_tyS (dk_site k) k i v ↔ _
  rw [hk.2.2]
  exact Iff.rfl
theorem ga_53 {E : dkE} {cc : ByteArray} {own : String} {d : Nat} {l0 : Launch} {G0 : dkG} {n00 : Int} {nL0 mc ms : Nat} (hE : dk_Good E cc own d dk_Ty l0 G0 n00 nL0 mc ms) {pc pc' : Nat} {ls st : List dkV} {n : Int} {σ : dkS} {k i : Int} (hd : decode cc pc = .ok (.iaload, 1)) (hk : dk_is n 53 k) (hi : 0 ≤ i ∧ i < 9) (hp : pc + 1 = pc') (K : ∀ v : Int, v = σ k i → (0 ≤ v ∧ v ≤ 3) → dk_i32 v → dk_PJ E pc' ls ((0, v) :: st) n σ) : dk_PJ E pc ls ((0, i) :: (4, k) :: st) n σ :=
  dk_iald hE hd hk rfl hi hp (fun t q => K _ rfl ((ta_53 hk).mp t) q)
theorem pa_53 {E : dkE} {cc : ByteArray} {own : String} {d : Nat} {l0 : Launch} {G0 : dkG} {n00 : Int} {nL0 mc ms : Nat} (hE : dk_Good E cc own d dk_Ty l0 G0 n00 nL0 mc ms) {pc pc' : Nat} {ls st : List dkV} {n : Int} {σ : dkS} {k i z : Int} (hd : decode cc pc = .ok (.iastore, 1)) (hk : dk_is n 53 k) (hi : 0 ≤ i ∧ i < 9) (ht : 0 ≤ z ∧ z ≤ 3) (hp : pc + 1 = pc') (K : ∀ σ1 : dkS, σ1 = dk_up σ k i z → dk_PJ E pc' ls st n σ1) : dk_PJ E pc ls ((0, z) :: (0, i) :: (4, k) :: st) n σ :=
  dk_iast hE hd hk rfl hi (fun h => h.1 rfl) ((ta_53 hk).mpr ht) hp (K _ rfl)
-- Timetable.day
theorem ta_54 {n k i v : Int} (hk : dk_is n 54 k) : dk_Ty k i v ↔ (0 ≤ v ∧ v ≤ 999) := by
  show dk_tyS (dk_site k) k i v ↔ _
  rw [hk.2.2]
  exact Iff.rfl
theorem ga_54 {E : dkE} {cc : ByteArray} {own : String} {d : Nat} {l0 : Launch} {G0 : dkG} {n00 : Int} {nL0 mc ms : Nat} (hE : dk_Good E cc own d dk_Ty l0 G0 n00 nL0 mc ms) {pc pc' : Nat} {ls st : List dkV} {n : Int} {σ : dkS} {k i : Int} (hd : decode cc pc = .ok (.iaload, 1)) (hk : dk_is n 54 k) (hi : 0 ≤ i ∧ i < 9) (hp : pc + 1 = pc') (K : ∀ v : Int, v = σ k i → (0 ≤ v ∧ v ≤ 999) → dk_i32 v → dk_PJ E pc' ls ((0, v) :: st) n σ) : dk_PJ E pc ls ((0, i) :: (4, k) :: st) n σ :=
  dk_iald hE hd hk rfl hi hp (fun t q => K _ rfl ((ta_54 hk).mp t) q)
theorem pa_54 {E : dkE} {cc : ByteArray} {own : String} {d : Nat} {l0 : Launch} {G0 : dkG} {n00 : Int} {nL0 mc ms : Nat} (hE : dk_Good E cc own d dk_Ty l0 G0 n00 nL0 mc ms) {pc pc' : Nat} {ls st : List dkV} {n : Int} {σ : dkS} {k i z : Int} (hd : decode cc pc = .ok (.iastore, 1)) (hk : dk_is n 54 k) (hi : 0 ≤ i ∧ i < 9) (ht : 0 ≤ z ∧ z ≤ 999) (hp : pc + 1 = pc') (K : ∀ σ1 : dkS, σ1 = dk_up σ k i z → dk_PJ E pc' ls st n σ1) : dk_PJ E pc ls ((0, z) :: (0, i) :: (4, k) :: st) n σ :=
  dk_iast hE hd hk rfl hi (fun h => h.1 rfl) ((ta_54 hk).mpr ht) hp (K _ rfl)
-- Timetable.crew
theorem ta_55 {n k i v : Int} (hk : dk_is n 55 k) : dk_Ty k i v ↔ (True) := by
  show dk_tyS (dk_site k) k i v ↔ _
  rw [hk.2.2]
  exact Iff.rfl
theorem ga_55 {E : dkE} {cc : ByteArray} {own : String} {d : Nat} {l0 : Launch} {G0 : dkG} {n00 : Int} {nL0 mc ms : Nat} (hE : dk_Good E cc own d dk_Ty l0 G0 n00 nL0 mc ms) {pc pc' : Nat} {ls st : List dkV} {n : Int} {σ : dkS} {k i : Int} (hd : decode cc pc = .ok (.iaload, 1)) (hk : dk_is n 55 k) (hi : 0 ≤ i ∧ i < 9) (hp : pc + 1 = pc') (K : ∀ v : Int, v = σ k i → (True) → dk_i32 v → dk_PJ E pc' ls ((0, v) :: st) n σ) : dk_PJ E pc ls ((0, i) :: (4, k) :: st) n σ :=
  dk_iald hE hd hk rfl hi hp (fun t q => K _ rfl ((ta_55 hk).mp t) q)
theorem pa_55 {E : dkE} {cc : ByteArray} {own : String} {d : Nat} {l0 : Launch} {G0 : dkG} {n00 : Int} {nL0 mc ms : Nat} (hE : dk_Good E cc own d dk_Ty l0 G0 n00 nL0 mc ms) {pc pc' : Nat} {ls st : List dkV} {n : Int} {σ : dkS} {k i z : Int} (hd : decode cc pc = .ok (.iastore, 1)) (hk : dk_is n 55 k) (hi : 0 ≤ i ∧ i < 9) (ht : True) (hp : pc + 1 = pc') (K : ∀ σ1 : dkS, σ1 = dk_up σ k i z → dk_PJ E pc' ls st n σ1) : dk_PJ E pc ls ((0, z) :: (0, i) :: (4, k) :: st) n σ :=
  dk_iast hE hd hk rfl hi (fun h => h.1 rfl) ((ta_55 hk).mpr ht) hp (K _ rfl)
-- Timetable.hourOf
theorem ta_56 {n k i v : Int} (hk : dk_is n 56 k) : dk_Ty k i v ↔ (0 ≤ v ∧ v ≤ 8) := by
  show dk_tyS (dk_site k) k i v ↔ _
  rw [hk.2.2]
  exact Iff.rfl
theorem ga_56 {E : dkE} {cc : ByteArray} {own : String} {d : Nat} {l0 : Launch} {G0 : dkG} {n00 : Int} {nL0 mc ms : Nat} (hE : dk_Good E cc own d dk_Ty l0 G0 n00 nL0 mc ms) {pc pc' : Nat} {ls st : List dkV} {n : Int} {σ : dkS} {k i : Int} (hd : decode cc pc = .ok (.iaload, 1)) (hk : dk_is n 56 k) (hi : 0 ≤ i ∧ i < 9) (hp : pc + 1 = pc') (K : ∀ v : Int, v = σ k i → (0 ≤ v ∧ v ≤ 8) → dk_i32 v → dk_PJ E pc' ls ((0, v) :: st) n σ) : dk_PJ E pc ls ((0, i) :: (4, k) :: st) n σ :=
  dk_iald hE hd hk rfl hi hp (fun t q => K _ rfl ((ta_56 hk).mp t) q)
theorem pa_56 {E : dkE} {cc : ByteArray} {own : String} {d : Nat} {l0 : Launch} {G0 : dkG} {n00 : Int} {nL0 mc ms : Nat} (hE : dk_Good E cc own d dk_Ty l0 G0 n00 nL0 mc ms) {pc pc' : Nat} {ls st : List dkV} {n : Int} {σ : dkS} {k i z : Int} (hd : decode cc pc = .ok (.iastore, 1)) (hk : dk_is n 56 k) (hi : 0 ≤ i ∧ i < 9) (ht : 0 ≤ z ∧ z ≤ 8) (hp : pc + 1 = pc') (K : ∀ σ1 : dkS, σ1 = dk_up σ k i z → dk_PJ E pc' ls st n σ1) : dk_PJ E pc ls ((0, z) :: (0, i) :: (4, k) :: st) n σ :=
  dk_iast hE hd hk rfl hi (fun h => h.1 rfl) ((ta_56 hk).mpr ht) hp (K _ rfl)
-- Timetable.busy
theorem ta_57 {n k i v : Int} (hk : dk_is n 57 k) : dk_Ty k i v ↔ (True) := by
  show dk_tyS (dk_site k) k i v ↔ _
  rw [hk.2.2]
  exact Iff.rfl
theorem ga_57 {E : dkE} {cc : ByteArray} {own : String} {d : Nat} {l0 : Launch} {G0 : dkG} {n00 : Int} {nL0 mc ms : Nat} (hE : dk_Good E cc own d dk_Ty l0 G0 n00 nL0 mc ms) {pc pc' : Nat} {ls st : List dkV} {n : Int} {σ : dkS} {k i : Int} (hd : decode cc pc = .ok (.iaload, 1)) (hk : dk_is n 57 k) (hi : 0 ≤ i ∧ i < 9) (hp : pc + 1 = pc') (K : ∀ v : Int, v = σ k i → (True) → dk_i32 v → dk_PJ E pc' ls ((0, v) :: st) n σ) : dk_PJ E pc ls ((0, i) :: (4, k) :: st) n σ :=
  dk_iald hE hd hk rfl hi hp (fun t q => K _ rfl ((ta_57 hk).mp t) q)
theorem pa_57 {E : dkE} {cc : ByteArray} {own : String} {d : Nat} {l0 : Launch} {G0 : dkG} {n00 : Int} {nL0 mc ms : Nat} (hE : dk_Good E cc own d dk_Ty l0 G0 n00 nL0 mc ms) {pc pc' : Nat} {ls st : List dkV} {n : Int} {σ : dkS} {k i z : Int} (hd : decode cc pc = .ok (.iastore, 1)) (hk : dk_is n 57 k) (hi : 0 ≤ i ∧ i < 9) (ht : True) (hp : pc + 1 = pc') (K : ∀ σ1 : dkS, σ1 = dk_up σ k i z → dk_PJ E pc' ls st n σ1) : dk_PJ E pc ls ((0, z) :: (0, i) :: (4, k) :: st) n σ :=
  dk_iast hE hd hk rfl hi (fun h => h.1 rfl) ((ta_57 hk).mpr ht) hp (K _ rfl)
-- Timetable.roomsTaken
theorem ta_58 {n k i v : Int} (hk : dk_is n 58 k) : dk_Ty k i v ↔ (True) := by
  show dk_tyS (dk_site k) k i v ↔ _
  rw [hk.2.2]
  exact Iff.rfl
theorem ga_58 {E : dkE} {cc : ByteArray} {own : String} {d : Nat} {l0 : Launch} {G0 : dkG} {n00 : Int} {nL0 mc ms : Nat} (hE : dk_Good E cc own d dk_Ty l0 G0 n00 nL0 mc ms) {pc pc' : Nat} {ls st : List dkV} {n : Int} {σ : dkS} {k i : Int} (hd : decode cc pc = .ok (.iaload, 1)) (hk : dk_is n 58 k) (hi : 0 ≤ i ∧ i < 9) (hp : pc + 1 = pc') (K : ∀ v : Int, v = σ k i → (True) → dk_i32 v → dk_PJ E pc' ls ((0, v) :: st) n σ) : dk_PJ E pc ls ((0, i) :: (4, k) :: st) n σ :=
  dk_iald hE hd hk rfl hi hp (fun t q => K _ rfl ((ta_58 hk).mp t) q)
theorem pa_58 {E : dkE} {cc : ByteArray} {own : String} {d : Nat} {l0 : Launch} {G0 : dkG} {n00 : Int} {nL0 mc ms : Nat} (hE : dk_Good E cc own d dk_Ty l0 G0 n00 nL0 mc ms) {pc pc' : Nat} {ls st : List dkV} {n : Int} {σ : dkS} {k i z : Int} (hd : decode cc pc = .ok (.iastore, 1)) (hk : dk_is n 58 k) (hi : 0 ≤ i ∧ i < 9) (ht : True) (hp : pc + 1 = pc') (K : ∀ σ1 : dkS, σ1 = dk_up σ k i z → dk_PJ E pc' ls st n σ1) : dk_PJ E pc ls ((0, z) :: (0, i) :: (4, k) :: st) n σ :=
  dk_iast hE hd hk rfl hi (fun h => h.1 rfl) ((ta_58 hk).mpr ht) hp (K _ rfl)
-- Score.atX
theorem ta_59 {n k i v : Int} (hk : dk_is n 59 k) : dk_Ty k i v ↔ (True) := by
  show dk_tyS (dk_site k) k i v ↔ _
  rw [hk.2.2]
  exact Iff.rfl
theorem ga_59 {E : dkE} {cc : ByteArray} {own : String} {d : Nat} {l0 : Launch} {G0 : dkG} {n00 : Int} {nL0 mc ms : Nat} (hE : dk_Good E cc own d dk_Ty l0 G0 n00 nL0 mc ms) {pc pc' : Nat} {ls st : List dkV} {n : Int} {σ : dkS} {k i : Int} (hd : decode cc pc = .ok (.iaload, 1)) (hk : dk_is n 59 k) (hi : 0 ≤ i ∧ i < 8) (hp : pc + 1 = pc') (K : ∀ v : Int, v = σ k i → (True) → dk_i32 v → dk_PJ E pc' ls ((0, v) :: st) n σ) : dk_PJ E pc ls ((0, i) :: (4, k) :: st) n σ :=
  dk_iald hE hd hk rfl hi hp (fun t q => K _ rfl ((ta_59 hk).mp t) q)
theorem pa_59 {E : dkE} {cc : ByteArray} {own : String} {d : Nat} {l0 : Launch} {G0 : dkG} {n00 : Int} {nL0 mc ms : Nat} (hE : dk_Good E cc own d dk_Ty l0 G0 n00 nL0 mc ms) {pc pc' : Nat} {ls st : List dkV} {n : Int} {σ : dkS} {k i z : Int} (hd : decode cc pc = .ok (.iastore, 1)) (hk : dk_is n 59 k) (hi : 0 ≤ i ∧ i < 8) (ht : True) (hp : pc + 1 = pc') (K : ∀ σ1 : dkS, σ1 = dk_up σ k i z → dk_PJ E pc' ls st n σ1) : dk_PJ E pc ls ((0, z) :: (0, i) :: (4, k) :: st) n σ :=
  dk_iast hE hd hk rfl hi (fun h => h.1 rfl) ((ta_59 hk).mpr ht) hp (K _ rfl)
-- Score.atY
theorem ta_60 {n k i v : Int} (hk : dk_is n 60 k) : dk_Ty k i v ↔ (True) := by
  show dk_tyS (dk_site k) k i v ↔ _
  rw [hk.2.2]
  exact Iff.rfl
theorem ga_60 {E : dkE} {cc : ByteArray} {own : String} {d : Nat} {l0 : Launch} {G0 : dkG} {n00 : Int} {nL0 mc ms : Nat} (hE : dk_Good E cc own d dk_Ty l0 G0 n00 nL0 mc ms) {pc pc' : Nat} {ls st : List dkV} {n : Int} {σ : dkS} {k i : Int} (hd : decode cc pc = .ok (.iaload, 1)) (hk : dk_is n 60 k) (hi : 0 ≤ i ∧ i < 8) (hp : pc + 1 = pc') (K : ∀ v : Int, v = σ k i → (True) → dk_i32 v → dk_PJ E pc' ls ((0, v) :: st) n σ) : dk_PJ E pc ls ((0, i) :: (4, k) :: st) n σ :=
  dk_iald hE hd hk rfl hi hp (fun t q => K _ rfl ((ta_60 hk).mp t) q)
theorem pa_60 {E : dkE} {cc : ByteArray} {own : String} {d : Nat} {l0 : Launch} {G0 : dkG} {n00 : Int} {nL0 mc ms : Nat} (hE : dk_Good E cc own d dk_Ty l0 G0 n00 nL0 mc ms) {pc pc' : Nat} {ls st : List dkV} {n : Int} {σ : dkS} {k i z : Int} (hd : decode cc pc = .ok (.iastore, 1)) (hk : dk_is n 60 k) (hi : 0 ≤ i ∧ i < 8) (ht : True) (hp : pc + 1 = pc') (K : ∀ σ1 : dkS, σ1 = dk_up σ k i z → dk_PJ E pc' ls st n σ1) : dk_PJ E pc ls ((0, z) :: (0, i) :: (4, k) :: st) n σ :=
  dk_iast hE hd hk rfl hi (fun h => h.1 rfl) ((ta_60 hk).mpr ht) hp (K _ rfl)
-- Score.marks
theorem ta_61 {n k i v : Int} (hk : dk_is n 61 k) : dk_Ty k i v ↔ (v = k + 1 + i) := by
  show dk_tyS (dk_site k) k i v ↔ _
  rw [hk.2.2]
  exact Iff.rfl
theorem ga_61 {E : dkE} {cc : ByteArray} {own : String} {d : Nat} {l0 : Launch} {G0 : dkG} {n00 : Int} {nL0 mc ms : Nat} (hE : dk_Good E cc own d dk_Ty l0 G0 n00 nL0 mc ms) {pc pc' : Nat} {ls st : List dkV} {n : Int} {σ : dkS} {k i w : Int} (hd : decode cc pc = .ok (.aaload, 1)) (hk : dk_is n 61 k) (hi : 0 ≤ i ∧ i < 12) (hw : k + 1 + i = w) (hp : pc + 1 = pc') (K : dk_PJ E pc' ls ((4, w) :: st) n σ) : dk_PJ E pc ls ((0, i) :: (4, k) :: st) n σ :=
  dk_aald5 hE hd hk rfl hi hp (fun t => by have t := (ta_61 hk).mp t; rw [show σ k i = w from t.trans hw]; exact K)
-- Score.marks.row
theorem ta_62 {n k i v : Int} (hk : dk_is n 62 k) : dk_Ty k i v ↔ (0 ≤ v ∧ v ≤ 7) := by
  show dk_tyS (dk_site k) k i v ↔ _
  rw [hk.2.2]
  exact Iff.rfl
theorem ga_62 {E : dkE} {cc : ByteArray} {own : String} {d : Nat} {l0 : Launch} {G0 : dkG} {n00 : Int} {nL0 mc ms : Nat} (hE : dk_Good E cc own d dk_Ty l0 G0 n00 nL0 mc ms) {pc pc' : Nat} {ls st : List dkV} {n : Int} {σ : dkS} {k i : Int} (hd : decode cc pc = .ok (.iaload, 1)) (hk : dk_is n 62 k) (hi : 0 ≤ i ∧ i < 32) (hp : pc + 1 = pc') (K : ∀ v : Int, v = σ k i → (0 ≤ v ∧ v ≤ 7) → dk_i32 v → dk_PJ E pc' ls ((0, v) :: st) n σ) : dk_PJ E pc ls ((0, i) :: (4, k) :: st) n σ :=
  dk_iald hE hd hk rfl hi hp (fun t q => K _ rfl ((ta_62 hk).mp t) q)
theorem pa_62 {E : dkE} {cc : ByteArray} {own : String} {d : Nat} {l0 : Launch} {G0 : dkG} {n00 : Int} {nL0 mc ms : Nat} (hE : dk_Good E cc own d dk_Ty l0 G0 n00 nL0 mc ms) {pc pc' : Nat} {ls st : List dkV} {n : Int} {σ : dkS} {k i z : Int} (hd : decode cc pc = .ok (.iastore, 1)) (hk : dk_is n 62 k) (hi : 0 ≤ i ∧ i < 32) (ht : 0 ≤ z ∧ z ≤ 7) (hp : pc + 1 = pc') (K : ∀ σ1 : dkS, σ1 = dk_up σ k i z → dk_PJ E pc' ls st n σ1) : dk_PJ E pc ls ((0, z) :: (0, i) :: (4, k) :: st) n σ :=
  dk_iast hE hd hk rfl hi (fun h => h.1 rfl) ((ta_62 hk).mpr ht) hp (K _ rfl)
-- Score.workOf
theorem ta_63 {n k i v : Int} (hk : dk_is n 63 k) : dk_Ty k i v ↔ (0 ≤ v ∧ v ≤ 3) := by
  show dk_tyS (dk_site k) k i v ↔ _
  rw [hk.2.2]
  exact Iff.rfl
theorem ga_63 {E : dkE} {cc : ByteArray} {own : String} {d : Nat} {l0 : Launch} {G0 : dkG} {n00 : Int} {nL0 mc ms : Nat} (hE : dk_Good E cc own d dk_Ty l0 G0 n00 nL0 mc ms) {pc pc' : Nat} {ls st : List dkV} {n : Int} {σ : dkS} {k i : Int} (hd : decode cc pc = .ok (.iaload, 1)) (hk : dk_is n 63 k) (hi : 0 ≤ i ∧ i < 12) (hp : pc + 1 = pc') (K : ∀ v : Int, v = σ k i → (0 ≤ v ∧ v ≤ 3) → dk_i32 v → dk_PJ E pc' ls ((0, v) :: st) n σ) : dk_PJ E pc ls ((0, i) :: (4, k) :: st) n σ :=
  dk_iald hE hd hk rfl hi hp (fun t q => K _ rfl ((ta_63 hk).mp t) q)
theorem pa_63 {E : dkE} {cc : ByteArray} {own : String} {d : Nat} {l0 : Launch} {G0 : dkG} {n00 : Int} {nL0 mc ms : Nat} (hE : dk_Good E cc own d dk_Ty l0 G0 n00 nL0 mc ms) {pc pc' : Nat} {ls st : List dkV} {n : Int} {σ : dkS} {k i z : Int} (hd : decode cc pc = .ok (.iastore, 1)) (hk : dk_is n 63 k) (hi : 0 ≤ i ∧ i < 12) (ht : 0 ≤ z ∧ z ≤ 3) (hp : pc + 1 = pc') (K : ∀ σ1 : dkS, σ1 = dk_up σ k i z → dk_PJ E pc' ls st n σ1) : dk_PJ E pc ls ((0, z) :: (0, i) :: (4, k) :: st) n σ :=
  dk_iast hE hd hk rfl hi (fun h => h.1 rfl) ((ta_63 hk).mpr ht) hp (K _ rfl)
-- Score.counts
theorem ta_64 {n k i v : Int} (hk : dk_is n 64 k) : dk_Ty k i v ↔ (0 ≤ v ∧ v ≤ 32) := by
  show dk_tyS (dk_site k) k i v ↔ _
  rw [hk.2.2]
  exact Iff.rfl
theorem ga_64 {E : dkE} {cc : ByteArray} {own : String} {d : Nat} {l0 : Launch} {G0 : dkG} {n00 : Int} {nL0 mc ms : Nat} (hE : dk_Good E cc own d dk_Ty l0 G0 n00 nL0 mc ms) {pc pc' : Nat} {ls st : List dkV} {n : Int} {σ : dkS} {k i : Int} (hd : decode cc pc = .ok (.iaload, 1)) (hk : dk_is n 64 k) (hi : 0 ≤ i ∧ i < 12) (hp : pc + 1 = pc') (K : ∀ v : Int, v = σ k i → (0 ≤ v ∧ v ≤ 32) → dk_i32 v → dk_PJ E pc' ls ((0, v) :: st) n σ) : dk_PJ E pc ls ((0, i) :: (4, k) :: st) n σ :=
  dk_iald hE hd hk rfl hi hp (fun t q => K _ rfl ((ta_64 hk).mp t) q)
theorem pa_64 {E : dkE} {cc : ByteArray} {own : String} {d : Nat} {l0 : Launch} {G0 : dkG} {n00 : Int} {nL0 mc ms : Nat} (hE : dk_Good E cc own d dk_Ty l0 G0 n00 nL0 mc ms) {pc pc' : Nat} {ls st : List dkV} {n : Int} {σ : dkS} {k i z : Int} (hd : decode cc pc = .ok (.iastore, 1)) (hk : dk_is n 64 k) (hi : 0 ≤ i ∧ i < 12) (ht : 0 ≤ z ∧ z ≤ 32) (hp : pc + 1 = pc') (K : ∀ σ1 : dkS, σ1 = dk_up σ k i z → dk_PJ E pc' ls st n σ1) : dk_PJ E pc ls ((0, z) :: (0, i) :: (4, k) :: st) n σ :=
  dk_iast hE hd hk rfl hi (fun h => h.1 rfl) ((ta_64 hk).mpr ht) hp (K _ rfl)
-- Score.startX
theorem ta_65 {n k i v : Int} (hk : dk_is n 65 k) : dk_Ty k i v ↔ (0 ≤ v ∧ v ≤ 19) := by
  show dk_tyS (dk_site k) k i v ↔ _
  rw [hk.2.2]
  exact Iff.rfl
theorem ga_65 {E : dkE} {cc : ByteArray} {own : String} {d : Nat} {l0 : Launch} {G0 : dkG} {n00 : Int} {nL0 mc ms : Nat} (hE : dk_Good E cc own d dk_Ty l0 G0 n00 nL0 mc ms) {pc pc' : Nat} {ls st : List dkV} {n : Int} {σ : dkS} {k i : Int} (hd : decode cc pc = .ok (.iaload, 1)) (hk : dk_is n 65 k) (hi : 0 ≤ i ∧ i < 12) (hp : pc + 1 = pc') (K : ∀ v : Int, v = σ k i → (0 ≤ v ∧ v ≤ 19) → dk_i32 v → dk_PJ E pc' ls ((0, v) :: st) n σ) : dk_PJ E pc ls ((0, i) :: (4, k) :: st) n σ :=
  dk_iald hE hd hk rfl hi hp (fun t q => K _ rfl ((ta_65 hk).mp t) q)
theorem pa_65 {E : dkE} {cc : ByteArray} {own : String} {d : Nat} {l0 : Launch} {G0 : dkG} {n00 : Int} {nL0 mc ms : Nat} (hE : dk_Good E cc own d dk_Ty l0 G0 n00 nL0 mc ms) {pc pc' : Nat} {ls st : List dkV} {n : Int} {σ : dkS} {k i z : Int} (hd : decode cc pc = .ok (.iastore, 1)) (hk : dk_is n 65 k) (hi : 0 ≤ i ∧ i < 12) (ht : 0 ≤ z ∧ z ≤ 19) (hp : pc + 1 = pc') (K : ∀ σ1 : dkS, σ1 = dk_up σ k i z → dk_PJ E pc' ls st n σ1) : dk_PJ E pc ls ((0, z) :: (0, i) :: (4, k) :: st) n σ :=
  dk_iast hE hd hk rfl hi (fun h => h.1 rfl) ((ta_65 hk).mpr ht) hp (K _ rfl)
-- Score.startY
theorem ta_66 {n k i v : Int} (hk : dk_is n 66 k) : dk_Ty k i v ↔ (0 ≤ v ∧ v ≤ 19) := by
  show dk_tyS (dk_site k) k i v ↔ _
  rw [hk.2.2]
  exact Iff.rfl
theorem ga_66 {E : dkE} {cc : ByteArray} {own : String} {d : Nat} {l0 : Launch} {G0 : dkG} {n00 : Int} {nL0 mc ms : Nat} (hE : dk_Good E cc own d dk_Ty l0 G0 n00 nL0 mc ms) {pc pc' : Nat} {ls st : List dkV} {n : Int} {σ : dkS} {k i : Int} (hd : decode cc pc = .ok (.iaload, 1)) (hk : dk_is n 66 k) (hi : 0 ≤ i ∧ i < 12) (hp : pc + 1 = pc') (K : ∀ v : Int, v = σ k i → (0 ≤ v ∧ v ≤ 19) → dk_i32 v → dk_PJ E pc' ls ((0, v) :: st) n σ) : dk_PJ E pc ls ((0, i) :: (4, k) :: st) n σ :=
  dk_iald hE hd hk rfl hi hp (fun t q => K _ rfl ((ta_66 hk).mp t) q)
theorem pa_66 {E : dkE} {cc : ByteArray} {own : String} {d : Nat} {l0 : Launch} {G0 : dkG} {n00 : Int} {nL0 mc ms : Nat} (hE : dk_Good E cc own d dk_Ty l0 G0 n00 nL0 mc ms) {pc pc' : Nat} {ls st : List dkV} {n : Int} {σ : dkS} {k i z : Int} (hd : decode cc pc = .ok (.iastore, 1)) (hk : dk_is n 66 k) (hi : 0 ≤ i ∧ i < 12) (ht : 0 ≤ z ∧ z ≤ 19) (hp : pc + 1 = pc') (K : ∀ σ1 : dkS, σ1 = dk_up σ k i z → dk_PJ E pc' ls st n σ1) : dk_PJ E pc ls ((0, z) :: (0, i) :: (4, k) :: st) n σ :=
  dk_iast hE hd hk rfl hi (fun h => h.1 rfl) ((ta_66 hk).mpr ht) hp (K _ rfl)
-- Score.noted
theorem ta_67 {n k i v : Int} (hk : dk_is n 67 k) : dk_Ty k i v ↔ (True) := by
  show dk_tyS (dk_site k) k i v ↔ _
  rw [hk.2.2]
  exact Iff.rfl
theorem ga_67 {E : dkE} {cc : ByteArray} {own : String} {d : Nat} {l0 : Launch} {G0 : dkG} {n00 : Int} {nL0 mc ms : Nat} (hE : dk_Good E cc own d dk_Ty l0 G0 n00 nL0 mc ms) {pc pc' : Nat} {ls st : List dkV} {n : Int} {σ : dkS} {k i : Int} (hd : decode cc pc = .ok (.baload, 1)) (hk : dk_is n 67 k) (hi : 0 ≤ i ∧ i < 12) (hp : pc + 1 = pc') (K : ∀ v : Int, v = σ k i → (True) → (0 ≤ v ∧ v ≤ 1) → dk_PJ E pc' ls ((0, v) :: st) n σ) : dk_PJ E pc ls ((0, i) :: (4, k) :: st) n σ :=
  dk_zald hE hd hk rfl hi hp (fun t q => K _ rfl ((ta_67 hk).mp t) q)
theorem pa_67 {E : dkE} {cc : ByteArray} {own : String} {d : Nat} {l0 : Launch} {G0 : dkG} {n00 : Int} {nL0 mc ms : Nat} (hE : dk_Good E cc own d dk_Ty l0 G0 n00 nL0 mc ms) {pc pc' : Nat} {ls st : List dkV} {n : Int} {σ : dkS} {k i z : Int} (hd : decode cc pc = .ok (.bastore, 1)) (hk : dk_is n 67 k) (hi : 0 ≤ i ∧ i < 12) (hz : 0 ≤ z ∧ z ≤ 1) (ht : True) (hp : pc + 1 = pc') (K : ∀ σ1 : dkS, σ1 = dk_up σ k i z → dk_PJ E pc' ls st n σ1) : dk_PJ E pc ls ((0, z) :: (0, i) :: (4, k) :: st) n σ :=
  dk_zast hE hd hk rfl hi (fun _ => hz) ((ta_67 hk).mpr ht) hp (K _ rfl)
-- Score.firstPart
theorem ta_68 {n k i v : Int} (hk : dk_is n 68 k) : dk_Ty k i v ↔ (0 ≤ v ∧ v ≤ 12) := by
  show dk_tyS (dk_site k) k i v ↔ _
  rw [hk.2.2]
  exact Iff.rfl
theorem ga_68 {E : dkE} {cc : ByteArray} {own : String} {d : Nat} {l0 : Launch} {G0 : dkG} {n00 : Int} {nL0 mc ms : Nat} (hE : dk_Good E cc own d dk_Ty l0 G0 n00 nL0 mc ms) {pc pc' : Nat} {ls st : List dkV} {n : Int} {σ : dkS} {k i : Int} (hd : decode cc pc = .ok (.iaload, 1)) (hk : dk_is n 68 k) (hi : 0 ≤ i ∧ i < 4) (hp : pc + 1 = pc') (K : ∀ v : Int, v = σ k i → (0 ≤ v ∧ v ≤ 12) → dk_i32 v → dk_PJ E pc' ls ((0, v) :: st) n σ) : dk_PJ E pc ls ((0, i) :: (4, k) :: st) n σ :=
  dk_iald hE hd hk rfl hi hp (fun t q => K _ rfl ((ta_68 hk).mp t) q)
theorem pa_68 {E : dkE} {cc : ByteArray} {own : String} {d : Nat} {l0 : Launch} {G0 : dkG} {n00 : Int} {nL0 mc ms : Nat} (hE : dk_Good E cc own d dk_Ty l0 G0 n00 nL0 mc ms) {pc pc' : Nat} {ls st : List dkV} {n : Int} {σ : dkS} {k i z : Int} (hd : decode cc pc = .ok (.iastore, 1)) (hk : dk_is n 68 k) (hi : 0 ≤ i ∧ i < 4) (ht : 0 ≤ z ∧ z ≤ 12) (hp : pc + 1 = pc') (K : ∀ σ1 : dkS, σ1 = dk_up σ k i z → dk_PJ E pc' ls st n σ1) : dk_PJ E pc ls ((0, z) :: (0, i) :: (4, k) :: st) n σ :=
  dk_iast hE hd hk rfl hi (fun h => h.1 rfl) ((ta_68 hk).mpr ht) hp (K _ rfl)
-- Score.partsOf
theorem ta_69 {n k i v : Int} (hk : dk_is n 69 k) : dk_Ty k i v ↔ (0 ≤ v ∧ v ≤ 8) := by
  show dk_tyS (dk_site k) k i v ↔ _
  rw [hk.2.2]
  exact Iff.rfl
theorem ga_69 {E : dkE} {cc : ByteArray} {own : String} {d : Nat} {l0 : Launch} {G0 : dkG} {n00 : Int} {nL0 mc ms : Nat} (hE : dk_Good E cc own d dk_Ty l0 G0 n00 nL0 mc ms) {pc pc' : Nat} {ls st : List dkV} {n : Int} {σ : dkS} {k i : Int} (hd : decode cc pc = .ok (.iaload, 1)) (hk : dk_is n 69 k) (hi : 0 ≤ i ∧ i < 4) (hp : pc + 1 = pc') (K : ∀ v : Int, v = σ k i → (0 ≤ v ∧ v ≤ 8) → dk_i32 v → dk_PJ E pc' ls ((0, v) :: st) n σ) : dk_PJ E pc ls ((0, i) :: (4, k) :: st) n σ :=
  dk_iald hE hd hk rfl hi hp (fun t q => K _ rfl ((ta_69 hk).mp t) q)
theorem pa_69 {E : dkE} {cc : ByteArray} {own : String} {d : Nat} {l0 : Launch} {G0 : dkG} {n00 : Int} {nL0 mc ms : Nat} (hE : dk_Good E cc own d dk_Ty l0 G0 n00 nL0 mc ms) {pc pc' : Nat} {ls st : List dkV} {n : Int} {σ : dkS} {k i z : Int} (hd : decode cc pc = .ok (.iastore, 1)) (hk : dk_is n 69 k) (hi : 0 ≤ i ∧ i < 4) (ht : 0 ≤ z ∧ z ≤ 8) (hp : pc + 1 = pc') (K : ∀ σ1 : dkS, σ1 = dk_up σ k i z → dk_PJ E pc' ls st n σ1) : dk_PJ E pc ls ((0, z) :: (0, i) :: (4, k) :: st) n σ :=
  dk_iast hE hd hk rfl hi (fun h => h.1 rfl) ((ta_69 hk).mpr ht) hp (K _ rfl)
-- m.tape
theorem ta_70 {n k i v : Int} (hk : dk_is n 70 k) : dk_Ty k i v ↔ (True) := by
  show dk_tyS (dk_site k) k i v ↔ _
  rw [hk.2.2]
  exact Iff.rfl
theorem ga_70 {E : dkE} {cc : ByteArray} {own : String} {d : Nat} {l0 : Launch} {G0 : dkG} {n00 : Int} {nL0 mc ms : Nat} (hE : dk_Good E cc own d dk_Ty l0 G0 n00 nL0 mc ms) {pc pc' : Nat} {ls st : List dkV} {n : Int} {σ : dkS} {k i : Int} (hd : decode cc pc = .ok (.baload, 1)) (hk : dk_is n 70 k) (hi : 0 ≤ i ∧ i < 1420) (hp : pc + 1 = pc') (K : ∀ v : Int, v = σ k i → (True) → (-128 ≤ v ∧ v ≤ 127) → dk_PJ E pc' ls ((0, v) :: st) n σ) : dk_PJ E pc ls ((0, i) :: (4, k) :: st) n σ :=
  dk_bald hE hd hk rfl hi hp (fun t q => K _ rfl ((ta_70 hk).mp t) q)
theorem pa_70 {E : dkE} {cc : ByteArray} {own : String} {d : Nat} {l0 : Launch} {G0 : dkG} {n00 : Int} {nL0 mc ms : Nat} (hE : dk_Good E cc own d dk_Ty l0 G0 n00 nL0 mc ms) {pc pc' : Nat} {ls st : List dkV} {n : Int} {σ : dkS} {k i z : Int} (hd : decode cc pc = .ok (.bastore, 1)) (hk : dk_is n 70 k) (hi : 0 ≤ i ∧ i < 1420) (hz : -128 ≤ z ∧ z ≤ 127) (ht : True) (hp : pc + 1 = pc') (K : ∀ σ1 : dkS, σ1 = dk_up σ k i z → dk_PJ E pc' ls st n σ1) : dk_PJ E pc ls ((0, z) :: (0, i) :: (4, k) :: st) n σ :=
  dk_bast hE hd hk rfl hi (fun _ => hz) ((ta_70 hk).mpr ht) hp (K _ rfl)
-- m.text
theorem ta_71 {n k i v : Int} (hk : dk_is n 71 k) : dk_Ty k i v ↔ (True) := by
  show dk_tyS (dk_site k) k i v ↔ _
  rw [hk.2.2]
  exact Iff.rfl
theorem ga_71 {E : dkE} {cc : ByteArray} {own : String} {d : Nat} {l0 : Launch} {G0 : dkG} {n00 : Int} {nL0 mc ms : Nat} (hE : dk_Good E cc own d dk_Ty l0 G0 n00 nL0 mc ms) {pc pc' : Nat} {ls st : List dkV} {n : Int} {σ : dkS} {k i : Int} (hd : decode cc pc = .ok (.baload, 1)) (hk : dk_is n 71 k) (hi : 0 ≤ i ∧ i < 1400) (hp : pc + 1 = pc') (K : ∀ v : Int, v = σ k i → (True) → (-128 ≤ v ∧ v ≤ 127) → dk_PJ E pc' ls ((0, v) :: st) n σ) : dk_PJ E pc ls ((0, i) :: (4, k) :: st) n σ :=
  dk_bald hE hd hk rfl hi hp (fun t q => K _ rfl ((ta_71 hk).mp t) q)
theorem pa_71 {E : dkE} {cc : ByteArray} {own : String} {d : Nat} {l0 : Launch} {G0 : dkG} {n00 : Int} {nL0 mc ms : Nat} (hE : dk_Good E cc own d dk_Ty l0 G0 n00 nL0 mc ms) {pc pc' : Nat} {ls st : List dkV} {n : Int} {σ : dkS} {k i z : Int} (hd : decode cc pc = .ok (.bastore, 1)) (hk : dk_is n 71 k) (hi : 0 ≤ i ∧ i < 1400) (hz : -128 ≤ z ∧ z ≤ 127) (ht : True) (hp : pc + 1 = pc') (K : ∀ σ1 : dkS, σ1 = dk_up σ k i z → dk_PJ E pc' ls st n σ1) : dk_PJ E pc ls ((0, z) :: (0, i) :: (4, k) :: st) n σ :=
  dk_bast hE hd hk rfl hi (fun _ => hz) ((ta_71 hk).mpr ht) hp (K _ rfl)
-- m.lineMany
theorem ta_72 {n k i v : Int} (hk : dk_is n 72 k) : dk_Ty k i v ↔ (True) := by
  show dk_tyS (dk_site k) k i v ↔ _
  rw [hk.2.2]
  exact Iff.rfl
theorem ga_72 {E : dkE} {cc : ByteArray} {own : String} {d : Nat} {l0 : Launch} {G0 : dkG} {n00 : Int} {nL0 mc ms : Nat} (hE : dk_Good E cc own d dk_Ty l0 G0 n00 nL0 mc ms) {pc pc' : Nat} {ls st : List dkV} {n : Int} {σ : dkS} {k i : Int} (hd : decode cc pc = .ok (.iaload, 1)) (hk : dk_is n 72 k) (hi : 0 ≤ i ∧ i < 2) (hp : pc + 1 = pc') (K : ∀ v : Int, v = σ k i → (True) → dk_i32 v → dk_PJ E pc' ls ((0, v) :: st) n σ) : dk_PJ E pc ls ((0, i) :: (4, k) :: st) n σ :=
  dk_iald hE hd hk rfl hi hp (fun t q => K _ rfl ((ta_72 hk).mp t) q)
theorem pa_72 {E : dkE} {cc : ByteArray} {own : String} {d : Nat} {l0 : Launch} {G0 : dkG} {n00 : Int} {nL0 mc ms : Nat} (hE : dk_Good E cc own d dk_Ty l0 G0 n00 nL0 mc ms) {pc pc' : Nat} {ls st : List dkV} {n : Int} {σ : dkS} {k i z : Int} (hd : decode cc pc = .ok (.iastore, 1)) (hk : dk_is n 72 k) (hi : 0 ≤ i ∧ i < 2) (ht : True) (hp : pc + 1 = pc') (K : ∀ σ1 : dkS, σ1 = dk_up σ k i z → dk_PJ E pc' ls st n σ1) : dk_PJ E pc ls ((0, z) :: (0, i) :: (4, k) :: st) n σ :=
  dk_iast hE hd hk rfl hi (fun h => h.1 rfl) ((ta_72 hk).mpr ht) hp (K _ rfl)
-- m.workMany
theorem ta_73 {n k i v : Int} (hk : dk_is n 73 k) : dk_Ty k i v ↔ (0 ≤ v ∧ v ≤ 4) := by
  show dk_tyS (dk_site k) k i v ↔ _
  rw [hk.2.2]
  exact Iff.rfl
theorem ga_73 {E : dkE} {cc : ByteArray} {own : String} {d : Nat} {l0 : Launch} {G0 : dkG} {n00 : Int} {nL0 mc ms : Nat} (hE : dk_Good E cc own d dk_Ty l0 G0 n00 nL0 mc ms) {pc pc' : Nat} {ls st : List dkV} {n : Int} {σ : dkS} {k i : Int} (hd : decode cc pc = .ok (.iaload, 1)) (hk : dk_is n 73 k) (hi : 0 ≤ i ∧ i < 2) (hp : pc + 1 = pc') (K : ∀ v : Int, v = σ k i → (0 ≤ v ∧ v ≤ 4) → dk_i32 v → dk_PJ E pc' ls ((0, v) :: st) n σ) : dk_PJ E pc ls ((0, i) :: (4, k) :: st) n σ :=
  dk_iald hE hd hk rfl hi hp (fun t q => K _ rfl ((ta_73 hk).mp t) q)
theorem pa_73 {E : dkE} {cc : ByteArray} {own : String} {d : Nat} {l0 : Launch} {G0 : dkG} {n00 : Int} {nL0 mc ms : Nat} (hE : dk_Good E cc own d dk_Ty l0 G0 n00 nL0 mc ms) {pc pc' : Nat} {ls st : List dkV} {n : Int} {σ : dkS} {k i z : Int} (hd : decode cc pc = .ok (.iastore, 1)) (hk : dk_is n 73 k) (hi : 0 ≤ i ∧ i < 2) (ht : 0 ≤ z ∧ z ≤ 4) (hp : pc + 1 = pc') (K : ∀ σ1 : dkS, σ1 = dk_up σ k i z → dk_PJ E pc' ls st n σ1) : dk_PJ E pc ls ((0, z) :: (0, i) :: (4, k) :: st) n σ :=
  dk_iast hE hd hk rfl hi (fun h => h.1 rfl) ((ta_73 hk).mpr ht) hp (K _ rfl)
-- m.partMany
theorem ta_74 {n k i v : Int} (hk : dk_is n 74 k) : dk_Ty k i v ↔ (0 ≤ v ∧ v ≤ 12) := by
  show dk_tyS (dk_site k) k i v ↔ _
  rw [hk.2.2]
  exact Iff.rfl
theorem ga_74 {E : dkE} {cc : ByteArray} {own : String} {d : Nat} {l0 : Launch} {G0 : dkG} {n00 : Int} {nL0 mc ms : Nat} (hE : dk_Good E cc own d dk_Ty l0 G0 n00 nL0 mc ms) {pc pc' : Nat} {ls st : List dkV} {n : Int} {σ : dkS} {k i : Int} (hd : decode cc pc = .ok (.iaload, 1)) (hk : dk_is n 74 k) (hi : 0 ≤ i ∧ i < 2) (hp : pc + 1 = pc') (K : ∀ v : Int, v = σ k i → (0 ≤ v ∧ v ≤ 12) → dk_i32 v → dk_PJ E pc' ls ((0, v) :: st) n σ) : dk_PJ E pc ls ((0, i) :: (4, k) :: st) n σ :=
  dk_iald hE hd hk rfl hi hp (fun t q => K _ rfl ((ta_74 hk).mp t) q)
theorem pa_74 {E : dkE} {cc : ByteArray} {own : String} {d : Nat} {l0 : Launch} {G0 : dkG} {n00 : Int} {nL0 mc ms : Nat} (hE : dk_Good E cc own d dk_Ty l0 G0 n00 nL0 mc ms) {pc pc' : Nat} {ls st : List dkV} {n : Int} {σ : dkS} {k i z : Int} (hd : decode cc pc = .ok (.iastore, 1)) (hk : dk_is n 74 k) (hi : 0 ≤ i ∧ i < 2) (ht : 0 ≤ z ∧ z ≤ 12) (hp : pc + 1 = pc') (K : ∀ σ1 : dkS, σ1 = dk_up σ k i z → dk_PJ E pc' ls st n σ1) : dk_PJ E pc ls ((0, z) :: (0, i) :: (4, k) :: st) n σ :=
  dk_iast hE hd hk rfl hi (fun h => h.1 rfl) ((ta_74 hk).mpr ht) hp (K _ rfl)
-- m.nameMany
theorem ta_75 {n k i v : Int} (hk : dk_is n 75 k) : dk_Ty k i v ↔ (0 ≤ v ∧ v ≤ 16) := by
  show dk_tyS (dk_site k) k i v ↔ _
  rw [hk.2.2]
  exact Iff.rfl
theorem ga_75 {E : dkE} {cc : ByteArray} {own : String} {d : Nat} {l0 : Launch} {G0 : dkG} {n00 : Int} {nL0 mc ms : Nat} (hE : dk_Good E cc own d dk_Ty l0 G0 n00 nL0 mc ms) {pc pc' : Nat} {ls st : List dkV} {n : Int} {σ : dkS} {k i : Int} (hd : decode cc pc = .ok (.iaload, 1)) (hk : dk_is n 75 k) (hi : 0 ≤ i ∧ i < 2) (hp : pc + 1 = pc') (K : ∀ v : Int, v = σ k i → (0 ≤ v ∧ v ≤ 16) → dk_i32 v → dk_PJ E pc' ls ((0, v) :: st) n σ) : dk_PJ E pc ls ((0, i) :: (4, k) :: st) n σ :=
  dk_iald hE hd hk rfl hi hp (fun t q => K _ rfl ((ta_75 hk).mp t) q)
theorem pa_75 {E : dkE} {cc : ByteArray} {own : String} {d : Nat} {l0 : Launch} {G0 : dkG} {n00 : Int} {nL0 mc ms : Nat} (hE : dk_Good E cc own d dk_Ty l0 G0 n00 nL0 mc ms) {pc pc' : Nat} {ls st : List dkV} {n : Int} {σ : dkS} {k i z : Int} (hd : decode cc pc = .ok (.iastore, 1)) (hk : dk_is n 75 k) (hi : 0 ≤ i ∧ i < 2) (ht : 0 ≤ z ∧ z ≤ 16) (hp : pc + 1 = pc') (K : ∀ σ1 : dkS, σ1 = dk_up σ k i z → dk_PJ E pc' ls st n σ1) : dk_PJ E pc ls ((0, z) :: (0, i) :: (4, k) :: st) n σ :=
  dk_iast hE hd hk rfl hi (fun h => h.1 rfl) ((ta_75 hk).mpr ht) hp (K _ rfl)
-- m.wide
theorem ta_76 {n k i v : Int} (hk : dk_is n 76 k) : dk_Ty k i v ↔ (True) := by
  show dk_tyS (dk_site k) k i v ↔ _
  rw [hk.2.2]
  exact Iff.rfl
theorem ga_76 {E : dkE} {cc : ByteArray} {own : String} {d : Nat} {l0 : Launch} {G0 : dkG} {n00 : Int} {nL0 mc ms : Nat} (hE : dk_Good E cc own d dk_Ty l0 G0 n00 nL0 mc ms) {pc pc' : Nat} {ls st : List dkV} {n : Int} {σ : dkS} {k i : Int} (hd : decode cc pc = .ok (.iaload, 1)) (hk : dk_is n 76 k) (hi : 0 ≤ i ∧ i < 2) (hp : pc + 1 = pc') (K : ∀ v : Int, v = σ k i → (True) → dk_i32 v → dk_PJ E pc' ls ((0, v) :: st) n σ) : dk_PJ E pc ls ((0, i) :: (4, k) :: st) n σ :=
  dk_iald hE hd hk rfl hi hp (fun t q => K _ rfl ((ta_76 hk).mp t) q)
theorem pa_76 {E : dkE} {cc : ByteArray} {own : String} {d : Nat} {l0 : Launch} {G0 : dkG} {n00 : Int} {nL0 mc ms : Nat} (hE : dk_Good E cc own d dk_Ty l0 G0 n00 nL0 mc ms) {pc pc' : Nat} {ls st : List dkV} {n : Int} {σ : dkS} {k i z : Int} (hd : decode cc pc = .ok (.iastore, 1)) (hk : dk_is n 76 k) (hi : 0 ≤ i ∧ i < 2) (ht : True) (hp : pc + 1 = pc') (K : ∀ σ1 : dkS, σ1 = dk_up σ k i z → dk_PJ E pc' ls st n σ1) : dk_PJ E pc ls ((0, z) :: (0, i) :: (4, k) :: st) n σ :=
  dk_iast hE hd hk rfl hi (fun h => h.1 rfl) ((ta_76 hk).mpr ht) hp (K _ rfl)
-- m.deep
theorem ta_77 {n k i v : Int} (hk : dk_is n 77 k) : dk_Ty k i v ↔ (True) := by
  show dk_tyS (dk_site k) k i v ↔ _
  rw [hk.2.2]
  exact Iff.rfl
theorem ga_77 {E : dkE} {cc : ByteArray} {own : String} {d : Nat} {l0 : Launch} {G0 : dkG} {n00 : Int} {nL0 mc ms : Nat} (hE : dk_Good E cc own d dk_Ty l0 G0 n00 nL0 mc ms) {pc pc' : Nat} {ls st : List dkV} {n : Int} {σ : dkS} {k i : Int} (hd : decode cc pc = .ok (.iaload, 1)) (hk : dk_is n 77 k) (hi : 0 ≤ i ∧ i < 2) (hp : pc + 1 = pc') (K : ∀ v : Int, v = σ k i → (True) → dk_i32 v → dk_PJ E pc' ls ((0, v) :: st) n σ) : dk_PJ E pc ls ((0, i) :: (4, k) :: st) n σ :=
  dk_iald hE hd hk rfl hi hp (fun t q => K _ rfl ((ta_77 hk).mp t) q)
theorem pa_77 {E : dkE} {cc : ByteArray} {own : String} {d : Nat} {l0 : Launch} {G0 : dkG} {n00 : Int} {nL0 mc ms : Nat} (hE : dk_Good E cc own d dk_Ty l0 G0 n00 nL0 mc ms) {pc pc' : Nat} {ls st : List dkV} {n : Int} {σ : dkS} {k i z : Int} (hd : decode cc pc = .ok (.iastore, 1)) (hk : dk_is n 77 k) (hi : 0 ≤ i ∧ i < 2) (ht : True) (hp : pc + 1 = pc') (K : ∀ σ1 : dkS, σ1 = dk_up σ k i z → dk_PJ E pc' ls st n σ1) : dk_PJ E pc ls ((0, z) :: (0, i) :: (4, k) :: st) n σ :=
  dk_iast hE hd hk rfl hi (fun h => h.1 rfl) ((ta_77 hk).mpr ht) hp (K _ rfl)
-- m.hard
theorem ta_78 {n k i v : Int} (hk : dk_is n 78 k) : dk_Ty k i v ↔ (0 ≤ v ∧ v ≤ 9) := by
  show dk_tyS (dk_site k) k i v ↔ _
  rw [hk.2.2]
  exact Iff.rfl
theorem ga_78 {E : dkE} {cc : ByteArray} {own : String} {d : Nat} {l0 : Launch} {G0 : dkG} {n00 : Int} {nL0 mc ms : Nat} (hE : dk_Good E cc own d dk_Ty l0 G0 n00 nL0 mc ms) {pc pc' : Nat} {ls st : List dkV} {n : Int} {σ : dkS} {k i : Int} (hd : decode cc pc = .ok (.iaload, 1)) (hk : dk_is n 78 k) (hi : 0 ≤ i ∧ i < 2) (hp : pc + 1 = pc') (K : ∀ v : Int, v = σ k i → (0 ≤ v ∧ v ≤ 9) → dk_i32 v → dk_PJ E pc' ls ((0, v) :: st) n σ) : dk_PJ E pc ls ((0, i) :: (4, k) :: st) n σ :=
  dk_iald hE hd hk rfl hi hp (fun t q => K _ rfl ((ta_78 hk).mp t) q)
theorem pa_78 {E : dkE} {cc : ByteArray} {own : String} {d : Nat} {l0 : Launch} {G0 : dkG} {n00 : Int} {nL0 mc ms : Nat} (hE : dk_Good E cc own d dk_Ty l0 G0 n00 nL0 mc ms) {pc pc' : Nat} {ls st : List dkV} {n : Int} {σ : dkS} {k i z : Int} (hd : decode cc pc = .ok (.iastore, 1)) (hk : dk_is n 78 k) (hi : 0 ≤ i ∧ i < 2) (ht : 0 ≤ z ∧ z ≤ 9) (hp : pc + 1 = pc') (K : ∀ σ1 : dkS, σ1 = dk_up σ k i z → dk_PJ E pc' ls st n σ1) : dk_PJ E pc ls ((0, z) :: (0, i) :: (4, k) :: st) n σ :=
  dk_iast hE hd hk rfl hi (fun h => h.1 rfl) ((ta_78 hk).mpr ht) hp (K _ rfl)
-- m.pWork
theorem ta_79 {n k i v : Int} (hk : dk_is n 79 k) : dk_Ty k i v ↔ (0 ≤ v ∧ v ≤ 3) := by
  show dk_tyS (dk_site k) k i v ↔ _
  rw [hk.2.2]
  exact Iff.rfl
theorem ga_79 {E : dkE} {cc : ByteArray} {own : String} {d : Nat} {l0 : Launch} {G0 : dkG} {n00 : Int} {nL0 mc ms : Nat} (hE : dk_Good E cc own d dk_Ty l0 G0 n00 nL0 mc ms) {pc pc' : Nat} {ls st : List dkV} {n : Int} {σ : dkS} {k i : Int} (hd : decode cc pc = .ok (.iaload, 1)) (hk : dk_is n 79 k) (hi : 0 ≤ i ∧ i < 24) (hp : pc + 1 = pc') (K : ∀ v : Int, v = σ k i → (0 ≤ v ∧ v ≤ 3) → dk_i32 v → dk_PJ E pc' ls ((0, v) :: st) n σ) : dk_PJ E pc ls ((0, i) :: (4, k) :: st) n σ :=
  dk_iald hE hd hk rfl hi hp (fun t q => K _ rfl ((ta_79 hk).mp t) q)
theorem pa_79 {E : dkE} {cc : ByteArray} {own : String} {d : Nat} {l0 : Launch} {G0 : dkG} {n00 : Int} {nL0 mc ms : Nat} (hE : dk_Good E cc own d dk_Ty l0 G0 n00 nL0 mc ms) {pc pc' : Nat} {ls st : List dkV} {n : Int} {σ : dkS} {k i z : Int} (hd : decode cc pc = .ok (.iastore, 1)) (hk : dk_is n 79 k) (hi : 0 ≤ i ∧ i < 24) (ht : 0 ≤ z ∧ z ≤ 3) (hp : pc + 1 = pc') (K : ∀ σ1 : dkS, σ1 = dk_up σ k i z → dk_PJ E pc' ls st n σ1) : dk_PJ E pc ls ((0, z) :: (0, i) :: (4, k) :: st) n σ :=
  dk_iast hE hd hk rfl hi (fun h => h.1 rfl) ((ta_79 hk).mpr ht) hp (K _ rfl)
-- m.pX
theorem ta_80 {n k i v : Int} (hk : dk_is n 80 k) : dk_Ty k i v ↔ (True) := by
  show dk_tyS (dk_site k) k i v ↔ _
  rw [hk.2.2]
  exact Iff.rfl
theorem ga_80 {E : dkE} {cc : ByteArray} {own : String} {d : Nat} {l0 : Launch} {G0 : dkG} {n00 : Int} {nL0 mc ms : Nat} (hE : dk_Good E cc own d dk_Ty l0 G0 n00 nL0 mc ms) {pc pc' : Nat} {ls st : List dkV} {n : Int} {σ : dkS} {k i : Int} (hd : decode cc pc = .ok (.iaload, 1)) (hk : dk_is n 80 k) (hi : 0 ≤ i ∧ i < 24) (hp : pc + 1 = pc') (K : ∀ v : Int, v = σ k i → (True) → dk_i32 v → dk_PJ E pc' ls ((0, v) :: st) n σ) : dk_PJ E pc ls ((0, i) :: (4, k) :: st) n σ :=
  dk_iald hE hd hk rfl hi hp (fun t q => K _ rfl ((ta_80 hk).mp t) q)
theorem pa_80 {E : dkE} {cc : ByteArray} {own : String} {d : Nat} {l0 : Launch} {G0 : dkG} {n00 : Int} {nL0 mc ms : Nat} (hE : dk_Good E cc own d dk_Ty l0 G0 n00 nL0 mc ms) {pc pc' : Nat} {ls st : List dkV} {n : Int} {σ : dkS} {k i z : Int} (hd : decode cc pc = .ok (.iastore, 1)) (hk : dk_is n 80 k) (hi : 0 ≤ i ∧ i < 24) (ht : True) (hp : pc + 1 = pc') (K : ∀ σ1 : dkS, σ1 = dk_up σ k i z → dk_PJ E pc' ls st n σ1) : dk_PJ E pc ls ((0, z) :: (0, i) :: (4, k) :: st) n σ :=
  dk_iast hE hd hk rfl hi (fun h => h.1 rfl) ((ta_80 hk).mpr ht) hp (K _ rfl)
-- m.pY
theorem ta_81 {n k i v : Int} (hk : dk_is n 81 k) : dk_Ty k i v ↔ (True) := by
  show dk_tyS (dk_site k) k i v ↔ _
  rw [hk.2.2]
  exact Iff.rfl
theorem ga_81 {E : dkE} {cc : ByteArray} {own : String} {d : Nat} {l0 : Launch} {G0 : dkG} {n00 : Int} {nL0 mc ms : Nat} (hE : dk_Good E cc own d dk_Ty l0 G0 n00 nL0 mc ms) {pc pc' : Nat} {ls st : List dkV} {n : Int} {σ : dkS} {k i : Int} (hd : decode cc pc = .ok (.iaload, 1)) (hk : dk_is n 81 k) (hi : 0 ≤ i ∧ i < 24) (hp : pc + 1 = pc') (K : ∀ v : Int, v = σ k i → (True) → dk_i32 v → dk_PJ E pc' ls ((0, v) :: st) n σ) : dk_PJ E pc ls ((0, i) :: (4, k) :: st) n σ :=
  dk_iald hE hd hk rfl hi hp (fun t q => K _ rfl ((ta_81 hk).mp t) q)
theorem pa_81 {E : dkE} {cc : ByteArray} {own : String} {d : Nat} {l0 : Launch} {G0 : dkG} {n00 : Int} {nL0 mc ms : Nat} (hE : dk_Good E cc own d dk_Ty l0 G0 n00 nL0 mc ms) {pc pc' : Nat} {ls st : List dkV} {n : Int} {σ : dkS} {k i z : Int} (hd : decode cc pc = .ok (.iastore, 1)) (hk : dk_is n 81 k) (hi : 0 ≤ i ∧ i < 24) (ht : True) (hp : pc + 1 = pc') (K : ∀ σ1 : dkS, σ1 = dk_up σ k i z → dk_PJ E pc' ls st n σ1) : dk_PJ E pc ls ((0, z) :: (0, i) :: (4, k) :: st) n σ :=
  dk_iast hE hd hk rfl hi (fun h => h.1 rfl) ((ta_81 hk).mpr ht) hp (K _ rfl)
-- m.pCounts
theorem ta_82 {n k i v : Int} (hk : dk_is n 82 k) : dk_Ty k i v ↔ (0 ≤ v ∧ v ≤ 32) := by
  show dk_tyS (dk_site k) k i v ↔ _
  rw [hk.2.2]
  exact Iff.rfl
theorem ga_82 {E : dkE} {cc : ByteArray} {own : String} {d : Nat} {l0 : Launch} {G0 : dkG} {n00 : Int} {nL0 mc ms : Nat} (hE : dk_Good E cc own d dk_Ty l0 G0 n00 nL0 mc ms) {pc pc' : Nat} {ls st : List dkV} {n : Int} {σ : dkS} {k i : Int} (hd : decode cc pc = .ok (.iaload, 1)) (hk : dk_is n 82 k) (hi : 0 ≤ i ∧ i < 24) (hp : pc + 1 = pc') (K : ∀ v : Int, v = σ k i → (0 ≤ v ∧ v ≤ 32) → dk_i32 v → dk_PJ E pc' ls ((0, v) :: st) n σ) : dk_PJ E pc ls ((0, i) :: (4, k) :: st) n σ :=
  dk_iald hE hd hk rfl hi hp (fun t q => K _ rfl ((ta_82 hk).mp t) q)
theorem pa_82 {E : dkE} {cc : ByteArray} {own : String} {d : Nat} {l0 : Launch} {G0 : dkG} {n00 : Int} {nL0 mc ms : Nat} (hE : dk_Good E cc own d dk_Ty l0 G0 n00 nL0 mc ms) {pc pc' : Nat} {ls st : List dkV} {n : Int} {σ : dkS} {k i z : Int} (hd : decode cc pc = .ok (.iastore, 1)) (hk : dk_is n 82 k) (hi : 0 ≤ i ∧ i < 24) (ht : 0 ≤ z ∧ z ≤ 32) (hp : pc + 1 = pc') (K : ∀ σ1 : dkS, σ1 = dk_up σ k i z → dk_PJ E pc' ls st n σ1) : dk_PJ E pc ls ((0, z) :: (0, i) :: (4, k) :: st) n σ :=
  dk_iast hE hd hk rfl hi (fun h => h.1 rfl) ((ta_82 hk).mpr ht) hp (K _ rfl)
-- m.pSteps
theorem ta_83 {n k i v : Int} (hk : dk_is n 83 k) : dk_Ty k i v ↔ (0 ≤ v ∧ v ≤ 7) := by
  show dk_tyS (dk_site k) k i v ↔ _
  rw [hk.2.2]
  exact Iff.rfl
theorem ga_83 {E : dkE} {cc : ByteArray} {own : String} {d : Nat} {l0 : Launch} {G0 : dkG} {n00 : Int} {nL0 mc ms : Nat} (hE : dk_Good E cc own d dk_Ty l0 G0 n00 nL0 mc ms) {pc pc' : Nat} {ls st : List dkV} {n : Int} {σ : dkS} {k i : Int} (hd : decode cc pc = .ok (.iaload, 1)) (hk : dk_is n 83 k) (hi : 0 ≤ i ∧ i < 768) (hp : pc + 1 = pc') (K : ∀ v : Int, v = σ k i → (0 ≤ v ∧ v ≤ 7) → dk_i32 v → dk_PJ E pc' ls ((0, v) :: st) n σ) : dk_PJ E pc ls ((0, i) :: (4, k) :: st) n σ :=
  dk_iald hE hd hk rfl hi hp (fun t q => K _ rfl ((ta_83 hk).mp t) q)
theorem pa_83 {E : dkE} {cc : ByteArray} {own : String} {d : Nat} {l0 : Launch} {G0 : dkG} {n00 : Int} {nL0 mc ms : Nat} (hE : dk_Good E cc own d dk_Ty l0 G0 n00 nL0 mc ms) {pc pc' : Nat} {ls st : List dkV} {n : Int} {σ : dkS} {k i z : Int} (hd : decode cc pc = .ok (.iastore, 1)) (hk : dk_is n 83 k) (hi : 0 ≤ i ∧ i < 768) (ht : 0 ≤ z ∧ z ≤ 7) (hp : pc + 1 = pc') (K : ∀ σ1 : dkS, σ1 = dk_up σ k i z → dk_PJ E pc' ls st n σ1) : dk_PJ E pc ls ((0, z) :: (0, i) :: (4, k) :: st) n σ :=
  dk_iast hE hd hk rfl hi (fun h => h.1 rfl) ((ta_83 hk).mpr ht) hp (K _ rfl)
-- m.inWork
theorem ta_84 {n k i v : Int} (hk : dk_is n 84 k) : dk_Ty k i v ↔ (True) := by
  show dk_tyS (dk_site k) k i v ↔ _
  rw [hk.2.2]
  exact Iff.rfl
theorem ga_84 {E : dkE} {cc : ByteArray} {own : String} {d : Nat} {l0 : Launch} {G0 : dkG} {n00 : Int} {nL0 mc ms : Nat} (hE : dk_Good E cc own d dk_Ty l0 G0 n00 nL0 mc ms) {pc pc' : Nat} {ls st : List dkV} {n : Int} {σ : dkS} {k i : Int} (hd : decode cc pc = .ok (.iaload, 1)) (hk : dk_is n 84 k) (hi : 0 ≤ i ∧ i < 8) (hp : pc + 1 = pc') (K : ∀ v : Int, v = σ k i → (True) → dk_i32 v → dk_PJ E pc' ls ((0, v) :: st) n σ) : dk_PJ E pc ls ((0, i) :: (4, k) :: st) n σ :=
  dk_iald hE hd hk rfl hi hp (fun t q => K _ rfl ((ta_84 hk).mp t) q)
theorem pa_84 {E : dkE} {cc : ByteArray} {own : String} {d : Nat} {l0 : Launch} {G0 : dkG} {n00 : Int} {nL0 mc ms : Nat} (hE : dk_Good E cc own d dk_Ty l0 G0 n00 nL0 mc ms) {pc pc' : Nat} {ls st : List dkV} {n : Int} {σ : dkS} {k i z : Int} (hd : decode cc pc = .ok (.iastore, 1)) (hk : dk_is n 84 k) (hi : 0 ≤ i ∧ i < 8) (ht : True) (hp : pc + 1 = pc') (K : ∀ σ1 : dkS, σ1 = dk_up σ k i z → dk_PJ E pc' ls st n σ1) : dk_PJ E pc ls ((0, z) :: (0, i) :: (4, k) :: st) n σ :=
  dk_iast hE hd hk rfl hi (fun h => h.1 rfl) ((ta_84 hk).mpr ht) hp (K _ rfl)
-- m.isNote
theorem ta_85 {n k i v : Int} (hk : dk_is n 85 k) : dk_Ty k i v ↔ (True) := by
  show dk_tyS (dk_site k) k i v ↔ _
  rw [hk.2.2]
  exact Iff.rfl
theorem ga_85 {E : dkE} {cc : ByteArray} {own : String} {d : Nat} {l0 : Launch} {G0 : dkG} {n00 : Int} {nL0 mc ms : Nat} (hE : dk_Good E cc own d dk_Ty l0 G0 n00 nL0 mc ms) {pc pc' : Nat} {ls st : List dkV} {n : Int} {σ : dkS} {k i : Int} (hd : decode cc pc = .ok (.baload, 1)) (hk : dk_is n 85 k) (hi : 0 ≤ i ∧ i < 24) (hp : pc + 1 = pc') (K : ∀ v : Int, v = σ k i → (True) → (0 ≤ v ∧ v ≤ 1) → dk_PJ E pc' ls ((0, v) :: st) n σ) : dk_PJ E pc ls ((0, i) :: (4, k) :: st) n σ :=
  dk_zald hE hd hk rfl hi hp (fun t q => K _ rfl ((ta_85 hk).mp t) q)
theorem pa_85 {E : dkE} {cc : ByteArray} {own : String} {d : Nat} {l0 : Launch} {G0 : dkG} {n00 : Int} {nL0 mc ms : Nat} (hE : dk_Good E cc own d dk_Ty l0 G0 n00 nL0 mc ms) {pc pc' : Nat} {ls st : List dkV} {n : Int} {σ : dkS} {k i z : Int} (hd : decode cc pc = .ok (.bastore, 1)) (hk : dk_is n 85 k) (hi : 0 ≤ i ∧ i < 24) (hz : 0 ≤ z ∧ z ≤ 1) (ht : True) (hp : pc + 1 = pc') (K : ∀ σ1 : dkS, σ1 = dk_up σ k i z → dk_PJ E pc' ls st n σ1) : dk_PJ E pc ls ((0, z) :: (0, i) :: (4, k) :: st) n σ :=
  dk_zast hE hd hk rfl hi (fun _ => hz) ((ta_85 hk).mpr ht) hp (K _ rfl)
-- m.hasFloor
theorem ta_86 {n k i v : Int} (hk : dk_is n 86 k) : dk_Ty k i v ↔ (True) := by
  show dk_tyS (dk_site k) k i v ↔ _
  rw [hk.2.2]
  exact Iff.rfl
theorem ga_86 {E : dkE} {cc : ByteArray} {own : String} {d : Nat} {l0 : Launch} {G0 : dkG} {n00 : Int} {nL0 mc ms : Nat} (hE : dk_Good E cc own d dk_Ty l0 G0 n00 nL0 mc ms) {pc pc' : Nat} {ls st : List dkV} {n : Int} {σ : dkS} {k i : Int} (hd : decode cc pc = .ok (.baload, 1)) (hk : dk_is n 86 k) (hi : 0 ≤ i ∧ i < 2) (hp : pc + 1 = pc') (K : ∀ v : Int, v = σ k i → (True) → (0 ≤ v ∧ v ≤ 1) → dk_PJ E pc' ls ((0, v) :: st) n σ) : dk_PJ E pc ls ((0, i) :: (4, k) :: st) n σ :=
  dk_zald hE hd hk rfl hi hp (fun t q => K _ rfl ((ta_86 hk).mp t) q)
theorem pa_86 {E : dkE} {cc : ByteArray} {own : String} {d : Nat} {l0 : Launch} {G0 : dkG} {n00 : Int} {nL0 mc ms : Nat} (hE : dk_Good E cc own d dk_Ty l0 G0 n00 nL0 mc ms) {pc pc' : Nat} {ls st : List dkV} {n : Int} {σ : dkS} {k i z : Int} (hd : decode cc pc = .ok (.bastore, 1)) (hk : dk_is n 86 k) (hi : 0 ≤ i ∧ i < 2) (hz : 0 ≤ z ∧ z ≤ 1) (ht : True) (hp : pc + 1 = pc') (K : ∀ σ1 : dkS, σ1 = dk_up σ k i z → dk_PJ E pc' ls st n σ1) : dk_PJ E pc ls ((0, z) :: (0, i) :: (4, k) :: st) n σ :=
  dk_zast hE hd hk rfl hi (fun _ => hz) ((ta_86 hk).mpr ht) hp (K _ rfl)
-- m.names
theorem ta_87 {n k i v : Int} (hk : dk_is n 87 k) : dk_Ty k i v ↔ (True) := by
  show dk_tyS (dk_site k) k i v ↔ _
  rw [hk.2.2]
  exact Iff.rfl
theorem ga_87 {E : dkE} {cc : ByteArray} {own : String} {d : Nat} {l0 : Launch} {G0 : dkG} {n00 : Int} {nL0 mc ms : Nat} (hE : dk_Good E cc own d dk_Ty l0 G0 n00 nL0 mc ms) {pc pc' : Nat} {ls st : List dkV} {n : Int} {σ : dkS} {k i : Int} (hd : decode cc pc = .ok (.laload, 1)) (hk : dk_is n 87 k) (hi : 0 ≤ i ∧ i < 32) (hp : pc + 1 = pc') (K : ∀ v : Int, v = σ k i → (True) → dk_i64 v → dk_PJ E pc' ls ((3, v) :: st) n σ) : dk_PJ E pc ls ((0, i) :: (4, k) :: st) n σ :=
  dk_lald hE hd hk rfl hi hp (fun t q => K _ rfl ((ta_87 hk).mp t) q)
theorem pa_87 {E : dkE} {cc : ByteArray} {own : String} {d : Nat} {l0 : Launch} {G0 : dkG} {n00 : Int} {nL0 mc ms : Nat} (hE : dk_Good E cc own d dk_Ty l0 G0 n00 nL0 mc ms) {pc pc' : Nat} {ls st : List dkV} {n : Int} {σ : dkS} {k i z : Int} (hd : decode cc pc = .ok (.lastore, 1)) (hk : dk_is n 87 k) (hi : 0 ≤ i ∧ i < 32) (ht : True) (hp : pc + 1 = pc') (K : ∀ σ1 : dkS, σ1 = dk_up σ k i z → dk_PJ E pc' ls st n σ1) : dk_PJ E pc ls ((3, z) :: (0, i) :: (4, k) :: st) n σ :=
  dk_last hE hd hk rfl hi (fun h => h.2 rfl) ((ta_87 hk).mpr ht) hp (K _ rfl)
-- m.signs
theorem ta_88 {n k i v : Int} (hk : dk_is n 88 k) : dk_Ty k i v ↔ (0 ≤ v ∧ v ≤ 5) := by
  show dk_tyS (dk_site k) k i v ↔ _
  rw [hk.2.2]
  exact Iff.rfl
theorem ga_88 {E : dkE} {cc : ByteArray} {own : String} {d : Nat} {l0 : Launch} {G0 : dkG} {n00 : Int} {nL0 mc ms : Nat} (hE : dk_Good E cc own d dk_Ty l0 G0 n00 nL0 mc ms) {pc pc' : Nat} {ls st : List dkV} {n : Int} {σ : dkS} {k i : Int} (hd : decode cc pc = .ok (.iaload, 1)) (hk : dk_is n 88 k) (hi : 0 ≤ i ∧ i < 16) (hp : pc + 1 = pc') (K : ∀ v : Int, v = σ k i → (0 ≤ v ∧ v ≤ 5) → dk_i32 v → dk_PJ E pc' ls ((0, v) :: st) n σ) : dk_PJ E pc ls ((0, i) :: (4, k) :: st) n σ :=
  dk_iald hE hd hk rfl hi hp (fun t q => K _ rfl ((ta_88 hk).mp t) q)
theorem pa_88 {E : dkE} {cc : ByteArray} {own : String} {d : Nat} {l0 : Launch} {G0 : dkG} {n00 : Int} {nL0 mc ms : Nat} (hE : dk_Good E cc own d dk_Ty l0 G0 n00 nL0 mc ms) {pc pc' : Nat} {ls st : List dkV} {n : Int} {σ : dkS} {k i z : Int} (hd : decode cc pc = .ok (.iastore, 1)) (hk : dk_is n 88 k) (hi : 0 ≤ i ∧ i < 16) (ht : 0 ≤ z ∧ z ≤ 5) (hp : pc + 1 = pc') (K : ∀ σ1 : dkS, σ1 = dk_up σ k i z → dk_PJ E pc' ls st n σ1) : dk_PJ E pc ls ((0, z) :: (0, i) :: (4, k) :: st) n σ :=
  dk_iast hE hd hk rfl hi (fun h => h.1 rfl) ((ta_88 hk).mpr ht) hp (K _ rfl)
-- m.ruleDay
theorem ta_89 {n k i v : Int} (hk : dk_is n 89 k) : dk_Ty k i v ↔ (True) := by
  show dk_tyS (dk_site k) k i v ↔ _
  rw [hk.2.2]
  exact Iff.rfl
theorem ga_89 {E : dkE} {cc : ByteArray} {own : String} {d : Nat} {l0 : Launch} {G0 : dkG} {n00 : Int} {nL0 mc ms : Nat} (hE : dk_Good E cc own d dk_Ty l0 G0 n00 nL0 mc ms) {pc pc' : Nat} {ls st : List dkV} {n : Int} {σ : dkS} {k i : Int} (hd : decode cc pc = .ok (.iaload, 1)) (hk : dk_is n 89 k) (hi : 0 ≤ i ∧ i < 7) (hp : pc + 1 = pc') (K : ∀ v : Int, v = σ k i → (True) → dk_i32 v → dk_PJ E pc' ls ((0, v) :: st) n σ) : dk_PJ E pc ls ((0, i) :: (4, k) :: st) n σ :=
  dk_iald hE hd hk rfl hi hp (fun t q => K _ rfl ((ta_89 hk).mp t) q)
theorem pa_89 {E : dkE} {cc : ByteArray} {own : String} {d : Nat} {l0 : Launch} {G0 : dkG} {n00 : Int} {nL0 mc ms : Nat} (hE : dk_Good E cc own d dk_Ty l0 G0 n00 nL0 mc ms) {pc pc' : Nat} {ls st : List dkV} {n : Int} {σ : dkS} {k i z : Int} (hd : decode cc pc = .ok (.iastore, 1)) (hk : dk_is n 89 k) (hi : 0 ≤ i ∧ i < 7) (ht : True) (hp : pc + 1 = pc') (K : ∀ σ1 : dkS, σ1 = dk_up σ k i z → dk_PJ E pc' ls st n σ1) : dk_PJ E pc ls ((0, z) :: (0, i) :: (4, k) :: st) n σ :=
  dk_iast hE hd hk rfl hi (fun h => h.1 rfl) ((ta_89 hk).mpr ht) hp (K _ rfl)
-- m.uFrom
theorem ta_90 {n k i v : Int} (hk : dk_is n 90 k) : dk_Ty k i v ↔ (True) := by
  show dk_tyS (dk_site k) k i v ↔ _
  rw [hk.2.2]
  exact Iff.rfl
theorem ga_90 {E : dkE} {cc : ByteArray} {own : String} {d : Nat} {l0 : Launch} {G0 : dkG} {n00 : Int} {nL0 mc ms : Nat} (hE : dk_Good E cc own d dk_Ty l0 G0 n00 nL0 mc ms) {pc pc' : Nat} {ls st : List dkV} {n : Int} {σ : dkS} {k i : Int} (hd : decode cc pc = .ok (.iaload, 1)) (hk : dk_is n 90 k) (hi : 0 ≤ i ∧ i < 21) (hp : pc + 1 = pc') (K : ∀ v : Int, v = σ k i → (True) → dk_i32 v → dk_PJ E pc' ls ((0, v) :: st) n σ) : dk_PJ E pc ls ((0, i) :: (4, k) :: st) n σ :=
  dk_iald hE hd hk rfl hi hp (fun t q => K _ rfl ((ta_90 hk).mp t) q)
theorem pa_90 {E : dkE} {cc : ByteArray} {own : String} {d : Nat} {l0 : Launch} {G0 : dkG} {n00 : Int} {nL0 mc ms : Nat} (hE : dk_Good E cc own d dk_Ty l0 G0 n00 nL0 mc ms) {pc pc' : Nat} {ls st : List dkV} {n : Int} {σ : dkS} {k i z : Int} (hd : decode cc pc = .ok (.iastore, 1)) (hk : dk_is n 90 k) (hi : 0 ≤ i ∧ i < 21) (ht : True) (hp : pc + 1 = pc') (K : ∀ σ1 : dkS, σ1 = dk_up σ k i z → dk_PJ E pc' ls st n σ1) : dk_PJ E pc ls ((0, z) :: (0, i) :: (4, k) :: st) n σ :=
  dk_iast hE hd hk rfl hi (fun h => h.1 rfl) ((ta_90 hk).mpr ht) hp (K _ rfl)
-- m.uTo
theorem ta_91 {n k i v : Int} (hk : dk_is n 91 k) : dk_Ty k i v ↔ (True) := by
  show dk_tyS (dk_site k) k i v ↔ _
  rw [hk.2.2]
  exact Iff.rfl
theorem ga_91 {E : dkE} {cc : ByteArray} {own : String} {d : Nat} {l0 : Launch} {G0 : dkG} {n00 : Int} {nL0 mc ms : Nat} (hE : dk_Good E cc own d dk_Ty l0 G0 n00 nL0 mc ms) {pc pc' : Nat} {ls st : List dkV} {n : Int} {σ : dkS} {k i : Int} (hd : decode cc pc = .ok (.iaload, 1)) (hk : dk_is n 91 k) (hi : 0 ≤ i ∧ i < 21) (hp : pc + 1 = pc') (K : ∀ v : Int, v = σ k i → (True) → dk_i32 v → dk_PJ E pc' ls ((0, v) :: st) n σ) : dk_PJ E pc ls ((0, i) :: (4, k) :: st) n σ :=
  dk_iald hE hd hk rfl hi hp (fun t q => K _ rfl ((ta_91 hk).mp t) q)
theorem pa_91 {E : dkE} {cc : ByteArray} {own : String} {d : Nat} {l0 : Launch} {G0 : dkG} {n00 : Int} {nL0 mc ms : Nat} (hE : dk_Good E cc own d dk_Ty l0 G0 n00 nL0 mc ms) {pc pc' : Nat} {ls st : List dkV} {n : Int} {σ : dkS} {k i z : Int} (hd : decode cc pc = .ok (.iastore, 1)) (hk : dk_is n 91 k) (hi : 0 ≤ i ∧ i < 21) (ht : True) (hp : pc + 1 = pc') (K : ∀ σ1 : dkS, σ1 = dk_up σ k i z → dk_PJ E pc' ls st n σ1) : dk_PJ E pc ls ((0, z) :: (0, i) :: (4, k) :: st) n σ :=
  dk_iast hE hd hk rfl hi (fun h => h.1 rfl) ((ta_91 hk).mpr ht) hp (K _ rfl)
-- m.code
theorem ta_92 {n k i v : Int} (hk : dk_is n 92 k) : dk_Ty k i v ↔ (True) := by
  show dk_tyS (dk_site k) k i v ↔ _
  rw [hk.2.2]
  exact Iff.rfl
theorem ga_92 {E : dkE} {cc : ByteArray} {own : String} {d : Nat} {l0 : Launch} {G0 : dkG} {n00 : Int} {nL0 mc ms : Nat} (hE : dk_Good E cc own d dk_Ty l0 G0 n00 nL0 mc ms) {pc pc' : Nat} {ls st : List dkV} {n : Int} {σ : dkS} {k i : Int} (hd : decode cc pc = .ok (.iaload, 1)) (hk : dk_is n 92 k) (hi : 0 ≤ i ∧ i < 4200) (hp : pc + 1 = pc') (K : ∀ v : Int, v = σ k i → (True) → dk_i32 v → dk_PJ E pc' ls ((0, v) :: st) n σ) : dk_PJ E pc ls ((0, i) :: (4, k) :: st) n σ :=
  dk_iald hE hd hk rfl hi hp (fun t q => K _ rfl ((ta_92 hk).mp t) q)
theorem pa_92 {E : dkE} {cc : ByteArray} {own : String} {d : Nat} {l0 : Launch} {G0 : dkG} {n00 : Int} {nL0 mc ms : Nat} (hE : dk_Good E cc own d dk_Ty l0 G0 n00 nL0 mc ms) {pc pc' : Nat} {ls st : List dkV} {n : Int} {σ : dkS} {k i z : Int} (hd : decode cc pc = .ok (.iastore, 1)) (hk : dk_is n 92 k) (hi : 0 ≤ i ∧ i < 4200) (ht : True) (hp : pc + 1 = pc') (K : ∀ σ1 : dkS, σ1 = dk_up σ k i z → dk_PJ E pc' ls st n σ1) : dk_PJ E pc ls ((0, z) :: (0, i) :: (4, k) :: st) n σ :=
  dk_iast hE hd hk rfl hi (fun h => h.1 rfl) ((ta_92 hk).mpr ht) hp (K _ rfl)
-- m.codeNumber
theorem ta_93 {n k i v : Int} (hk : dk_is n 93 k) : dk_Ty k i v ↔ (True) := by
  show dk_tyS (dk_site k) k i v ↔ _
  rw [hk.2.2]
  exact Iff.rfl
theorem ga_93 {E : dkE} {cc : ByteArray} {own : String} {d : Nat} {l0 : Launch} {G0 : dkG} {n00 : Int} {nL0 mc ms : Nat} (hE : dk_Good E cc own d dk_Ty l0 G0 n00 nL0 mc ms) {pc pc' : Nat} {ls st : List dkV} {n : Int} {σ : dkS} {k i : Int} (hd : decode cc pc = .ok (.iaload, 1)) (hk : dk_is n 93 k) (hi : 0 ≤ i ∧ i < 4200) (hp : pc + 1 = pc') (K : ∀ v : Int, v = σ k i → (True) → dk_i32 v → dk_PJ E pc' ls ((0, v) :: st) n σ) : dk_PJ E pc ls ((0, i) :: (4, k) :: st) n σ :=
  dk_iald hE hd hk rfl hi hp (fun t q => K _ rfl ((ta_93 hk).mp t) q)
theorem pa_93 {E : dkE} {cc : ByteArray} {own : String} {d : Nat} {l0 : Launch} {G0 : dkG} {n00 : Int} {nL0 mc ms : Nat} (hE : dk_Good E cc own d dk_Ty l0 G0 n00 nL0 mc ms) {pc pc' : Nat} {ls st : List dkV} {n : Int} {σ : dkS} {k i z : Int} (hd : decode cc pc = .ok (.iastore, 1)) (hk : dk_is n 93 k) (hi : 0 ≤ i ∧ i < 4200) (ht : True) (hp : pc + 1 = pc') (K : ∀ σ1 : dkS, σ1 = dk_up σ k i z → dk_PJ E pc' ls st n σ1) : dk_PJ E pc ls ((0, z) :: (0, i) :: (4, k) :: st) n σ :=
  dk_iast hE hd hk rfl hi (fun h => h.1 rfl) ((ta_93 hk).mpr ht) hp (K _ rfl)
-- m.eWhat
theorem ta_94 {n k i v : Int} (hk : dk_is n 94 k) : dk_Ty k i v ↔ (True) := by
  show dk_tyS (dk_site k) k i v ↔ _
  rw [hk.2.2]
  exact Iff.rfl
theorem ga_94 {E : dkE} {cc : ByteArray} {own : String} {d : Nat} {l0 : Launch} {G0 : dkG} {n00 : Int} {nL0 mc ms : Nat} (hE : dk_Good E cc own d dk_Ty l0 G0 n00 nL0 mc ms) {pc pc' : Nat} {ls st : List dkV} {n : Int} {σ : dkS} {k i : Int} (hd : decode cc pc = .ok (.iaload, 1)) (hk : dk_is n 94 k) (hi : 0 ≤ i ∧ i < 80) (hp : pc + 1 = pc') (K : ∀ v : Int, v = σ k i → (True) → dk_i32 v → dk_PJ E pc' ls ((0, v) :: st) n σ) : dk_PJ E pc ls ((0, i) :: (4, k) :: st) n σ :=
  dk_iald hE hd hk rfl hi hp (fun t q => K _ rfl ((ta_94 hk).mp t) q)
theorem pa_94 {E : dkE} {cc : ByteArray} {own : String} {d : Nat} {l0 : Launch} {G0 : dkG} {n00 : Int} {nL0 mc ms : Nat} (hE : dk_Good E cc own d dk_Ty l0 G0 n00 nL0 mc ms) {pc pc' : Nat} {ls st : List dkV} {n : Int} {σ : dkS} {k i z : Int} (hd : decode cc pc = .ok (.iastore, 1)) (hk : dk_is n 94 k) (hi : 0 ≤ i ∧ i < 80) (ht : True) (hp : pc + 1 = pc') (K : ∀ σ1 : dkS, σ1 = dk_up σ k i z → dk_PJ E pc' ls st n σ1) : dk_PJ E pc ls ((0, z) :: (0, i) :: (4, k) :: st) n σ :=
  dk_iast hE hd hk rfl hi (fun h => h.1 rfl) ((ta_94 hk).mpr ht) hp (K _ rfl)
-- m.eSign
theorem ta_95 {n k i v : Int} (hk : dk_is n 95 k) : dk_Ty k i v ↔ (True) := by
  show dk_tyS (dk_site k) k i v ↔ _
  rw [hk.2.2]
  exact Iff.rfl
theorem ga_95 {E : dkE} {cc : ByteArray} {own : String} {d : Nat} {l0 : Launch} {G0 : dkG} {n00 : Int} {nL0 mc ms : Nat} (hE : dk_Good E cc own d dk_Ty l0 G0 n00 nL0 mc ms) {pc pc' : Nat} {ls st : List dkV} {n : Int} {σ : dkS} {k i : Int} (hd : decode cc pc = .ok (.iaload, 1)) (hk : dk_is n 95 k) (hi : 0 ≤ i ∧ i < 80) (hp : pc + 1 = pc') (K : ∀ v : Int, v = σ k i → (True) → dk_i32 v → dk_PJ E pc' ls ((0, v) :: st) n σ) : dk_PJ E pc ls ((0, i) :: (4, k) :: st) n σ :=
  dk_iald hE hd hk rfl hi hp (fun t q => K _ rfl ((ta_95 hk).mp t) q)
theorem pa_95 {E : dkE} {cc : ByteArray} {own : String} {d : Nat} {l0 : Launch} {G0 : dkG} {n00 : Int} {nL0 mc ms : Nat} (hE : dk_Good E cc own d dk_Ty l0 G0 n00 nL0 mc ms) {pc pc' : Nat} {ls st : List dkV} {n : Int} {σ : dkS} {k i z : Int} (hd : decode cc pc = .ok (.iastore, 1)) (hk : dk_is n 95 k) (hi : 0 ≤ i ∧ i < 80) (ht : True) (hp : pc + 1 = pc') (K : ∀ σ1 : dkS, σ1 = dk_up σ k i z → dk_PJ E pc' ls st n σ1) : dk_PJ E pc ls ((0, z) :: (0, i) :: (4, k) :: st) n σ :=
  dk_iast hE hd hk rfl hi (fun h => h.1 rfl) ((ta_95 hk).mpr ht) hp (K _ rfl)
-- m.pile
theorem ta_96 {n k i v : Int} (hk : dk_is n 96 k) : dk_Ty k i v ↔ (True) := by
  show dk_tyS (dk_site k) k i v ↔ _
  rw [hk.2.2]
  exact Iff.rfl
theorem ga_96 {E : dkE} {cc : ByteArray} {own : String} {d : Nat} {l0 : Launch} {G0 : dkG} {n00 : Int} {nL0 mc ms : Nat} (hE : dk_Good E cc own d dk_Ty l0 G0 n00 nL0 mc ms) {pc pc' : Nat} {ls st : List dkV} {n : Int} {σ : dkS} {k i : Int} (hd : decode cc pc = .ok (.iaload, 1)) (hk : dk_is n 96 k) (hi : 0 ≤ i ∧ i < 90) (hp : pc + 1 = pc') (K : ∀ v : Int, v = σ k i → (True) → dk_i32 v → dk_PJ E pc' ls ((0, v) :: st) n σ) : dk_PJ E pc ls ((0, i) :: (4, k) :: st) n σ :=
  dk_iald hE hd hk rfl hi hp (fun t q => K _ rfl ((ta_96 hk).mp t) q)
theorem pa_96 {E : dkE} {cc : ByteArray} {own : String} {d : Nat} {l0 : Launch} {G0 : dkG} {n00 : Int} {nL0 mc ms : Nat} (hE : dk_Good E cc own d dk_Ty l0 G0 n00 nL0 mc ms) {pc pc' : Nat} {ls st : List dkV} {n : Int} {σ : dkS} {k i z : Int} (hd : decode cc pc = .ok (.iastore, 1)) (hk : dk_is n 96 k) (hi : 0 ≤ i ∧ i < 90) (ht : True) (hp : pc + 1 = pc') (K : ∀ σ1 : dkS, σ1 = dk_up σ k i z → dk_PJ E pc' ls st n σ1) : dk_PJ E pc ls ((0, z) :: (0, i) :: (4, k) :: st) n σ :=
  dk_iast hE hd hk rfl hi (fun h => h.1 rfl) ((ta_96 hk).mpr ht) hp (K _ rfl)
-- m.hasE
theorem ta_97 {n k i v : Int} (hk : dk_is n 97 k) : dk_Ty k i v ↔ (True) := by
  show dk_tyS (dk_site k) k i v ↔ _
  rw [hk.2.2]
  exact Iff.rfl
theorem ga_97 {E : dkE} {cc : ByteArray} {own : String} {d : Nat} {l0 : Launch} {G0 : dkG} {n00 : Int} {nL0 mc ms : Nat} (hE : dk_Good E cc own d dk_Ty l0 G0 n00 nL0 mc ms) {pc pc' : Nat} {ls st : List dkV} {n : Int} {σ : dkS} {k i : Int} (hd : decode cc pc = .ok (.baload, 1)) (hk : dk_is n 97 k) (hi : 0 ≤ i ∧ i < 21) (hp : pc + 1 = pc') (K : ∀ v : Int, v = σ k i → (True) → (0 ≤ v ∧ v ≤ 1) → dk_PJ E pc' ls ((0, v) :: st) n σ) : dk_PJ E pc ls ((0, i) :: (4, k) :: st) n σ :=
  dk_zald hE hd hk rfl hi hp (fun t q => K _ rfl ((ta_97 hk).mp t) q)
theorem pa_97 {E : dkE} {cc : ByteArray} {own : String} {d : Nat} {l0 : Launch} {G0 : dkG} {n00 : Int} {nL0 mc ms : Nat} (hE : dk_Good E cc own d dk_Ty l0 G0 n00 nL0 mc ms) {pc pc' : Nat} {ls st : List dkV} {n : Int} {σ : dkS} {k i z : Int} (hd : decode cc pc = .ok (.bastore, 1)) (hk : dk_is n 97 k) (hi : 0 ≤ i ∧ i < 21) (hz : 0 ≤ z ∧ z ≤ 1) (ht : True) (hp : pc + 1 = pc') (K : ∀ σ1 : dkS, σ1 = dk_up σ k i z → dk_PJ E pc' ls st n σ1) : dk_PJ E pc ls ((0, z) :: (0, i) :: (4, k) :: st) n σ :=
  dk_zast hE hd hk rfl hi (fun _ => hz) ((ta_97 hk).mpr ht) hp (K _ rfl)
-- m.fKind
theorem ta_98 {n k i v : Int} (hk : dk_is n 98 k) : dk_Ty k i v ↔ (0 ≤ v ∧ v ≤ 4) := by
  show dk_tyS (dk_site k) k i v ↔ _
  rw [hk.2.2]
  exact Iff.rfl
theorem ga_98 {E : dkE} {cc : ByteArray} {own : String} {d : Nat} {l0 : Launch} {G0 : dkG} {n00 : Int} {nL0 mc ms : Nat} (hE : dk_Good E cc own d dk_Ty l0 G0 n00 nL0 mc ms) {pc pc' : Nat} {ls st : List dkV} {n : Int} {σ : dkS} {k i : Int} (hd : decode cc pc = .ok (.iaload, 1)) (hk : dk_is n 98 k) (hi : 0 ≤ i ∧ i < 200) (hp : pc + 1 = pc') (K : ∀ v : Int, v = σ k i → (0 ≤ v ∧ v ≤ 4) → dk_i32 v → dk_PJ E pc' ls ((0, v) :: st) n σ) : dk_PJ E pc ls ((0, i) :: (4, k) :: st) n σ :=
  dk_iald hE hd hk rfl hi hp (fun t q => K _ rfl ((ta_98 hk).mp t) q)
theorem pa_98 {E : dkE} {cc : ByteArray} {own : String} {d : Nat} {l0 : Launch} {G0 : dkG} {n00 : Int} {nL0 mc ms : Nat} (hE : dk_Good E cc own d dk_Ty l0 G0 n00 nL0 mc ms) {pc pc' : Nat} {ls st : List dkV} {n : Int} {σ : dkS} {k i z : Int} (hd : decode cc pc = .ok (.iastore, 1)) (hk : dk_is n 98 k) (hi : 0 ≤ i ∧ i < 200) (ht : 0 ≤ z ∧ z ≤ 4) (hp : pc + 1 = pc') (K : ∀ σ1 : dkS, σ1 = dk_up σ k i z → dk_PJ E pc' ls st n σ1) : dk_PJ E pc ls ((0, z) :: (0, i) :: (4, k) :: st) n σ :=
  dk_iast hE hd hk rfl hi (fun h => h.1 rfl) ((ta_98 hk).mpr ht) hp (K _ rfl)
-- m.fOne
theorem ta_99 {n k i v : Int} (hk : dk_is n 99 k) : dk_Ty k i v ↔ (True) := by
  show dk_tyS (dk_site k) k i v ↔ _
  rw [hk.2.2]
  exact Iff.rfl
theorem ga_99 {E : dkE} {cc : ByteArray} {own : String} {d : Nat} {l0 : Launch} {G0 : dkG} {n00 : Int} {nL0 mc ms : Nat} (hE : dk_Good E cc own d dk_Ty l0 G0 n00 nL0 mc ms) {pc pc' : Nat} {ls st : List dkV} {n : Int} {σ : dkS} {k i : Int} (hd : decode cc pc = .ok (.iaload, 1)) (hk : dk_is n 99 k) (hi : 0 ≤ i ∧ i < 200) (hp : pc + 1 = pc') (K : ∀ v : Int, v = σ k i → (True) → dk_i32 v → dk_PJ E pc' ls ((0, v) :: st) n σ) : dk_PJ E pc ls ((0, i) :: (4, k) :: st) n σ :=
  dk_iald hE hd hk rfl hi hp (fun t q => K _ rfl ((ta_99 hk).mp t) q)
theorem pa_99 {E : dkE} {cc : ByteArray} {own : String} {d : Nat} {l0 : Launch} {G0 : dkG} {n00 : Int} {nL0 mc ms : Nat} (hE : dk_Good E cc own d dk_Ty l0 G0 n00 nL0 mc ms) {pc pc' : Nat} {ls st : List dkV} {n : Int} {σ : dkS} {k i z : Int} (hd : decode cc pc = .ok (.iastore, 1)) (hk : dk_is n 99 k) (hi : 0 ≤ i ∧ i < 200) (ht : True) (hp : pc + 1 = pc') (K : ∀ σ1 : dkS, σ1 = dk_up σ k i z → dk_PJ E pc' ls st n σ1) : dk_PJ E pc ls ((0, z) :: (0, i) :: (4, k) :: st) n σ :=
  dk_iast hE hd hk rfl hi (fun h => h.1 rfl) ((ta_99 hk).mpr ht) hp (K _ rfl)
-- m.fTwo
theorem ta_100 {n k i v : Int} (hk : dk_is n 100 k) : dk_Ty k i v ↔ (0 ≤ v ∧ v ≤ 999) := by
  show dk_tyS (dk_site k) k i v ↔ _
  rw [hk.2.2]
  exact Iff.rfl
theorem ga_100 {E : dkE} {cc : ByteArray} {own : String} {d : Nat} {l0 : Launch} {G0 : dkG} {n00 : Int} {nL0 mc ms : Nat} (hE : dk_Good E cc own d dk_Ty l0 G0 n00 nL0 mc ms) {pc pc' : Nat} {ls st : List dkV} {n : Int} {σ : dkS} {k i : Int} (hd : decode cc pc = .ok (.iaload, 1)) (hk : dk_is n 100 k) (hi : 0 ≤ i ∧ i < 200) (hp : pc + 1 = pc') (K : ∀ v : Int, v = σ k i → (0 ≤ v ∧ v ≤ 999) → dk_i32 v → dk_PJ E pc' ls ((0, v) :: st) n σ) : dk_PJ E pc ls ((0, i) :: (4, k) :: st) n σ :=
  dk_iald hE hd hk rfl hi hp (fun t q => K _ rfl ((ta_100 hk).mp t) q)
theorem pa_100 {E : dkE} {cc : ByteArray} {own : String} {d : Nat} {l0 : Launch} {G0 : dkG} {n00 : Int} {nL0 mc ms : Nat} (hE : dk_Good E cc own d dk_Ty l0 G0 n00 nL0 mc ms) {pc pc' : Nat} {ls st : List dkV} {n : Int} {σ : dkS} {k i z : Int} (hd : decode cc pc = .ok (.iastore, 1)) (hk : dk_is n 100 k) (hi : 0 ≤ i ∧ i < 200) (ht : 0 ≤ z ∧ z ≤ 999) (hp : pc + 1 = pc') (K : ∀ σ1 : dkS, σ1 = dk_up σ k i z → dk_PJ E pc' ls st n σ1) : dk_PJ E pc ls ((0, z) :: (0, i) :: (4, k) :: st) n σ :=
  dk_iast hE hd hk rfl hi (fun h => h.1 rfl) ((ta_100 hk).mpr ht) hp (K _ rfl)
-- m.fThree
theorem ta_101 {n k i v : Int} (hk : dk_is n 101 k) : dk_Ty k i v ↔ (0 ≤ v ∧ v ≤ 999) := by
  show dk_tyS (dk_site k) k i v ↔ _
  rw [hk.2.2]
  exact Iff.rfl
theorem ga_101 {E : dkE} {cc : ByteArray} {own : String} {d : Nat} {l0 : Launch} {G0 : dkG} {n00 : Int} {nL0 mc ms : Nat} (hE : dk_Good E cc own d dk_Ty l0 G0 n00 nL0 mc ms) {pc pc' : Nat} {ls st : List dkV} {n : Int} {σ : dkS} {k i : Int} (hd : decode cc pc = .ok (.iaload, 1)) (hk : dk_is n 101 k) (hi : 0 ≤ i ∧ i < 200) (hp : pc + 1 = pc') (K : ∀ v : Int, v = σ k i → (0 ≤ v ∧ v ≤ 999) → dk_i32 v → dk_PJ E pc' ls ((0, v) :: st) n σ) : dk_PJ E pc ls ((0, i) :: (4, k) :: st) n σ :=
  dk_iald hE hd hk rfl hi hp (fun t q => K _ rfl ((ta_101 hk).mp t) q)
theorem pa_101 {E : dkE} {cc : ByteArray} {own : String} {d : Nat} {l0 : Launch} {G0 : dkG} {n00 : Int} {nL0 mc ms : Nat} (hE : dk_Good E cc own d dk_Ty l0 G0 n00 nL0 mc ms) {pc pc' : Nat} {ls st : List dkV} {n : Int} {σ : dkS} {k i z : Int} (hd : decode cc pc = .ok (.iastore, 1)) (hk : dk_is n 101 k) (hi : 0 ≤ i ∧ i < 200) (ht : 0 ≤ z ∧ z ≤ 999) (hp : pc + 1 = pc') (K : ∀ σ1 : dkS, σ1 = dk_up σ k i z → dk_PJ E pc' ls st n σ1) : dk_PJ E pc ls ((0, z) :: (0, i) :: (4, k) :: st) n σ :=
  dk_iast hE hd hk rfl hi (fun h => h.1 rfl) ((ta_101 hk).mpr ht) hp (K _ rfl)
-- m.fTold
theorem ta_102 {n k i v : Int} (hk : dk_is n 102 k) : dk_Ty k i v ↔ (True) := by
  show dk_tyS (dk_site k) k i v ↔ _
  rw [hk.2.2]
  exact Iff.rfl
theorem ga_102 {E : dkE} {cc : ByteArray} {own : String} {d : Nat} {l0 : Launch} {G0 : dkG} {n00 : Int} {nL0 mc ms : Nat} (hE : dk_Good E cc own d dk_Ty l0 G0 n00 nL0 mc ms) {pc pc' : Nat} {ls st : List dkV} {n : Int} {σ : dkS} {k i : Int} (hd : decode cc pc = .ok (.iaload, 1)) (hk : dk_is n 102 k) (hi : 0 ≤ i ∧ i < 200) (hp : pc + 1 = pc') (K : ∀ v : Int, v = σ k i → (True) → dk_i32 v → dk_PJ E pc' ls ((0, v) :: st) n σ) : dk_PJ E pc ls ((0, i) :: (4, k) :: st) n σ :=
  dk_iald hE hd hk rfl hi hp (fun t q => K _ rfl ((ta_102 hk).mp t) q)
theorem pa_102 {E : dkE} {cc : ByteArray} {own : String} {d : Nat} {l0 : Launch} {G0 : dkG} {n00 : Int} {nL0 mc ms : Nat} (hE : dk_Good E cc own d dk_Ty l0 G0 n00 nL0 mc ms) {pc pc' : Nat} {ls st : List dkV} {n : Int} {σ : dkS} {k i z : Int} (hd : decode cc pc = .ok (.iastore, 1)) (hk : dk_is n 102 k) (hi : 0 ≤ i ∧ i < 200) (ht : True) (hp : pc + 1 = pc') (K : ∀ σ1 : dkS, σ1 = dk_up σ k i z → dk_PJ E pc' ls st n σ1) : dk_PJ E pc ls ((0, z) :: (0, i) :: (4, k) :: st) n σ :=
  dk_iast hE hd hk rfl hi (fun h => h.1 rfl) ((ta_102 hk).mpr ht) hp (K _ rfl)
-- m.fUntold
theorem ta_103 {n k i v : Int} (hk : dk_is n 103 k) : dk_Ty k i v ↔ (True) := by
  show dk_tyS (dk_site k) k i v ↔ _
  rw [hk.2.2]
  exact Iff.rfl
theorem ga_103 {E : dkE} {cc : ByteArray} {own : String} {d : Nat} {l0 : Launch} {G0 : dkG} {n00 : Int} {nL0 mc ms : Nat} (hE : dk_Good E cc own d dk_Ty l0 G0 n00 nL0 mc ms) {pc pc' : Nat} {ls st : List dkV} {n : Int} {σ : dkS} {k i : Int} (hd : decode cc pc = .ok (.iaload, 1)) (hk : dk_is n 103 k) (hi : 0 ≤ i ∧ i < 200) (hp : pc + 1 = pc') (K : ∀ v : Int, v = σ k i → (True) → dk_i32 v → dk_PJ E pc' ls ((0, v) :: st) n σ) : dk_PJ E pc ls ((0, i) :: (4, k) :: st) n σ :=
  dk_iald hE hd hk rfl hi hp (fun t q => K _ rfl ((ta_103 hk).mp t) q)
theorem pa_103 {E : dkE} {cc : ByteArray} {own : String} {d : Nat} {l0 : Launch} {G0 : dkG} {n00 : Int} {nL0 mc ms : Nat} (hE : dk_Good E cc own d dk_Ty l0 G0 n00 nL0 mc ms) {pc pc' : Nat} {ls st : List dkV} {n : Int} {σ : dkS} {k i z : Int} (hd : decode cc pc = .ok (.iastore, 1)) (hk : dk_is n 103 k) (hi : 0 ≤ i ∧ i < 200) (ht : True) (hp : pc + 1 = pc') (K : ∀ σ1 : dkS, σ1 = dk_up σ k i z → dk_PJ E pc' ls st n σ1) : dk_PJ E pc ls ((0, z) :: (0, i) :: (4, k) :: st) n σ :=
  dk_iast hE hd hk rfl hi (fun h => h.1 rfl) ((ta_103 hk).mpr ht) hp (K _ rfl)
-- m.canDo
theorem ta_104 {n k i v : Int} (hk : dk_is n 104 k) : dk_Ty k i v ↔ (True) := by
  show dk_tyS (dk_site k) k i v ↔ _
  rw [hk.2.2]
  exact Iff.rfl
theorem ga_104 {E : dkE} {cc : ByteArray} {own : String} {d : Nat} {l0 : Launch} {G0 : dkG} {n00 : Int} {nL0 mc ms : Nat} (hE : dk_Good E cc own d dk_Ty l0 G0 n00 nL0 mc ms) {pc pc' : Nat} {ls st : List dkV} {n : Int} {σ : dkS} {k i : Int} (hd : decode cc pc = .ok (.baload, 1)) (hk : dk_is n 104 k) (hi : 0 ≤ i ∧ i < 120) (hp : pc + 1 = pc') (K : ∀ v : Int, v = σ k i → (True) → (0 ≤ v ∧ v ≤ 1) → dk_PJ E pc' ls ((0, v) :: st) n σ) : dk_PJ E pc ls ((0, i) :: (4, k) :: st) n σ :=
  dk_zald hE hd hk rfl hi hp (fun t q => K _ rfl ((ta_104 hk).mp t) q)
theorem pa_104 {E : dkE} {cc : ByteArray} {own : String} {d : Nat} {l0 : Launch} {G0 : dkG} {n00 : Int} {nL0 mc ms : Nat} (hE : dk_Good E cc own d dk_Ty l0 G0 n00 nL0 mc ms) {pc pc' : Nat} {ls st : List dkV} {n : Int} {σ : dkS} {k i z : Int} (hd : decode cc pc = .ok (.bastore, 1)) (hk : dk_is n 104 k) (hi : 0 ≤ i ∧ i < 120) (hz : 0 ≤ z ∧ z ≤ 1) (ht : True) (hp : pc + 1 = pc') (K : ∀ σ1 : dkS, σ1 = dk_up σ k i z → dk_PJ E pc' ls st n σ1) : dk_PJ E pc ls ((0, z) :: (0, i) :: (4, k) :: st) n σ :=
  dk_zast hE hd hk rfl hi (fun _ => hz) ((ta_104 hk).mpr ht) hp (K _ rfl)
-- m.costs
theorem ta_105 {n k i v : Int} (hk : dk_is n 105 k) : dk_Ty k i v ↔ (True) := by
  show dk_tyS (dk_site k) k i v ↔ _
  rw [hk.2.2]
  exact Iff.rfl
theorem ga_105 {E : dkE} {cc : ByteArray} {own : String} {d : Nat} {l0 : Launch} {G0 : dkG} {n00 : Int} {nL0 mc ms : Nat} (hE : dk_Good E cc own d dk_Ty l0 G0 n00 nL0 mc ms) {pc pc' : Nat} {ls st : List dkV} {n : Int} {σ : dkS} {k i : Int} (hd : decode cc pc = .ok (.iaload, 1)) (hk : dk_is n 105 k) (hi : 0 ≤ i ∧ i < 120) (hp : pc + 1 = pc') (K : ∀ v : Int, v = σ k i → (True) → dk_i32 v → dk_PJ E pc' ls ((0, v) :: st) n σ) : dk_PJ E pc ls ((0, i) :: (4, k) :: st) n σ :=
  dk_iald hE hd hk rfl hi hp (fun t q => K _ rfl ((ta_105 hk).mp t) q)
theorem pa_105 {E : dkE} {cc : ByteArray} {own : String} {d : Nat} {l0 : Launch} {G0 : dkG} {n00 : Int} {nL0 mc ms : Nat} (hE : dk_Good E cc own d dk_Ty l0 G0 n00 nL0 mc ms) {pc pc' : Nat} {ls st : List dkV} {n : Int} {σ : dkS} {k i z : Int} (hd : decode cc pc = .ok (.iastore, 1)) (hk : dk_is n 105 k) (hi : 0 ≤ i ∧ i < 120) (ht : True) (hp : pc + 1 = pc') (K : ∀ σ1 : dkS, σ1 = dk_up σ k i z → dk_PJ E pc' ls st n σ1) : dk_PJ E pc ls ((0, z) :: (0, i) :: (4, k) :: st) n σ :=
  dk_iast hE hd hk rfl hi (fun h => h.1 rfl) ((ta_105 hk).mpr ht) hp (K _ rfl)
-- m.cast
theorem ta_106 {n k i v : Int} (hk : dk_is n 106 k) : dk_Ty k i v ↔ (True) := by
  show dk_tyS (dk_site k) k i v ↔ _
  rw [hk.2.2]
  exact Iff.rfl
theorem ga_106 {E : dkE} {cc : ByteArray} {own : String} {d : Nat} {l0 : Launch} {G0 : dkG} {n00 : Int} {nL0 mc ms : Nat} (hE : dk_Good E cc own d dk_Ty l0 G0 n00 nL0 mc ms) {pc pc' : Nat} {ls st : List dkV} {n : Int} {σ : dkS} {k i : Int} (hd : decode cc pc = .ok (.iaload, 1)) (hk : dk_is n 106 k) (hi : 0 ≤ i ∧ i < 12) (hp : pc + 1 = pc') (K : ∀ v : Int, v = σ k i → (True) → dk_i32 v → dk_PJ E pc' ls ((0, v) :: st) n σ) : dk_PJ E pc ls ((0, i) :: (4, k) :: st) n σ :=
  dk_iald hE hd hk rfl hi hp (fun t q => K _ rfl ((ta_106 hk).mp t) q)
theorem pa_106 {E : dkE} {cc : ByteArray} {own : String} {d : Nat} {l0 : Launch} {G0 : dkG} {n00 : Int} {nL0 mc ms : Nat} (hE : dk_Good E cc own d dk_Ty l0 G0 n00 nL0 mc ms) {pc pc' : Nat} {ls st : List dkV} {n : Int} {σ : dkS} {k i z : Int} (hd : decode cc pc = .ok (.iastore, 1)) (hk : dk_is n 106 k) (hi : 0 ≤ i ∧ i < 12) (ht : True) (hp : pc + 1 = pc') (K : ∀ σ1 : dkS, σ1 = dk_up σ k i z → dk_PJ E pc' ls st n σ1) : dk_PJ E pc ls ((0, z) :: (0, i) :: (4, k) :: st) n σ :=
  dk_iast hE hd hk rfl hi (fun h => h.1 rfl) ((ta_106 hk).mpr ht) hp (K _ rfl)
-- m.newCast
theorem ta_107 {n k i v : Int} (hk : dk_is n 107 k) : dk_Ty k i v ↔ (True) := by
  show dk_tyS (dk_site k) k i v ↔ _
  rw [hk.2.2]
  exact Iff.rfl
theorem ga_107 {E : dkE} {cc : ByteArray} {own : String} {d : Nat} {l0 : Launch} {G0 : dkG} {n00 : Int} {nL0 mc ms : Nat} (hE : dk_Good E cc own d dk_Ty l0 G0 n00 nL0 mc ms) {pc pc' : Nat} {ls st : List dkV} {n : Int} {σ : dkS} {k i : Int} (hd : decode cc pc = .ok (.iaload, 1)) (hk : dk_is n 107 k) (hi : 0 ≤ i ∧ i < 12) (hp : pc + 1 = pc') (K : ∀ v : Int, v = σ k i → (True) → dk_i32 v → dk_PJ E pc' ls ((0, v) :: st) n σ) : dk_PJ E pc ls ((0, i) :: (4, k) :: st) n σ :=
  dk_iald hE hd hk rfl hi hp (fun t q => K _ rfl ((ta_107 hk).mp t) q)
theorem pa_107 {E : dkE} {cc : ByteArray} {own : String} {d : Nat} {l0 : Launch} {G0 : dkG} {n00 : Int} {nL0 mc ms : Nat} (hE : dk_Good E cc own d dk_Ty l0 G0 n00 nL0 mc ms) {pc pc' : Nat} {ls st : List dkV} {n : Int} {σ : dkS} {k i z : Int} (hd : decode cc pc = .ok (.iastore, 1)) (hk : dk_is n 107 k) (hi : 0 ≤ i ∧ i < 12) (ht : True) (hp : pc + 1 = pc') (K : ∀ σ1 : dkS, σ1 = dk_up σ k i z → dk_PJ E pc' ls st n σ1) : dk_PJ E pc ls ((0, z) :: (0, i) :: (4, k) :: st) n σ :=
  dk_iast hE hd hk rfl hi (fun h => h.1 rfl) ((ta_107 hk).mpr ht) hp (K _ rfl)
-- m.those
theorem ta_108 {n k i v : Int} (hk : dk_is n 108 k) : dk_Ty k i v ↔ (0 ≤ v ∧ v ≤ 11) := by
  show dk_tyS (dk_site k) k i v ↔ _
  rw [hk.2.2]
  exact Iff.rfl
theorem ga_108 {E : dkE} {cc : ByteArray} {own : String} {d : Nat} {l0 : Launch} {G0 : dkG} {n00 : Int} {nL0 mc ms : Nat} (hE : dk_Good E cc own d dk_Ty l0 G0 n00 nL0 mc ms) {pc pc' : Nat} {ls st : List dkV} {n : Int} {σ : dkS} {k i : Int} (hd : decode cc pc = .ok (.iaload, 1)) (hk : dk_is n 108 k) (hi : 0 ≤ i ∧ i < 8) (hp : pc + 1 = pc') (K : ∀ v : Int, v = σ k i → (0 ≤ v ∧ v ≤ 11) → dk_i32 v → dk_PJ E pc' ls ((0, v) :: st) n σ) : dk_PJ E pc ls ((0, i) :: (4, k) :: st) n σ :=
  dk_iald hE hd hk rfl hi hp (fun t q => K _ rfl ((ta_108 hk).mp t) q)
theorem pa_108 {E : dkE} {cc : ByteArray} {own : String} {d : Nat} {l0 : Launch} {G0 : dkG} {n00 : Int} {nL0 mc ms : Nat} (hE : dk_Good E cc own d dk_Ty l0 G0 n00 nL0 mc ms) {pc pc' : Nat} {ls st : List dkV} {n : Int} {σ : dkS} {k i z : Int} (hd : decode cc pc = .ok (.iastore, 1)) (hk : dk_is n 108 k) (hi : 0 ≤ i ∧ i < 8) (ht : 0 ≤ z ∧ z ≤ 11) (hp : pc + 1 = pc') (K : ∀ σ1 : dkS, σ1 = dk_up σ k i z → dk_PJ E pc' ls st n σ1) : dk_PJ E pc ls ((0, z) :: (0, i) :: (4, k) :: st) n σ :=
  dk_iast hE hd hk rfl hi (fun h => h.1 rfl) ((ta_108 hk).mpr ht) hp (K _ rfl)
-- m.first
theorem ta_109 {n k i v : Int} (hk : dk_is n 109 k) : dk_Ty k i v ↔ (-1 ≤ v ∧ v ≤ 9) := by
  show dk_tyS (dk_site k) k i v ↔ _
  rw [hk.2.2]
  exact Iff.rfl
theorem ga_109 {E : dkE} {cc : ByteArray} {own : String} {d : Nat} {l0 : Launch} {G0 : dkG} {n00 : Int} {nL0 mc ms : Nat} (hE : dk_Good E cc own d dk_Ty l0 G0 n00 nL0 mc ms) {pc pc' : Nat} {ls st : List dkV} {n : Int} {σ : dkS} {k i : Int} (hd : decode cc pc = .ok (.iaload, 1)) (hk : dk_is n 109 k) (hi : 0 ≤ i ∧ i < 8192) (hp : pc + 1 = pc') (K : ∀ v : Int, v = σ k i → (-1 ≤ v ∧ v ≤ 9) → dk_i32 v → dk_PJ E pc' ls ((0, v) :: st) n σ) : dk_PJ E pc ls ((0, i) :: (4, k) :: st) n σ :=
  dk_iald hE hd hk rfl hi hp (fun t q => K _ rfl ((ta_109 hk).mp t) q)
theorem pa_109 {E : dkE} {cc : ByteArray} {own : String} {d : Nat} {l0 : Launch} {G0 : dkG} {n00 : Int} {nL0 mc ms : Nat} (hE : dk_Good E cc own d dk_Ty l0 G0 n00 nL0 mc ms) {pc pc' : Nat} {ls st : List dkV} {n : Int} {σ : dkS} {k i z : Int} (hd : decode cc pc = .ok (.iastore, 1)) (hk : dk_is n 109 k) (hi : 0 ≤ i ∧ i < 8192) (ht : -1 ≤ z ∧ z ≤ 9) (hp : pc + 1 = pc') (K : ∀ σ1 : dkS, σ1 = dk_up σ k i z → dk_PJ E pc' ls st n σ1) : dk_PJ E pc ls ((0, z) :: (0, i) :: (4, k) :: st) n σ :=
  dk_iast hE hd hk rfl hi (fun h => h.1 rfl) ((ta_109 hk).mpr ht) hp (K _ rfl)
-- m.least
theorem ta_110 {n k i v : Int} (hk : dk_is n 110 k) : dk_Ty k i v ↔ (True) := by
  show dk_tyS (dk_site k) k i v ↔ _
  rw [hk.2.2]
  exact Iff.rfl
theorem ga_110 {E : dkE} {cc : ByteArray} {own : String} {d : Nat} {l0 : Launch} {G0 : dkG} {n00 : Int} {nL0 mc ms : Nat} (hE : dk_Good E cc own d dk_Ty l0 G0 n00 nL0 mc ms) {pc pc' : Nat} {ls st : List dkV} {n : Int} {σ : dkS} {k i : Int} (hd : decode cc pc = .ok (.laload, 1)) (hk : dk_is n 110 k) (hi : 0 ≤ i ∧ i < 9216) (hp : pc + 1 = pc') (K : ∀ v : Int, v = σ k i → (True) → dk_i64 v → dk_PJ E pc' ls ((3, v) :: st) n σ) : dk_PJ E pc ls ((0, i) :: (4, k) :: st) n σ :=
  dk_lald hE hd hk rfl hi hp (fun t q => K _ rfl ((ta_110 hk).mp t) q)
theorem pa_110 {E : dkE} {cc : ByteArray} {own : String} {d : Nat} {l0 : Launch} {G0 : dkG} {n00 : Int} {nL0 mc ms : Nat} (hE : dk_Good E cc own d dk_Ty l0 G0 n00 nL0 mc ms) {pc pc' : Nat} {ls st : List dkV} {n : Int} {σ : dkS} {k i z : Int} (hd : decode cc pc = .ok (.lastore, 1)) (hk : dk_is n 110 k) (hi : 0 ≤ i ∧ i < 9216) (ht : True) (hp : pc + 1 = pc') (K : ∀ σ1 : dkS, σ1 = dk_up σ k i z → dk_PJ E pc' ls st n σ1) : dk_PJ E pc ls ((3, z) :: (0, i) :: (4, k) :: st) n σ :=
  dk_last hE hd hk rfl hi (fun h => h.2 rfl) ((ta_110 hk).mpr ht) hp (K _ rfl)
-- m.fewest
theorem ta_111 {n k i v : Int} (hk : dk_is n 111 k) : dk_Ty k i v ↔ (True) := by
  show dk_tyS (dk_site k) k i v ↔ _
  rw [hk.2.2]
  exact Iff.rfl
theorem ga_111 {E : dkE} {cc : ByteArray} {own : String} {d : Nat} {l0 : Launch} {G0 : dkG} {n00 : Int} {nL0 mc ms : Nat} (hE : dk_Good E cc own d dk_Ty l0 G0 n00 nL0 mc ms) {pc pc' : Nat} {ls st : List dkV} {n : Int} {σ : dkS} {k i : Int} (hd : decode cc pc = .ok (.iaload, 1)) (hk : dk_is n 111 k) (hi : 0 ≤ i ∧ i < 9216) (hp : pc + 1 = pc') (K : ∀ v : Int, v = σ k i → (True) → dk_i32 v → dk_PJ E pc' ls ((0, v) :: st) n σ) : dk_PJ E pc ls ((0, i) :: (4, k) :: st) n σ :=
  dk_iald hE hd hk rfl hi hp (fun t q => K _ rfl ((ta_111 hk).mp t) q)
theorem pa_111 {E : dkE} {cc : ByteArray} {own : String} {d : Nat} {l0 : Launch} {G0 : dkG} {n00 : Int} {nL0 mc ms : Nat} (hE : dk_Good E cc own d dk_Ty l0 G0 n00 nL0 mc ms) {pc pc' : Nat} {ls st : List dkV} {n : Int} {σ : dkS} {k i z : Int} (hd : decode cc pc = .ok (.iastore, 1)) (hk : dk_is n 111 k) (hi : 0 ≤ i ∧ i < 9216) (ht : True) (hp : pc + 1 = pc') (K : ∀ σ1 : dkS, σ1 = dk_up σ k i z → dk_PJ E pc' ls st n σ1) : dk_PJ E pc ls ((0, z) :: (0, i) :: (4, k) :: st) n σ :=
  dk_iast hE hd hk rfl hi (fun h => h.1 rfl) ((ta_111 hk).mpr ht) hp (K _ rfl)
-- m.rWork
theorem ta_112 {n k i v : Int} (hk : dk_is n 112 k) : dk_Ty k i v ↔ (0 ≤ v ∧ v ≤ 3) := by
  show dk_tyS (dk_site k) k i v ↔ _
  rw [hk.2.2]
  exact Iff.rfl
theorem ga_112 {E : dkE} {cc : ByteArray} {own : String} {d : Nat} {l0 : Launch} {G0 : dkG} {n00 : Int} {nL0 mc ms : Nat} (hE : dk_Good E cc own d dk_Ty l0 G0 n00 nL0 mc ms) {pc pc' : Nat} {ls st : List dkV} {n : Int} {σ : dkS} {k i : Int} (hd : decode cc pc = .ok (.iaload, 1)) (hk : dk_is n 112 k) (hi : 0 ≤ i ∧ i < 9) (hp : pc + 1 = pc') (K : ∀ v : Int, v = σ k i → (0 ≤ v ∧ v ≤ 3) → dk_i32 v → dk_PJ E pc' ls ((0, v) :: st) n σ) : dk_PJ E pc ls ((0, i) :: (4, k) :: st) n σ :=
  dk_iald hE hd hk rfl hi hp (fun t q => K _ rfl ((ta_112 hk).mp t) q)
theorem pa_112 {E : dkE} {cc : ByteArray} {own : String} {d : Nat} {l0 : Launch} {G0 : dkG} {n00 : Int} {nL0 mc ms : Nat} (hE : dk_Good E cc own d dk_Ty l0 G0 n00 nL0 mc ms) {pc pc' : Nat} {ls st : List dkV} {n : Int} {σ : dkS} {k i z : Int} (hd : decode cc pc = .ok (.iastore, 1)) (hk : dk_is n 112 k) (hi : 0 ≤ i ∧ i < 9) (ht : 0 ≤ z ∧ z ≤ 3) (hp : pc + 1 = pc') (K : ∀ σ1 : dkS, σ1 = dk_up σ k i z → dk_PJ E pc' ls st n σ1) : dk_PJ E pc ls ((0, z) :: (0, i) :: (4, k) :: st) n σ :=
  dk_iast hE hd hk rfl hi (fun h => h.1 rfl) ((ta_112 hk).mpr ht) hp (K _ rfl)
-- m.rDay
theorem ta_113 {n k i v : Int} (hk : dk_is n 113 k) : dk_Ty k i v ↔ (0 ≤ v ∧ v ≤ 999) := by
  show dk_tyS (dk_site k) k i v ↔ _
  rw [hk.2.2]
  exact Iff.rfl
theorem ga_113 {E : dkE} {cc : ByteArray} {own : String} {d : Nat} {l0 : Launch} {G0 : dkG} {n00 : Int} {nL0 mc ms : Nat} (hE : dk_Good E cc own d dk_Ty l0 G0 n00 nL0 mc ms) {pc pc' : Nat} {ls st : List dkV} {n : Int} {σ : dkS} {k i : Int} (hd : decode cc pc = .ok (.iaload, 1)) (hk : dk_is n 113 k) (hi : 0 ≤ i ∧ i < 9) (hp : pc + 1 = pc') (K : ∀ v : Int, v = σ k i → (0 ≤ v ∧ v ≤ 999) → dk_i32 v → dk_PJ E pc' ls ((0, v) :: st) n σ) : dk_PJ E pc ls ((0, i) :: (4, k) :: st) n σ :=
  dk_iald hE hd hk rfl hi hp (fun t q => K _ rfl ((ta_113 hk).mp t) q)
theorem pa_113 {E : dkE} {cc : ByteArray} {own : String} {d : Nat} {l0 : Launch} {G0 : dkG} {n00 : Int} {nL0 mc ms : Nat} (hE : dk_Good E cc own d dk_Ty l0 G0 n00 nL0 mc ms) {pc pc' : Nat} {ls st : List dkV} {n : Int} {σ : dkS} {k i z : Int} (hd : decode cc pc = .ok (.iastore, 1)) (hk : dk_is n 113 k) (hi : 0 ≤ i ∧ i < 9) (ht : 0 ≤ z ∧ z ≤ 999) (hp : pc + 1 = pc') (K : ∀ σ1 : dkS, σ1 = dk_up σ k i z → dk_PJ E pc' ls st n σ1) : dk_PJ E pc ls ((0, z) :: (0, i) :: (4, k) :: st) n σ :=
  dk_iast hE hd hk rfl hi (fun h => h.1 rfl) ((ta_113 hk).mpr ht) hp (K _ rfl)
-- m.rBodies
theorem ta_114 {n k i v : Int} (hk : dk_is n 114 k) : dk_Ty k i v ↔ (True) := by
  show dk_tyS (dk_site k) k i v ↔ _
  rw [hk.2.2]
  exact Iff.rfl
theorem ga_114 {E : dkE} {cc : ByteArray} {own : String} {d : Nat} {l0 : Launch} {G0 : dkG} {n00 : Int} {nL0 mc ms : Nat} (hE : dk_Good E cc own d dk_Ty l0 G0 n00 nL0 mc ms) {pc pc' : Nat} {ls st : List dkV} {n : Int} {σ : dkS} {k i : Int} (hd : decode cc pc = .ok (.iaload, 1)) (hk : dk_is n 114 k) (hi : 0 ≤ i ∧ i < 9) (hp : pc + 1 = pc') (K : ∀ v : Int, v = σ k i → (True) → dk_i32 v → dk_PJ E pc' ls ((0, v) :: st) n σ) : dk_PJ E pc ls ((0, i) :: (4, k) :: st) n σ :=
  dk_iald hE hd hk rfl hi hp (fun t q => K _ rfl ((ta_114 hk).mp t) q)
theorem pa_114 {E : dkE} {cc : ByteArray} {own : String} {d : Nat} {l0 : Launch} {G0 : dkG} {n00 : Int} {nL0 mc ms : Nat} (hE : dk_Good E cc own d dk_Ty l0 G0 n00 nL0 mc ms) {pc pc' : Nat} {ls st : List dkV} {n : Int} {σ : dkS} {k i z : Int} (hd : decode cc pc = .ok (.iastore, 1)) (hk : dk_is n 114 k) (hi : 0 ≤ i ∧ i < 9) (ht : True) (hp : pc + 1 = pc') (K : ∀ σ1 : dkS, σ1 = dk_up σ k i z → dk_PJ E pc' ls st n σ1) : dk_PJ E pc ls ((0, z) :: (0, i) :: (4, k) :: st) n σ :=
  dk_iast hE hd hk rfl hi (fun h => h.1 rfl) ((ta_114 hk).mpr ht) hp (K _ rfl)
-- m.hourOf
theorem ta_115 {n k i v : Int} (hk : dk_is n 115 k) : dk_Ty k i v ↔ (-1 ≤ v ∧ v ≤ 9) := by
  show dk_tyS (dk_site k) k i v ↔ _
  rw [hk.2.2]
  exact Iff.rfl
theorem ga_115 {E : dkE} {cc : ByteArray} {own : String} {d : Nat} {l0 : Launch} {G0 : dkG} {n00 : Int} {nL0 mc ms : Nat} (hE : dk_Good E cc own d dk_Ty l0 G0 n00 nL0 mc ms) {pc pc' : Nat} {ls st : List dkV} {n : Int} {σ : dkS} {k i : Int} (hd : decode cc pc = .ok (.iaload, 1)) (hk : dk_is n 115 k) (hi : 0 ≤ i ∧ i < 9) (hp : pc + 1 = pc') (K : ∀ v : Int, v = σ k i → (-1 ≤ v ∧ v ≤ 9) → dk_i32 v → dk_PJ E pc' ls ((0, v) :: st) n σ) : dk_PJ E pc ls ((0, i) :: (4, k) :: st) n σ :=
  dk_iald hE hd hk rfl hi hp (fun t q => K _ rfl ((ta_115 hk).mp t) q)
theorem pa_115 {E : dkE} {cc : ByteArray} {own : String} {d : Nat} {l0 : Launch} {G0 : dkG} {n00 : Int} {nL0 mc ms : Nat} (hE : dk_Good E cc own d dk_Ty l0 G0 n00 nL0 mc ms) {pc pc' : Nat} {ls st : List dkV} {n : Int} {σ : dkS} {k i z : Int} (hd : decode cc pc = .ok (.iastore, 1)) (hk : dk_is n 115 k) (hi : 0 ≤ i ∧ i < 9) (ht : -1 ≤ z ∧ z ≤ 9) (hp : pc + 1 = pc') (K : ∀ σ1 : dkS, σ1 = dk_up σ k i z → dk_PJ E pc' ls st n σ1) : dk_PJ E pc ls ((0, z) :: (0, i) :: (4, k) :: st) n σ :=
  dk_iast hE hd hk rfl hi (fun h => h.1 rfl) ((ta_115 hk).mpr ht) hp (K _ rfl)
-- m.inHour
theorem ta_116 {n k i v : Int} (hk : dk_is n 116 k) : dk_Ty k i v ↔ (True) := by
  show dk_tyS (dk_site k) k i v ↔ _
  rw [hk.2.2]
  exact Iff.rfl
theorem ga_116 {E : dkE} {cc : ByteArray} {own : String} {d : Nat} {l0 : Launch} {G0 : dkG} {n00 : Int} {nL0 mc ms : Nat} (hE : dk_Good E cc own d dk_Ty l0 G0 n00 nL0 mc ms) {pc pc' : Nat} {ls st : List dkV} {n : Int} {σ : dkS} {k i : Int} (hd : decode cc pc = .ok (.iaload, 1)) (hk : dk_is n 116 k) (hi : 0 ≤ i ∧ i < 9) (hp : pc + 1 = pc') (K : ∀ v : Int, v = σ k i → (True) → dk_i32 v → dk_PJ E pc' ls ((0, v) :: st) n σ) : dk_PJ E pc ls ((0, i) :: (4, k) :: st) n σ :=
  dk_iald hE hd hk rfl hi hp (fun t q => K _ rfl ((ta_116 hk).mp t) q)
theorem pa_116 {E : dkE} {cc : ByteArray} {own : String} {d : Nat} {l0 : Launch} {G0 : dkG} {n00 : Int} {nL0 mc ms : Nat} (hE : dk_Good E cc own d dk_Ty l0 G0 n00 nL0 mc ms) {pc pc' : Nat} {ls st : List dkV} {n : Int} {σ : dkS} {k i z : Int} (hd : decode cc pc = .ok (.iastore, 1)) (hk : dk_is n 116 k) (hi : 0 ≤ i ∧ i < 9) (ht : True) (hp : pc + 1 = pc') (K : ∀ σ1 : dkS, σ1 = dk_up σ k i z → dk_PJ E pc' ls st n σ1) : dk_PJ E pc ls ((0, z) :: (0, i) :: (4, k) :: st) n σ :=
  dk_iast hE hd hk rfl hi (fun h => h.1 rfl) ((ta_116 hk).mpr ht) hp (K _ rfl)
-- m.hourBodies
theorem ta_117 {n k i v : Int} (hk : dk_is n 117 k) : dk_Ty k i v ↔ (True) := by
  show dk_tyS (dk_site k) k i v ↔ _
  rw [hk.2.2]
  exact Iff.rfl
theorem ga_117 {E : dkE} {cc : ByteArray} {own : String} {d : Nat} {l0 : Launch} {G0 : dkG} {n00 : Int} {nL0 mc ms : Nat} (hE : dk_Good E cc own d dk_Ty l0 G0 n00 nL0 mc ms) {pc pc' : Nat} {ls st : List dkV} {n : Int} {σ : dkS} {k i : Int} (hd : decode cc pc = .ok (.iaload, 1)) (hk : dk_is n 117 k) (hi : 0 ≤ i ∧ i < 9) (hp : pc + 1 = pc') (K : ∀ v : Int, v = σ k i → (True) → dk_i32 v → dk_PJ E pc' ls ((0, v) :: st) n σ) : dk_PJ E pc ls ((0, i) :: (4, k) :: st) n σ :=
  dk_iald hE hd hk rfl hi hp (fun t q => K _ rfl ((ta_117 hk).mp t) q)
theorem pa_117 {E : dkE} {cc : ByteArray} {own : String} {d : Nat} {l0 : Launch} {G0 : dkG} {n00 : Int} {nL0 mc ms : Nat} (hE : dk_Good E cc own d dk_Ty l0 G0 n00 nL0 mc ms) {pc pc' : Nat} {ls st : List dkV} {n : Int} {σ : dkS} {k i z : Int} (hd : decode cc pc = .ok (.iastore, 1)) (hk : dk_is n 117 k) (hi : 0 ≤ i ∧ i < 9) (ht : True) (hp : pc + 1 = pc') (K : ∀ σ1 : dkS, σ1 = dk_up σ k i z → dk_PJ E pc' ls st n σ1) : dk_PJ E pc ls ((0, z) :: (0, i) :: (4, k) :: st) n σ :=
  dk_iast hE hd hk rfl hi (fun h => h.1 rfl) ((ta_117 hk).mpr ht) hp (K _ rfl)
theorem is_0 : dk_is 190 10 0 := ⟨by decide, by decide, by decide⟩
theorem is_1 : dk_is 190 7 1 := ⟨by decide, by decide, by decide⟩
theorem is_2 : dk_is 190 20 2 := ⟨by decide, by decide, by decide⟩
theorem is_3 : dk_is 190 21 3 := ⟨by decide, by decide, by decide⟩
theorem is_4 : dk_is 190 22 4 := ⟨by decide, by decide, by decide⟩
theorem is_5 : dk_is 190 22 5 := ⟨by decide, by decide, by decide⟩
theorem is_6 : dk_is 190 9 6 := ⟨by decide, by decide, by decide⟩
theorem is_7 : dk_is 190 23 7 := ⟨by decide, by decide, by decide⟩
theorem is_8 : dk_is 190 5 8 := ⟨by decide, by decide, by decide⟩
theorem is_9 : dk_is 190 24 9 := ⟨by decide, by decide, by decide⟩
theorem is_10 : dk_is 190 2 10 := ⟨by decide, by decide, by decide⟩
theorem is_11 : dk_is 190 25 11 := ⟨by decide, by decide, by decide⟩
theorem is_12 : dk_is 190 26 12 := ⟨by decide, by decide, by decide⟩
theorem is_13 : dk_is 190 3 13 := ⟨by decide, by decide, by decide⟩
theorem is_14 : dk_is 190 27 14 := ⟨by decide, by decide, by decide⟩
theorem is_15 : dk_is 190 28 15 := ⟨by decide, by decide, by decide⟩
theorem is_16 : dk_is 190 29 16 := ⟨by decide, by decide, by decide⟩
theorem is_17 : dk_is 190 3 17 := ⟨by decide, by decide, by decide⟩
theorem is_18 : dk_is 190 27 18 := ⟨by decide, by decide, by decide⟩
theorem is_19 : dk_is 190 28 19 := ⟨by decide, by decide, by decide⟩
theorem is_20 : dk_is 190 29 20 := ⟨by decide, by decide, by decide⟩
theorem is_21 : dk_is 190 3 21 := ⟨by decide, by decide, by decide⟩
theorem is_22 : dk_is 190 27 22 := ⟨by decide, by decide, by decide⟩
theorem is_23 : dk_is 190 28 23 := ⟨by decide, by decide, by decide⟩
theorem is_24 : dk_is 190 29 24 := ⟨by decide, by decide, by decide⟩
theorem is_25 : dk_is 190 3 25 := ⟨by decide, by decide, by decide⟩
theorem is_26 : dk_is 190 27 26 := ⟨by decide, by decide, by decide⟩
theorem is_27 : dk_is 190 28 27 := ⟨by decide, by decide, by decide⟩
theorem is_28 : dk_is 190 29 28 := ⟨by decide, by decide, by decide⟩
theorem is_29 : dk_is 190 3 29 := ⟨by decide, by decide, by decide⟩
theorem is_30 : dk_is 190 27 30 := ⟨by decide, by decide, by decide⟩
theorem is_31 : dk_is 190 28 31 := ⟨by decide, by decide, by decide⟩
theorem is_32 : dk_is 190 29 32 := ⟨by decide, by decide, by decide⟩
theorem is_33 : dk_is 190 3 33 := ⟨by decide, by decide, by decide⟩
theorem is_34 : dk_is 190 27 34 := ⟨by decide, by decide, by decide⟩
theorem is_35 : dk_is 190 28 35 := ⟨by decide, by decide, by decide⟩
theorem is_36 : dk_is 190 29 36 := ⟨by decide, by decide, by decide⟩
theorem is_37 : dk_is 190 1 37 := ⟨by decide, by decide, by decide⟩
theorem is_38 : dk_is 190 30 38 := ⟨by decide, by decide, by decide⟩
theorem is_39 : dk_is 190 31 39 := ⟨by decide, by decide, by decide⟩
theorem is_40 : dk_is 190 32 40 := ⟨by decide, by decide, by decide⟩
theorem is_41 : dk_is 190 33 41 := ⟨by decide, by decide, by decide⟩
theorem is_42 : dk_is 190 34 42 := ⟨by decide, by decide, by decide⟩
theorem is_43 : dk_is 190 35 43 := ⟨by decide, by decide, by decide⟩
theorem is_44 : dk_is 190 36 44 := ⟨by decide, by decide, by decide⟩
theorem is_45 : dk_is 190 6 45 := ⟨by decide, by decide, by decide⟩
theorem is_46 : dk_is 190 37 46 := ⟨by decide, by decide, by decide⟩
theorem is_47 : dk_is 190 38 47 := ⟨by decide, by decide, by decide⟩
theorem is_48 : dk_is 190 38 48 := ⟨by decide, by decide, by decide⟩
theorem is_49 : dk_is 190 38 49 := ⟨by decide, by decide, by decide⟩
theorem is_50 : dk_is 190 38 50 := ⟨by decide, by decide, by decide⟩
theorem is_51 : dk_is 190 38 51 := ⟨by decide, by decide, by decide⟩
theorem is_52 : dk_is 190 38 52 := ⟨by decide, by decide, by decide⟩
theorem is_53 : dk_is 190 38 53 := ⟨by decide, by decide, by decide⟩
theorem is_54 : dk_is 190 38 54 := ⟨by decide, by decide, by decide⟩
theorem is_55 : dk_is 190 38 55 := ⟨by decide, by decide, by decide⟩
theorem is_56 : dk_is 190 38 56 := ⟨by decide, by decide, by decide⟩
theorem is_57 : dk_is 190 39 57 := ⟨by decide, by decide, by decide⟩
theorem is_58 : dk_is 190 40 58 := ⟨by decide, by decide, by decide⟩
theorem is_59 : dk_is 190 40 59 := ⟨by decide, by decide, by decide⟩
theorem is_60 : dk_is 190 40 60 := ⟨by decide, by decide, by decide⟩
theorem is_61 : dk_is 190 40 61 := ⟨by decide, by decide, by decide⟩
theorem is_62 : dk_is 190 40 62 := ⟨by decide, by decide, by decide⟩
theorem is_63 : dk_is 190 40 63 := ⟨by decide, by decide, by decide⟩
theorem is_64 : dk_is 190 40 64 := ⟨by decide, by decide, by decide⟩
theorem is_65 : dk_is 190 40 65 := ⟨by decide, by decide, by decide⟩
theorem is_66 : dk_is 190 40 66 := ⟨by decide, by decide, by decide⟩
theorem is_67 : dk_is 190 40 67 := ⟨by decide, by decide, by decide⟩
theorem is_68 : dk_is 190 41 68 := ⟨by decide, by decide, by decide⟩
theorem is_69 : dk_is 190 42 69 := ⟨by decide, by decide, by decide⟩
theorem is_70 : dk_is 190 43 70 := ⟨by decide, by decide, by decide⟩
theorem is_71 : dk_is 190 44 71 := ⟨by decide, by decide, by decide⟩
theorem is_72 : dk_is 190 45 72 := ⟨by decide, by decide, by decide⟩
theorem is_73 : dk_is 190 46 73 := ⟨by decide, by decide, by decide⟩
theorem is_74 : dk_is 190 47 74 := ⟨by decide, by decide, by decide⟩
theorem is_75 : dk_is 190 0 75 := ⟨by decide, by decide, by decide⟩
theorem is_76 : dk_is 190 48 76 := ⟨by decide, by decide, by decide⟩
theorem is_77 : dk_is 190 49 77 := ⟨by decide, by decide, by decide⟩
theorem is_78 : dk_is 190 49 78 := ⟨by decide, by decide, by decide⟩
theorem is_79 : dk_is 190 49 79 := ⟨by decide, by decide, by decide⟩
theorem is_80 : dk_is 190 49 80 := ⟨by decide, by decide, by decide⟩
theorem is_81 : dk_is 190 49 81 := ⟨by decide, by decide, by decide⟩
theorem is_82 : dk_is 190 49 82 := ⟨by decide, by decide, by decide⟩
theorem is_83 : dk_is 190 49 83 := ⟨by decide, by decide, by decide⟩
theorem is_84 : dk_is 190 49 84 := ⟨by decide, by decide, by decide⟩
theorem is_85 : dk_is 190 50 85 := ⟨by decide, by decide, by decide⟩
theorem is_86 : dk_is 190 51 86 := ⟨by decide, by decide, by decide⟩
theorem is_87 : dk_is 190 52 87 := ⟨by decide, by decide, by decide⟩
theorem is_88 : dk_is 190 8 88 := ⟨by decide, by decide, by decide⟩
theorem is_89 : dk_is 190 53 89 := ⟨by decide, by decide, by decide⟩
theorem is_90 : dk_is 190 54 90 := ⟨by decide, by decide, by decide⟩
theorem is_91 : dk_is 190 55 91 := ⟨by decide, by decide, by decide⟩
theorem is_92 : dk_is 190 56 92 := ⟨by decide, by decide, by decide⟩
theorem is_93 : dk_is 190 57 93 := ⟨by decide, by decide, by decide⟩
theorem is_94 : dk_is 190 58 94 := ⟨by decide, by decide, by decide⟩
theorem is_95 : dk_is 190 4 95 := ⟨by decide, by decide, by decide⟩
theorem is_96 : dk_is 190 59 96 := ⟨by decide, by decide, by decide⟩
theorem is_97 : dk_is 190 60 97 := ⟨by decide, by decide, by decide⟩
theorem is_98 : dk_is 190 61 98 := ⟨by decide, by decide, by decide⟩
theorem is_99 : dk_is 190 62 99 := ⟨by decide, by decide, by decide⟩
theorem is_100 : dk_is 190 62 100 := ⟨by decide, by decide, by decide⟩
theorem is_101 : dk_is 190 62 101 := ⟨by decide, by decide, by decide⟩
theorem is_102 : dk_is 190 62 102 := ⟨by decide, by decide, by decide⟩
theorem is_103 : dk_is 190 62 103 := ⟨by decide, by decide, by decide⟩
theorem is_104 : dk_is 190 62 104 := ⟨by decide, by decide, by decide⟩
theorem is_105 : dk_is 190 62 105 := ⟨by decide, by decide, by decide⟩
theorem is_106 : dk_is 190 62 106 := ⟨by decide, by decide, by decide⟩
theorem is_107 : dk_is 190 62 107 := ⟨by decide, by decide, by decide⟩
theorem is_108 : dk_is 190 62 108 := ⟨by decide, by decide, by decide⟩
theorem is_109 : dk_is 190 62 109 := ⟨by decide, by decide, by decide⟩
theorem is_110 : dk_is 190 62 110 := ⟨by decide, by decide, by decide⟩
theorem is_111 : dk_is 190 63 111 := ⟨by decide, by decide, by decide⟩
theorem is_112 : dk_is 190 64 112 := ⟨by decide, by decide, by decide⟩
theorem is_113 : dk_is 190 65 113 := ⟨by decide, by decide, by decide⟩
theorem is_114 : dk_is 190 66 114 := ⟨by decide, by decide, by decide⟩
theorem is_115 : dk_is 190 67 115 := ⟨by decide, by decide, by decide⟩
theorem is_116 : dk_is 190 68 116 := ⟨by decide, by decide, by decide⟩
theorem is_117 : dk_is 190 69 117 := ⟨by decide, by decide, by decide⟩
theorem is_118 : dk_is 190 4 118 := ⟨by decide, by decide, by decide⟩
theorem is_119 : dk_is 190 59 119 := ⟨by decide, by decide, by decide⟩
theorem is_120 : dk_is 190 60 120 := ⟨by decide, by decide, by decide⟩
theorem is_121 : dk_is 190 61 121 := ⟨by decide, by decide, by decide⟩
theorem is_122 : dk_is 190 62 122 := ⟨by decide, by decide, by decide⟩
theorem is_123 : dk_is 190 62 123 := ⟨by decide, by decide, by decide⟩
theorem is_124 : dk_is 190 62 124 := ⟨by decide, by decide, by decide⟩
theorem is_125 : dk_is 190 62 125 := ⟨by decide, by decide, by decide⟩
theorem is_126 : dk_is 190 62 126 := ⟨by decide, by decide, by decide⟩
theorem is_127 : dk_is 190 62 127 := ⟨by decide, by decide, by decide⟩
theorem is_128 : dk_is 190 62 128 := ⟨by decide, by decide, by decide⟩
theorem is_129 : dk_is 190 62 129 := ⟨by decide, by decide, by decide⟩
theorem is_130 : dk_is 190 62 130 := ⟨by decide, by decide, by decide⟩
theorem is_131 : dk_is 190 62 131 := ⟨by decide, by decide, by decide⟩
theorem is_132 : dk_is 190 62 132 := ⟨by decide, by decide, by decide⟩
theorem is_133 : dk_is 190 62 133 := ⟨by decide, by decide, by decide⟩
theorem is_134 : dk_is 190 63 134 := ⟨by decide, by decide, by decide⟩
theorem is_135 : dk_is 190 64 135 := ⟨by decide, by decide, by decide⟩
theorem is_136 : dk_is 190 65 136 := ⟨by decide, by decide, by decide⟩
theorem is_137 : dk_is 190 66 137 := ⟨by decide, by decide, by decide⟩
theorem is_138 : dk_is 190 67 138 := ⟨by decide, by decide, by decide⟩
theorem is_139 : dk_is 190 68 139 := ⟨by decide, by decide, by decide⟩
theorem is_140 : dk_is 190 69 140 := ⟨by decide, by decide, by decide⟩
theorem is_141 : dk_is 190 11 141 := ⟨by decide, by decide, by decide⟩
theorem is_142 : dk_is 190 70 142 := ⟨by decide, by decide, by decide⟩
theorem is_143 : dk_is 190 71 143 := ⟨by decide, by decide, by decide⟩
theorem is_144 : dk_is 190 72 144 := ⟨by decide, by decide, by decide⟩
theorem is_145 : dk_is 190 73 145 := ⟨by decide, by decide, by decide⟩
theorem is_146 : dk_is 190 74 146 := ⟨by decide, by decide, by decide⟩
theorem is_147 : dk_is 190 75 147 := ⟨by decide, by decide, by decide⟩
theorem is_148 : dk_is 190 76 148 := ⟨by decide, by decide, by decide⟩
theorem is_149 : dk_is 190 77 149 := ⟨by decide, by decide, by decide⟩
theorem is_150 : dk_is 190 78 150 := ⟨by decide, by decide, by decide⟩
theorem is_151 : dk_is 190 79 151 := ⟨by decide, by decide, by decide⟩
theorem is_152 : dk_is 190 80 152 := ⟨by decide, by decide, by decide⟩
theorem is_153 : dk_is 190 81 153 := ⟨by decide, by decide, by decide⟩
theorem is_154 : dk_is 190 82 154 := ⟨by decide, by decide, by decide⟩
theorem is_155 : dk_is 190 83 155 := ⟨by decide, by decide, by decide⟩
theorem is_156 : dk_is 190 84 156 := ⟨by decide, by decide, by decide⟩
theorem is_157 : dk_is 190 85 157 := ⟨by decide, by decide, by decide⟩
theorem is_158 : dk_is 190 86 158 := ⟨by decide, by decide, by decide⟩
theorem is_159 : dk_is 190 87 159 := ⟨by decide, by decide, by decide⟩
theorem is_160 : dk_is 190 88 160 := ⟨by decide, by decide, by decide⟩
theorem is_161 : dk_is 190 89 161 := ⟨by decide, by decide, by decide⟩
theorem is_162 : dk_is 190 90 162 := ⟨by decide, by decide, by decide⟩
theorem is_163 : dk_is 190 91 163 := ⟨by decide, by decide, by decide⟩
theorem is_164 : dk_is 190 92 164 := ⟨by decide, by decide, by decide⟩
theorem is_165 : dk_is 190 93 165 := ⟨by decide, by decide, by decide⟩
theorem is_166 : dk_is 190 94 166 := ⟨by decide, by decide, by decide⟩
theorem is_167 : dk_is 190 95 167 := ⟨by decide, by decide, by decide⟩
theorem is_168 : dk_is 190 96 168 := ⟨by decide, by decide, by decide⟩
theorem is_169 : dk_is 190 97 169 := ⟨by decide, by decide, by decide⟩
theorem is_170 : dk_is 190 98 170 := ⟨by decide, by decide, by decide⟩
theorem is_171 : dk_is 190 99 171 := ⟨by decide, by decide, by decide⟩
theorem is_172 : dk_is 190 100 172 := ⟨by decide, by decide, by decide⟩
theorem is_173 : dk_is 190 101 173 := ⟨by decide, by decide, by decide⟩
theorem is_174 : dk_is 190 102 174 := ⟨by decide, by decide, by decide⟩
theorem is_175 : dk_is 190 103 175 := ⟨by decide, by decide, by decide⟩
theorem is_176 : dk_is 190 104 176 := ⟨by decide, by decide, by decide⟩
theorem is_177 : dk_is 190 105 177 := ⟨by decide, by decide, by decide⟩
theorem is_178 : dk_is 190 106 178 := ⟨by decide, by decide, by decide⟩
theorem is_179 : dk_is 190 107 179 := ⟨by decide, by decide, by decide⟩
theorem is_180 : dk_is 190 108 180 := ⟨by decide, by decide, by decide⟩
theorem is_181 : dk_is 190 109 181 := ⟨by decide, by decide, by decide⟩
theorem is_182 : dk_is 190 110 182 := ⟨by decide, by decide, by decide⟩
theorem is_183 : dk_is 190 111 183 := ⟨by decide, by decide, by decide⟩
theorem is_184 : dk_is 190 112 184 := ⟨by decide, by decide, by decide⟩
theorem is_185 : dk_is 190 113 185 := ⟨by decide, by decide, by decide⟩
theorem is_186 : dk_is 190 114 186 := ⟨by decide, by decide, by decide⟩
theorem is_187 : dk_is 190 115 187 := ⟨by decide, by decide, by decide⟩
theorem is_188 : dk_is 190 116 188 := ⟨by decide, by decide, by decide⟩
theorem is_189 : dk_is 190 117 189 := ⟨by decide, by decide, by decide⟩
abbrev dk_sc (s : Int) : Prop := s = 95 ∨ s = 118
theorem sc_0 {s : Int} (h : dk_sc s) : dk_is 190 4 (s + 0) := h.elim (fun e => by subst e; exact is_95) (fun e => by subst e; exact is_118)
theorem sc_1 {s : Int} (h : dk_sc s) : dk_is 190 59 (s + 1) := h.elim (fun e => by subst e; exact is_96) (fun e => by subst e; exact is_119)
theorem sc_2 {s : Int} (h : dk_sc s) : dk_is 190 60 (s + 2) := h.elim (fun e => by subst e; exact is_97) (fun e => by subst e; exact is_120)
theorem sc_3 {s : Int} (h : dk_sc s) : dk_is 190 61 (s + 3) := h.elim (fun e => by subst e; exact is_98) (fun e => by subst e; exact is_121)
theorem sc_16 {s : Int} (h : dk_sc s) : dk_is 190 63 (s + 16) := h.elim (fun e => by subst e; exact is_111) (fun e => by subst e; exact is_134)
theorem sc_17 {s : Int} (h : dk_sc s) : dk_is 190 64 (s + 17) := h.elim (fun e => by subst e; exact is_112) (fun e => by subst e; exact is_135)
theorem sc_18 {s : Int} (h : dk_sc s) : dk_is 190 65 (s + 18) := h.elim (fun e => by subst e; exact is_113) (fun e => by subst e; exact is_136)
theorem sc_19 {s : Int} (h : dk_sc s) : dk_is 190 66 (s + 19) := h.elim (fun e => by subst e; exact is_114) (fun e => by subst e; exact is_137)
theorem sc_20 {s : Int} (h : dk_sc s) : dk_is 190 67 (s + 20) := h.elim (fun e => by subst e; exact is_115) (fun e => by subst e; exact is_138)
theorem sc_21 {s : Int} (h : dk_sc s) : dk_is 190 68 (s + 21) := h.elim (fun e => by subst e; exact is_116) (fun e => by subst e; exact is_139)
theorem sc_22 {s : Int} (h : dk_sc s) : dk_is 190 69 (s + 22) := h.elim (fun e => by subst e; exact is_117) (fun e => by subst e; exact is_140)
theorem sc_is {s : Int} (h : dk_sc s) : dk_is 190 4 s := h.elim (fun e => by subst e; exact is_95) (fun e => by subst e; exact is_118)
theorem rw_readings {p : Int} (h : 0 ≤ p ∧ p < 2) : dk_is 190 22 (4 + p) := by
  obtain ⟨q, rfl⟩ : ∃ q : Nat, p = q := ⟨p.toNat, by omega⟩
  have hq : q < 2 := by omega
  refine ⟨by omega, by omega, ?_⟩
  have : ∀ q : Nat, q < 2 → dk_site (4 + (q : Int)) = 22 := by decide
  exact this q hq
theorem rw_known {p : Int} (h : 0 ≤ p ∧ p < 10) : dk_is 190 38 (47 + p) := by
  obtain ⟨q, rfl⟩ : ∃ q : Nat, p = q := ⟨p.toNat, by omega⟩
  have hq : q < 10 := by omega
  refine ⟨by omega, by omega, ?_⟩
  have : ∀ q : Nat, q < 10 → dk_site (47 + (q : Int)) = 38 := by decide
  exact this q hq
theorem rw_last {p : Int} (h : 0 ≤ p ∧ p < 10) : dk_is 190 40 (58 + p) := by
  obtain ⟨q, rfl⟩ : ∃ q : Nat, p = q := ⟨p.toNat, by omega⟩
  have hq : q < 10 := by omega
  refine ⟨by omega, by omega, ?_⟩
  have : ∀ q : Nat, q < 10 → dk_site (58 + (q : Int)) = 40 := by decide
  exact this q hq
theorem rw_weights {p : Int} (h : 0 ≤ p ∧ p < 8) : dk_is 190 49 (77 + p) := by
  obtain ⟨q, rfl⟩ : ∃ q : Nat, p = q := ⟨p.toNat, by omega⟩
  have hq : q < 8 := by omega
  refine ⟨by omega, by omega, ?_⟩
  have : ∀ q : Nat, q < 8 → dk_site (77 + (q : Int)) = 49 := by decide
  exact this q hq
theorem rw_marksA {p : Int} (h : 0 ≤ p ∧ p < 12) : dk_is 190 62 (99 + p) := by
  obtain ⟨q, rfl⟩ : ∃ q : Nat, p = q := ⟨p.toNat, by omega⟩
  have hq : q < 12 := by omega
  refine ⟨by omega, by omega, ?_⟩
  have : ∀ q : Nat, q < 12 → dk_site (99 + (q : Int)) = 62 := by decide
  exact this q hq
theorem rw_marksB {p : Int} (h : 0 ≤ p ∧ p < 12) : dk_is 190 62 (122 + p) := by
  obtain ⟨q, rfl⟩ : ∃ q : Nat, p = q := ⟨p.toNat, by omega⟩
  have hq : q < 12 := by omega
  refine ⟨by omega, by omega, ?_⟩
  have : ∀ q : Nat, q < 12 → dk_site (122 + (q : Int)) = 62 := by decide
  exact this q hq
theorem rw_marks {s p : Int} (hs : dk_sc s) (h : 0 ≤ p ∧ p < 12) : dk_is 190 62 (s + 4 + p) := hs.elim (fun e => by subst e; exact rw_marksA h) (fun e => by subst e; exact rw_marksB h)
abbrev dk_ru (r : Int) : Prop := 13 ≤ r ∧ r ≤ 33 ∧ (r - 13) % 4 = 0
theorem ru_0 {r : Int} (h : dk_ru r) : dk_is 190 3 (r + 0) := by
  rcases (show r = 13 ∨ r = 17 ∨ r = 21 ∨ r = 25 ∨ r = 29 ∨ r = 33 by omega) with rfl | rfl | rfl | rfl | rfl | rfl
  · exact is_13
  · exact is_17
  · exact is_21
  · exact is_25
  · exact is_29
  · exact is_33
theorem ru_1 {r : Int} (h : dk_ru r) : dk_is 190 27 (r + 1) := by
  rcases (show r = 13 ∨ r = 17 ∨ r = 21 ∨ r = 25 ∨ r = 29 ∨ r = 33 by omega) with rfl | rfl | rfl | rfl | rfl | rfl
  · exact is_14
  · exact is_18
  · exact is_22
  · exact is_26
  · exact is_30
  · exact is_34
theorem ru_2 {r : Int} (h : dk_ru r) : dk_is 190 28 (r + 2) := by
  rcases (show r = 13 ∨ r = 17 ∨ r = 21 ∨ r = 25 ∨ r = 29 ∨ r = 33 by omega) with rfl | rfl | rfl | rfl | rfl | rfl
  · exact is_15
  · exact is_19
  · exact is_23
  · exact is_27
  · exact is_31
  · exact is_35
theorem ru_3 {r : Int} (h : dk_ru r) : dk_is 190 29 (r + 3) := by
  rcases (show r = 13 ∨ r = 17 ∨ r = 21 ∨ r = 25 ∨ r = 29 ∨ r = 33 by omega) with rfl | rfl | rfl | rfl | rfl | rfl
  · exact is_16
  · exact is_20
  · exact is_24
  · exact is_28
  · exact is_32
  · exact is_36
theorem ru_is {r : Int} (h : dk_ru r) : dk_is 190 3 r := by have := ru_0 h; rwa [Int.add_zero] at this
