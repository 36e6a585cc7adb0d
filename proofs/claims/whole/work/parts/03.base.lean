/-! MY OWN LAYER: one fixed world of 58 cells, memory as a function, machine numbers as Int32.ofInt, Int64.ofInt of an Int -/
abbrev Mem : Type := Nat → Nat → Int
abbrev MV : Type := Int ⊕ Int ⊕ Nat
abbrev vi (x : Int) : MV := .inl x
abbrev vl (x : Int) : MV := .inr (.inl x)
abbrev vr (c : Nat) : MV := .inr (.inr c)
def up (σ : Mem) (c k : Nat) (z : Int) : Mem := fun c' k' => if c' = c then (if k' = k then z else σ c' k') else σ c' k'
theorem up_eq (σ : Mem) (c k : Nat) (z : Int) : up σ c k z c k = z := by simp [up]
theorem up_ne (σ : Mem) (c k : Nat) (z : Int) {c' k' : Nat} (h : c' ≠ c) : up σ c k z c' k' = σ c' k' := by simp [up, h]
theorem up_cell (σ : Mem) (c k : Nat) (z : Int) {c' : Nat} (h : c' ≠ c) : up σ c k z c' = σ c' := by funext k'; simp [up, h]
theorem up_nk (σ : Mem) (c k : Nat) (z : Int) {k' : Nat} (h : k' ≠ k) : up σ c k z c k' = σ c k' := by simp [up, h]
theorem up_at (σ : Mem) (c k : Nat) (z : Int) (k' : Nat) : up σ c k z c k' = if k' = k then z else σ c k' := by simp [up]
abbrev LK : Type := (Nat × List (Option Nat)) ⊕ (Nat × Nat)
/-- the cells: of an object its class (a place in 'classes') and its fields (none: an int; some c: the cell c); of an array its kind (0 int, 1 long, 2 boolean) and its length -/
def lay : List LK := [
  .inl (4, [some 1, some 2, some 3, some 4, some 5, none]),
  .inl (1, [none, none, some 6, some 7, none, some 8, some 9, some 10, some 11, some 12, none, none, none, none, some 13, some 14, some 15]),
  .inl (3, [some 1, some 16, some 17]),
  .inl (0, [some 1, some 2, some 5, none, none, some 18, some 19, some 20, none, some 21, some 22, some 23, none]),
  .inl (2, [none, none, some 24, none, some 25, some 26, some 27]),
  .inr (0, 6),
  .inr (0, 6), .inr (0, 6), .inr (0, 24), .inr (0, 24), .inr (0, 24), .inr (0, 25), .inr (0, 25), .inr (0, 24), .inr (0, 24), .inr (0, 24),
  .inr (1, 25), .inr (1, 25),
  .inr (0, 5), .inr (0, 5), .inr (0, 5), .inr (0, 6), .inr (0, 25), .inr (0, 25),
  .inr (0, 256), .inr (0, 24), .inr (0, 24), .inr (0, 24),
  .inl (5, [none, none, some 29, some 30, none, some 31, some 32, some 33, some 34, some 35, some 36, none, some 37, some 38, some 39, some 40, some 41, some 42, some 43, some 44, some 45, some 46, some 47, some 48, some 49, none, some 50, some 51, some 52, none, none, some 53, some 54, some 55, some 56, some 57]),
  .inr (0, 6), .inr (0, 6), .inr (0, 24), .inr (0, 24), .inr (0, 24), .inr (0, 24), .inr (2, 24), .inr (2, 24), .inr (2, 24), .inr (0, 24), .inr (0, 24), .inr (2, 24), .inr (0, 24), .inr (2, 24),
  .inr (1, 25), .inr (1, 25), .inr (1, 25), .inr (1, 25), .inr (1, 25), .inr (1, 25),
  .inr (2, 144), .inr (0, 5), .inr (0, 5), .inr (0, 5),
  .inr (0, 256), .inr (2, 24), .inr (0, 24), .inr (0, 24), .inr (0, 24)]
theorem lay_len : lay.length = 58 := by decide
abbrev classes : List vw_C := [(RX0, TX0, 13), (RX1, TX1, 17), (RX2, TX2, 7), (RX4, TX4, 3), (RX5, TX5, 6), (RX6, TX6, 36)]
def cvv (ad : Nat → Nat) : MV → Value
  | .inl x => .int (Int32.ofInt x)
  | .inr (.inl x) => .long (Int64.ofInt x)
  | .inr (.inr c) => .ref (ad c)
def mkF (ad : Nat → Nat) (f : Nat → Int) (k : Nat) : Option Nat → Value
  | none => .int (Int32.ofInt (f k))
  | some c => .ref (ad c)
def mkE (ad : Nat → Nat) (cA : Nat → ClassId) (f : Nat → Int) : LK → va_E
  | .inl (ci, fs) => .inr (ci, fs.mapIdx (fun k o => mkF ad f k o))
  | .inr (0, n) => .inl (cA 0, n, .inl (fun j => Int32.ofInt (f j)))
  | .inr (1, n) => .inl (cA 1, n, .inr (.inl (fun j => Int64.ofInt (f j))))
  | .inr (_, n) => .inl (cA 2, n, .inl (fun j => Int32.ofInt (f j)))
def mkW (ad : Nat → Nat) (cA : Nat → ClassId) (σ : Mem) : va_W := lay.mapIdx (fun c e => (ad c, mkE ad cA (σ c) e))
def tyA (cA : Nat → ClassId) : List (ClassId × FieldType) := [(cA 0, .int), (cA 1, .long), (cA 2, .boolean)]
theorem mkW_at {ad : Nat → Nat} {cA : Nat → ClassId} {σ : Mem} {c : Nat} {e : LK} (h : lay[c]? = some e) : (mkW ad cA σ)[c]? = some (ad c, mkE ad cA (σ c) e) := by
  simp [mkW, h]
theorem mkW_get {ad : Nat → Nat} {cA : Nat → ClassId} {σ : Mem} {c : Nat} {q : Nat × va_E} (h : (mkW ad cA σ)[c]? = some q) : ∃ e, lay[c]? = some e ∧ q = (ad c, mkE ad cA (σ c) e) := by
  simp only [mkW, List.getElem?_mapIdx, Option.map_eq_some_iff] at h
  obtain ⟨e, h1, h2⟩ := h
  exact ⟨e, h1, h2.symm⟩
theorem mkW_len {ad : Nat → Nat} {cA : Nat → ClassId} {σ : Mem} : (mkW ad cA σ).length = 58 := by simp [mkW, lay_len]
/-- one slot of one cell written -/
theorem mkW_set {ad : Nat → Nat} {cA : Nat → ClassId} {σ : Mem} {c k : Nat} {z : Int} {e : LK} (h : lay[c]? = some e) : (mkW ad cA σ).set c (ad c, mkE ad cA (up σ c k z c) e) = mkW ad cA (up σ c k z) := by
  apply List.ext_getElem?
  intro i
  have hlen : c < (mkW ad cA σ).length := by rw [mkW_len, ← lay_len]; exact (List.getElem?_eq_some_iff.mp h).1
  by_cases hi : i = c
  · subst hi
    rw [List.getElem?_set_self hlen, mkW_at h]
  · rw [List.getElem?_set_ne (Ne.symm hi)]
    simp only [mkW, List.getElem?_mapIdx, up_cell σ c k z hi]
/-- a whole cell anew -/
def upC (σ : Mem) (c : Nat) (f : Nat → Int) : Mem := fun c' => if c' = c then f else σ c'
theorem upC_eq (σ : Mem) (c : Nat) (f : Nat → Int) : upC σ c f c = f := by simp [upC]
theorem upC_ne (σ : Mem) (c : Nat) (f : Nat → Int) {c' : Nat} (h : c' ≠ c) : upC σ c f c' = σ c' := by simp [upC, h]
theorem mkW_setC {ad : Nat → Nat} {cA : Nat → ClassId} {σ : Mem} {c : Nat} {f : Nat → Int} {e : LK} (h : lay[c]? = some e) : (mkW ad cA σ).set c (ad c, mkE ad cA f e) = mkW ad cA (upC σ c f) := by
  apply List.ext_getElem?
  intro i
  have hlen : c < (mkW ad cA σ).length := by rw [mkW_len, ← lay_len]; exact (List.getElem?_eq_some_iff.mp h).1
  by_cases hi : i = c
  · subst hi
    rw [List.getElem?_set_self hlen, mkW_at h, upC_eq]
  · rw [List.getElem?_set_ne (Ne.symm hi)]
    simp only [mkW, List.getElem?_mapIdx, upC_ne σ c f hi]
theorem mkF_set {ad : Nat → Nat} {f : Nat → Int} {fs : List (Option Nat)} {k : Nat} {z : Int} (h : fs[k]? = some none) : (fs.mapIdx (fun k o => mkF ad f k o)).set k (.int (Int32.ofInt z)) = fs.mapIdx (fun j o => mkF ad (fun i => if i = k then z else f i) j o) := by
  apply List.ext_getElem?
  intro i
  have hlen : k < (fs.mapIdx (fun k o => mkF ad f k o)).length := by simpa using (List.getElem?_eq_some_iff.mp h).1
  by_cases hi : i = k
  · subst hi
    rw [List.getElem?_set_self hlen]
    simp [h, mkF]
  · rw [List.getElem?_set_ne (Ne.symm hi)]
    simp only [List.getElem?_mapIdx]
    congr 1
    funext o
    cases o <;> simp [mkF, hi]
/-- which cells may change -/
def A0 (ad : Nat → Nat) (sz : Nat) (q : Nat) : Prop := (∃ c, c < 58 ∧ q = ad c) ∨ sz ≤ q
theorem mkW_D {ad : Nat → Nat} {cA : Nat → ClassId} {σ τ : Mem} {A : Nat → Prop} (h : va_D A (mkW ad cA σ)) : va_D A (mkW ad cA τ) := by
  have key : ∀ (i : Nat) (q : Nat × va_E), (mkW ad cA τ)[i]? = some q → ∃ q', (mkW ad cA σ)[i]? = some q' ∧ q'.1 = q.1 := by
    intro i q hq
    obtain ⟨e, h1, rfl⟩ := mkW_get hq
    exact ⟨_, mkW_at h1, rfl⟩
  refine ⟨fun i j p q hp hq hpq => ?_, fun k q hq => ?_⟩
  · obtain ⟨p', h1, h2⟩ := key i p hp
    obtain ⟨q', h3, h4⟩ := key j q hq
    exact h.1 i j p' q' h1 h3 (by rw [h2, h4, hpq])
  · obtain ⟨q', h1, h2⟩ := key k q hq
    rw [← h2]; exact h.2 k q' h1
theorem mkW_A {ad : Nat → Nat} {cA : Nat → ClassId} {σ : Mem} {A : Nat → Prop} {sz : Nat} (h : va_D A (mkW ad cA σ)) : va_D (A0 ad sz) (mkW ad cA σ) := by
  refine ⟨h.1, fun k q hq => ?_⟩
  obtain ⟨e, h1, rfl⟩ := mkW_get hq
  exact Or.inl ⟨k, by rw [← lay_len]; exact (List.getElem?_eq_some_iff.mp h1).1, rfl⟩
theorem A0_grow {ad : Nat → Nat} {a b q : Nat} (h : a ≤ b) (hq : A0 ad b q) : A0 ad a q := by
  rcases hq with h1 | h1
  · exact Or.inl h1
  · exact Or.inr (Nat.le_trans h h1)
/-! numbers -/
abbrev R32 (x : Int) : Prop := -2147483648 ≤ x ∧ x < 2147483648
abbrev R64 (x : Int) : Prop := -9223372036854775808 ≤ x ∧ x < 9223372036854775808
theorem i32 {x : Int} (h : R32 x) : (Int32.ofInt x).toInt = x := Int32.toInt_ofInt_of_le (by have := h.1; omega) (by have := h.2; omega)
theorem i64 {x : Int} (h : R64 x) : (Int64.ofInt x).toInt = x := Int64.toInt_ofInt_of_le (by have := h.1; omega) (by have := h.2; omega)
theorem i32_lt {x y : Int} (hx : R32 x) (hy : R32 y) : Int32.ofInt x < Int32.ofInt y ↔ x < y := by rw [Int32.lt_iff_toInt_lt, i32 hx, i32 hy]
theorem i32_le {x y : Int} (hx : R32 x) (hy : R32 y) : Int32.ofInt x ≤ Int32.ofInt y ↔ x ≤ y := by rw [Int32.le_iff_toInt_le, i32 hx, i32 hy]
theorem i32_eq {x y : Int} (hx : R32 x) (hy : R32 y) : Int32.ofInt x = Int32.ofInt y ↔ x = y := by rw [← Int32.toInt_inj, i32 hx, i32 hy]
theorem i64_lt {x y : Int} (hx : R64 x) (hy : R64 y) : Int64.ofInt x < Int64.ofInt y ↔ x < y := by rw [Int64.lt_iff_toInt_lt, i64 hx, i64 hy]
theorem i64_le {x y : Int} (hx : R64 x) (hy : R64 y) : Int64.ofInt x ≤ Int64.ofInt y ↔ x ≤ y := by rw [Int64.le_iff_toInt_le, i64 hx, i64 hy]
theorem i64_eq {x y : Int} (hx : R64 x) (hy : R64 y) : Int64.ofInt x = Int64.ofInt y ↔ x = y := by rw [← Int64.toInt_inj, i64 hx, i64 hy]
theorem i32_rng (x : Int32) : R32 x.toInt := ⟨by have := x.le_toInt; omega, by have := x.toInt_lt; omega⟩
theorem i64_rng (x : Int64) : R64 x.toInt := ⟨by have := x.le_toInt; omega, by have := x.toInt_lt; omega⟩
theorem i32_0 : (0 : Int32) = Int32.ofInt 0 := rfl
theorem i32_in {x : Int} {n : Nat} (h0 : 0 ≤ x) (h1 : x < n) (hn : n < 2147483648) : vp_in (Int32.ofInt x) n := by
  rw [vp_in_iff, i32 ⟨by omega, by omega⟩]
  exact ⟨h0, h1⟩
theorem i32_nat {x : Int} (h : R32 x) : (Int32.ofInt x).toNatClampNeg = x.toNat := by
  rw [← Int32.toNat_toInt, i32 h]
theorem i32_div {x y : Int} (hx : 0 ≤ x ∧ x < 2147483648) (hy : 0 < y ∧ y < 2147483648) : Int32.ofInt x / Int32.ofInt y = Int32.ofInt (x / y) := by
  have hyn : Int32.ofInt y ≠ -1 := fun h => by
    have := congrArg Int32.toInt h
    rw [i32 ⟨by omega, by omega⟩] at this
    have h2 : (-1 : Int32).toInt = -1 := by decide
    omega
  have h1 : x / y ≤ x := Int.ediv_le_self y hx.1
  have h2 : 0 ≤ x / y := Int.ediv_nonneg hx.1 (by omega)
  apply Int32.toInt_inj.mp
  rw [Int32.toInt_div_of_ne_right _ _ hyn, i32 ⟨by omega, by omega⟩, i32 ⟨by omega, by omega⟩, i32 ⟨by omega, by omega⟩, Int.tdiv_eq_ediv_of_nonneg hx.1]
theorem i64_div {x y : Int} (hx : 0 ≤ x ∧ x < 9223372036854775808) (hy : 0 < y ∧ y < 9223372036854775808) : Int64.ofInt x / Int64.ofInt y = Int64.ofInt (x / y) := by
  have hyn : Int64.ofInt y ≠ -1 := fun h => by
    have := congrArg Int64.toInt h
    rw [i64 ⟨by omega, by omega⟩] at this
    have h2 : (-1 : Int64).toInt = -1 := by decide
    omega
  have h1 : x / y ≤ x := Int.ediv_le_self y hx.1
  have h2 : 0 ≤ x / y := Int.ediv_nonneg hx.1 (by omega)
  apply Int64.toInt_inj.mp
  rw [Int64.toInt_div_of_ne_right _ _ hyn, i64 ⟨by omega, by omega⟩, i64 ⟨by omega, by omega⟩, i64 ⟨by omega, by omega⟩, Int.tdiv_eq_ediv_of_nonneg hx.1]
theorem i32_ne0 {y : Int} (hy : R32 y) (h : y ≠ 0) : ¬ Int32.ofInt y = 0 := by
  rw [i32_0, i32_eq hy (by decide)]; exact h
theorem i64_0 : (0 : Int64) = Int64.ofInt 0 := rfl
theorem i64_ne0 {y : Int} (hy : R64 y) (h : y ≠ 0) : ¬ Int64.ofInt y = 0 := by
  rw [i64_0, i64_eq hy (by decide)]; exact h
theorem i32_long {x : Int} (h : R32 x) : (Int32.ofInt x).toInt64 = Int64.ofInt x := by
  apply Int64.toInt_inj.mp
  rw [Int32.toInt_toInt64, i32 h, i64 ⟨by omega, by omega⟩]
theorem i64_int {x : Int} (h : R64 x) : (Int64.ofInt x).toInt32 = Int32.ofInt x := by
  rw [← Int32.ofInt_int64ToInt, i64 h]
