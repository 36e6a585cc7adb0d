/-! array rows with the place given as a Nat -/
theorem mn_iaload (i : Nat) {K : KT} {cc : ByteArray} {nL : Nat} {own : String} {lev pc : Nat} {ls : List (Option MV)} {st : List MV} {σ : Mem} {n c0 : Nat} {x : Int} (h : MC K cc nL own lev) (hd : decode cc pc = .ok (.iaload, 1)) (hlay : lay[c0]? = some (.inr (0, n))) (hx : x = (i : Int)) (hi : i < n) (hn : n < 2147483648) (k : M K (pc + 1) ls (vi (σ c0 i) :: st) σ) : M K pc ls (vi x :: vr c0 :: st) σ := by
  subst hx
  exact mi_iaload h hd hlay ⟨by omega, by omega⟩ hn k
theorem mn_laload (i : Nat) {K : KT} {cc : ByteArray} {nL : Nat} {own : String} {lev pc : Nat} {ls : List (Option MV)} {st : List MV} {σ : Mem} {n c0 : Nat} {x : Int} (h : MC K cc nL own lev) (hd : decode cc pc = .ok (.laload, 1)) (hlay : lay[c0]? = some (.inr (1, n))) (hx : x = (i : Int)) (hi : i < n) (hn : n < 2147483648) (k : M K (pc + 1) ls (vl (σ c0 i) :: st) σ) : M K pc ls (vi x :: vr c0 :: st) σ := by
  subst hx
  exact mi_laload h hd hlay ⟨by omega, by omega⟩ hn k
theorem mn_baload (i : Nat) {K : KT} {cc : ByteArray} {nL : Nat} {own : String} {lev pc : Nat} {ls : List (Option MV)} {st : List MV} {σ : Mem} {n c0 : Nat} {x : Int} (h : MC K cc nL own lev) (hd : decode cc pc = .ok (.baload, 1)) (hlay : lay[c0]? = some (.inr (2, n))) (hx : x = (i : Int)) (hi : i < n) (hn : n < 2147483648) (k : M K (pc + 1) ls (vi (σ c0 i) :: st) σ) : M K pc ls (vi x :: vr c0 :: st) σ := by
  subst hx
  exact mi_baload h hd hlay ⟨by omega, by omega⟩ hn k
theorem mn_iastore (i : Nat) {K : KT} {cc : ByteArray} {nL : Nat} {own : String} {lev pc : Nat} {ls : List (Option MV)} {st : List MV} {σ : Mem} {n c0 : Nat} {x z : Int} (h : MC K cc nL own lev) (hd : decode cc pc = .ok (.iastore, 1)) (hlay : lay[c0]? = some (.inr (0, n))) (hx : x = (i : Int)) (hi : i < n) (hn : n < 2147483648) (k : M K (pc + 1) ls st (up σ c0 i z)) : M K pc ls (vi z :: vi x :: vr c0 :: st) σ := by
  subst hx
  exact mi_iastore h hd hlay ⟨by omega, by omega⟩ hn k
theorem mn_lastore (i : Nat) {K : KT} {cc : ByteArray} {nL : Nat} {own : String} {lev pc : Nat} {ls : List (Option MV)} {st : List MV} {σ : Mem} {n c0 : Nat} {x z : Int} (h : MC K cc nL own lev) (hd : decode cc pc = .ok (.lastore, 1)) (hlay : lay[c0]? = some (.inr (1, n))) (hx : x = (i : Int)) (hi : i < n) (hn : n < 2147483648) (k : M K (pc + 1) ls st (up σ c0 i z)) : M K pc ls (vl z :: vi x :: vr c0 :: st) σ := by
  subst hx
  exact mi_lastore h hd hlay ⟨by omega, by omega⟩ hn k
theorem mn_bastore (i : Nat) {K : KT} {cc : ByteArray} {nL : Nat} {own : String} {lev pc : Nat} {ls : List (Option MV)} {st : List MV} {σ : Mem} {n c0 : Nat} {x z : Int} (h : MC K cc nL own lev) (hd : decode cc pc = .ok (.bastore, 1)) (hlay : lay[c0]? = some (.inr (2, n))) (hx : x = (i : Int)) (hi : i < n) (hn : n < 2147483648) (hz : z = 0 ∨ z = 1) (k : M K (pc + 1) ls st (up σ c0 i z)) : M K pc ls (vi z :: vi x :: vr c0 :: st) σ := by
  subst hx
  exact mi_bastore h hd hlay ⟨by omega, by omega⟩ hn hz k
/-! sets of numbers below 24 -/
def bv (b : Int) (i : Nat) : Int := ((b.toNat / 2 ^ i % 2 : Nat) : Int)
theorem bv_01 (b : Int) (i : Nat) : bv b i = 0 ∨ bv b i = 1 := by unfold bv; omega
theorem bv_tb (b : Int) (i : Nat) : bv b i = if tb b i = true then 1 else 0 := by
  rw [tb_iff]
  unfold bv
  by_cases h : b.toNat / 2 ^ i % 2 = 1
  · simp [h]
  · have : b.toNat / 2 ^ i % 2 = 0 := by omega
    simp [this]
theorem bv_wb {b v : Int} {i : Nat} (hb : 0 ≤ b ∧ b < 16777216) (hi : i < 24) (hv : v = 0 ∨ v = 1) (j : Nat) : bv (wb b i v) j = if j = i then v else bv b j := by
  rw [bv_tb, wb_tb hb hi]
  by_cases hj : j = i
  · rw [if_pos hj, if_pos hj]
    rcases hv with rfl | rfl <;> decide
  · rw [if_neg hj, if_neg hj, ← bv_tb]
theorem bv_big {b : Int} {i : Nat} (hb : 0 ≤ b ∧ b < 16777216) (hi : 24 ≤ i) : bv b i = 0 := by
  have h1 : b.toNat < 2 ^ i := Nat.lt_of_lt_of_le (show b.toNat < 2 ^ 24 by omega) (Nat.pow_le_pow_right (by decide) hi)
  unfold bv
  rw [Nat.div_eq_of_lt h1]
  rfl
theorem bv_0 (i : Nat) : bv 0 i = 0 := by unfold bv; simp
theorem c_bit {σ : Mem} {b : Int} {i : Nat} (hb : 0 ≤ b ∧ b < 16777216) (hi : i < 24) : Sp1 yX5_bit cX5_bit 2 (some .int) 1 0 [vi b, vi (i : Int)] σ (fun r σ' => σ = σ' ∧ r = bv b i) :=
  Sp1_imp (c_X5_bit hb hi) (fun r σ' hp => by
    obtain ⟨h1, h2, h3⟩ := hp
    refine ⟨h1, ?_⟩
    rw [bv_tb]
    by_cases h : tb b i = true
    · rw [if_pos h]; exact h3.mpr h
    · rw [if_neg h]
      rcases h2 with q | q
      · exact q
      · exact absurd (h3.mp q) h)
/-- sums -/
def sm (f : Nat → Int) : Nat → Int
  | 0 => 0
  | n + 1 => sm f n + f n
theorem sm_cong {f g : Nat → Int} : ∀ {n : Nat}, (∀ k, k < n → f k = g k) → sm f n = sm g n
  | 0, _ => rfl
  | n + 1, h => by rw [sm, sm, sm_cong (fun k hk => h k (by omega)), h n (by omega)]
theorem sm_0 {f : Nat → Int} : ∀ {n : Nat}, (∀ k, k < n → f k = 0) → sm f n = 0
  | 0, _ => rfl
  | n + 1, h => by rw [sm, sm_0 (fun k hk => h k (by omega)), h n (by omega)]; rfl
theorem sm_ext {f : Nat → Int} {n : Nat} : ∀ m, (∀ k, n ≤ k → k < n + m → f k = 0) → sm f (n + m) = sm f n
  | 0, _ => rfl
  | m + 1, h => by rw [show n + (m + 1) = n + m + 1 by omega, sm, sm_ext m (fun k a b => h k a (by omega)), h (n + m) (by omega) (by omega)]; omega
theorem sm_le {f g : Nat → Int} : ∀ {n : Nat}, (∀ k, k < n → f k ≤ g k) → sm f n ≤ sm g n
  | 0, _ => Int.le_refl _
  | n + 1, h => by
    have h1 := sm_le (f := f) (g := g) (n := n) (fun k hk => h k (by omega))
    have h2 := h n (by omega)
    rw [sm, sm]; omega
theorem sm_c (c : Int) : ∀ n : Nat, sm (fun _ => c) n = n * c
  | 0 => by simp [sm]
  | n + 1 => by rw [sm, sm_c c n, Int.natCast_add, Int.add_mul]; simp
theorem pop_sm (b : Int) : (pop b.toNat : Int) = sm (bv b) 24 := by
  simp only [sm, bv, pop]
  simp
/-! what holds of the class's memory -/
def IS (σ : Mem) : Prop := (1 ≤ σ 1 0 ∧ σ 1 0 ≤ 100000) ∧ (0 ≤ σ 1 1 ∧ σ 1 1 ≤ 6) ∧ (0 ≤ σ 1 4 ∧ σ 1 4 ≤ 24) ∧ (0 ≤ σ 1 10 ∧ σ 1 10 < 16777216) ∧ (0 ≤ σ 1 11 ∧ σ 1 11 < 16777216) ∧ (0 ≤ σ 1 12 ∧ σ 1 12 < 16777216) ∧ (0 ≤ σ 1 13 ∧ σ 1 13 < 16777216) ∧ (0 ≤ σ 0 5 ∧ σ 0 5 ≤ 6)
def IZ (σ : Mem) : Prop := ∀ i : Nat, i < 6 → (0 ≤ σ 6 i ∧ σ 6 i ≤ 400) ∧ (0 ≤ σ 7 i ∧ σ 7 i ≤ 1000) ∧ (0 ≤ σ 5 i ∧ σ 5 i < 16777216)
def IP (σ : Mem) : Prop := ∀ p : Nat, p < 24 → (-1 ≤ σ 8 p ∧ σ 8 p ≤ 23) ∧ (0 ≤ σ 9 p ∧ σ 9 p ≤ 10) ∧ (0 ≤ σ 10 p ∧ σ 10 p ≤ 5) ∧ (0 ≤ σ 13 p ∧ σ 13 p ≤ 200) ∧ (0 ≤ σ 14 p ∧ σ 14 p ≤ 30000) ∧ (0 ≤ σ 15 p ∧ σ 15 p ≤ 100)
def IE (σ : Mem) : Prop := ∀ e : Nat, e < 25 → (0 ≤ σ 11 e ∧ σ 11 e ≤ 8) ∧ (0 ≤ σ 12 e ∧ σ 12 e ≤ 4000)
/-- of the pipes that there are -/
def IQ (σ : Mem) : Prop := ∀ p : Nat, (p : Int) < σ 1 4 → σ 8 p < p ∧ σ 10 p < σ 1 1 ∧ σ 12 (p + 1) = σ 9 p * σ 6 (σ 10 p).toNat
/-- sets -/
def IB (σ : Mem) : Prop := (∀ p : Nat, bv (σ 1 12) p = 1 → (p : Int) < σ 1 4) ∧ (∀ p : Nat, bv (σ 1 13) p = 1 → bv (σ 1 12) p = 1) ∧ (∀ p : Nat, bv (σ 1 10) p = 1 → (p : Int) < σ 1 4) ∧ (∀ p : Nat, bv (σ 1 11) p = 1 → (p : Int) < σ 1 4) ∧ sm (bv (σ 1 11)) 24 ≤ 5 ∧ (∀ h p : Nat, h < 6 → bv (σ 5 h) p = 1 → bv (σ 1 12) p = 1) ∧ (∀ p : Nat, p < 24 → bv (σ 1 12) p = 0 → σ 13 p = 0 ∧ σ 14 p = 0 ∧ σ 15 p = 0)
/-- the floor -/
def IF (σ : Mem) : Prop := (2 ≤ σ 4 0 ∧ σ 4 0 ≤ 16) ∧ (2 ≤ σ 4 1 ∧ σ 4 1 ≤ 16) ∧ (0 ≤ σ 4 3 ∧ σ 4 3 < 16777216) ∧ (∀ k : Nat, k < 256 → 0 ≤ σ 24 k ∧ σ 24 k ≤ 2) ∧ (∀ p : Nat, p < 24 → (0 ≤ σ 25 p ∧ σ 25 p ≤ 15) ∧ (0 ≤ σ 26 p ∧ σ 26 p ≤ 15) ∧ (0 ≤ σ 27 p ∧ σ 27 p ≤ 12)) ∧ (∀ p : Nat, bv (σ 4 3) p = 1 → bv (σ 1 12) p = 1)
def IC (σ : Mem) : Prop := IS σ ∧ IZ σ ∧ IP σ ∧ IE σ ∧ IQ σ ∧ IB σ ∧ IF σ
