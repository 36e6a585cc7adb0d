/-! array rows with the place given as a Nat -/
theorem mn_iaload (i : Nat) {K : KT} {cc : ByteArray} {nL : Nat} {own : String} {lev pc : Nat} {ls : List (Option MV)} {st : List MV} {σ : Mem} {n c0 : Nat} {x : Int} (h : MC K cc nL own lev) (hd : decode cc pc = .ok (.iaload, 1)) (hlay : lay[c0]? = some (.inr (0, n))) (hx : x = (i : Int)) (hi : i < n) (hn : n < 2147483648) (k : M K (pc + 1) ls (vi (σ c0 i) :: st) σ) : M K pc ls (vi x :: vr c0 :: st) σ := by
  subst hx
  exact mi_iaload h hd hlay ⟨by omega, by omega⟩ hn k
theorem mn_laload (i : Nat) {K : KT} {cc : ByteArray} {nL : Nat} {own : String} {lev pc : Nat} {ls : List (Option MV)} {st : List MV} {σ : Mem} {n c0 : Nat} {x : Int} (h : MC K cc nL own lev) (hd : decode cc pc = .ok (.laload, 1)) (hlay : lay[c0]? = some (.inr (1, n))) (hx : x = (i : Int)) (hi : i < n) (hn : n < 2147483648) (k : M K (pc + 1) ls (vl (σ c0 i) :: st) σ) : M K pc ls (vi x :: vr c0 :: st) σ := by
  subst hx
  exact mi_laload h hd hlay ⟨by omega, by omega⟩ hn k
theorem mn_baload (i : Nat) {K : KT} {cc : ByteArray} {nL : Nat} {own : String} {lev pc : Nat} {ls : List (Option MV)} {st : List MV} {σ : Mem} {n c0 : Nat} {x : Int} (h : MC K cc nL own lev) (hd : decode cc pc = .ok (.baload, 1)) (hlay : lay[c0]? = some (.inr (2, n))) (hx : x = (i : Int)) (hi : i < n) (hn : n < 2147483648) (k : M K (pc + 1) ls (vi (σ c0 i) :: st) σ) : M K pc ls (vi x :: vr c0 :: st) σ := by
  subst hx
  exact mi_baload h hd hlay ⟨by omega, by omega⟩ hn k
theorem mn_iastore (i : Nat) {K : KT} {cc : ByteArray} {nL : Nat} {own : String} {lev pc : Nat} {ls : List (Option MV)} {st : List MV} {σ : Mem} {n c0 : Nat} {x z : Int} (h : MC K cc nL own lev) (hd : decode cc pc = .ok (.iastore, 1)) (hlay : lay[c0]? = some (.inr (0, n))) (hx : x = (i : Int)) (hi : i < n) (hn : n < 2147483648) (k : M K (pc + 1) ls st (up σ c0 i z)) : M K pc ls (vi z :: vi x :: vr c0 :: st) σ := by
  subst hx
  exact mi_iastore h hd hlay ⟨by omega, by omega⟩ hn k
theorem mn_lastore (i : Nat) {K : KT} {cc : ByteArray} {nL : Nat} {own : String} {lev pc : Nat} {ls : List (Option MV)} {st : List MV} {σ : Mem} {n c0 : Nat} {x z : Int} (h : MC K cc nL own lev) (hd : decode cc pc = .ok (.lastore, 1)) (hlay : lay[c0]? = some (.inr (1, n))) (hx : x = (i : Int)) (hi : i < n) (hn : n < 2147483648) (k : M K (pc + 1) ls st (up σ c0 i z)) : M K pc ls (vl z :: vi x :: vr c0 :: st) σ := by
  subst hx
  exact mi_lastore h hd hlay ⟨by omega, by omega⟩ hn k
theorem mn_bastore (i : Nat) {K : KT} {cc : ByteArray} {nL : Nat} {own : String} {lev pc : Nat} {ls : List (Option MV)} {st : List MV} {σ : Mem} {n c0 : Nat} {x z : Int} (h : MC K cc nL own lev) (hd : decode cc pc = .ok (.bastore, 1)) (hlay : lay[c0]? = some (.inr (2, n))) (hx : x = (i : Int)) (hi : i < n) (hn : n < 2147483648) (hz : z = 0 ∨ z = 1) (k : M K (pc + 1) ls st (up σ c0 i z)) : M K pc ls (vi z :: vi x :: vr c0 :: st) σ := by
  subst hx
  exact mi_bastore h hd hlay ⟨by omega, by omega⟩ hn hz k
/-! what holds of the class's memory -/
def IS (σ : Mem) : Prop := (1 ≤ σ 1 0 ∧ σ 1 0 ≤ 100000) ∧ (0 ≤ σ 1 1 ∧ σ 1 1 ≤ 6) ∧ (0 ≤ σ 1 4 ∧ σ 1 4 ≤ 24) ∧ (0 ≤ σ 1 10 ∧ σ 1 10 < 16777216) ∧ (0 ≤ σ 1 11 ∧ σ 1 11 < 16777216) ∧ (0 ≤ σ 1 12 ∧ σ 1 12 < 16777216) ∧ (0 ≤ σ 1 13 ∧ σ 1 13 < 16777216) ∧ (0 ≤ σ 0 5 ∧ σ 0 5 ≤ 6)
def IZ (σ : Mem) : Prop := ∀ i : Nat, i < 6 → (0 ≤ σ 6 i ∧ σ 6 i ≤ 400) ∧ (0 ≤ σ 7 i ∧ σ 7 i ≤ 1000) ∧ (0 ≤ σ 5 i ∧ σ 5 i < 16777216)
def IP (σ : Mem) : Prop := ∀ p : Nat, p < 24 → (-1 ≤ σ 8 p ∧ σ 8 p ≤ 23) ∧ (0 ≤ σ 9 p ∧ σ 9 p ≤ 10) ∧ (0 ≤ σ 10 p ∧ σ 10 p ≤ 5) ∧ (0 ≤ σ 13 p ∧ σ 13 p ≤ 200) ∧ (0 ≤ σ 14 p ∧ σ 14 p ≤ 30000) ∧ (0 ≤ σ 15 p ∧ σ 15 p ≤ 100)
def IE (σ : Mem) : Prop := ∀ e : Nat, e < 25 → (0 ≤ σ 11 e ∧ σ 11 e ≤ 8) ∧ (0 ≤ σ 12 e ∧ σ 12 e ≤ 4000)
/-- of the pipes that there are -/
def IQ (σ : Mem) : Prop := ∀ p : Nat, (p : Int) < σ 1 4 → σ 8 p < p ∧ σ 10 p < σ 1 1 ∧ σ 12 (p + 1) = σ 9 p * σ 6 (σ 10 p).toNat
/-- sets -/
def IB (σ : Mem) : Prop := (∀ p : Nat, tb (σ 1 12) p = true → (p : Int) < σ 1 4) ∧ (∀ p : Nat, tb (σ 1 13) p = true → tb (σ 1 12) p = true) ∧ (∀ p : Nat, tb (σ 1 10) p = true → (p : Int) < σ 1 4) ∧ (∀ p : Nat, tb (σ 1 11) p = true → (p : Int) < σ 1 4) ∧ pop (σ 1 11).toNat ≤ 5 ∧ (∀ h p : Nat, h < 6 → tb (σ 5 h) p = true → tb (σ 1 12) p = true) ∧ (∀ p : Nat, p < 24 → tb (σ 1 12) p = false → σ 13 p = 0 ∧ σ 14 p = 0 ∧ σ 15 p = 0)
/-- the floor -/
def IF (σ : Mem) : Prop := (2 ≤ σ 4 0 ∧ σ 4 0 ≤ 16) ∧ (2 ≤ σ 4 1 ∧ σ 4 1 ≤ 16) ∧ (0 ≤ σ 4 3 ∧ σ 4 3 < 16777216) ∧ (∀ k : Nat, k < 256 → 0 ≤ σ 24 k ∧ σ 24 k ≤ 2) ∧ (∀ p : Nat, p < 24 → (0 ≤ σ 25 p ∧ σ 25 p ≤ 15) ∧ (0 ≤ σ 26 p ∧ σ 26 p ≤ 15) ∧ (0 ≤ σ 27 p ∧ σ 27 p ≤ 12)) ∧ (∀ p : Nat, tb (σ 4 3) p = true → tb (σ 1 12) p = true)
def IC (σ : Mem) : Prop := IS σ ∧ IZ σ ∧ IP σ ∧ IE σ ∧ IQ σ ∧ IB σ ∧ IF σ
