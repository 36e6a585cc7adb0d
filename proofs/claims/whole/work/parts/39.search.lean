/-! the first of the least price among the met ones; digits -/
noncomputable def fO (cost : Nat → Int) (met : Nat → Prop) : Nat → Option Nat
  | 0 => none
  | n + 1 => @ite _ (met n ∧ (∀ b, fO cost met n = some b → cost n < cost b)) (Classical.propDecidable _) (some n) (fO cost met n)
theorem fO_take {cost : Nat → Int} {met : Nat → Prop} {n : Nat} (h1 : met n) (h2 : ∀ b, fO cost met n = some b → cost n < cost b) : fO cost met (n + 1) = some n := by
  rw [fO, if_pos ⟨h1, h2⟩]
theorem fO_keep {cost : Nat → Int} {met : Nat → Prop} {n : Nat} (h : ¬ (met n ∧ ∀ b, fO cost met n = some b → cost n < cost b)) : fO cost met (n + 1) = fO cost met n := by
  rw [fO, if_neg h]
theorem fO_skip {cost : Nat → Int} {met : Nat → Prop} {a : Nat} : ∀ (k : Nat), (∀ n, a ≤ n → n < a + k → met n → ∃ b, fO cost met a = some b ∧ cost b ≤ cost n) → fO cost met (a + k) = fO cost met a
  | 0, _ => rfl
  | k + 1, h => by
    have ih := fO_skip k (fun n h1 h2 => h n h1 (by omega))
    rw [show a + (k + 1) = a + k + 1 by omega, fO_keep, ih]
    intro ⟨q1, q2⟩
    obtain ⟨b, e1, e2⟩ := h (a + k) (by omega) (by omega) q1
    rw [ih] at q2
    have := q2 b e1
    omega
theorem fO_lt {cost : Nat → Int} {met : Nat → Prop} : ∀ {n b : Nat}, fO cost met n = some b → b < n ∧ met b
  | 0, b, h => by cases h
  | n + 1, b, h => by
    rw [fO] at h
    split at h
    · next q => cases h; exact ⟨by omega, q.1⟩
    · have := fO_lt h; exact ⟨by omega, this.2⟩
theorem fO_cong {cost cost' : Nat → Int} {met met' : Nat → Prop} {C : Int} : ∀ {n : Nat}, (∀ i, i < n → cost i = cost' i + C) → (∀ i, i < n → (met i ↔ met' i)) → fO cost met n = fO cost' met' n
  | 0, _, _ => rfl
  | n + 1, h1, h2 => by
    have ih := fO_cong (n := n) (fun i hi => h1 i (by omega)) (fun i hi => h2 i (by omega))
    have key : (met n ∧ ∀ b, fO cost met n = some b → cost n < cost b) ↔ (met' n ∧ ∀ b, fO cost' met' n = some b → cost' n < cost' b) := by
      rw [ih, h2 n (by omega)]
      refine ⟨fun q => ⟨q.1, fun b hb => ?_⟩, fun q => ⟨q.1, fun b hb => ?_⟩⟩
      · have := q.2 b hb
        rw [h1 n (by omega), h1 b (by have := (fO_lt hb).1; omega)] at this
        omega
      · have := q.2 b hb
        rw [h1 n (by omega), h1 b (by have := (fO_lt hb).1; omega)]
        omega
    by_cases q : met n ∧ ∀ b, fO cost met n = some b → cost n < cost b
    · rw [fO, fO, if_pos q, if_pos (key.mp q)]
    · rw [fO, fO, if_neg q, if_neg (fun z => q (key.mpr z)), ih]
/-- the k-th of d digits of a -/
def dg (Z d a k : Nat) : Nat := a / Z ^ (d - 1 - k) % Z
theorem dg_lt {Z d a k : Nat} (h : 0 < Z) : dg Z d a k < Z := Nat.mod_lt _ h
theorem dg_pre {Z d m a i k : Nat} (hZ : 0 < Z) (hk : k < d) (h1 : a * Z ^ m ≤ i) (h2 : i < (a + 1) * Z ^ m) : dg Z (d + m) i k = dg Z d a k := by
  unfold dg
  rw [show d + m - 1 - k = m + (d - 1 - k) by omega, Nat.pow_add, ← Nat.div_div_eq_div_mul]
  have e : i / Z ^ m = a := Nat.div_eq_of_lt_le h1 h2
  rw [e]
theorem dg_old {Z d a s k : Nat} (hs : s < Z) (hk : k < d) : dg Z (d + 1) (a * Z + s) k = dg Z d a k :=
  dg_pre (m := 1) (by omega) hk (by rw [Nat.pow_one]; omega) (by rw [Nat.pow_one, Nat.add_mul]; omega)
theorem dg_new {Z d a s : Nat} (hs : s < Z) : dg Z (d + 1) (a * Z + s) d = s := by
  unfold dg
  rw [show d + 1 - 1 - d = 0 by omega, Nat.pow_zero, Nat.div_one, Nat.mul_comm, Nat.mul_add_mod, Nat.mod_eq_of_lt hs]
/-- one step of the odometer: the digits behind k are all the last, the k-th is not -/
theorem dg_inc {Z t i k j : Nat} (hZ : 0 < Z) (h1 : i % Z ^ t = Z ^ t - 1) (h2 : i / Z ^ t % Z ≠ Z - 1) (hj : j < k + 1 + t) : dg Z (k + 1 + t) (i + 1) j = if j < k then dg Z (k + 1 + t) i j else if j = k then dg Z (k + 1 + t) i k + 1 else 0 := by
  have hp : 0 < Z ^ t := Nat.pow_pos hZ
  have e1 : i + 1 = (i / Z ^ t + 1) * Z ^ t := by
    have := Nat.div_add_mod i (Z ^ t)
    rw [Nat.add_mul, Nat.mul_comm (i / Z ^ t)]
    omega
  generalize hq : i / Z ^ t = q at *
  have hz := Nat.mod_lt q hZ
  have e2 : (q + 1) / Z = q / Z := by
    have h3 := Nat.div_add_mod q Z
    refine Nat.div_eq_of_lt_le ?_ ?_
    · rw [Nat.mul_comm]; omega
    · rw [Nat.add_mul, Nat.mul_comm (q / Z)]; omega
  have e3 : (q + 1) % Z = q % Z + 1 := by
    have h3 := Nat.div_add_mod q Z
    have h4 := Nat.div_add_mod (q + 1) Z
    rw [e2] at h4
    omega
  unfold dg
  by_cases c1 : j < k
  · rw [if_pos c1, show k + 1 + t - 1 - j = t + (1 + (k - j - 1)) by omega, Nat.pow_add, ← Nat.div_div_eq_div_mul, ← Nat.div_div_eq_div_mul, e1, Nat.mul_div_cancel _ hp, hq, Nat.pow_add, Nat.pow_one, ← Nat.div_div_eq_div_mul, ← Nat.div_div_eq_div_mul, e2]
  · rw [if_neg c1]
    by_cases c2 : j = k
    · rw [if_pos c2, show k + 1 + t - 1 - j = t by omega, show k + 1 + t - 1 - k = t by omega, e1, Nat.mul_div_cancel _ hp, hq, e3]
    · rw [if_neg c2]
      generalize hu : k + 1 + t - 1 - j = u
      have hut : u < t := by omega
      rw [e1, show t = (t - u - 1) + 1 + u by omega, Nat.pow_add, ← Nat.mul_assoc, Nat.mul_div_cancel _ (Nat.pow_pos hZ), Nat.pow_add, Nat.pow_one, ← Nat.mul_assoc, Nat.mul_mod_left]
/-- the last index has the last digits only -/
theorem dg_tail {Z t i : Nat} (h1 : i % Z ^ t = Z ^ t - 1) (h2 : i / Z ^ t % Z = Z - 1) (hZ : 0 < Z) : i % Z ^ (t + 1) = Z ^ (t + 1) - 1 := by
  have hp : 0 < Z ^ t := Nat.pow_pos hZ
  rw [Nat.pow_succ, Nat.mod_mul, h1, h2]
  have : Z ^ t * (Z - 1) = Z ^ t * Z - Z ^ t := by rw [Nat.mul_sub, Nat.mul_one]
  have h3 : Z ^ t * 1 ≤ Z ^ t * Z := Nat.mul_le_mul_left _ hZ
  omega
theorem dg_0 {Z d k : Nat} : dg Z d 0 k = 0 := by unfold dg; simp
/-! ranks: which of the free pipes -/
def rkN (fr : Nat → Int) : Nat → Nat
  | 0 => 0
  | p + 1 => rkN fr p + if fr p = 1 then 1 else 0
theorem rkN_mono {fr : Nat → Int} {p : Nat} : ∀ m, rkN fr p ≤ rkN fr (p + m)
  | 0 => Nat.le_refl _
  | m + 1 => by rw [show p + (m + 1) = p + m + 1 by omega, rkN]; have := rkN_mono (fr := fr) (p := p) m; omega
theorem rkN_lt {fr : Nat → Int} {p n : Nat} (h : fr p = 1) (hp : p < n) : rkN fr p < rkN fr n := by
  have h1 : rkN fr (p + 1) = rkN fr p + 1 := by rw [rkN, if_pos h]
  have h2 := rkN_mono (fr := fr) (p := p + 1) (n - (p + 1))
  rw [show p + 1 + (n - (p + 1)) = n by omega] at h2
  omega
theorem rkN_inj {fr : Nat → Int} {p q : Nat} (hp : fr p = 1) (hq : fr q = 1) (h : rkN fr p = rkN fr q) : p = q := by
  rcases Nat.lt_trichotomy p q with a | a | a
  · have := rkN_lt hp a; omega
  · exact a
  · have := rkN_lt hq a; omega
theorem rkN_sm {fr : Nat → Int} (h : ∀ p, fr p = 0 ∨ fr p = 1) : ∀ n, (rkN fr n : Int) = sm fr n
  | 0 => rfl
  | n + 1 => by
    rw [rkN, sm, ← rkN_sm h n]
    rcases h n with q | q
    · rw [q, if_neg (by decide)]; omega
    · rw [q, if_pos rfl]; omega
/-- the list of the free pipes below n -/
def FL (fr : Nat → Int) (n : Nat) (f : Nat → Int) : Prop := (∀ p, p < n → fr p = 1 → f (rkN fr p) = p) ∧ (∀ k, k < rkN fr n → 0 ≤ f k ∧ f k < n ∧ fr (f k).toNat = 1 ∧ rkN fr (f k).toNat = k)
theorem FL_0 {fr f : Nat → Int} : FL fr 0 f := ⟨fun p hp => by omega, fun k hk => by rw [rkN] at hk; omega⟩
theorem FL_no {fr f : Nat → Int} {n : Nat} (h : FL fr n f) (hn : ¬ fr n = 1) : FL fr (n + 1) f := by
  refine ⟨fun p hp hq => ?_, fun k hk => ?_⟩
  · by_cases e : p = n
    · subst e; exact absurd hq hn
    · exact h.1 p (by omega) hq
  · rw [rkN, if_neg hn] at hk
    have := h.2 k hk
    exact ⟨this.1, by omega, this.2.2⟩
theorem FL_yes {fr f : Nat → Int} {n : Nat} (h : FL fr n f) (hn : fr n = 1) : FL fr (n + 1) (st f (rkN fr n) n) := by
  refine ⟨fun p hp hq => ?_, fun k hk => ?_⟩
  · rw [st_at]
    by_cases e : p = n
    · subst e; rw [if_pos rfl]
    · have := rkN_lt (n := n) hq (by omega)
      rw [if_neg (by omega)]
      exact h.1 p (by omega) hq
  · rw [rkN, if_pos hn] at hk
    rw [st_at]
    by_cases e : k = rkN fr n
    · rw [if_pos e, Int.toNat_natCast]
      exact ⟨by omega, by omega, hn, e.symm⟩
    · rw [if_neg e]
      have := h.2 k (by omega)
      exact ⟨this.1, by omega, this.2.2⟩
/-- a sum over all pipes, cut into those that are not free and those that are -/
theorem sm_cut {fr f : Nat → Int} {N : Nat} (hf : ∀ p, p < N → fr p = 1 → f (rkN fr p) = p) (g : Nat → Int) (h : Nat → Nat → Int) : ∀ n, n ≤ N → sm (fun p => if fr p = 1 then h p (rkN fr p) else g p) n = sm (fun p => if fr p = 1 then 0 else g p) n + sm (fun k => h (f k).toNat k) (rkN fr n)
  | 0, _ => rfl
  | n + 1, hn => by
    rw [sm, sm, sm_cut hf g h n (by omega), rkN]
    by_cases q : fr n = 1
    · simp only [if_pos q]
      rw [sm, hf n (by omega) q, Int.toNat_natCast]
      omega
    · simp only [if_neg q, Nat.add_zero]
      omega
theorem sm_dif {f g : Nat → Int} {d : Nat} : ∀ m, (∀ k, d ≤ k → k < d + m → g k ≤ f k) → sm g (d + m) - sm g d ≤ sm f (d + m) - sm f d
  | 0, _ => Int.le_of_eq (by rw [Nat.add_zero]; omega)
  | m + 1, h => by
    have ih := sm_dif (f := f) (g := g) (d := d) m (fun k h1 h2 => h k h1 (by omega))
    have h1 := h (d + m) (by omega) (by omega)
    rw [show d + (m + 1) = d + m + 1 by omega, sm, sm]
    omega
