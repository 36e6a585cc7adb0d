/-! numbers: roots and quotients -/
def qu (a b : Int) : Int := (a + b - 1) / b
def rtN : Nat → Nat
  | 0 => 0
  | n + 1 => if (rtN n + 1) * (rtN n + 1) ≤ n + 1 then rtN n + 1 else rtN n
theorem rtN_spec : ∀ n, rtN n * rtN n ≤ n ∧ n < (rtN n + 1) * (rtN n + 1)
  | 0 => by simp [rtN]
  | n + 1 => by
    obtain ⟨h1, h2⟩ := rtN_spec n
    simp only [rtN]
    split
    · next h =>
      have h3 : (rtN n + 1) * (rtN n + 1) < (rtN n + 1 + 1) * (rtN n + 1 + 1) := Nat.mul_lt_mul_of_lt_of_le (by omega) (by omega) (by omega)
      exact ⟨h, by omega⟩
    · next h => exact ⟨by omega, by omega⟩
def rt (n : Int) : Int := (rtN n.toNat : Int)
theorem rt_nn (n : Int) : 0 ≤ rt n := Int.natCast_nonneg _
theorem rt_le {n : Int} (h : 0 ≤ n) : rt n * rt n ≤ n := by
  have := (rtN_spec n.toNat).1
  have h2 : ((rtN n.toNat * rtN n.toNat : Nat) : Int) ≤ (n.toNat : Int) := by exact_mod_cast this
  rw [Int.natCast_mul] at h2
  unfold rt
  omega
theorem rt_lt {n : Int} (h : 0 ≤ n) : n < (rt n + 1) * (rt n + 1) := by
  have := (rtN_spec n.toNat).2
  have h2 : (n.toNat : Int) < (((rtN n.toNat + 1) * (rtN n.toNat + 1) : Nat) : Int) := by exact_mod_cast this
  rw [Int.natCast_mul, Int.natCast_add] at h2
  unfold rt
  have e : ((1 : Nat) : Int) = 1 := rfl
  rw [e] at h2
  omega
theorem sq_le {a b : Int} (h0 : 0 ≤ a) (h : a ≤ b) : a * a ≤ b * b := Int.mul_le_mul h h h0 (by omega)
theorem rt_uniq {n r : Int} (h0 : 0 ≤ r) (h1 : r * r ≤ n) (h2 : n < (r + 1) * (r + 1)) : rt n = r := by
  have hn : 0 ≤ n := Int.le_trans (Int.mul_nonneg h0 h0) h1
  have a := rt_le hn
  have b := rt_lt hn
  have c := rt_nn n
  rcases Int.lt_trichotomy (rt n) r with h | h | h
  · have := sq_le (a := rt n + 1) (b := r) (by omega) (by omega)
    omega
  · exact h
  · have := sq_le (a := r + 1) (b := rt n) (by omega) (by omega)
    omega
def rtu (n : Int) : Int := if rt n * rt n < n then rt n + 1 else rt n
theorem rt_small {n : Int} (h : n < 4611686018427387904) (h0 : 0 ≤ n) : rt n < 2147483648 := by
  have a := rt_le h0
  rcases Int.lt_or_le (rt n) 2147483648 with h | h
  · exact h
  · have := sq_le (a := 2147483648) (by omega) h
    omega
theorem rt_pos {n : Int} (h : 1 ≤ n) : 1 ≤ rt n := by
  have b := rt_lt (n := n) (by omega)
  have c := rt_nn n
  rcases Int.lt_or_le (rt n) 1 with h2 | h2
  · have : rt n = 0 := by omega
    rw [this] at b
    omega
  · exact h2
/-! Newton's step -/
theorem nw_div {n x s : Int} (hs : 0 ≤ s) (h : n < (s + 1) * (s + 1)) (hx : s < x) : n / x ≤ s := by
  have h1 : (s + 1) * (s + 1) ≤ (s + 1) * x := Int.mul_le_mul_of_nonneg_left (by omega) (by omega)
  have h2 : n / x < s + 1 := Int.ediv_lt_of_lt_mul (by omega) (by omega)
  omega
theorem nw_ge {n x s : Int} (hn : s * s ≤ n) (hx : 0 < x) : 2 * s ≤ x + n / x := by
  have h1 : n < (n / x + 1) * x := Int.lt_ediv_add_one_mul_self n hx
  rcases Int.lt_or_le (x + n / x) (2 * s) with h | h
  · have h2 : (n / x + 1) * x ≤ (2 * s - x) * x := Int.mul_le_mul_of_nonneg_right (by omega) (by omega)
    have h3 : 0 ≤ (s - x) * (s - x) := by
      rcases Int.le_total 0 (s - x) with q | q
      · exact Int.mul_nonneg q q
      · exact Int.mul_nonneg_of_nonpos_of_nonpos q q
    have h4 : (s - x) * (s - x) = s * s - 2 * (s * x) + x * x := by
      rw [Int.sub_mul, Int.mul_sub, Int.mul_sub, Int.mul_comm x s]; omega
    have h5 : (2 * s - x) * x = 2 * (s * x) - x * x := by
      rw [Int.sub_mul, Int.mul_assoc]
    omega
  · exact h
theorem nw_half {d B : Int} (i : Nat) (h : d ≤ B / 2 ^ i) : d / 2 ≤ B / 2 ^ (i + 1) := by
  have h1 : d / 2 ≤ B / 2 ^ i / 2 := Int.ediv_le_ediv (by decide) h
  rw [Int.ediv_ediv_of_nonneg (by exact Int.le_of_lt (Int.pow_pos (by decide)))] at h1
  rw [Int.pow_succ]
  exact h1
/-! quotients -/
theorem qu_up {a b : Int} (hb : 0 < b) : a / b + (if 0 < a % b then 1 else 0) = qu a b := by
  unfold qu
  have h1 := Int.emod_add_mul_ediv a b
  have h2 := Int.emod_lt_of_pos a hb
  have h3 := Int.emod_nonneg a (Int.ne_of_gt hb)
  by_cases h : 0 < a % b
  · rw [if_pos h]
    have e : a + b - 1 = (a % b - 1) + b * (a / b + 1) := by rw [Int.mul_add]; omega
    have z : (a % b - 1) / b = 0 := Int.ediv_eq_zero_of_lt (by omega) (by omega)
    rw [e, Int.add_mul_ediv_left _ _ (Int.ne_of_gt hb), z]
    omega
  · rw [if_neg h]
    have e : a + b - 1 = (b - 1) + b * (a / b) := by omega
    have z : (b - 1) / b = 0 := Int.ediv_eq_zero_of_lt (by omega) (by omega)
    rw [e, Int.add_mul_ediv_left _ _ (Int.ne_of_gt hb), z]
    omega
theorem qu_nn {a b : Int} (ha : 0 ≤ a) (hb : 0 < b) : 0 ≤ qu a b := Int.ediv_nonneg (by omega) (by omega)
/-! machine shifts by known amounts -/
theorem sh_l {x : Int} {k : Nat} (hk : k < 64) : Int64.ofInt x <<< ((Int32.ofInt (k : Int)).toInt64 &&& 63) = Int64.ofInt (x * 2 ^ k) := by
  have e : ∀ k, k < 64 → (((Int32.ofInt ((k : Nat) : Int)).toInt64 &&& 63).toBitVec.smod 64) = BitVec.ofNat 64 k := by decide
  apply Int64.toBitVec_inj.mp
  rw [Int64.toBitVec_shiftLeft, e k hk, Int64.toBitVec_ofInt, Int64.toBitVec_ofInt]
  apply BitVec.eq_of_toNat_eq
  rw [BitVec.shiftLeft_eq', BitVec.toNat_shiftLeft, BitVec.toNat_ofInt, BitVec.toNat_ofInt, BitVec.toNat_ofNat, Nat.shiftLeft_eq, Nat.mod_eq_of_lt (a := k) (by omega)]
  have h1 : (0 : Int) ≤ x % (2 ^ 64 : Nat) := Int.emod_nonneg _ (by decide)
  have h2 : (0 : Int) ≤ x * 2 ^ k % (2 ^ 64 : Nat) := Int.emod_nonneg _ (by decide)
  apply Int.ofNat_inj.mp
  rw [Int.toNat_of_nonneg h2, Int.natCast_emod, Int.natCast_mul, Int.toNat_of_nonneg h1, Int.mul_emod, Int.emod_emod, ← Int.mul_emod]
  simp
