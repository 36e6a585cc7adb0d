theorem mt_e {K : KT} {pc : Nat} {ls : List (Option MV)} {st : List MV} {σ : Mem} {x y : Int} (e : x = y) (k : M K pc ls (vi y :: st) σ) : M K pc ls (vi x :: st) σ := by rw [e]; exact k
theorem mt_el {K : KT} {pc : Nat} {ls : List (Option MV)} {st : List MV} {σ : Mem} {x y : Int} (e : x = y) (k : M K pc ls (vl y :: st) σ) : M K pc ls (vl x :: st) σ := by rw [e]; exact k
/-! bits -/
def tb (b : Int) (i : Nat) : Bool := b.toNat.testBit i
theorem tb_iff (b : Int) (i : Nat) : tb b i = decide (b.toNat / 2 ^ i % 2 = 1) := Nat.testBit_eq_decide_div_mod_eq
theorem anN (a b : Nat) : Int32.ofInt (a : Int) &&& Int32.ofInt (b : Int) = Int32.ofInt ((a &&& b : Nat) : Int) := by
  rw [Int32.ofInt_eq_ofNat, Int32.ofInt_eq_ofNat, Int32.ofInt_eq_ofNat]
  apply Int32.toBitVec_inj.1
  show BitVec.ofNat 32 a &&& BitVec.ofNat 32 b = BitVec.ofNat 32 (a &&& b)
  apply BitVec.eq_of_getLsbD_eq
  intro i hi
  simp [hi]
theorem orN (a b : Nat) : Int32.ofInt (a : Int) ||| Int32.ofInt (b : Int) = Int32.ofInt ((a ||| b : Nat) : Int) := by
  rw [Int32.ofInt_eq_ofNat, Int32.ofInt_eq_ofNat, Int32.ofInt_eq_ofNat]
  apply Int32.toBitVec_inj.1
  show BitVec.ofNat 32 a ||| BitVec.ofNat 32 b = BitVec.ofNat 32 (a ||| b)
  apply BitVec.eq_of_getLsbD_eq
  intro i hi
  simp [hi]
theorem shN : ∀ i, i < 24 → Int32.ofInt 1 <<< (Int32.ofInt ((i : Nat) : Int) &&& 31) = Int32.ofInt ((2 ^ i : Nat) : Int) := by decide
theorem nxN : ∀ i, i < 24 → Int32.ofInt ((2 ^ i : Nat) : Int) ^^^ Int32.ofInt (-1) = Int32.ofInt ((4294967295 - 2 ^ i : Nat) : Int) := by decide
def wb (b : Int) (i : Nat) (v : Int) : Int := if v = 1 then ((b.toNat ||| 2 ^ i : Nat) : Int) else ((b.toNat &&& (4294967295 - 2 ^ i) : Nat) : Int)
theorem wb_rng {b v : Int} {i : Nat} (hb : 0 ≤ b ∧ b < 16777216) (hi : i < 24) : 0 ≤ wb b i v ∧ wb b i v < 16777216 := by
  unfold wb
  split
  · have h1 : b.toNat < 2 ^ 24 := by omega
    have h2 : 2 ^ i < 2 ^ 24 := Nat.pow_lt_pow_right (by decide) hi
    have := Nat.or_lt_two_pow h1 h2
    omega
  · have := @Nat.and_le_left b.toNat (4294967295 - 2 ^ i)
    omega
theorem wb_tb {b v : Int} {i : Nat} (hb : 0 ≤ b ∧ b < 16777216) (hi : i < 24) (j : Nat) : tb (wb b i v) j = if j = i then decide (v = 1) else tb b j := by
  unfold wb tb
  by_cases hv : v = 1
  · rw [if_pos hv, Int.toNat_natCast, Nat.testBit_or, Nat.testBit_two_pow]
    by_cases hj : j = i
    · subst hj; simp [hv]
    · simp [hj, Ne.symm hj]
  · rw [if_neg hv, Int.toNat_natCast, Nat.testBit_and]
    have h2 : 2 ^ i < 2 ^ 32 := Nat.pow_lt_pow_right (by decide) (by omega)
    rw [show 4294967295 - 2 ^ i = 2 ^ 32 - (2 ^ i + 1) by omega, Nat.testBit_two_pow_sub_succ h2, Nat.testBit_two_pow]
    by_cases hj : j = i
    · subst hj; simp [hv]
    · by_cases h32 : j < 32
      · simp [hj, Ne.symm hj, h32]
      · have : b.toNat.testBit j = false := Nat.testBit_lt_two_pow (Nat.lt_of_lt_of_le (show b.toNat < 2 ^ 24 by omega) (Nat.pow_le_pow_right (by decide) (by omega)))
        simp [hj, this]
set_option maxHeartbeats 4000000 in
set_option maxRecDepth 100000 in
theorem c_X5_bit {σ : Mem} {b : Int} {i : Nat} (hb : 0 ≤ b ∧ b < 16777216) (hi : i < 24) : Sp1 yX5_bit cX5_bit 2 (some .int) 1 0 [vi b, vi (i : Int)] σ (fun r σ' => σ = σ' ∧ (r = 0 ∨ r = 1) ∧ (r = 1 ↔ tb b i = true)) := by
  refine Sp1_in RX5 rfl (by decide +kernel) (Nat.le_of_ble_eq_true rfl) [some (vi b), some (vi (i : Int))] rfl ?_
  intro K h hr
  have p : (0 : Int) < 2 ^ i := Int.pow_pos (by decide)
  obtain ⟨n, rfl⟩ := Int.eq_ofNat_of_zero_le hb.1
  have e1 : (n : Int) / 2 ^ i = ((n / 2 ^ i : Nat) : Int) := by simp
  refine mi_iload_n h dX5_bit_0 (by rfl) ?_
  refine mi_iload_n h dX5_bit_1 (by rfl) ?_
  refine mi_iushr h dX5_bit_2 (us32 (k := i) (by omega) ⟨by omega, by omega⟩) ?_
  refine mi_iconst h dX5_bit_3 ?_
  refine mi_iand h dX5_bit_4 (anN (n / 2 ^ i) 1) ?_
  refine mi_ireturn h hr dX5_bit_5 ?_
  rw [Nat.and_one_is_mod, tb_iff]
  refine ⟨rfl, by omega, ?_⟩
  rw [Int.toNat_natCast]
  simp only [decide_eq_true_eq]
  omega
set_option maxHeartbeats 4000000 in
set_option maxRecDepth 100000 in
theorem c_X5_withBit {σ : Mem} {b v : Int} {i : Nat} (hb : 0 ≤ b ∧ b < 16777216) (hi : i < 24) (hv : v = 0 ∨ v = 1) : Sp1 yX5_withBit cX5_withBit 3 (some .int) 1 0 [vi b, vi (i : Int), vi v] σ (fun r σ' => σ = σ' ∧ r = wb b i v) := by
  refine Sp1_in RX5 rfl (by decide +kernel) (Nat.le_of_ble_eq_true rfl) [some (vi b), some (vi (i : Int)), some (vi v)] rfl ?_
  intro K h hr
  obtain ⟨n, rfl⟩ := Int.eq_ofNat_of_zero_le hb.1
  refine mi_iload_n h dX5_withBit_0 (by rfl) ?_
  refine mi_if_eq (tgt := 12) h dX5_withBit_1 (by decide) ⟨by omega, by omega⟩ (fun e1 => ?_) (fun e1 => ?_)
  · refine mi_iload_n h dX5_withBit_12 (by rfl) ?_
    refine mi_iconst h dX5_withBit_13 ?_
    refine mi_iload_n h dX5_withBit_14 (by rfl) ?_
    refine mi_ishl h dX5_withBit_15 (shN i hi) ?_
    refine mi_iconst h dX5_withBit_16 ?_
    refine mi_ixor h dX5_withBit_17 (nxN i hi) ?_
    refine mi_iand h dX5_withBit_18 (anN n (4294967295 - 2 ^ i)) ?_
    refine mi_ireturn h hr dX5_withBit_19 ?_
    refine ⟨rfl, ?_⟩
    unfold wb
    first | rw [if_pos (by omega), Int.toNat_natCast] | rw [if_neg (by omega), Int.toNat_natCast]
  · refine mi_iload_n h dX5_withBit_4 (by rfl) ?_
    refine mi_iconst h dX5_withBit_5 ?_
    refine mi_iload_n h dX5_withBit_6 (by rfl) ?_
    refine mi_ishl h dX5_withBit_7 (shN i hi) ?_
    refine mi_ior h dX5_withBit_8 (orN n (2 ^ i)) ?_
    refine mi_goto (tgt := 19) h dX5_withBit_9 (by decide) ?_
    refine mi_ireturn h hr dX5_withBit_19 ?_
    refine ⟨rfl, ?_⟩
    unfold wb
    first | rw [if_pos (by omega), Int.toNat_natCast] | rw [if_neg (by omega), Int.toNat_natCast]
/-! Integer.bitCount -/
theorem an_d {a c y z : Nat} (ha : a < 256) (hc : c < 256) : (a + 256 * y) &&& (c + 256 * z) = (a &&& c) + 256 * (y &&& z) := by
  have h1 := @Nat.and_mod_two_pow (a + 256 * y) (c + 256 * z) 8
  have h2 := @Nat.and_div_two_pow (a + 256 * y) (c + 256 * z) 8
  rw [show (2 : Nat) ^ 8 = 256 from rfl] at h1 h2
  rw [show (a + 256 * y) % 256 = a by omega, show (c + 256 * z) % 256 = c by omega] at h1
  rw [show (a + 256 * y) / 256 = y by omega, show (c + 256 * z) / 256 = z by omega] at h2
  omega
theorem bc_1a : ∀ a, a < 256 → ∀ e, e < 2 → (a / 2 + 128 * e) &&& 85 = (a / 2) &&& 85 := by decide +kernel
theorem bc_2a : ∀ a, a < 256 → ∀ e, e < 4 → (a / 4 + 64 * e) &&& 51 = (a / 4) &&& 51 := by decide +kernel
theorem bc_1 {a y m : Nat} (ha : a < 256) : (a + 256 * y) - (((a + 256 * y) / 2) &&& (85 + 256 * m)) = (a - ((a / 2) &&& 85)) + 256 * (y - ((y / 2) &&& m)) := by
  rw [show (a + 256 * y) / 2 = (a / 2 + 128 * (y % 2)) + 256 * (y / 2) by omega, an_d (by omega) (by decide), bc_1a a ha (y % 2) (by omega)]
  have := @Nat.and_le_left (a / 2) 85
  have := @Nat.and_le_left (y / 2) m
  omega
theorem bc_2 {a y m : Nat} (ha : a < 256) : ((a + 256 * y) &&& (51 + 256 * m)) + (((a + 256 * y) / 4) &&& (51 + 256 * m)) = ((a &&& 51) + ((a / 4) &&& 51)) + 256 * ((y &&& m) + ((y / 4) &&& m)) := by
  rw [an_d ha (by decide), show (a + 256 * y) / 4 = (a / 4 + 64 * (y % 4)) + 256 * (y / 4) by omega, an_d (by omega) (by decide), bc_2a a ha (y % 4) (by omega)]
  omega
theorem bc_3 {a y m : Nat} (ha : a ≤ 68) (hy : y % 16 ≤ 4) : ((a + 256 * y) + (a + 256 * y) / 16) &&& (15 + 256 * m) = ((a + a / 16) &&& 15) + 256 * ((y + y / 16) &&& m) := by
  rw [show (a + 256 * y) + (a + 256 * y) / 16 = (a + a / 16 + 16 * (y % 16)) + 256 * (y + y / 16) by omega, an_d (by omega) (by decide)]
  have h : ∀ k, k &&& 15 = k % 16 := fun k => Nat.and_two_pow_sub_one_eq_mod k 4
  rw [h, h]
  omega
def b1 (a : Nat) : Nat := a - ((a / 2) &&& 85)
def b2 (a : Nat) : Nat := (b1 a &&& 51) + ((b1 a / 4) &&& 51)
def pb (a : Nat) : Nat := a % 2 + a / 2 % 2 + a / 4 % 2 + a / 8 % 2 + a / 16 % 2 + a / 32 % 2 + a / 64 % 2 + a / 128 % 2
theorem bc_b : ∀ a, a < 256 → b1 a < 256 ∧ b2 a ≤ 68 ∧ b2 a % 16 ≤ 4 ∧ (b2 a + b2 a / 16) &&& 15 = pb a := by decide +kernel
theorem bc_c : ∀ c, c < 256 → ∃ d e, c - ((c / 2) &&& 21845) = d ∧ d < 256 ∧ (d &&& 13107) + ((d / 4) &&& 13107) = e ∧ e % 16 ≤ 4 ∧ e < 256 ∧ (e + e / 16) &&& 3855 = pb c := by
  have h : ∀ c, c < 256 → c - ((c / 2) &&& 21845) < 256 ∧ ((c - ((c / 2) &&& 21845)) &&& 13107) + (((c - ((c / 2) &&& 21845)) / 4) &&& 13107) < 256 ∧ (((c - ((c / 2) &&& 21845)) &&& 13107) + (((c - ((c / 2) &&& 21845)) / 4) &&& 13107)) % 16 ≤ 4 ∧ ((((c - ((c / 2) &&& 21845)) &&& 13107) + (((c - ((c / 2) &&& 21845)) / 4) &&& 13107)) + (((c - ((c / 2) &&& 21845)) &&& 13107) + (((c - ((c / 2) &&& 21845)) / 4) &&& 13107)) / 16) &&& 3855 = pb c := by decide +kernel
  intro c hc
  obtain ⟨h1, h2, h3, h4⟩ := h c hc
  exact ⟨_, _, rfl, h1, rfl, h3, h2, h4⟩
theorem pb_le (a : Nat) : pb a ≤ 8 := by unfold pb; omega
def pop (x : Nat) : Nat := x % 2+x / 2 % 2+x / 4 % 2+x / 8 % 2+x / 16 % 2+x / 32 % 2+x / 64 % 2+x / 128 % 2+x / 256 % 2+x / 512 % 2+x / 1024 % 2+x / 2048 % 2+x / 4096 % 2+x / 8192 % 2+x / 16384 % 2+x / 32768 % 2+x / 65536 % 2+x / 131072 % 2+x / 262144 % 2+x / 524288 % 2+x / 1048576 % 2+x / 2097152 % 2+x / 4194304 % 2+x / 8388608 % 2
theorem pop_b (a b c : Nat) (ha : a < 256) (hb : b < 256) (hc : c < 256) : pop (a + 256 * (b + 256 * c)) = pb a + pb b + pb c := by
  have e0 : (a + 256 * (b + 256 * c)) % 2 = a % 2 := by omega
  have e1 : (a + 256 * (b + 256 * c)) / 2 % 2 = a / 2 % 2 := by omega
  have e2 : (a + 256 * (b + 256 * c)) / 4 % 2 = a / 4 % 2 := by omega
  have e3 : (a + 256 * (b + 256 * c)) / 8 % 2 = a / 8 % 2 := by omega
  have e4 : (a + 256 * (b + 256 * c)) / 16 % 2 = a / 16 % 2 := by omega
  have e5 : (a + 256 * (b + 256 * c)) / 32 % 2 = a / 32 % 2 := by omega
  have e6 : (a + 256 * (b + 256 * c)) / 64 % 2 = a / 64 % 2 := by omega
  have e7 : (a + 256 * (b + 256 * c)) / 128 % 2 = a / 128 % 2 := by omega
  have e8 : (a + 256 * (b + 256 * c)) / 256 % 2 = b % 2 := by omega
  have e9 : (a + 256 * (b + 256 * c)) / 512 % 2 = b / 2 % 2 := by omega
  have e10 : (a + 256 * (b + 256 * c)) / 1024 % 2 = b / 4 % 2 := by omega
  have e11 : (a + 256 * (b + 256 * c)) / 2048 % 2 = b / 8 % 2 := by omega
  have e12 : (a + 256 * (b + 256 * c)) / 4096 % 2 = b / 16 % 2 := by omega
  have e13 : (a + 256 * (b + 256 * c)) / 8192 % 2 = b / 32 % 2 := by omega
  have e14 : (a + 256 * (b + 256 * c)) / 16384 % 2 = b / 64 % 2 := by omega
  have e15 : (a + 256 * (b + 256 * c)) / 32768 % 2 = b / 128 % 2 := by omega
  have e16 : (a + 256 * (b + 256 * c)) / 65536 % 2 = c % 2 := by omega
  have e17 : (a + 256 * (b + 256 * c)) / 131072 % 2 = c / 2 % 2 := by omega
  have e18 : (a + 256 * (b + 256 * c)) / 262144 % 2 = c / 4 % 2 := by omega
  have e19 : (a + 256 * (b + 256 * c)) / 524288 % 2 = c / 8 % 2 := by omega
  have e20 : (a + 256 * (b + 256 * c)) / 1048576 % 2 = c / 16 % 2 := by omega
  have e21 : (a + 256 * (b + 256 * c)) / 2097152 % 2 = c / 32 % 2 := by omega
  have e22 : (a + 256 * (b + 256 * c)) / 4194304 % 2 = c / 64 % 2 := by omega
  have e23 : (a + 256 * (b + 256 * c)) / 8388608 % 2 = c / 128 % 2 := by omega
  unfold pop pb
  rw [e0, e1, e2, e3, e4, e5, e6, e7, e8, e9, e10, e11, e12, e13, e14, e15, e16, e17, e18, e19, e20, e21, e22, e23]
  simp only [Nat.add_assoc]
theorem bc_all {a b c : Nat} (ha : a < 256) (hb : b < 256) (hc : c < 256) : ∃ x1 x2 x3 : Nat,
    (a + 256 * (b + 256 * c)) - (((a + 256 * (b + 256 * c)) / 2) &&& 1431655765) = x1 ∧ (x1 &&& 858993459) + ((x1 / 4) &&& 858993459) = x2 ∧ (x2 + x2 / 16) &&& 252645135 = x3 ∧ x1 < 16777216 ∧ x2 < 16777216 ∧ x3 = pb a + 256 * (pb b + 256 * pb c) := by
  obtain ⟨a1, a2, a3, a4⟩ := bc_b a ha
  obtain ⟨c1, c2, c3, c4⟩ := bc_b b hb
  obtain ⟨d, e, d1, d2, d3, d4, d5, d6⟩ := bc_c c hc
  refine ⟨b1 a + 256 * (b1 b + 256 * d), b2 a + 256 * (b2 b + 256 * e), _, ?_, ?_, rfl, by omega, by omega, ?_⟩
  · rw [show (1431655765 : Nat) = 85 + 256 * (85 + 256 * 21845) from rfl, bc_1 ha, bc_1 hb, d1]; rfl
  · rw [show (858993459 : Nat) = 51 + 256 * (51 + 256 * 13107) from rfl, bc_2 a1, bc_2 c1, d3]; rfl
  · rw [show (252645135 : Nat) = 15 + 256 * (15 + 256 * 3855) from rfl, bc_3 a2 (by omega), bc_3 c2 d4, a4, c4, d6]
set_option maxHeartbeats 4000000 in
set_option maxRecDepth 100000 in
theorem c_J6_bitCount_0f7a4 {σ : Mem} {b : Int} (hb : 0 ≤ b ∧ b < 16777216) : Sp1 yJ6_bitCount_0f7a4 cJ6_bitCount_0f7a4 1 (some .int) 1 0 [vi b] σ (fun r σ' => σ = σ' ∧ r = (pop b.toNat : Int)) := by
  refine Sp1_in RJ6 rfl (by decide +kernel) (Nat.le_of_ble_eq_true rfl) [some (vi b)] rfl ?_
  intro K h hr
  obtain ⟨n, rfl⟩ := Int.eq_ofNat_of_zero_le hb.1
  have hn : n < 16777216 := by omega
  obtain ⟨a, b, c, rfl, ha, hb2, hc⟩ : ∃ a b c : Nat, n = a + 256 * (b + 256 * c) ∧ a < 256 ∧ b < 256 ∧ c < 256 := ⟨n % 256, n / 256 % 256, n / 65536, by omega, by omega, by omega, by omega⟩
  obtain ⟨x1, x2, x3, h1, h2, h3, h4, h5, h6⟩ := bc_all ha hb2 hc
  have hp := pop_b a b c ha hb2 hc
  have pa := pb_le a
  have pb9 := pb_le b
  have pc9 := pb_le c
  generalize hN : a + 256 * (b + 256 * c) = n at h1 hp ⊢
  have q1 := @Nat.and_le_left (n / 2) 1431655765
  refine mi_iload_n h dJ6_bitCount_0f7a4_0 (by rfl) ?_
  refine mi_iload_n h dJ6_bitCount_0f7a4_1 (by rfl) ?_
  refine mi_iconst h dJ6_bitCount_0f7a4_2 ?_
  refine mi_iushr h dJ6_bitCount_0f7a4_3 (us_1 ⟨by omega, by omega⟩) ?_
  refine mi_ldc_w (z := 1431655765) h dJ6_bitCount_0f7a4_4 kc_RJ6_265 rfl ?_
  refine mi_iand h dJ6_bitCount_0f7a4_7 (anN (n / 2) 1431655765) ?_
  refine mi_isub h dJ6_bitCount_0f7a4_8 ?_
  refine mt_e (y := ((x1 : Nat) : Int)) (by omega) ?_
  refine mi_istore_n h dJ6_bitCount_0f7a4_9 (by decide) ?_
  refine mi_iload_n h dJ6_bitCount_0f7a4_10 (by rfl) ?_
  refine mi_ldc_w (z := 858993459) h dJ6_bitCount_0f7a4_11 kc_RJ6_266 rfl ?_
  refine mi_iand h dJ6_bitCount_0f7a4_14 (anN x1 858993459) ?_
  refine mi_iload_n h dJ6_bitCount_0f7a4_15 (by rfl) ?_
  refine mi_iconst h dJ6_bitCount_0f7a4_16 ?_
  refine mi_iushr h dJ6_bitCount_0f7a4_17 (us_2 ⟨by omega, by omega⟩) ?_
  refine mi_ldc_w (z := 858993459) h dJ6_bitCount_0f7a4_18 kc_RJ6_266 rfl ?_
  refine mi_iand h dJ6_bitCount_0f7a4_21 (anN (x1 / 4) 858993459) ?_
  refine mi_iadd h dJ6_bitCount_0f7a4_22 ?_
  refine mt_e (y := ((x2 : Nat) : Int)) (by omega) ?_
  refine mi_istore_n h dJ6_bitCount_0f7a4_23 (by decide) ?_
  refine mi_iload_n h dJ6_bitCount_0f7a4_24 (by rfl) ?_
  refine mi_iload_n h dJ6_bitCount_0f7a4_25 (by rfl) ?_
  refine mi_iconst h dJ6_bitCount_0f7a4_26 ?_
  refine mi_iushr h dJ6_bitCount_0f7a4_27 (us_4 ⟨by omega, by omega⟩) ?_
  refine mi_iadd h dJ6_bitCount_0f7a4_28 ?_
  refine mt_e (y := ((x2 + x2 / 16 : Nat) : Int)) (by omega) ?_
  refine mi_ldc_w (z := 252645135) h dJ6_bitCount_0f7a4_29 kc_RJ6_267 rfl ?_
  refine mi_iand h dJ6_bitCount_0f7a4_32 (anN (x2 + x2 / 16) 252645135) ?_
  refine mi_istore_n h dJ6_bitCount_0f7a4_33 (by decide) ?_
  refine mi_iload_n h dJ6_bitCount_0f7a4_34 (by rfl) ?_
  refine mi_iload_n h dJ6_bitCount_0f7a4_35 (by rfl) ?_
  refine mi_bipush h dJ6_bitCount_0f7a4_36 (by decide) ?_
  refine mi_iushr h dJ6_bitCount_0f7a4_38 (us_8 ⟨by omega, by omega⟩) ?_
  refine mi_iadd h dJ6_bitCount_0f7a4_39 ?_
  refine mt_e (y := ((x3 + x3 / 256 : Nat) : Int)) (by omega) ?_
  refine mi_istore_n h dJ6_bitCount_0f7a4_40 (by decide) ?_
  refine mi_iload_n h dJ6_bitCount_0f7a4_41 (by rfl) ?_
  refine mi_iload_n h dJ6_bitCount_0f7a4_42 (by rfl) ?_
  refine mi_bipush h dJ6_bitCount_0f7a4_43 (by decide) ?_
  refine mi_iushr h dJ6_bitCount_0f7a4_45 (us_16 ⟨by omega, by omega⟩) ?_
  refine mi_iadd h dJ6_bitCount_0f7a4_46 ?_
  refine mt_e (y := ((x3 + x3 / 256 + (x3 + x3 / 256) / 65536 : Nat) : Int)) (by omega) ?_
  refine mi_istore_n h dJ6_bitCount_0f7a4_47 (by decide) ?_
  refine mi_iload_n h dJ6_bitCount_0f7a4_48 (by rfl) ?_
  refine mi_bipush h dJ6_bitCount_0f7a4_49 (by decide) ?_
  refine mi_iand h dJ6_bitCount_0f7a4_51 (anN (x3 + x3 / 256 + (x3 + x3 / 256) / 65536) 63) ?_
  refine mi_ireturn h hr dJ6_bitCount_0f7a4_52 ?_
  rw [show ∀ k, k &&& 63 = k % 64 from fun k => Nat.and_two_pow_sub_one_eq_mod k 6, Int.toNat_natCast, hN, hp]
  have w1 : x3 / 256 = pb b + 256 * pb c := by omega
  have w2 : (x3 + x3 / 256) / 65536 = pb c := by omega
  rw [w2, w1]
  clear hb hr hn h1 h2 h3 h4 h5 q1 w2 w1
  refine ⟨rfl, ?_⟩
  omega
