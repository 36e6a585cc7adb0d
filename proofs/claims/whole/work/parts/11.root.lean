theorem us32 {x : Int} {k : Nat} (hk : k < 32) (h : 0 ≤ x ∧ x < 4294967296) : ((Int32.ofInt x).toUInt32 >>> ((Int32.ofInt (k : Int)).toUInt32 &&& Int32.toUInt32 31)).toInt32 = Int32.ofInt (x / 2 ^ k) := by
  have e : ∀ k, k < 32 → (((Int32.ofInt ((k : Nat) : Int)).toUInt32 &&& Int32.toUInt32 31).toBitVec % 32).toNat = k := by decide
  obtain ⟨n, rfl⟩ := Int.eq_ofNat_of_zero_le h.1
  have h1 := pk_ushrN (n := n) (by omega) (Int32.ofInt (k : Int)) k (e k hk)
  have e2 : nI n = Int32.ofInt (n : Int) := Int32.ofInt_eq_ofNat.symm
  have e3 : nI (n / 2 ^ k) = Int32.ofInt ((n : Int) / 2 ^ k) := by
    rw [show ((n : Int) / 2 ^ k) = ((n / 2 ^ k : Nat) : Int) by simp]
    exact Int32.ofInt_eq_ofNat.symm
  rw [e2, e3] at h1
  exact h1
theorem mt_l {K : KT} {pc : Nat} {ls : List (Option MV)} {st : List MV} {σ : Mem} {x : Int} (k : ∀ y : Int, y = x → M K pc ls (vl y :: st) σ) : M K pc ls (vl x :: st) σ := k x rfl
theorem mt_i {K : KT} {pc : Nat} {ls : List (Option MV)} {st : List MV} {σ : Mem} {x : Int} (k : ∀ y : Int, y = x → M K pc ls (vi y :: st) σ) : M K pc ls (vi x :: st) σ := k x rfl
theorem Sp1_as {y : MethodName} {bytes : ByteArray} {maxL : Nat} {rt : Option FieldType} {rk lev : Nat} {as bs : List MV} {σ : Mem} {po : Int → Mem → Prop} (h : Sp1 y bytes maxL rt rk lev as σ po) (e : ∀ ad, as.map (cvv ad) = bs.map (cvv ad)) : Sp1 y bytes maxL rt rk lev bs σ po := by
  intro l D ad cA sz
  rw [← e ad]
  exact h l D ad cA sz
theorem Sp1_mono {y : MethodName} {bytes : ByteArray} {maxL : Nat} {rt : Option FieldType} {rk lev : Nat} {as : List MV} {σ : Mem} {po po' : Int → Mem → Prop} (h : Sp1 y bytes maxL rt rk lev as σ po) (hp : po = po') : Sp1 y bytes maxL rt rk lev as σ po' := hp ▸ h
theorem Sp1_imp {y : MethodName} {bytes : ByteArray} {maxL : Nat} {rt : Option FieldType} {rk lev : Nat} {as : List MV} {σ : Mem} {po po' : Int → Mem → Prop} (h : Sp1 y bytes maxL rt rk lev as σ po) (hp : ∀ r σ', po r σ' → po' r σ') : Sp1 y bytes maxL rt rk lev as σ po' := by
  intro l D ad cA sz p e h1 h2 h3 s m args below h4 h5 h6 h7
  obtain ⟨n, o, a, b, c, ⟨r, σ', q1, q2, q3⟩, d⟩ := h l D ad cA sz p e h1 h2 h3 s m args below h4 h5 h6 h7
  exact ⟨n, o, a, b, c, ⟨r, σ', q1, hp _ _ q2, q3⟩, d⟩
theorem us_1 {x : Int} (h : 0 ≤ x ∧ x < 4294967296) : ((Int32.ofInt x).toUInt32 >>> ((Int32.ofInt 1).toUInt32 &&& Int32.toUInt32 31)).toInt32 = Int32.ofInt (x / 2) := us32 (k := 1) (by decide) h
theorem us_2 {x : Int} (h : 0 ≤ x ∧ x < 4294967296) : ((Int32.ofInt x).toUInt32 >>> ((Int32.ofInt 2).toUInt32 &&& Int32.toUInt32 31)).toInt32 = Int32.ofInt (x / 4) := us32 (k := 2) (by decide) h
theorem us_4 {x : Int} (h : 0 ≤ x ∧ x < 4294967296) : ((Int32.ofInt x).toUInt32 >>> ((Int32.ofInt 4).toUInt32 &&& Int32.toUInt32 31)).toInt32 = Int32.ofInt (x / 16) := us32 (k := 4) (by decide) h
theorem us_8 {x : Int} (h : 0 ≤ x ∧ x < 4294967296) : ((Int32.ofInt x).toUInt32 >>> ((Int32.ofInt 8).toUInt32 &&& Int32.toUInt32 31)).toInt32 = Int32.ofInt (x / 256) := us32 (k := 8) (by decide) h
theorem us_16 {x : Int} (h : 0 ≤ x ∧ x < 4294967296) : ((Int32.ofInt x).toUInt32 >>> ((Int32.ofInt 16).toUInt32 &&& Int32.toUInt32 31)).toInt32 = Int32.ofInt (x / 65536) := us32 (k := 16) (by decide) h
theorem ul_32 {x : Int} (h : 0 ≤ x ∧ x < 9223372036854775808) : ((Int64.ofInt x).toUInt64 >>> ((Int32.ofInt 32).toInt64.toUInt64 &&& Int64.toUInt64 63)).toInt64 = Int64.ofInt (x / 4294967296) := by
  obtain ⟨n, rfl⟩ := Int.eq_ofNat_of_zero_le h.1
  rw [show (n : Int) / 4294967296 = ((n / 4294967296 : Nat) : Int) by omega]
  apply Int64.toBitVec_inj.mp
  apply BitVec.eq_of_toNat_eq
  have e : (((Int32.ofInt 32).toInt64.toUInt64 &&& Int64.toUInt64 63).toBitVec % 64).toNat = 32 := by decide
  rw [Int64.ofInt_eq_ofNat, Int64.ofInt_eq_ofNat]
  show (((Int64.ofNat n).toUInt64 >>> _).toBitVec).toNat = _
  rw [UInt64.toBitVec_shiftRight]
  show ((Int64.ofNat n).toUInt64.toBitVec >>> (((Int32.ofInt 32).toInt64.toUInt64 &&& Int64.toUInt64 63).toBitVec % 64).toNat).toNat = _
  rw [e, BitVec.toNat_ushiftRight]
  show ((Int64.ofNat n).toBitVec.toNat) >>> 32 = (Int64.ofNat (n / 4294967296)).toBitVec.toNat
  rw [Int64.toBitVec_ofNat', Int64.toBitVec_ofNat', BitVec.toNat_ofNat, BitVec.toNat_ofNat, Nat.shiftRight_eq_div_pow]
  omega
theorem p2_le {a b : Nat} (h : a ≤ b) : (2 : Int) ^ a ≤ 2 ^ b := by
  have := Nat.pow_le_pow_right (n := 2) (by decide) h
  exact_mod_cast this
theorem lz_0 {x : Int} (h : 2147483648 ≤ x ∧ x < 4294967296) : 2 ^ (31 - (0 : Int).toNat) ≤ x ∧ x < 2 ^ (32 - (0 : Int).toNat) := by
  rw [show (2 : Int) ^ (31 - (0 : Int).toNat) = 2147483648 by decide, show (2 : Int) ^ (32 - (0 : Int).toNat) = 4294967296 by decide]
  exact h
theorem lz_1 {x : Int} (h : 1073741824 ≤ x ∧ x < 2147483648) : 2 ^ (31 - (1 : Int).toNat) ≤ x ∧ x < 2 ^ (32 - (1 : Int).toNat) := by
  rw [show (2 : Int) ^ (31 - (1 : Int).toNat) = 1073741824 by decide, show (2 : Int) ^ (32 - (1 : Int).toNat) = 2147483648 by decide]
  exact h
theorem lz_2 {x : Int} (h : 536870912 ≤ x ∧ x < 1073741824) : 2 ^ (31 - (2 : Int).toNat) ≤ x ∧ x < 2 ^ (32 - (2 : Int).toNat) := by
  rw [show (2 : Int) ^ (31 - (2 : Int).toNat) = 536870912 by decide, show (2 : Int) ^ (32 - (2 : Int).toNat) = 1073741824 by decide]
  exact h
theorem lz_3 {x : Int} (h : 268435456 ≤ x ∧ x < 536870912) : 2 ^ (31 - (3 : Int).toNat) ≤ x ∧ x < 2 ^ (32 - (3 : Int).toNat) := by
  rw [show (2 : Int) ^ (31 - (3 : Int).toNat) = 268435456 by decide, show (2 : Int) ^ (32 - (3 : Int).toNat) = 536870912 by decide]
  exact h
theorem lz_4 {x : Int} (h : 134217728 ≤ x ∧ x < 268435456) : 2 ^ (31 - (4 : Int).toNat) ≤ x ∧ x < 2 ^ (32 - (4 : Int).toNat) := by
  rw [show (2 : Int) ^ (31 - (4 : Int).toNat) = 134217728 by decide, show (2 : Int) ^ (32 - (4 : Int).toNat) = 268435456 by decide]
  exact h
theorem lz_5 {x : Int} (h : 67108864 ≤ x ∧ x < 134217728) : 2 ^ (31 - (5 : Int).toNat) ≤ x ∧ x < 2 ^ (32 - (5 : Int).toNat) := by
  rw [show (2 : Int) ^ (31 - (5 : Int).toNat) = 67108864 by decide, show (2 : Int) ^ (32 - (5 : Int).toNat) = 134217728 by decide]
  exact h
theorem lz_6 {x : Int} (h : 33554432 ≤ x ∧ x < 67108864) : 2 ^ (31 - (6 : Int).toNat) ≤ x ∧ x < 2 ^ (32 - (6 : Int).toNat) := by
  rw [show (2 : Int) ^ (31 - (6 : Int).toNat) = 33554432 by decide, show (2 : Int) ^ (32 - (6 : Int).toNat) = 67108864 by decide]
  exact h
theorem lz_7 {x : Int} (h : 16777216 ≤ x ∧ x < 33554432) : 2 ^ (31 - (7 : Int).toNat) ≤ x ∧ x < 2 ^ (32 - (7 : Int).toNat) := by
  rw [show (2 : Int) ^ (31 - (7 : Int).toNat) = 16777216 by decide, show (2 : Int) ^ (32 - (7 : Int).toNat) = 33554432 by decide]
  exact h
theorem lz_8 {x : Int} (h : 8388608 ≤ x ∧ x < 16777216) : 2 ^ (31 - (8 : Int).toNat) ≤ x ∧ x < 2 ^ (32 - (8 : Int).toNat) := by
  rw [show (2 : Int) ^ (31 - (8 : Int).toNat) = 8388608 by decide, show (2 : Int) ^ (32 - (8 : Int).toNat) = 16777216 by decide]
  exact h
theorem lz_9 {x : Int} (h : 4194304 ≤ x ∧ x < 8388608) : 2 ^ (31 - (9 : Int).toNat) ≤ x ∧ x < 2 ^ (32 - (9 : Int).toNat) := by
  rw [show (2 : Int) ^ (31 - (9 : Int).toNat) = 4194304 by decide, show (2 : Int) ^ (32 - (9 : Int).toNat) = 8388608 by decide]
  exact h
theorem lz_10 {x : Int} (h : 2097152 ≤ x ∧ x < 4194304) : 2 ^ (31 - (10 : Int).toNat) ≤ x ∧ x < 2 ^ (32 - (10 : Int).toNat) := by
  rw [show (2 : Int) ^ (31 - (10 : Int).toNat) = 2097152 by decide, show (2 : Int) ^ (32 - (10 : Int).toNat) = 4194304 by decide]
  exact h
theorem lz_11 {x : Int} (h : 1048576 ≤ x ∧ x < 2097152) : 2 ^ (31 - (11 : Int).toNat) ≤ x ∧ x < 2 ^ (32 - (11 : Int).toNat) := by
  rw [show (2 : Int) ^ (31 - (11 : Int).toNat) = 1048576 by decide, show (2 : Int) ^ (32 - (11 : Int).toNat) = 2097152 by decide]
  exact h
theorem lz_12 {x : Int} (h : 524288 ≤ x ∧ x < 1048576) : 2 ^ (31 - (12 : Int).toNat) ≤ x ∧ x < 2 ^ (32 - (12 : Int).toNat) := by
  rw [show (2 : Int) ^ (31 - (12 : Int).toNat) = 524288 by decide, show (2 : Int) ^ (32 - (12 : Int).toNat) = 1048576 by decide]
  exact h
theorem lz_13 {x : Int} (h : 262144 ≤ x ∧ x < 524288) : 2 ^ (31 - (13 : Int).toNat) ≤ x ∧ x < 2 ^ (32 - (13 : Int).toNat) := by
  rw [show (2 : Int) ^ (31 - (13 : Int).toNat) = 262144 by decide, show (2 : Int) ^ (32 - (13 : Int).toNat) = 524288 by decide]
  exact h
theorem lz_14 {x : Int} (h : 131072 ≤ x ∧ x < 262144) : 2 ^ (31 - (14 : Int).toNat) ≤ x ∧ x < 2 ^ (32 - (14 : Int).toNat) := by
  rw [show (2 : Int) ^ (31 - (14 : Int).toNat) = 131072 by decide, show (2 : Int) ^ (32 - (14 : Int).toNat) = 262144 by decide]
  exact h
theorem lz_15 {x : Int} (h : 65536 ≤ x ∧ x < 131072) : 2 ^ (31 - (15 : Int).toNat) ≤ x ∧ x < 2 ^ (32 - (15 : Int).toNat) := by
  rw [show (2 : Int) ^ (31 - (15 : Int).toNat) = 65536 by decide, show (2 : Int) ^ (32 - (15 : Int).toNat) = 131072 by decide]
  exact h
theorem lz_16 {x : Int} (h : 32768 ≤ x ∧ x < 65536) : 2 ^ (31 - (16 : Int).toNat) ≤ x ∧ x < 2 ^ (32 - (16 : Int).toNat) := by
  rw [show (2 : Int) ^ (31 - (16 : Int).toNat) = 32768 by decide, show (2 : Int) ^ (32 - (16 : Int).toNat) = 65536 by decide]
  exact h
theorem lz_17 {x : Int} (h : 16384 ≤ x ∧ x < 32768) : 2 ^ (31 - (17 : Int).toNat) ≤ x ∧ x < 2 ^ (32 - (17 : Int).toNat) := by
  rw [show (2 : Int) ^ (31 - (17 : Int).toNat) = 16384 by decide, show (2 : Int) ^ (32 - (17 : Int).toNat) = 32768 by decide]
  exact h
theorem lz_18 {x : Int} (h : 8192 ≤ x ∧ x < 16384) : 2 ^ (31 - (18 : Int).toNat) ≤ x ∧ x < 2 ^ (32 - (18 : Int).toNat) := by
  rw [show (2 : Int) ^ (31 - (18 : Int).toNat) = 8192 by decide, show (2 : Int) ^ (32 - (18 : Int).toNat) = 16384 by decide]
  exact h
theorem lz_19 {x : Int} (h : 4096 ≤ x ∧ x < 8192) : 2 ^ (31 - (19 : Int).toNat) ≤ x ∧ x < 2 ^ (32 - (19 : Int).toNat) := by
  rw [show (2 : Int) ^ (31 - (19 : Int).toNat) = 4096 by decide, show (2 : Int) ^ (32 - (19 : Int).toNat) = 8192 by decide]
  exact h
theorem lz_20 {x : Int} (h : 2048 ≤ x ∧ x < 4096) : 2 ^ (31 - (20 : Int).toNat) ≤ x ∧ x < 2 ^ (32 - (20 : Int).toNat) := by
  rw [show (2 : Int) ^ (31 - (20 : Int).toNat) = 2048 by decide, show (2 : Int) ^ (32 - (20 : Int).toNat) = 4096 by decide]
  exact h
theorem lz_21 {x : Int} (h : 1024 ≤ x ∧ x < 2048) : 2 ^ (31 - (21 : Int).toNat) ≤ x ∧ x < 2 ^ (32 - (21 : Int).toNat) := by
  rw [show (2 : Int) ^ (31 - (21 : Int).toNat) = 1024 by decide, show (2 : Int) ^ (32 - (21 : Int).toNat) = 2048 by decide]
  exact h
theorem lz_22 {x : Int} (h : 512 ≤ x ∧ x < 1024) : 2 ^ (31 - (22 : Int).toNat) ≤ x ∧ x < 2 ^ (32 - (22 : Int).toNat) := by
  rw [show (2 : Int) ^ (31 - (22 : Int).toNat) = 512 by decide, show (2 : Int) ^ (32 - (22 : Int).toNat) = 1024 by decide]
  exact h
theorem lz_23 {x : Int} (h : 256 ≤ x ∧ x < 512) : 2 ^ (31 - (23 : Int).toNat) ≤ x ∧ x < 2 ^ (32 - (23 : Int).toNat) := by
  rw [show (2 : Int) ^ (31 - (23 : Int).toNat) = 256 by decide, show (2 : Int) ^ (32 - (23 : Int).toNat) = 512 by decide]
  exact h
theorem lz_24 {x : Int} (h : 128 ≤ x ∧ x < 256) : 2 ^ (31 - (24 : Int).toNat) ≤ x ∧ x < 2 ^ (32 - (24 : Int).toNat) := by
  rw [show (2 : Int) ^ (31 - (24 : Int).toNat) = 128 by decide, show (2 : Int) ^ (32 - (24 : Int).toNat) = 256 by decide]
  exact h
theorem lz_25 {x : Int} (h : 64 ≤ x ∧ x < 128) : 2 ^ (31 - (25 : Int).toNat) ≤ x ∧ x < 2 ^ (32 - (25 : Int).toNat) := by
  rw [show (2 : Int) ^ (31 - (25 : Int).toNat) = 64 by decide, show (2 : Int) ^ (32 - (25 : Int).toNat) = 128 by decide]
  exact h
theorem lz_26 {x : Int} (h : 32 ≤ x ∧ x < 64) : 2 ^ (31 - (26 : Int).toNat) ≤ x ∧ x < 2 ^ (32 - (26 : Int).toNat) := by
  rw [show (2 : Int) ^ (31 - (26 : Int).toNat) = 32 by decide, show (2 : Int) ^ (32 - (26 : Int).toNat) = 64 by decide]
  exact h
theorem lz_27 {x : Int} (h : 16 ≤ x ∧ x < 32) : 2 ^ (31 - (27 : Int).toNat) ≤ x ∧ x < 2 ^ (32 - (27 : Int).toNat) := by
  rw [show (2 : Int) ^ (31 - (27 : Int).toNat) = 16 by decide, show (2 : Int) ^ (32 - (27 : Int).toNat) = 32 by decide]
  exact h
theorem lz_28 {x : Int} (h : 8 ≤ x ∧ x < 16) : 2 ^ (31 - (28 : Int).toNat) ≤ x ∧ x < 2 ^ (32 - (28 : Int).toNat) := by
  rw [show (2 : Int) ^ (31 - (28 : Int).toNat) = 8 by decide, show (2 : Int) ^ (32 - (28 : Int).toNat) = 16 by decide]
  exact h
theorem lz_29 {x : Int} (h : 4 ≤ x ∧ x < 8) : 2 ^ (31 - (29 : Int).toNat) ≤ x ∧ x < 2 ^ (32 - (29 : Int).toNat) := by
  rw [show (2 : Int) ^ (31 - (29 : Int).toNat) = 4 by decide, show (2 : Int) ^ (32 - (29 : Int).toNat) = 8 by decide]
  exact h
theorem lz_30 {x : Int} (h : 2 ≤ x ∧ x < 4) : 2 ^ (31 - (30 : Int).toNat) ≤ x ∧ x < 2 ^ (32 - (30 : Int).toNat) := by
  rw [show (2 : Int) ^ (31 - (30 : Int).toNat) = 2 by decide, show (2 : Int) ^ (32 - (30 : Int).toNat) = 4 by decide]
  exact h
theorem lz_31 {x : Int} (h : 1 ≤ x ∧ x < 2) : 2 ^ (31 - (31 : Int).toNat) ≤ x ∧ x < 2 ^ (32 - (31 : Int).toNat) := by
  rw [show (2 : Int) ^ (31 - (31 : Int).toNat) = 1 by decide, show (2 : Int) ^ (32 - (31 : Int).toNat) = 2 by decide]
  exact h
set_option maxHeartbeats 4000000 in
set_option maxRecDepth 100000 in
theorem c_J6_numberOfLeadingZeros_0f7a4 {σ : Mem} {x : Int} (hx : 1 ≤ x ∧ x < 2147483648) : Sp1 yJ6_numberOfLeadingZeros_0f7a4 cJ6_numberOfLeadingZeros_0f7a4 2 (some .int) 1 0 [vi x] σ (fun r σ' => σ = σ' ∧ 0 ≤ r ∧ r ≤ 31 ∧ 2 ^ (31 - r.toNat) ≤ x ∧ x < 2 ^ (32 - r.toNat)) := by
  refine Sp1_in RJ6 rfl (by decide +kernel) (Nat.le_of_ble_eq_true rfl) [some (vi x), none] rfl ?_
  intro K h hr
  refine mi_iload_n h dJ6_numberOfLeadingZeros_0f7a4_0 (by rfl) ?_
  refine mi_if_gt (tgt := 15) h dJ6_numberOfLeadingZeros_0f7a4_1 (by decide) ⟨by omega, by omega⟩ (fun e1 => ?_) (fun e1 => ?_)
  · refine mi_bipush h dJ6_numberOfLeadingZeros_0f7a4_15 (by decide) ?_
    refine mi_istore_n h dJ6_numberOfLeadingZeros_0f7a4_17 (by decide) ?_
    refine mi_iload_n h dJ6_numberOfLeadingZeros_0f7a4_18 (by rfl) ?_
    refine mi_ldc_w (z := 65536) h dJ6_numberOfLeadingZeros_0f7a4_19 kc_RJ6_264 rfl ?_
    refine mi_icmp_lt (tgt := 33) h dJ6_numberOfLeadingZeros_0f7a4_22 (by decide) ⟨by omega, by omega⟩ ⟨by omega, by omega⟩ (fun e22 => ?_) (fun e22 => ?_)
    · refine mi_iload_n h dJ6_numberOfLeadingZeros_0f7a4_33 (by rfl) ?_
      refine mi_sipush h dJ6_numberOfLeadingZeros_0f7a4_34 (by decide) ?_
      refine mi_icmp_lt (tgt := 48) h dJ6_numberOfLeadingZeros_0f7a4_37 (by decide) ⟨by omega, by omega⟩ ⟨by omega, by omega⟩ (fun e37 => ?_) (fun e37 => ?_)
      · refine mi_iload_n h dJ6_numberOfLeadingZeros_0f7a4_48 (by rfl) ?_
        refine mi_bipush h dJ6_numberOfLeadingZeros_0f7a4_49 (by decide) ?_
        refine mi_icmp_lt (tgt := 61) h dJ6_numberOfLeadingZeros_0f7a4_51 (by decide) ⟨by omega, by omega⟩ ⟨by omega, by omega⟩ (fun e51 => ?_) (fun e51 => ?_)
        · refine mi_iload_n h dJ6_numberOfLeadingZeros_0f7a4_61 (by rfl) ?_
          refine mi_iconst h dJ6_numberOfLeadingZeros_0f7a4_62 ?_
          refine mi_icmp_lt (tgt := 73) h dJ6_numberOfLeadingZeros_0f7a4_63 (by decide) ⟨by omega, by omega⟩ ⟨by omega, by omega⟩ (fun e63 => ?_) (fun e63 => ?_)
          · refine mi_iload_n h dJ6_numberOfLeadingZeros_0f7a4_73 (by rfl) ?_
            refine mi_iload_n h dJ6_numberOfLeadingZeros_0f7a4_74 (by rfl) ?_
            refine mi_iconst h dJ6_numberOfLeadingZeros_0f7a4_75 ?_
            refine mi_iushr h dJ6_numberOfLeadingZeros_0f7a4_76 (us_1 ⟨by omega, by omega⟩) ?_
            refine mi_isub h dJ6_numberOfLeadingZeros_0f7a4_77 ?_
            refine mt_i (fun y ey => ?_)
            refine mi_ireturn h hr dJ6_numberOfLeadingZeros_0f7a4_78 ?_
            first | (have q9 : y = 0 ∨ y = 1 := (by omega); rcases q9 with q | q <;> subst q <;> first | exact ⟨rfl, by decide, by decide, lz_0 ⟨by omega, by omega⟩⟩ | exact ⟨rfl, by decide, by decide, lz_1 ⟨by omega, by omega⟩⟩) | (have q9 : y = 2 ∨ y = 3 := (by omega); rcases q9 with q | q <;> subst q <;> first | exact ⟨rfl, by decide, by decide, lz_2 ⟨by omega, by omega⟩⟩ | exact ⟨rfl, by decide, by decide, lz_3 ⟨by omega, by omega⟩⟩) | (have q9 : y = 4 ∨ y = 5 := (by omega); rcases q9 with q | q <;> subst q <;> first | exact ⟨rfl, by decide, by decide, lz_4 ⟨by omega, by omega⟩⟩ | exact ⟨rfl, by decide, by decide, lz_5 ⟨by omega, by omega⟩⟩) | (have q9 : y = 6 ∨ y = 7 := (by omega); rcases q9 with q | q <;> subst q <;> first | exact ⟨rfl, by decide, by decide, lz_6 ⟨by omega, by omega⟩⟩ | exact ⟨rfl, by decide, by decide, lz_7 ⟨by omega, by omega⟩⟩) | (have q9 : y = 8 ∨ y = 9 := (by omega); rcases q9 with q | q <;> subst q <;> first | exact ⟨rfl, by decide, by decide, lz_8 ⟨by omega, by omega⟩⟩ | exact ⟨rfl, by decide, by decide, lz_9 ⟨by omega, by omega⟩⟩) | (have q9 : y = 10 ∨ y = 11 := (by omega); rcases q9 with q | q <;> subst q <;> first | exact ⟨rfl, by decide, by decide, lz_10 ⟨by omega, by omega⟩⟩ | exact ⟨rfl, by decide, by decide, lz_11 ⟨by omega, by omega⟩⟩) | (have q9 : y = 12 ∨ y = 13 := (by omega); rcases q9 with q | q <;> subst q <;> first | exact ⟨rfl, by decide, by decide, lz_12 ⟨by omega, by omega⟩⟩ | exact ⟨rfl, by decide, by decide, lz_13 ⟨by omega, by omega⟩⟩) | (have q9 : y = 14 ∨ y = 15 := (by omega); rcases q9 with q | q <;> subst q <;> first | exact ⟨rfl, by decide, by decide, lz_14 ⟨by omega, by omega⟩⟩ | exact ⟨rfl, by decide, by decide, lz_15 ⟨by omega, by omega⟩⟩) | (have q9 : y = 16 ∨ y = 17 := (by omega); rcases q9 with q | q <;> subst q <;> first | exact ⟨rfl, by decide, by decide, lz_16 ⟨by omega, by omega⟩⟩ | exact ⟨rfl, by decide, by decide, lz_17 ⟨by omega, by omega⟩⟩) | (have q9 : y = 18 ∨ y = 19 := (by omega); rcases q9 with q | q <;> subst q <;> first | exact ⟨rfl, by decide, by decide, lz_18 ⟨by omega, by omega⟩⟩ | exact ⟨rfl, by decide, by decide, lz_19 ⟨by omega, by omega⟩⟩) | (have q9 : y = 20 ∨ y = 21 := (by omega); rcases q9 with q | q <;> subst q <;> first | exact ⟨rfl, by decide, by decide, lz_20 ⟨by omega, by omega⟩⟩ | exact ⟨rfl, by decide, by decide, lz_21 ⟨by omega, by omega⟩⟩) | (have q9 : y = 22 ∨ y = 23 := (by omega); rcases q9 with q | q <;> subst q <;> first | exact ⟨rfl, by decide, by decide, lz_22 ⟨by omega, by omega⟩⟩ | exact ⟨rfl, by decide, by decide, lz_23 ⟨by omega, by omega⟩⟩) | (have q9 : y = 24 ∨ y = 25 := (by omega); rcases q9 with q | q <;> subst q <;> first | exact ⟨rfl, by decide, by decide, lz_24 ⟨by omega, by omega⟩⟩ | exact ⟨rfl, by decide, by decide, lz_25 ⟨by omega, by omega⟩⟩) | (have q9 : y = 26 ∨ y = 27 := (by omega); rcases q9 with q | q <;> subst q <;> first | exact ⟨rfl, by decide, by decide, lz_26 ⟨by omega, by omega⟩⟩ | exact ⟨rfl, by decide, by decide, lz_27 ⟨by omega, by omega⟩⟩) | (have q9 : y = 28 ∨ y = 29 := (by omega); rcases q9 with q | q <;> subst q <;> first | exact ⟨rfl, by decide, by decide, lz_28 ⟨by omega, by omega⟩⟩ | exact ⟨rfl, by decide, by decide, lz_29 ⟨by omega, by omega⟩⟩) | (have q9 : y = 30 ∨ y = 31 := (by omega); rcases q9 with q | q <;> subst q <;> first | exact ⟨rfl, by decide, by decide, lz_30 ⟨by omega, by omega⟩⟩ | exact ⟨rfl, by decide, by decide, lz_31 ⟨by omega, by omega⟩⟩)
          · refine mi_iinc h dJ6_numberOfLeadingZeros_0f7a4_66 (by rfl) ?_ (by decide)
            refine mi_iload_n h dJ6_numberOfLeadingZeros_0f7a4_69 (by rfl) ?_
            refine mi_iconst h dJ6_numberOfLeadingZeros_0f7a4_70 ?_
            refine mi_iushr h dJ6_numberOfLeadingZeros_0f7a4_71 (us_2 ⟨by omega, by omega⟩) ?_
            refine mi_istore_n h dJ6_numberOfLeadingZeros_0f7a4_72 (by decide) ?_
            refine mi_iload_n h dJ6_numberOfLeadingZeros_0f7a4_73 (by rfl) ?_
            refine mi_iload_n h dJ6_numberOfLeadingZeros_0f7a4_74 (by rfl) ?_
            refine mi_iconst h dJ6_numberOfLeadingZeros_0f7a4_75 ?_
            refine mi_iushr h dJ6_numberOfLeadingZeros_0f7a4_76 (us_1 ⟨by omega, by omega⟩) ?_
            refine mi_isub h dJ6_numberOfLeadingZeros_0f7a4_77 ?_
            refine mt_i (fun y ey => ?_)
            refine mi_ireturn h hr dJ6_numberOfLeadingZeros_0f7a4_78 ?_
            first | (have q9 : y = 0 ∨ y = 1 := (by omega); rcases q9 with q | q <;> subst q <;> first | exact ⟨rfl, by decide, by decide, lz_0 ⟨by omega, by omega⟩⟩ | exact ⟨rfl, by decide, by decide, lz_1 ⟨by omega, by omega⟩⟩) | (have q9 : y = 2 ∨ y = 3 := (by omega); rcases q9 with q | q <;> subst q <;> first | exact ⟨rfl, by decide, by decide, lz_2 ⟨by omega, by omega⟩⟩ | exact ⟨rfl, by decide, by decide, lz_3 ⟨by omega, by omega⟩⟩) | (have q9 : y = 4 ∨ y = 5 := (by omega); rcases q9 with q | q <;> subst q <;> first | exact ⟨rfl, by decide, by decide, lz_4 ⟨by omega, by omega⟩⟩ | exact ⟨rfl, by decide, by decide, lz_5 ⟨by omega, by omega⟩⟩) | (have q9 : y = 6 ∨ y = 7 := (by omega); rcases q9 with q | q <;> subst q <;> first | exact ⟨rfl, by decide, by decide, lz_6 ⟨by omega, by omega⟩⟩ | exact ⟨rfl, by decide, by decide, lz_7 ⟨by omega, by omega⟩⟩) | (have q9 : y = 8 ∨ y = 9 := (by omega); rcases q9 with q | q <;> subst q <;> first | exact ⟨rfl, by decide, by decide, lz_8 ⟨by omega, by omega⟩⟩ | exact ⟨rfl, by decide, by decide, lz_9 ⟨by omega, by omega⟩⟩) | (have q9 : y = 10 ∨ y = 11 := (by omega); rcases q9 with q | q <;> subst q <;> first | exact ⟨rfl, by decide, by decide, lz_10 ⟨by omega, by omega⟩⟩ | exact ⟨rfl, by decide, by decide, lz_11 ⟨by omega, by omega⟩⟩) | (have q9 : y = 12 ∨ y = 13 := (by omega); rcases q9 with q | q <;> subst q <;> first | exact ⟨rfl, by decide, by decide, lz_12 ⟨by omega, by omega⟩⟩ | exact ⟨rfl, by decide, by decide, lz_13 ⟨by omega, by omega⟩⟩) | (have q9 : y = 14 ∨ y = 15 := (by omega); rcases q9 with q | q <;> subst q <;> first | exact ⟨rfl, by decide, by decide, lz_14 ⟨by omega, by omega⟩⟩ | exact ⟨rfl, by decide, by decide, lz_15 ⟨by omega, by omega⟩⟩) | (have q9 : y = 16 ∨ y = 17 := (by omega); rcases q9 with q | q <;> subst q <;> first | exact ⟨rfl, by decide, by decide, lz_16 ⟨by omega, by omega⟩⟩ | exact ⟨rfl, by decide, by decide, lz_17 ⟨by omega, by omega⟩⟩) | (have q9 : y = 18 ∨ y = 19 := (by omega); rcases q9 with q | q <;> subst q <;> first | exact ⟨rfl, by decide, by decide, lz_18 ⟨by omega, by omega⟩⟩ | exact ⟨rfl, by decide, by decide, lz_19 ⟨by omega, by omega⟩⟩) | (have q9 : y = 20 ∨ y = 21 := (by omega); rcases q9 with q | q <;> subst q <;> first | exact ⟨rfl, by decide, by decide, lz_20 ⟨by omega, by omega⟩⟩ | exact ⟨rfl, by decide, by decide, lz_21 ⟨by omega, by omega⟩⟩) | (have q9 : y = 22 ∨ y = 23 := (by omega); rcases q9 with q | q <;> subst q <;> first | exact ⟨rfl, by decide, by decide, lz_22 ⟨by omega, by omega⟩⟩ | exact ⟨rfl, by decide, by decide, lz_23 ⟨by omega, by omega⟩⟩) | (have q9 : y = 24 ∨ y = 25 := (by omega); rcases q9 with q | q <;> subst q <;> first | exact ⟨rfl, by decide, by decide, lz_24 ⟨by omega, by omega⟩⟩ | exact ⟨rfl, by decide, by decide, lz_25 ⟨by omega, by omega⟩⟩) | (have q9 : y = 26 ∨ y = 27 := (by omega); rcases q9 with q | q <;> subst q <;> first | exact ⟨rfl, by decide, by decide, lz_26 ⟨by omega, by omega⟩⟩ | exact ⟨rfl, by decide, by decide, lz_27 ⟨by omega, by omega⟩⟩) | (have q9 : y = 28 ∨ y = 29 := (by omega); rcases q9 with q | q <;> subst q <;> first | exact ⟨rfl, by decide, by decide, lz_28 ⟨by omega, by omega⟩⟩ | exact ⟨rfl, by decide, by decide, lz_29 ⟨by omega, by omega⟩⟩) | (have q9 : y = 30 ∨ y = 31 := (by omega); rcases q9 with q | q <;> subst q <;> first | exact ⟨rfl, by decide, by decide, lz_30 ⟨by omega, by omega⟩⟩ | exact ⟨rfl, by decide, by decide, lz_31 ⟨by omega, by omega⟩⟩)
        · refine mi_iinc h dJ6_numberOfLeadingZeros_0f7a4_54 (by rfl) ?_ (by decide)
          refine mi_iload_n h dJ6_numberOfLeadingZeros_0f7a4_57 (by rfl) ?_
          refine mi_iconst h dJ6_numberOfLeadingZeros_0f7a4_58 ?_
          refine mi_iushr h dJ6_numberOfLeadingZeros_0f7a4_59 (us_4 ⟨by omega, by omega⟩) ?_
          refine mi_istore_n h dJ6_numberOfLeadingZeros_0f7a4_60 (by decide) ?_
          refine mi_iload_n h dJ6_numberOfLeadingZeros_0f7a4_61 (by rfl) ?_
          refine mi_iconst h dJ6_numberOfLeadingZeros_0f7a4_62 ?_
          refine mi_icmp_lt (tgt := 73) h dJ6_numberOfLeadingZeros_0f7a4_63 (by decide) ⟨by omega, by omega⟩ ⟨by omega, by omega⟩ (fun e63 => ?_) (fun e63 => ?_)
          · refine mi_iload_n h dJ6_numberOfLeadingZeros_0f7a4_73 (by rfl) ?_
            refine mi_iload_n h dJ6_numberOfLeadingZeros_0f7a4_74 (by rfl) ?_
            refine mi_iconst h dJ6_numberOfLeadingZeros_0f7a4_75 ?_
            refine mi_iushr h dJ6_numberOfLeadingZeros_0f7a4_76 (us_1 ⟨by omega, by omega⟩) ?_
            refine mi_isub h dJ6_numberOfLeadingZeros_0f7a4_77 ?_
            refine mt_i (fun y ey => ?_)
            refine mi_ireturn h hr dJ6_numberOfLeadingZeros_0f7a4_78 ?_
            first | (have q9 : y = 0 ∨ y = 1 := (by omega); rcases q9 with q | q <;> subst q <;> first | exact ⟨rfl, by decide, by decide, lz_0 ⟨by omega, by omega⟩⟩ | exact ⟨rfl, by decide, by decide, lz_1 ⟨by omega, by omega⟩⟩) | (have q9 : y = 2 ∨ y = 3 := (by omega); rcases q9 with q | q <;> subst q <;> first | exact ⟨rfl, by decide, by decide, lz_2 ⟨by omega, by omega⟩⟩ | exact ⟨rfl, by decide, by decide, lz_3 ⟨by omega, by omega⟩⟩) | (have q9 : y = 4 ∨ y = 5 := (by omega); rcases q9 with q | q <;> subst q <;> first | exact ⟨rfl, by decide, by decide, lz_4 ⟨by omega, by omega⟩⟩ | exact ⟨rfl, by decide, by decide, lz_5 ⟨by omega, by omega⟩⟩) | (have q9 : y = 6 ∨ y = 7 := (by omega); rcases q9 with q | q <;> subst q <;> first | exact ⟨rfl, by decide, by decide, lz_6 ⟨by omega, by omega⟩⟩ | exact ⟨rfl, by decide, by decide, lz_7 ⟨by omega, by omega⟩⟩) | (have q9 : y = 8 ∨ y = 9 := (by omega); rcases q9 with q | q <;> subst q <;> first | exact ⟨rfl, by decide, by decide, lz_8 ⟨by omega, by omega⟩⟩ | exact ⟨rfl, by decide, by decide, lz_9 ⟨by omega, by omega⟩⟩) | (have q9 : y = 10 ∨ y = 11 := (by omega); rcases q9 with q | q <;> subst q <;> first | exact ⟨rfl, by decide, by decide, lz_10 ⟨by omega, by omega⟩⟩ | exact ⟨rfl, by decide, by decide, lz_11 ⟨by omega, by omega⟩⟩) | (have q9 : y = 12 ∨ y = 13 := (by omega); rcases q9 with q | q <;> subst q <;> first | exact ⟨rfl, by decide, by decide, lz_12 ⟨by omega, by omega⟩⟩ | exact ⟨rfl, by decide, by decide, lz_13 ⟨by omega, by omega⟩⟩) | (have q9 : y = 14 ∨ y = 15 := (by omega); rcases q9 with q | q <;> subst q <;> first | exact ⟨rfl, by decide, by decide, lz_14 ⟨by omega, by omega⟩⟩ | exact ⟨rfl, by decide, by decide, lz_15 ⟨by omega, by omega⟩⟩) | (have q9 : y = 16 ∨ y = 17 := (by omega); rcases q9 with q | q <;> subst q <;> first | exact ⟨rfl, by decide, by decide, lz_16 ⟨by omega, by omega⟩⟩ | exact ⟨rfl, by decide, by decide, lz_17 ⟨by omega, by omega⟩⟩) | (have q9 : y = 18 ∨ y = 19 := (by omega); rcases q9 with q | q <;> subst q <;> first | exact ⟨rfl, by decide, by decide, lz_18 ⟨by omega, by omega⟩⟩ | exact ⟨rfl, by decide, by decide, lz_19 ⟨by omega, by omega⟩⟩) | (have q9 : y = 20 ∨ y = 21 := (by omega); rcases q9 with q | q <;> subst q <;> first | exact ⟨rfl, by decide, by decide, lz_20 ⟨by omega, by omega⟩⟩ | exact ⟨rfl, by decide, by decide, lz_21 ⟨by omega, by omega⟩⟩) | (have q9 : y = 22 ∨ y = 23 := (by omega); rcases q9 with q | q <;> subst q <;> first | exact ⟨rfl, by decide, by decide, lz_22 ⟨by omega, by omega⟩⟩ | exact ⟨rfl, by decide, by decide, lz_23 ⟨by omega, by omega⟩⟩) | (have q9 : y = 24 ∨ y = 25 := (by omega); rcases q9 with q | q <;> subst q <;> first | exact ⟨rfl, by decide, by decide, lz_24 ⟨by omega, by omega⟩⟩ | exact ⟨rfl, by decide, by decide, lz_25 ⟨by omega, by omega⟩⟩) | (have q9 : y = 26 ∨ y = 27 := (by omega); rcases q9 with q | q <;> subst q <;> first | exact ⟨rfl, by decide, by decide, lz_26 ⟨by omega, by omega⟩⟩ | exact ⟨rfl, by decide, by decide, lz_27 ⟨by omega, by omega⟩⟩) | (have q9 : y = 28 ∨ y = 29 := (by omega); rcases q9 with q | q <;> subst q <;> first | exact ⟨rfl, by decide, by decide, lz_28 ⟨by omega, by omega⟩⟩ | exact ⟨rfl, by decide, by decide, lz_29 ⟨by omega, by omega⟩⟩) | (have q9 : y = 30 ∨ y = 31 := (by omega); rcases q9 with q | q <;> subst q <;> first | exact ⟨rfl, by decide, by decide, lz_30 ⟨by omega, by omega⟩⟩ | exact ⟨rfl, by decide, by decide, lz_31 ⟨by omega, by omega⟩⟩)
          · refine mi_iinc h dJ6_numberOfLeadingZeros_0f7a4_66 (by rfl) ?_ (by decide)
            refine mi_iload_n h dJ6_numberOfLeadingZeros_0f7a4_69 (by rfl) ?_
            refine mi_iconst h dJ6_numberOfLeadingZeros_0f7a4_70 ?_
            refine mi_iushr h dJ6_numberOfLeadingZeros_0f7a4_71 (us_2 ⟨by omega, by omega⟩) ?_
            refine mi_istore_n h dJ6_numberOfLeadingZeros_0f7a4_72 (by decide) ?_
            refine mi_iload_n h dJ6_numberOfLeadingZeros_0f7a4_73 (by rfl) ?_
            refine mi_iload_n h dJ6_numberOfLeadingZeros_0f7a4_74 (by rfl) ?_
            refine mi_iconst h dJ6_numberOfLeadingZeros_0f7a4_75 ?_
            refine mi_iushr h dJ6_numberOfLeadingZeros_0f7a4_76 (us_1 ⟨by omega, by omega⟩) ?_
            refine mi_isub h dJ6_numberOfLeadingZeros_0f7a4_77 ?_
            refine mt_i (fun y ey => ?_)
            refine mi_ireturn h hr dJ6_numberOfLeadingZeros_0f7a4_78 ?_
            first | (have q9 : y = 0 ∨ y = 1 := (by omega); rcases q9 with q | q <;> subst q <;> first | exact ⟨rfl, by decide, by decide, lz_0 ⟨by omega, by omega⟩⟩ | exact ⟨rfl, by decide, by decide, lz_1 ⟨by omega, by omega⟩⟩) | (have q9 : y = 2 ∨ y = 3 := (by omega); rcases q9 with q | q <;> subst q <;> first | exact ⟨rfl, by decide, by decide, lz_2 ⟨by omega, by omega⟩⟩ | exact ⟨rfl, by decide, by decide, lz_3 ⟨by omega, by omega⟩⟩) | (have q9 : y = 4 ∨ y = 5 := (by omega); rcases q9 with q | q <;> subst q <;> first | exact ⟨rfl, by decide, by decide, lz_4 ⟨by omega, by omega⟩⟩ | exact ⟨rfl, by decide, by decide, lz_5 ⟨by omega, by omega⟩⟩) | (have q9 : y = 6 ∨ y = 7 := (by omega); rcases q9 with q | q <;> subst q <;> first | exact ⟨rfl, by decide, by decide, lz_6 ⟨by omega, by omega⟩⟩ | exact ⟨rfl, by decide, by decide, lz_7 ⟨by omega, by omega⟩⟩) | (have q9 : y = 8 ∨ y = 9 := (by omega); rcases q9 with q | q <;> subst q <;> first | exact ⟨rfl, by decide, by decide, lz_8 ⟨by omega, by omega⟩⟩ | exact ⟨rfl, by decide, by decide, lz_9 ⟨by omega, by omega⟩⟩) | (have q9 : y = 10 ∨ y = 11 := (by omega); rcases q9 with q | q <;> subst q <;> first | exact ⟨rfl, by decide, by decide, lz_10 ⟨by omega, by omega⟩⟩ | exact ⟨rfl, by decide, by decide, lz_11 ⟨by omega, by omega⟩⟩) | (have q9 : y = 12 ∨ y = 13 := (by omega); rcases q9 with q | q <;> subst q <;> first | exact ⟨rfl, by decide, by decide, lz_12 ⟨by omega, by omega⟩⟩ | exact ⟨rfl, by decide, by decide, lz_13 ⟨by omega, by omega⟩⟩) | (have q9 : y = 14 ∨ y = 15 := (by omega); rcases q9 with q | q <;> subst q <;> first | exact ⟨rfl, by decide, by decide, lz_14 ⟨by omega, by omega⟩⟩ | exact ⟨rfl, by decide, by decide, lz_15 ⟨by omega, by omega⟩⟩) | (have q9 : y = 16 ∨ y = 17 := (by omega); rcases q9 with q | q <;> subst q <;> first | exact ⟨rfl, by decide, by decide, lz_16 ⟨by omega, by omega⟩⟩ | exact ⟨rfl, by decide, by decide, lz_17 ⟨by omega, by omega⟩⟩) | (have q9 : y = 18 ∨ y = 19 := (by omega); rcases q9 with q | q <;> subst q <;> first | exact ⟨rfl, by decide, by decide, lz_18 ⟨by omega, by omega⟩⟩ | exact ⟨rfl, by decide, by decide, lz_19 ⟨by omega, by omega⟩⟩) | (have q9 : y = 20 ∨ y = 21 := (by omega); rcases q9 with q | q <;> subst q <;> first | exact ⟨rfl, by decide, by decide, lz_20 ⟨by omega, by omega⟩⟩ | exact ⟨rfl, by decide, by decide, lz_21 ⟨by omega, by omega⟩⟩) | (have q9 : y = 22 ∨ y = 23 := (by omega); rcases q9 with q | q <;> subst q <;> first | exact ⟨rfl, by decide, by decide, lz_22 ⟨by omega, by omega⟩⟩ | exact ⟨rfl, by decide, by decide, lz_23 ⟨by omega, by omega⟩⟩) | (have q9 : y = 24 ∨ y = 25 := (by omega); rcases q9 with q | q <;> subst q <;> first | exact ⟨rfl, by decide, by decide, lz_24 ⟨by omega, by omega⟩⟩ | exact ⟨rfl, by decide, by decide, lz_25 ⟨by omega, by omega⟩⟩) | (have q9 : y = 26 ∨ y = 27 := (by omega); rcases q9 with q | q <;> subst q <;> first | exact ⟨rfl, by decide, by decide, lz_26 ⟨by omega, by omega⟩⟩ | exact ⟨rfl, by decide, by decide, lz_27 ⟨by omega, by omega⟩⟩) | (have q9 : y = 28 ∨ y = 29 := (by omega); rcases q9 with q | q <;> subst q <;> first | exact ⟨rfl, by decide, by decide, lz_28 ⟨by omega, by omega⟩⟩ | exact ⟨rfl, by decide, by decide, lz_29 ⟨by omega, by omega⟩⟩) | (have q9 : y = 30 ∨ y = 31 := (by omega); rcases q9 with q | q <;> subst q <;> first | exact ⟨rfl, by decide, by decide, lz_30 ⟨by omega, by omega⟩⟩ | exact ⟨rfl, by decide, by decide, lz_31 ⟨by omega, by omega⟩⟩)
      · refine mi_iinc h dJ6_numberOfLeadingZeros_0f7a4_40 (by rfl) ?_ (by decide)
        refine mi_iload_n h dJ6_numberOfLeadingZeros_0f7a4_43 (by rfl) ?_
        refine mi_bipush h dJ6_numberOfLeadingZeros_0f7a4_44 (by decide) ?_
        refine mi_iushr h dJ6_numberOfLeadingZeros_0f7a4_46 (us_8 ⟨by omega, by omega⟩) ?_
        refine mi_istore_n h dJ6_numberOfLeadingZeros_0f7a4_47 (by decide) ?_
        refine mi_iload_n h dJ6_numberOfLeadingZeros_0f7a4_48 (by rfl) ?_
        refine mi_bipush h dJ6_numberOfLeadingZeros_0f7a4_49 (by decide) ?_
        refine mi_icmp_lt (tgt := 61) h dJ6_numberOfLeadingZeros_0f7a4_51 (by decide) ⟨by omega, by omega⟩ ⟨by omega, by omega⟩ (fun e51 => ?_) (fun e51 => ?_)
        · refine mi_iload_n h dJ6_numberOfLeadingZeros_0f7a4_61 (by rfl) ?_
          refine mi_iconst h dJ6_numberOfLeadingZeros_0f7a4_62 ?_
          refine mi_icmp_lt (tgt := 73) h dJ6_numberOfLeadingZeros_0f7a4_63 (by decide) ⟨by omega, by omega⟩ ⟨by omega, by omega⟩ (fun e63 => ?_) (fun e63 => ?_)
          · refine mi_iload_n h dJ6_numberOfLeadingZeros_0f7a4_73 (by rfl) ?_
            refine mi_iload_n h dJ6_numberOfLeadingZeros_0f7a4_74 (by rfl) ?_
            refine mi_iconst h dJ6_numberOfLeadingZeros_0f7a4_75 ?_
            refine mi_iushr h dJ6_numberOfLeadingZeros_0f7a4_76 (us_1 ⟨by omega, by omega⟩) ?_
            refine mi_isub h dJ6_numberOfLeadingZeros_0f7a4_77 ?_
            refine mt_i (fun y ey => ?_)
            refine mi_ireturn h hr dJ6_numberOfLeadingZeros_0f7a4_78 ?_
            first | (have q9 : y = 0 ∨ y = 1 := (by omega); rcases q9 with q | q <;> subst q <;> first | exact ⟨rfl, by decide, by decide, lz_0 ⟨by omega, by omega⟩⟩ | exact ⟨rfl, by decide, by decide, lz_1 ⟨by omega, by omega⟩⟩) | (have q9 : y = 2 ∨ y = 3 := (by omega); rcases q9 with q | q <;> subst q <;> first | exact ⟨rfl, by decide, by decide, lz_2 ⟨by omega, by omega⟩⟩ | exact ⟨rfl, by decide, by decide, lz_3 ⟨by omega, by omega⟩⟩) | (have q9 : y = 4 ∨ y = 5 := (by omega); rcases q9 with q | q <;> subst q <;> first | exact ⟨rfl, by decide, by decide, lz_4 ⟨by omega, by omega⟩⟩ | exact ⟨rfl, by decide, by decide, lz_5 ⟨by omega, by omega⟩⟩) | (have q9 : y = 6 ∨ y = 7 := (by omega); rcases q9 with q | q <;> subst q <;> first | exact ⟨rfl, by decide, by decide, lz_6 ⟨by omega, by omega⟩⟩ | exact ⟨rfl, by decide, by decide, lz_7 ⟨by omega, by omega⟩⟩) | (have q9 : y = 8 ∨ y = 9 := (by omega); rcases q9 with q | q <;> subst q <;> first | exact ⟨rfl, by decide, by decide, lz_8 ⟨by omega, by omega⟩⟩ | exact ⟨rfl, by decide, by decide, lz_9 ⟨by omega, by omega⟩⟩) | (have q9 : y = 10 ∨ y = 11 := (by omega); rcases q9 with q | q <;> subst q <;> first | exact ⟨rfl, by decide, by decide, lz_10 ⟨by omega, by omega⟩⟩ | exact ⟨rfl, by decide, by decide, lz_11 ⟨by omega, by omega⟩⟩) | (have q9 : y = 12 ∨ y = 13 := (by omega); rcases q9 with q | q <;> subst q <;> first | exact ⟨rfl, by decide, by decide, lz_12 ⟨by omega, by omega⟩⟩ | exact ⟨rfl, by decide, by decide, lz_13 ⟨by omega, by omega⟩⟩) | (have q9 : y = 14 ∨ y = 15 := (by omega); rcases q9 with q | q <;> subst q <;> first | exact ⟨rfl, by decide, by decide, lz_14 ⟨by omega, by omega⟩⟩ | exact ⟨rfl, by decide, by decide, lz_15 ⟨by omega, by omega⟩⟩) | (have q9 : y = 16 ∨ y = 17 := (by omega); rcases q9 with q | q <;> subst q <;> first | exact ⟨rfl, by decide, by decide, lz_16 ⟨by omega, by omega⟩⟩ | exact ⟨rfl, by decide, by decide, lz_17 ⟨by omega, by omega⟩⟩) | (have q9 : y = 18 ∨ y = 19 := (by omega); rcases q9 with q | q <;> subst q <;> first | exact ⟨rfl, by decide, by decide, lz_18 ⟨by omega, by omega⟩⟩ | exact ⟨rfl, by decide, by decide, lz_19 ⟨by omega, by omega⟩⟩) | (have q9 : y = 20 ∨ y = 21 := (by omega); rcases q9 with q | q <;> subst q <;> first | exact ⟨rfl, by decide, by decide, lz_20 ⟨by omega, by omega⟩⟩ | exact ⟨rfl, by decide, by decide, lz_21 ⟨by omega, by omega⟩⟩) | (have q9 : y = 22 ∨ y = 23 := (by omega); rcases q9 with q | q <;> subst q <;> first | exact ⟨rfl, by decide, by decide, lz_22 ⟨by omega, by omega⟩⟩ | exact ⟨rfl, by decide, by decide, lz_23 ⟨by omega, by omega⟩⟩) | (have q9 : y = 24 ∨ y = 25 := (by omega); rcases q9 with q | q <;> subst q <;> first | exact ⟨rfl, by decide, by decide, lz_24 ⟨by omega, by omega⟩⟩ | exact ⟨rfl, by decide, by decide, lz_25 ⟨by omega, by omega⟩⟩) | (have q9 : y = 26 ∨ y = 27 := (by omega); rcases q9 with q | q <;> subst q <;> first | exact ⟨rfl, by decide, by decide, lz_26 ⟨by omega, by omega⟩⟩ | exact ⟨rfl, by decide, by decide, lz_27 ⟨by omega, by omega⟩⟩) | (have q9 : y = 28 ∨ y = 29 := (by omega); rcases q9 with q | q <;> subst q <;> first | exact ⟨rfl, by decide, by decide, lz_28 ⟨by omega, by omega⟩⟩ | exact ⟨rfl, by decide, by decide, lz_29 ⟨by omega, by omega⟩⟩) | (have q9 : y = 30 ∨ y = 31 := (by omega); rcases q9 with q | q <;> subst q <;> first | exact ⟨rfl, by decide, by decide, lz_30 ⟨by omega, by omega⟩⟩ | exact ⟨rfl, by decide, by decide, lz_31 ⟨by omega, by omega⟩⟩)
          · refine mi_iinc h dJ6_numberOfLeadingZeros_0f7a4_66 (by rfl) ?_ (by decide)
            refine mi_iload_n h dJ6_numberOfLeadingZeros_0f7a4_69 (by rfl) ?_
            refine mi_iconst h dJ6_numberOfLeadingZeros_0f7a4_70 ?_
            refine mi_iushr h dJ6_numberOfLeadingZeros_0f7a4_71 (us_2 ⟨by omega, by omega⟩) ?_
            refine mi_istore_n h dJ6_numberOfLeadingZeros_0f7a4_72 (by decide) ?_
            refine mi_iload_n h dJ6_numberOfLeadingZeros_0f7a4_73 (by rfl) ?_
            refine mi_iload_n h dJ6_numberOfLeadingZeros_0f7a4_74 (by rfl) ?_
            refine mi_iconst h dJ6_numberOfLeadingZeros_0f7a4_75 ?_
            refine mi_iushr h dJ6_numberOfLeadingZeros_0f7a4_76 (us_1 ⟨by omega, by omega⟩) ?_
            refine mi_isub h dJ6_numberOfLeadingZeros_0f7a4_77 ?_
            refine mt_i (fun y ey => ?_)
            refine mi_ireturn h hr dJ6_numberOfLeadingZeros_0f7a4_78 ?_
            first | (have q9 : y = 0 ∨ y = 1 := (by omega); rcases q9 with q | q <;> subst q <;> first | exact ⟨rfl, by decide, by decide, lz_0 ⟨by omega, by omega⟩⟩ | exact ⟨rfl, by decide, by decide, lz_1 ⟨by omega, by omega⟩⟩) | (have q9 : y = 2 ∨ y = 3 := (by omega); rcases q9 with q | q <;> subst q <;> first | exact ⟨rfl, by decide, by decide, lz_2 ⟨by omega, by omega⟩⟩ | exact ⟨rfl, by decide, by decide, lz_3 ⟨by omega, by omega⟩⟩) | (have q9 : y = 4 ∨ y = 5 := (by omega); rcases q9 with q | q <;> subst q <;> first | exact ⟨rfl, by decide, by decide, lz_4 ⟨by omega, by omega⟩⟩ | exact ⟨rfl, by decide, by decide, lz_5 ⟨by omega, by omega⟩⟩) | (have q9 : y = 6 ∨ y = 7 := (by omega); rcases q9 with q | q <;> subst q <;> first | exact ⟨rfl, by decide, by decide, lz_6 ⟨by omega, by omega⟩⟩ | exact ⟨rfl, by decide, by decide, lz_7 ⟨by omega, by omega⟩⟩) | (have q9 : y = 8 ∨ y = 9 := (by omega); rcases q9 with q | q <;> subst q <;> first | exact ⟨rfl, by decide, by decide, lz_8 ⟨by omega, by omega⟩⟩ | exact ⟨rfl, by decide, by decide, lz_9 ⟨by omega, by omega⟩⟩) | (have q9 : y = 10 ∨ y = 11 := (by omega); rcases q9 with q | q <;> subst q <;> first | exact ⟨rfl, by decide, by decide, lz_10 ⟨by omega, by omega⟩⟩ | exact ⟨rfl, by decide, by decide, lz_11 ⟨by omega, by omega⟩⟩) | (have q9 : y = 12 ∨ y = 13 := (by omega); rcases q9 with q | q <;> subst q <;> first | exact ⟨rfl, by decide, by decide, lz_12 ⟨by omega, by omega⟩⟩ | exact ⟨rfl, by decide, by decide, lz_13 ⟨by omega, by omega⟩⟩) | (have q9 : y = 14 ∨ y = 15 := (by omega); rcases q9 with q | q <;> subst q <;> first | exact ⟨rfl, by decide, by decide, lz_14 ⟨by omega, by omega⟩⟩ | exact ⟨rfl, by decide, by decide, lz_15 ⟨by omega, by omega⟩⟩) | (have q9 : y = 16 ∨ y = 17 := (by omega); rcases q9 with q | q <;> subst q <;> first | exact ⟨rfl, by decide, by decide, lz_16 ⟨by omega, by omega⟩⟩ | exact ⟨rfl, by decide, by decide, lz_17 ⟨by omega, by omega⟩⟩) | (have q9 : y = 18 ∨ y = 19 := (by omega); rcases q9 with q | q <;> subst q <;> first | exact ⟨rfl, by decide, by decide, lz_18 ⟨by omega, by omega⟩⟩ | exact ⟨rfl, by decide, by decide, lz_19 ⟨by omega, by omega⟩⟩) | (have q9 : y = 20 ∨ y = 21 := (by omega); rcases q9 with q | q <;> subst q <;> first | exact ⟨rfl, by decide, by decide, lz_20 ⟨by omega, by omega⟩⟩ | exact ⟨rfl, by decide, by decide, lz_21 ⟨by omega, by omega⟩⟩) | (have q9 : y = 22 ∨ y = 23 := (by omega); rcases q9 with q | q <;> subst q <;> first | exact ⟨rfl, by decide, by decide, lz_22 ⟨by omega, by omega⟩⟩ | exact ⟨rfl, by decide, by decide, lz_23 ⟨by omega, by omega⟩⟩) | (have q9 : y = 24 ∨ y = 25 := (by omega); rcases q9 with q | q <;> subst q <;> first | exact ⟨rfl, by decide, by decide, lz_24 ⟨by omega, by omega⟩⟩ | exact ⟨rfl, by decide, by decide, lz_25 ⟨by omega, by omega⟩⟩) | (have q9 : y = 26 ∨ y = 27 := (by omega); rcases q9 with q | q <;> subst q <;> first | exact ⟨rfl, by decide, by decide, lz_26 ⟨by omega, by omega⟩⟩ | exact ⟨rfl, by decide, by decide, lz_27 ⟨by omega, by omega⟩⟩) | (have q9 : y = 28 ∨ y = 29 := (by omega); rcases q9 with q | q <;> subst q <;> first | exact ⟨rfl, by decide, by decide, lz_28 ⟨by omega, by omega⟩⟩ | exact ⟨rfl, by decide, by decide, lz_29 ⟨by omega, by omega⟩⟩) | (have q9 : y = 30 ∨ y = 31 := (by omega); rcases q9 with q | q <;> subst q <;> first | exact ⟨rfl, by decide, by decide, lz_30 ⟨by omega, by omega⟩⟩ | exact ⟨rfl, by decide, by decide, lz_31 ⟨by omega, by omega⟩⟩)
        · refine mi_iinc h dJ6_numberOfLeadingZeros_0f7a4_54 (by rfl) ?_ (by decide)
          refine mi_iload_n h dJ6_numberOfLeadingZeros_0f7a4_57 (by rfl) ?_
          refine mi_iconst h dJ6_numberOfLeadingZeros_0f7a4_58 ?_
          refine mi_iushr h dJ6_numberOfLeadingZeros_0f7a4_59 (us_4 ⟨by omega, by omega⟩) ?_
          refine mi_istore_n h dJ6_numberOfLeadingZeros_0f7a4_60 (by decide) ?_
          refine mi_iload_n h dJ6_numberOfLeadingZeros_0f7a4_61 (by rfl) ?_
          refine mi_iconst h dJ6_numberOfLeadingZeros_0f7a4_62 ?_
          refine mi_icmp_lt (tgt := 73) h dJ6_numberOfLeadingZeros_0f7a4_63 (by decide) ⟨by omega, by omega⟩ ⟨by omega, by omega⟩ (fun e63 => ?_) (fun e63 => ?_)
          · refine mi_iload_n h dJ6_numberOfLeadingZeros_0f7a4_73 (by rfl) ?_
            refine mi_iload_n h dJ6_numberOfLeadingZeros_0f7a4_74 (by rfl) ?_
            refine mi_iconst h dJ6_numberOfLeadingZeros_0f7a4_75 ?_
            refine mi_iushr h dJ6_numberOfLeadingZeros_0f7a4_76 (us_1 ⟨by omega, by omega⟩) ?_
            refine mi_isub h dJ6_numberOfLeadingZeros_0f7a4_77 ?_
            refine mt_i (fun y ey => ?_)
            refine mi_ireturn h hr dJ6_numberOfLeadingZeros_0f7a4_78 ?_
            first | (have q9 : y = 0 ∨ y = 1 := (by omega); rcases q9 with q | q <;> subst q <;> first | exact ⟨rfl, by decide, by decide, lz_0 ⟨by omega, by omega⟩⟩ | exact ⟨rfl, by decide, by decide, lz_1 ⟨by omega, by omega⟩⟩) | (have q9 : y = 2 ∨ y = 3 := (by omega); rcases q9 with q | q <;> subst q <;> first | exact ⟨rfl, by decide, by decide, lz_2 ⟨by omega, by omega⟩⟩ | exact ⟨rfl, by decide, by decide, lz_3 ⟨by omega, by omega⟩⟩) | (have q9 : y = 4 ∨ y = 5 := (by omega); rcases q9 with q | q <;> subst q <;> first | exact ⟨rfl, by decide, by decide, lz_4 ⟨by omega, by omega⟩⟩ | exact ⟨rfl, by decide, by decide, lz_5 ⟨by omega, by omega⟩⟩) | (have q9 : y = 6 ∨ y = 7 := (by omega); rcases q9 with q | q <;> subst q <;> first | exact ⟨rfl, by decide, by decide, lz_6 ⟨by omega, by omega⟩⟩ | exact ⟨rfl, by decide, by decide, lz_7 ⟨by omega, by omega⟩⟩) | (have q9 : y = 8 ∨ y = 9 := (by omega); rcases q9 with q | q <;> subst q <;> first | exact ⟨rfl, by decide, by decide, lz_8 ⟨by omega, by omega⟩⟩ | exact ⟨rfl, by decide, by decide, lz_9 ⟨by omega, by omega⟩⟩) | (have q9 : y = 10 ∨ y = 11 := (by omega); rcases q9 with q | q <;> subst q <;> first | exact ⟨rfl, by decide, by decide, lz_10 ⟨by omega, by omega⟩⟩ | exact ⟨rfl, by decide, by decide, lz_11 ⟨by omega, by omega⟩⟩) | (have q9 : y = 12 ∨ y = 13 := (by omega); rcases q9 with q | q <;> subst q <;> first | exact ⟨rfl, by decide, by decide, lz_12 ⟨by omega, by omega⟩⟩ | exact ⟨rfl, by decide, by decide, lz_13 ⟨by omega, by omega⟩⟩) | (have q9 : y = 14 ∨ y = 15 := (by omega); rcases q9 with q | q <;> subst q <;> first | exact ⟨rfl, by decide, by decide, lz_14 ⟨by omega, by omega⟩⟩ | exact ⟨rfl, by decide, by decide, lz_15 ⟨by omega, by omega⟩⟩) | (have q9 : y = 16 ∨ y = 17 := (by omega); rcases q9 with q | q <;> subst q <;> first | exact ⟨rfl, by decide, by decide, lz_16 ⟨by omega, by omega⟩⟩ | exact ⟨rfl, by decide, by decide, lz_17 ⟨by omega, by omega⟩⟩) | (have q9 : y = 18 ∨ y = 19 := (by omega); rcases q9 with q | q <;> subst q <;> first | exact ⟨rfl, by decide, by decide, lz_18 ⟨by omega, by omega⟩⟩ | exact ⟨rfl, by decide, by decide, lz_19 ⟨by omega, by omega⟩⟩) | (have q9 : y = 20 ∨ y = 21 := (by omega); rcases q9 with q | q <;> subst q <;> first | exact ⟨rfl, by decide, by decide, lz_20 ⟨by omega, by omega⟩⟩ | exact ⟨rfl, by decide, by decide, lz_21 ⟨by omega, by omega⟩⟩) | (have q9 : y = 22 ∨ y = 23 := (by omega); rcases q9 with q | q <;> subst q <;> first | exact ⟨rfl, by decide, by decide, lz_22 ⟨by omega, by omega⟩⟩ | exact ⟨rfl, by decide, by decide, lz_23 ⟨by omega, by omega⟩⟩) | (have q9 : y = 24 ∨ y = 25 := (by omega); rcases q9 with q | q <;> subst q <;> first | exact ⟨rfl, by decide, by decide, lz_24 ⟨by omega, by omega⟩⟩ | exact ⟨rfl, by decide, by decide, lz_25 ⟨by omega, by omega⟩⟩) | (have q9 : y = 26 ∨ y = 27 := (by omega); rcases q9 with q | q <;> subst q <;> first | exact ⟨rfl, by decide, by decide, lz_26 ⟨by omega, by omega⟩⟩ | exact ⟨rfl, by decide, by decide, lz_27 ⟨by omega, by omega⟩⟩) | (have q9 : y = 28 ∨ y = 29 := (by omega); rcases q9 with q | q <;> subst q <;> first | exact ⟨rfl, by decide, by decide, lz_28 ⟨by omega, by omega⟩⟩ | exact ⟨rfl, by decide, by decide, lz_29 ⟨by omega, by omega⟩⟩) | (have q9 : y = 30 ∨ y = 31 := (by omega); rcases q9 with q | q <;> subst q <;> first | exact ⟨rfl, by decide, by decide, lz_30 ⟨by omega, by omega⟩⟩ | exact ⟨rfl, by decide, by decide, lz_31 ⟨by omega, by omega⟩⟩)
          · refine mi_iinc h dJ6_numberOfLeadingZeros_0f7a4_66 (by rfl) ?_ (by decide)
            refine mi_iload_n h dJ6_numberOfLeadingZeros_0f7a4_69 (by rfl) ?_
            refine mi_iconst h dJ6_numberOfLeadingZeros_0f7a4_70 ?_
            refine mi_iushr h dJ6_numberOfLeadingZeros_0f7a4_71 (us_2 ⟨by omega, by omega⟩) ?_
            refine mi_istore_n h dJ6_numberOfLeadingZeros_0f7a4_72 (by decide) ?_
            refine mi_iload_n h dJ6_numberOfLeadingZeros_0f7a4_73 (by rfl) ?_
            refine mi_iload_n h dJ6_numberOfLeadingZeros_0f7a4_74 (by rfl) ?_
            refine mi_iconst h dJ6_numberOfLeadingZeros_0f7a4_75 ?_
            refine mi_iushr h dJ6_numberOfLeadingZeros_0f7a4_76 (us_1 ⟨by omega, by omega⟩) ?_
            refine mi_isub h dJ6_numberOfLeadingZeros_0f7a4_77 ?_
            refine mt_i (fun y ey => ?_)
            refine mi_ireturn h hr dJ6_numberOfLeadingZeros_0f7a4_78 ?_
            first | (have q9 : y = 0 ∨ y = 1 := (by omega); rcases q9 with q | q <;> subst q <;> first | exact ⟨rfl, by decide, by decide, lz_0 ⟨by omega, by omega⟩⟩ | exact ⟨rfl, by decide, by decide, lz_1 ⟨by omega, by omega⟩⟩) | (have q9 : y = 2 ∨ y = 3 := (by omega); rcases q9 with q | q <;> subst q <;> first | exact ⟨rfl, by decide, by decide, lz_2 ⟨by omega, by omega⟩⟩ | exact ⟨rfl, by decide, by decide, lz_3 ⟨by omega, by omega⟩⟩) | (have q9 : y = 4 ∨ y = 5 := (by omega); rcases q9 with q | q <;> subst q <;> first | exact ⟨rfl, by decide, by decide, lz_4 ⟨by omega, by omega⟩⟩ | exact ⟨rfl, by decide, by decide, lz_5 ⟨by omega, by omega⟩⟩) | (have q9 : y = 6 ∨ y = 7 := (by omega); rcases q9 with q | q <;> subst q <;> first | exact ⟨rfl, by decide, by decide, lz_6 ⟨by omega, by omega⟩⟩ | exact ⟨rfl, by decide, by decide, lz_7 ⟨by omega, by omega⟩⟩) | (have q9 : y = 8 ∨ y = 9 := (by omega); rcases q9 with q | q <;> subst q <;> first | exact ⟨rfl, by decide, by decide, lz_8 ⟨by omega, by omega⟩⟩ | exact ⟨rfl, by decide, by decide, lz_9 ⟨by omega, by omega⟩⟩) | (have q9 : y = 10 ∨ y = 11 := (by omega); rcases q9 with q | q <;> subst q <;> first | exact ⟨rfl, by decide, by decide, lz_10 ⟨by omega, by omega⟩⟩ | exact ⟨rfl, by decide, by decide, lz_11 ⟨by omega, by omega⟩⟩) | (have q9 : y = 12 ∨ y = 13 := (by omega); rcases q9 with q | q <;> subst q <;> first | exact ⟨rfl, by decide, by decide, lz_12 ⟨by omega, by omega⟩⟩ | exact ⟨rfl, by decide, by decide, lz_13 ⟨by omega, by omega⟩⟩) | (have q9 : y = 14 ∨ y = 15 := (by omega); rcases q9 with q | q <;> subst q <;> first | exact ⟨rfl, by decide, by decide, lz_14 ⟨by omega, by omega⟩⟩ | exact ⟨rfl, by decide, by decide, lz_15 ⟨by omega, by omega⟩⟩) | (have q9 : y = 16 ∨ y = 17 := (by omega); rcases q9 with q | q <;> subst q <;> first | exact ⟨rfl, by decide, by decide, lz_16 ⟨by omega, by omega⟩⟩ | exact ⟨rfl, by decide, by decide, lz_17 ⟨by omega, by omega⟩⟩) | (have q9 : y = 18 ∨ y = 19 := (by omega); rcases q9 with q | q <;> subst q <;> first | exact ⟨rfl, by decide, by decide, lz_18 ⟨by omega, by omega⟩⟩ | exact ⟨rfl, by decide, by decide, lz_19 ⟨by omega, by omega⟩⟩) | (have q9 : y = 20 ∨ y = 21 := (by omega); rcases q9 with q | q <;> subst q <;> first | exact ⟨rfl, by decide, by decide, lz_20 ⟨by omega, by omega⟩⟩ | exact ⟨rfl, by decide, by decide, lz_21 ⟨by omega, by omega⟩⟩) | (have q9 : y = 22 ∨ y = 23 := (by omega); rcases q9 with q | q <;> subst q <;> first | exact ⟨rfl, by decide, by decide, lz_22 ⟨by omega, by omega⟩⟩ | exact ⟨rfl, by decide, by decide, lz_23 ⟨by omega, by omega⟩⟩) | (have q9 : y = 24 ∨ y = 25 := (by omega); rcases q9 with q | q <;> subst q <;> first | exact ⟨rfl, by decide, by decide, lz_24 ⟨by omega, by omega⟩⟩ | exact ⟨rfl, by decide, by decide, lz_25 ⟨by omega, by omega⟩⟩) | (have q9 : y = 26 ∨ y = 27 := (by omega); rcases q9 with q | q <;> subst q <;> first | exact ⟨rfl, by decide, by decide, lz_26 ⟨by omega, by omega⟩⟩ | exact ⟨rfl, by decide, by decide, lz_27 ⟨by omega, by omega⟩⟩) | (have q9 : y = 28 ∨ y = 29 := (by omega); rcases q9 with q | q <;> subst q <;> first | exact ⟨rfl, by decide, by decide, lz_28 ⟨by omega, by omega⟩⟩ | exact ⟨rfl, by decide, by decide, lz_29 ⟨by omega, by omega⟩⟩) | (have q9 : y = 30 ∨ y = 31 := (by omega); rcases q9 with q | q <;> subst q <;> first | exact ⟨rfl, by decide, by decide, lz_30 ⟨by omega, by omega⟩⟩ | exact ⟨rfl, by decide, by decide, lz_31 ⟨by omega, by omega⟩⟩)
    · refine mi_iinc h dJ6_numberOfLeadingZeros_0f7a4_25 (by rfl) ?_ (by decide)
      refine mi_iload_n h dJ6_numberOfLeadingZeros_0f7a4_28 (by rfl) ?_
      refine mi_bipush h dJ6_numberOfLeadingZeros_0f7a4_29 (by decide) ?_
      refine mi_iushr h dJ6_numberOfLeadingZeros_0f7a4_31 (us_16 ⟨by omega, by omega⟩) ?_
      refine mi_istore_n h dJ6_numberOfLeadingZeros_0f7a4_32 (by decide) ?_
      refine mi_iload_n h dJ6_numberOfLeadingZeros_0f7a4_33 (by rfl) ?_
      refine mi_sipush h dJ6_numberOfLeadingZeros_0f7a4_34 (by decide) ?_
      refine mi_icmp_lt (tgt := 48) h dJ6_numberOfLeadingZeros_0f7a4_37 (by decide) ⟨by omega, by omega⟩ ⟨by omega, by omega⟩ (fun e37 => ?_) (fun e37 => ?_)
      · refine mi_iload_n h dJ6_numberOfLeadingZeros_0f7a4_48 (by rfl) ?_
        refine mi_bipush h dJ6_numberOfLeadingZeros_0f7a4_49 (by decide) ?_
        refine mi_icmp_lt (tgt := 61) h dJ6_numberOfLeadingZeros_0f7a4_51 (by decide) ⟨by omega, by omega⟩ ⟨by omega, by omega⟩ (fun e51 => ?_) (fun e51 => ?_)
        · refine mi_iload_n h dJ6_numberOfLeadingZeros_0f7a4_61 (by rfl) ?_
          refine mi_iconst h dJ6_numberOfLeadingZeros_0f7a4_62 ?_
          refine mi_icmp_lt (tgt := 73) h dJ6_numberOfLeadingZeros_0f7a4_63 (by decide) ⟨by omega, by omega⟩ ⟨by omega, by omega⟩ (fun e63 => ?_) (fun e63 => ?_)
          · refine mi_iload_n h dJ6_numberOfLeadingZeros_0f7a4_73 (by rfl) ?_
            refine mi_iload_n h dJ6_numberOfLeadingZeros_0f7a4_74 (by rfl) ?_
            refine mi_iconst h dJ6_numberOfLeadingZeros_0f7a4_75 ?_
            refine mi_iushr h dJ6_numberOfLeadingZeros_0f7a4_76 (us_1 ⟨by omega, by omega⟩) ?_
            refine mi_isub h dJ6_numberOfLeadingZeros_0f7a4_77 ?_
            refine mt_i (fun y ey => ?_)
            refine mi_ireturn h hr dJ6_numberOfLeadingZeros_0f7a4_78 ?_
            first | (have q9 : y = 0 ∨ y = 1 := (by omega); rcases q9 with q | q <;> subst q <;> first | exact ⟨rfl, by decide, by decide, lz_0 ⟨by omega, by omega⟩⟩ | exact ⟨rfl, by decide, by decide, lz_1 ⟨by omega, by omega⟩⟩) | (have q9 : y = 2 ∨ y = 3 := (by omega); rcases q9 with q | q <;> subst q <;> first | exact ⟨rfl, by decide, by decide, lz_2 ⟨by omega, by omega⟩⟩ | exact ⟨rfl, by decide, by decide, lz_3 ⟨by omega, by omega⟩⟩) | (have q9 : y = 4 ∨ y = 5 := (by omega); rcases q9 with q | q <;> subst q <;> first | exact ⟨rfl, by decide, by decide, lz_4 ⟨by omega, by omega⟩⟩ | exact ⟨rfl, by decide, by decide, lz_5 ⟨by omega, by omega⟩⟩) | (have q9 : y = 6 ∨ y = 7 := (by omega); rcases q9 with q | q <;> subst q <;> first | exact ⟨rfl, by decide, by decide, lz_6 ⟨by omega, by omega⟩⟩ | exact ⟨rfl, by decide, by decide, lz_7 ⟨by omega, by omega⟩⟩) | (have q9 : y = 8 ∨ y = 9 := (by omega); rcases q9 with q | q <;> subst q <;> first | exact ⟨rfl, by decide, by decide, lz_8 ⟨by omega, by omega⟩⟩ | exact ⟨rfl, by decide, by decide, lz_9 ⟨by omega, by omega⟩⟩) | (have q9 : y = 10 ∨ y = 11 := (by omega); rcases q9 with q | q <;> subst q <;> first | exact ⟨rfl, by decide, by decide, lz_10 ⟨by omega, by omega⟩⟩ | exact ⟨rfl, by decide, by decide, lz_11 ⟨by omega, by omega⟩⟩) | (have q9 : y = 12 ∨ y = 13 := (by omega); rcases q9 with q | q <;> subst q <;> first | exact ⟨rfl, by decide, by decide, lz_12 ⟨by omega, by omega⟩⟩ | exact ⟨rfl, by decide, by decide, lz_13 ⟨by omega, by omega⟩⟩) | (have q9 : y = 14 ∨ y = 15 := (by omega); rcases q9 with q | q <;> subst q <;> first | exact ⟨rfl, by decide, by decide, lz_14 ⟨by omega, by omega⟩⟩ | exact ⟨rfl, by decide, by decide, lz_15 ⟨by omega, by omega⟩⟩) | (have q9 : y = 16 ∨ y = 17 := (by omega); rcases q9 with q | q <;> subst q <;> first | exact ⟨rfl, by decide, by decide, lz_16 ⟨by omega, by omega⟩⟩ | exact ⟨rfl, by decide, by decide, lz_17 ⟨by omega, by omega⟩⟩) | (have q9 : y = 18 ∨ y = 19 := (by omega); rcases q9 with q | q <;> subst q <;> first | exact ⟨rfl, by decide, by decide, lz_18 ⟨by omega, by omega⟩⟩ | exact ⟨rfl, by decide, by decide, lz_19 ⟨by omega, by omega⟩⟩) | (have q9 : y = 20 ∨ y = 21 := (by omega); rcases q9 with q | q <;> subst q <;> first | exact ⟨rfl, by decide, by decide, lz_20 ⟨by omega, by omega⟩⟩ | exact ⟨rfl, by decide, by decide, lz_21 ⟨by omega, by omega⟩⟩) | (have q9 : y = 22 ∨ y = 23 := (by omega); rcases q9 with q | q <;> subst q <;> first | exact ⟨rfl, by decide, by decide, lz_22 ⟨by omega, by omega⟩⟩ | exact ⟨rfl, by decide, by decide, lz_23 ⟨by omega, by omega⟩⟩) | (have q9 : y = 24 ∨ y = 25 := (by omega); rcases q9 with q | q <;> subst q <;> first | exact ⟨rfl, by decide, by decide, lz_24 ⟨by omega, by omega⟩⟩ | exact ⟨rfl, by decide, by decide, lz_25 ⟨by omega, by omega⟩⟩) | (have q9 : y = 26 ∨ y = 27 := (by omega); rcases q9 with q | q <;> subst q <;> first | exact ⟨rfl, by decide, by decide, lz_26 ⟨by omega, by omega⟩⟩ | exact ⟨rfl, by decide, by decide, lz_27 ⟨by omega, by omega⟩⟩) | (have q9 : y = 28 ∨ y = 29 := (by omega); rcases q9 with q | q <;> subst q <;> first | exact ⟨rfl, by decide, by decide, lz_28 ⟨by omega, by omega⟩⟩ | exact ⟨rfl, by decide, by decide, lz_29 ⟨by omega, by omega⟩⟩) | (have q9 : y = 30 ∨ y = 31 := (by omega); rcases q9 with q | q <;> subst q <;> first | exact ⟨rfl, by decide, by decide, lz_30 ⟨by omega, by omega⟩⟩ | exact ⟨rfl, by decide, by decide, lz_31 ⟨by omega, by omega⟩⟩)
          · refine mi_iinc h dJ6_numberOfLeadingZeros_0f7a4_66 (by rfl) ?_ (by decide)
            refine mi_iload_n h dJ6_numberOfLeadingZeros_0f7a4_69 (by rfl) ?_
            refine mi_iconst h dJ6_numberOfLeadingZeros_0f7a4_70 ?_
            refine mi_iushr h dJ6_numberOfLeadingZeros_0f7a4_71 (us_2 ⟨by omega, by omega⟩) ?_
            refine mi_istore_n h dJ6_numberOfLeadingZeros_0f7a4_72 (by decide) ?_
            refine mi_iload_n h dJ6_numberOfLeadingZeros_0f7a4_73 (by rfl) ?_
            refine mi_iload_n h dJ6_numberOfLeadingZeros_0f7a4_74 (by rfl) ?_
            refine mi_iconst h dJ6_numberOfLeadingZeros_0f7a4_75 ?_
            refine mi_iushr h dJ6_numberOfLeadingZeros_0f7a4_76 (us_1 ⟨by omega, by omega⟩) ?_
            refine mi_isub h dJ6_numberOfLeadingZeros_0f7a4_77 ?_
            refine mt_i (fun y ey => ?_)
            refine mi_ireturn h hr dJ6_numberOfLeadingZeros_0f7a4_78 ?_
            first | (have q9 : y = 0 ∨ y = 1 := (by omega); rcases q9 with q | q <;> subst q <;> first | exact ⟨rfl, by decide, by decide, lz_0 ⟨by omega, by omega⟩⟩ | exact ⟨rfl, by decide, by decide, lz_1 ⟨by omega, by omega⟩⟩) | (have q9 : y = 2 ∨ y = 3 := (by omega); rcases q9 with q | q <;> subst q <;> first | exact ⟨rfl, by decide, by decide, lz_2 ⟨by omega, by omega⟩⟩ | exact ⟨rfl, by decide, by decide, lz_3 ⟨by omega, by omega⟩⟩) | (have q9 : y = 4 ∨ y = 5 := (by omega); rcases q9 with q | q <;> subst q <;> first | exact ⟨rfl, by decide, by decide, lz_4 ⟨by omega, by omega⟩⟩ | exact ⟨rfl, by decide, by decide, lz_5 ⟨by omega, by omega⟩⟩) | (have q9 : y = 6 ∨ y = 7 := (by omega); rcases q9 with q | q <;> subst q <;> first | exact ⟨rfl, by decide, by decide, lz_6 ⟨by omega, by omega⟩⟩ | exact ⟨rfl, by decide, by decide, lz_7 ⟨by omega, by omega⟩⟩) | (have q9 : y = 8 ∨ y = 9 := (by omega); rcases q9 with q | q <;> subst q <;> first | exact ⟨rfl, by decide, by decide, lz_8 ⟨by omega, by omega⟩⟩ | exact ⟨rfl, by decide, by decide, lz_9 ⟨by omega, by omega⟩⟩) | (have q9 : y = 10 ∨ y = 11 := (by omega); rcases q9 with q | q <;> subst q <;> first | exact ⟨rfl, by decide, by decide, lz_10 ⟨by omega, by omega⟩⟩ | exact ⟨rfl, by decide, by decide, lz_11 ⟨by omega, by omega⟩⟩) | (have q9 : y = 12 ∨ y = 13 := (by omega); rcases q9 with q | q <;> subst q <;> first | exact ⟨rfl, by decide, by decide, lz_12 ⟨by omega, by omega⟩⟩ | exact ⟨rfl, by decide, by decide, lz_13 ⟨by omega, by omega⟩⟩) | (have q9 : y = 14 ∨ y = 15 := (by omega); rcases q9 with q | q <;> subst q <;> first | exact ⟨rfl, by decide, by decide, lz_14 ⟨by omega, by omega⟩⟩ | exact ⟨rfl, by decide, by decide, lz_15 ⟨by omega, by omega⟩⟩) | (have q9 : y = 16 ∨ y = 17 := (by omega); rcases q9 with q | q <;> subst q <;> first | exact ⟨rfl, by decide, by decide, lz_16 ⟨by omega, by omega⟩⟩ | exact ⟨rfl, by decide, by decide, lz_17 ⟨by omega, by omega⟩⟩) | (have q9 : y = 18 ∨ y = 19 := (by omega); rcases q9 with q | q <;> subst q <;> first | exact ⟨rfl, by decide, by decide, lz_18 ⟨by omega, by omega⟩⟩ | exact ⟨rfl, by decide, by decide, lz_19 ⟨by omega, by omega⟩⟩) | (have q9 : y = 20 ∨ y = 21 := (by omega); rcases q9 with q | q <;> subst q <;> first | exact ⟨rfl, by decide, by decide, lz_20 ⟨by omega, by omega⟩⟩ | exact ⟨rfl, by decide, by decide, lz_21 ⟨by omega, by omega⟩⟩) | (have q9 : y = 22 ∨ y = 23 := (by omega); rcases q9 with q | q <;> subst q <;> first | exact ⟨rfl, by decide, by decide, lz_22 ⟨by omega, by omega⟩⟩ | exact ⟨rfl, by decide, by decide, lz_23 ⟨by omega, by omega⟩⟩) | (have q9 : y = 24 ∨ y = 25 := (by omega); rcases q9 with q | q <;> subst q <;> first | exact ⟨rfl, by decide, by decide, lz_24 ⟨by omega, by omega⟩⟩ | exact ⟨rfl, by decide, by decide, lz_25 ⟨by omega, by omega⟩⟩) | (have q9 : y = 26 ∨ y = 27 := (by omega); rcases q9 with q | q <;> subst q <;> first | exact ⟨rfl, by decide, by decide, lz_26 ⟨by omega, by omega⟩⟩ | exact ⟨rfl, by decide, by decide, lz_27 ⟨by omega, by omega⟩⟩) | (have q9 : y = 28 ∨ y = 29 := (by omega); rcases q9 with q | q <;> subst q <;> first | exact ⟨rfl, by decide, by decide, lz_28 ⟨by omega, by omega⟩⟩ | exact ⟨rfl, by decide, by decide, lz_29 ⟨by omega, by omega⟩⟩) | (have q9 : y = 30 ∨ y = 31 := (by omega); rcases q9 with q | q <;> subst q <;> first | exact ⟨rfl, by decide, by decide, lz_30 ⟨by omega, by omega⟩⟩ | exact ⟨rfl, by decide, by decide, lz_31 ⟨by omega, by omega⟩⟩)
        · refine mi_iinc h dJ6_numberOfLeadingZeros_0f7a4_54 (by rfl) ?_ (by decide)
          refine mi_iload_n h dJ6_numberOfLeadingZeros_0f7a4_57 (by rfl) ?_
          refine mi_iconst h dJ6_numberOfLeadingZeros_0f7a4_58 ?_
          refine mi_iushr h dJ6_numberOfLeadingZeros_0f7a4_59 (us_4 ⟨by omega, by omega⟩) ?_
          refine mi_istore_n h dJ6_numberOfLeadingZeros_0f7a4_60 (by decide) ?_
          refine mi_iload_n h dJ6_numberOfLeadingZeros_0f7a4_61 (by rfl) ?_
          refine mi_iconst h dJ6_numberOfLeadingZeros_0f7a4_62 ?_
          refine mi_icmp_lt (tgt := 73) h dJ6_numberOfLeadingZeros_0f7a4_63 (by decide) ⟨by omega, by omega⟩ ⟨by omega, by omega⟩ (fun e63 => ?_) (fun e63 => ?_)
          · refine mi_iload_n h dJ6_numberOfLeadingZeros_0f7a4_73 (by rfl) ?_
            refine mi_iload_n h dJ6_numberOfLeadingZeros_0f7a4_74 (by rfl) ?_
            refine mi_iconst h dJ6_numberOfLeadingZeros_0f7a4_75 ?_
            refine mi_iushr h dJ6_numberOfLeadingZeros_0f7a4_76 (us_1 ⟨by omega, by omega⟩) ?_
            refine mi_isub h dJ6_numberOfLeadingZeros_0f7a4_77 ?_
            refine mt_i (fun y ey => ?_)
            refine mi_ireturn h hr dJ6_numberOfLeadingZeros_0f7a4_78 ?_
            first | (have q9 : y = 0 ∨ y = 1 := (by omega); rcases q9 with q | q <;> subst q <;> first | exact ⟨rfl, by decide, by decide, lz_0 ⟨by omega, by omega⟩⟩ | exact ⟨rfl, by decide, by decide, lz_1 ⟨by omega, by omega⟩⟩) | (have q9 : y = 2 ∨ y = 3 := (by omega); rcases q9 with q | q <;> subst q <;> first | exact ⟨rfl, by decide, by decide, lz_2 ⟨by omega, by omega⟩⟩ | exact ⟨rfl, by decide, by decide, lz_3 ⟨by omega, by omega⟩⟩) | (have q9 : y = 4 ∨ y = 5 := (by omega); rcases q9 with q | q <;> subst q <;> first | exact ⟨rfl, by decide, by decide, lz_4 ⟨by omega, by omega⟩⟩ | exact ⟨rfl, by decide, by decide, lz_5 ⟨by omega, by omega⟩⟩) | (have q9 : y = 6 ∨ y = 7 := (by omega); rcases q9 with q | q <;> subst q <;> first | exact ⟨rfl, by decide, by decide, lz_6 ⟨by omega, by omega⟩⟩ | exact ⟨rfl, by decide, by decide, lz_7 ⟨by omega, by omega⟩⟩) | (have q9 : y = 8 ∨ y = 9 := (by omega); rcases q9 with q | q <;> subst q <;> first | exact ⟨rfl, by decide, by decide, lz_8 ⟨by omega, by omega⟩⟩ | exact ⟨rfl, by decide, by decide, lz_9 ⟨by omega, by omega⟩⟩) | (have q9 : y = 10 ∨ y = 11 := (by omega); rcases q9 with q | q <;> subst q <;> first | exact ⟨rfl, by decide, by decide, lz_10 ⟨by omega, by omega⟩⟩ | exact ⟨rfl, by decide, by decide, lz_11 ⟨by omega, by omega⟩⟩) | (have q9 : y = 12 ∨ y = 13 := (by omega); rcases q9 with q | q <;> subst q <;> first | exact ⟨rfl, by decide, by decide, lz_12 ⟨by omega, by omega⟩⟩ | exact ⟨rfl, by decide, by decide, lz_13 ⟨by omega, by omega⟩⟩) | (have q9 : y = 14 ∨ y = 15 := (by omega); rcases q9 with q | q <;> subst q <;> first | exact ⟨rfl, by decide, by decide, lz_14 ⟨by omega, by omega⟩⟩ | exact ⟨rfl, by decide, by decide, lz_15 ⟨by omega, by omega⟩⟩) | (have q9 : y = 16 ∨ y = 17 := (by omega); rcases q9 with q | q <;> subst q <;> first | exact ⟨rfl, by decide, by decide, lz_16 ⟨by omega, by omega⟩⟩ | exact ⟨rfl, by decide, by decide, lz_17 ⟨by omega, by omega⟩⟩) | (have q9 : y = 18 ∨ y = 19 := (by omega); rcases q9 with q | q <;> subst q <;> first | exact ⟨rfl, by decide, by decide, lz_18 ⟨by omega, by omega⟩⟩ | exact ⟨rfl, by decide, by decide, lz_19 ⟨by omega, by omega⟩⟩) | (have q9 : y = 20 ∨ y = 21 := (by omega); rcases q9 with q | q <;> subst q <;> first | exact ⟨rfl, by decide, by decide, lz_20 ⟨by omega, by omega⟩⟩ | exact ⟨rfl, by decide, by decide, lz_21 ⟨by omega, by omega⟩⟩) | (have q9 : y = 22 ∨ y = 23 := (by omega); rcases q9 with q | q <;> subst q <;> first | exact ⟨rfl, by decide, by decide, lz_22 ⟨by omega, by omega⟩⟩ | exact ⟨rfl, by decide, by decide, lz_23 ⟨by omega, by omega⟩⟩) | (have q9 : y = 24 ∨ y = 25 := (by omega); rcases q9 with q | q <;> subst q <;> first | exact ⟨rfl, by decide, by decide, lz_24 ⟨by omega, by omega⟩⟩ | exact ⟨rfl, by decide, by decide, lz_25 ⟨by omega, by omega⟩⟩) | (have q9 : y = 26 ∨ y = 27 := (by omega); rcases q9 with q | q <;> subst q <;> first | exact ⟨rfl, by decide, by decide, lz_26 ⟨by omega, by omega⟩⟩ | exact ⟨rfl, by decide, by decide, lz_27 ⟨by omega, by omega⟩⟩) | (have q9 : y = 28 ∨ y = 29 := (by omega); rcases q9 with q | q <;> subst q <;> first | exact ⟨rfl, by decide, by decide, lz_28 ⟨by omega, by omega⟩⟩ | exact ⟨rfl, by decide, by decide, lz_29 ⟨by omega, by omega⟩⟩) | (have q9 : y = 30 ∨ y = 31 := (by omega); rcases q9 with q | q <;> subst q <;> first | exact ⟨rfl, by decide, by decide, lz_30 ⟨by omega, by omega⟩⟩ | exact ⟨rfl, by decide, by decide, lz_31 ⟨by omega, by omega⟩⟩)
          · refine mi_iinc h dJ6_numberOfLeadingZeros_0f7a4_66 (by rfl) ?_ (by decide)
            refine mi_iload_n h dJ6_numberOfLeadingZeros_0f7a4_69 (by rfl) ?_
            refine mi_iconst h dJ6_numberOfLeadingZeros_0f7a4_70 ?_
            refine mi_iushr h dJ6_numberOfLeadingZeros_0f7a4_71 (us_2 ⟨by omega, by omega⟩) ?_
            refine mi_istore_n h dJ6_numberOfLeadingZeros_0f7a4_72 (by decide) ?_
            refine mi_iload_n h dJ6_numberOfLeadingZeros_0f7a4_73 (by rfl) ?_
            refine mi_iload_n h dJ6_numberOfLeadingZeros_0f7a4_74 (by rfl) ?_
            refine mi_iconst h dJ6_numberOfLeadingZeros_0f7a4_75 ?_
            refine mi_iushr h dJ6_numberOfLeadingZeros_0f7a4_76 (us_1 ⟨by omega, by omega⟩) ?_
            refine mi_isub h dJ6_numberOfLeadingZeros_0f7a4_77 ?_
            refine mt_i (fun y ey => ?_)
            refine mi_ireturn h hr dJ6_numberOfLeadingZeros_0f7a4_78 ?_
            first | (have q9 : y = 0 ∨ y = 1 := (by omega); rcases q9 with q | q <;> subst q <;> first | exact ⟨rfl, by decide, by decide, lz_0 ⟨by omega, by omega⟩⟩ | exact ⟨rfl, by decide, by decide, lz_1 ⟨by omega, by omega⟩⟩) | (have q9 : y = 2 ∨ y = 3 := (by omega); rcases q9 with q | q <;> subst q <;> first | exact ⟨rfl, by decide, by decide, lz_2 ⟨by omega, by omega⟩⟩ | exact ⟨rfl, by decide, by decide, lz_3 ⟨by omega, by omega⟩⟩) | (have q9 : y = 4 ∨ y = 5 := (by omega); rcases q9 with q | q <;> subst q <;> first | exact ⟨rfl, by decide, by decide, lz_4 ⟨by omega, by omega⟩⟩ | exact ⟨rfl, by decide, by decide, lz_5 ⟨by omega, by omega⟩⟩) | (have q9 : y = 6 ∨ y = 7 := (by omega); rcases q9 with q | q <;> subst q <;> first | exact ⟨rfl, by decide, by decide, lz_6 ⟨by omega, by omega⟩⟩ | exact ⟨rfl, by decide, by decide, lz_7 ⟨by omega, by omega⟩⟩) | (have q9 : y = 8 ∨ y = 9 := (by omega); rcases q9 with q | q <;> subst q <;> first | exact ⟨rfl, by decide, by decide, lz_8 ⟨by omega, by omega⟩⟩ | exact ⟨rfl, by decide, by decide, lz_9 ⟨by omega, by omega⟩⟩) | (have q9 : y = 10 ∨ y = 11 := (by omega); rcases q9 with q | q <;> subst q <;> first | exact ⟨rfl, by decide, by decide, lz_10 ⟨by omega, by omega⟩⟩ | exact ⟨rfl, by decide, by decide, lz_11 ⟨by omega, by omega⟩⟩) | (have q9 : y = 12 ∨ y = 13 := (by omega); rcases q9 with q | q <;> subst q <;> first | exact ⟨rfl, by decide, by decide, lz_12 ⟨by omega, by omega⟩⟩ | exact ⟨rfl, by decide, by decide, lz_13 ⟨by omega, by omega⟩⟩) | (have q9 : y = 14 ∨ y = 15 := (by omega); rcases q9 with q | q <;> subst q <;> first | exact ⟨rfl, by decide, by decide, lz_14 ⟨by omega, by omega⟩⟩ | exact ⟨rfl, by decide, by decide, lz_15 ⟨by omega, by omega⟩⟩) | (have q9 : y = 16 ∨ y = 17 := (by omega); rcases q9 with q | q <;> subst q <;> first | exact ⟨rfl, by decide, by decide, lz_16 ⟨by omega, by omega⟩⟩ | exact ⟨rfl, by decide, by decide, lz_17 ⟨by omega, by omega⟩⟩) | (have q9 : y = 18 ∨ y = 19 := (by omega); rcases q9 with q | q <;> subst q <;> first | exact ⟨rfl, by decide, by decide, lz_18 ⟨by omega, by omega⟩⟩ | exact ⟨rfl, by decide, by decide, lz_19 ⟨by omega, by omega⟩⟩) | (have q9 : y = 20 ∨ y = 21 := (by omega); rcases q9 with q | q <;> subst q <;> first | exact ⟨rfl, by decide, by decide, lz_20 ⟨by omega, by omega⟩⟩ | exact ⟨rfl, by decide, by decide, lz_21 ⟨by omega, by omega⟩⟩) | (have q9 : y = 22 ∨ y = 23 := (by omega); rcases q9 with q | q <;> subst q <;> first | exact ⟨rfl, by decide, by decide, lz_22 ⟨by omega, by omega⟩⟩ | exact ⟨rfl, by decide, by decide, lz_23 ⟨by omega, by omega⟩⟩) | (have q9 : y = 24 ∨ y = 25 := (by omega); rcases q9 with q | q <;> subst q <;> first | exact ⟨rfl, by decide, by decide, lz_24 ⟨by omega, by omega⟩⟩ | exact ⟨rfl, by decide, by decide, lz_25 ⟨by omega, by omega⟩⟩) | (have q9 : y = 26 ∨ y = 27 := (by omega); rcases q9 with q | q <;> subst q <;> first | exact ⟨rfl, by decide, by decide, lz_26 ⟨by omega, by omega⟩⟩ | exact ⟨rfl, by decide, by decide, lz_27 ⟨by omega, by omega⟩⟩) | (have q9 : y = 28 ∨ y = 29 := (by omega); rcases q9 with q | q <;> subst q <;> first | exact ⟨rfl, by decide, by decide, lz_28 ⟨by omega, by omega⟩⟩ | exact ⟨rfl, by decide, by decide, lz_29 ⟨by omega, by omega⟩⟩) | (have q9 : y = 30 ∨ y = 31 := (by omega); rcases q9 with q | q <;> subst q <;> first | exact ⟨rfl, by decide, by decide, lz_30 ⟨by omega, by omega⟩⟩ | exact ⟨rfl, by decide, by decide, lz_31 ⟨by omega, by omega⟩⟩)
      · refine mi_iinc h dJ6_numberOfLeadingZeros_0f7a4_40 (by rfl) ?_ (by decide)
        refine mi_iload_n h dJ6_numberOfLeadingZeros_0f7a4_43 (by rfl) ?_
        refine mi_bipush h dJ6_numberOfLeadingZeros_0f7a4_44 (by decide) ?_
        refine mi_iushr h dJ6_numberOfLeadingZeros_0f7a4_46 (us_8 ⟨by omega, by omega⟩) ?_
        refine mi_istore_n h dJ6_numberOfLeadingZeros_0f7a4_47 (by decide) ?_
        refine mi_iload_n h dJ6_numberOfLeadingZeros_0f7a4_48 (by rfl) ?_
        refine mi_bipush h dJ6_numberOfLeadingZeros_0f7a4_49 (by decide) ?_
        refine mi_icmp_lt (tgt := 61) h dJ6_numberOfLeadingZeros_0f7a4_51 (by decide) ⟨by omega, by omega⟩ ⟨by omega, by omega⟩ (fun e51 => ?_) (fun e51 => ?_)
        · refine mi_iload_n h dJ6_numberOfLeadingZeros_0f7a4_61 (by rfl) ?_
          refine mi_iconst h dJ6_numberOfLeadingZeros_0f7a4_62 ?_
          refine mi_icmp_lt (tgt := 73) h dJ6_numberOfLeadingZeros_0f7a4_63 (by decide) ⟨by omega, by omega⟩ ⟨by omega, by omega⟩ (fun e63 => ?_) (fun e63 => ?_)
          · refine mi_iload_n h dJ6_numberOfLeadingZeros_0f7a4_73 (by rfl) ?_
            refine mi_iload_n h dJ6_numberOfLeadingZeros_0f7a4_74 (by rfl) ?_
            refine mi_iconst h dJ6_numberOfLeadingZeros_0f7a4_75 ?_
            refine mi_iushr h dJ6_numberOfLeadingZeros_0f7a4_76 (us_1 ⟨by omega, by omega⟩) ?_
            refine mi_isub h dJ6_numberOfLeadingZeros_0f7a4_77 ?_
            refine mt_i (fun y ey => ?_)
            refine mi_ireturn h hr dJ6_numberOfLeadingZeros_0f7a4_78 ?_
            first | (have q9 : y = 0 ∨ y = 1 := (by omega); rcases q9 with q | q <;> subst q <;> first | exact ⟨rfl, by decide, by decide, lz_0 ⟨by omega, by omega⟩⟩ | exact ⟨rfl, by decide, by decide, lz_1 ⟨by omega, by omega⟩⟩) | (have q9 : y = 2 ∨ y = 3 := (by omega); rcases q9 with q | q <;> subst q <;> first | exact ⟨rfl, by decide, by decide, lz_2 ⟨by omega, by omega⟩⟩ | exact ⟨rfl, by decide, by decide, lz_3 ⟨by omega, by omega⟩⟩) | (have q9 : y = 4 ∨ y = 5 := (by omega); rcases q9 with q | q <;> subst q <;> first | exact ⟨rfl, by decide, by decide, lz_4 ⟨by omega, by omega⟩⟩ | exact ⟨rfl, by decide, by decide, lz_5 ⟨by omega, by omega⟩⟩) | (have q9 : y = 6 ∨ y = 7 := (by omega); rcases q9 with q | q <;> subst q <;> first | exact ⟨rfl, by decide, by decide, lz_6 ⟨by omega, by omega⟩⟩ | exact ⟨rfl, by decide, by decide, lz_7 ⟨by omega, by omega⟩⟩) | (have q9 : y = 8 ∨ y = 9 := (by omega); rcases q9 with q | q <;> subst q <;> first | exact ⟨rfl, by decide, by decide, lz_8 ⟨by omega, by omega⟩⟩ | exact ⟨rfl, by decide, by decide, lz_9 ⟨by omega, by omega⟩⟩) | (have q9 : y = 10 ∨ y = 11 := (by omega); rcases q9 with q | q <;> subst q <;> first | exact ⟨rfl, by decide, by decide, lz_10 ⟨by omega, by omega⟩⟩ | exact ⟨rfl, by decide, by decide, lz_11 ⟨by omega, by omega⟩⟩) | (have q9 : y = 12 ∨ y = 13 := (by omega); rcases q9 with q | q <;> subst q <;> first | exact ⟨rfl, by decide, by decide, lz_12 ⟨by omega, by omega⟩⟩ | exact ⟨rfl, by decide, by decide, lz_13 ⟨by omega, by omega⟩⟩) | (have q9 : y = 14 ∨ y = 15 := (by omega); rcases q9 with q | q <;> subst q <;> first | exact ⟨rfl, by decide, by decide, lz_14 ⟨by omega, by omega⟩⟩ | exact ⟨rfl, by decide, by decide, lz_15 ⟨by omega, by omega⟩⟩) | (have q9 : y = 16 ∨ y = 17 := (by omega); rcases q9 with q | q <;> subst q <;> first | exact ⟨rfl, by decide, by decide, lz_16 ⟨by omega, by omega⟩⟩ | exact ⟨rfl, by decide, by decide, lz_17 ⟨by omega, by omega⟩⟩) | (have q9 : y = 18 ∨ y = 19 := (by omega); rcases q9 with q | q <;> subst q <;> first | exact ⟨rfl, by decide, by decide, lz_18 ⟨by omega, by omega⟩⟩ | exact ⟨rfl, by decide, by decide, lz_19 ⟨by omega, by omega⟩⟩) | (have q9 : y = 20 ∨ y = 21 := (by omega); rcases q9 with q | q <;> subst q <;> first | exact ⟨rfl, by decide, by decide, lz_20 ⟨by omega, by omega⟩⟩ | exact ⟨rfl, by decide, by decide, lz_21 ⟨by omega, by omega⟩⟩) | (have q9 : y = 22 ∨ y = 23 := (by omega); rcases q9 with q | q <;> subst q <;> first | exact ⟨rfl, by decide, by decide, lz_22 ⟨by omega, by omega⟩⟩ | exact ⟨rfl, by decide, by decide, lz_23 ⟨by omega, by omega⟩⟩) | (have q9 : y = 24 ∨ y = 25 := (by omega); rcases q9 with q | q <;> subst q <;> first | exact ⟨rfl, by decide, by decide, lz_24 ⟨by omega, by omega⟩⟩ | exact ⟨rfl, by decide, by decide, lz_25 ⟨by omega, by omega⟩⟩) | (have q9 : y = 26 ∨ y = 27 := (by omega); rcases q9 with q | q <;> subst q <;> first | exact ⟨rfl, by decide, by decide, lz_26 ⟨by omega, by omega⟩⟩ | exact ⟨rfl, by decide, by decide, lz_27 ⟨by omega, by omega⟩⟩) | (have q9 : y = 28 ∨ y = 29 := (by omega); rcases q9 with q | q <;> subst q <;> first | exact ⟨rfl, by decide, by decide, lz_28 ⟨by omega, by omega⟩⟩ | exact ⟨rfl, by decide, by decide, lz_29 ⟨by omega, by omega⟩⟩) | (have q9 : y = 30 ∨ y = 31 := (by omega); rcases q9 with q | q <;> subst q <;> first | exact ⟨rfl, by decide, by decide, lz_30 ⟨by omega, by omega⟩⟩ | exact ⟨rfl, by decide, by decide, lz_31 ⟨by omega, by omega⟩⟩)
          · refine mi_iinc h dJ6_numberOfLeadingZeros_0f7a4_66 (by rfl) ?_ (by decide)
            refine mi_iload_n h dJ6_numberOfLeadingZeros_0f7a4_69 (by rfl) ?_
            refine mi_iconst h dJ6_numberOfLeadingZeros_0f7a4_70 ?_
            refine mi_iushr h dJ6_numberOfLeadingZeros_0f7a4_71 (us_2 ⟨by omega, by omega⟩) ?_
            refine mi_istore_n h dJ6_numberOfLeadingZeros_0f7a4_72 (by decide) ?_
            refine mi_iload_n h dJ6_numberOfLeadingZeros_0f7a4_73 (by rfl) ?_
            refine mi_iload_n h dJ6_numberOfLeadingZeros_0f7a4_74 (by rfl) ?_
            refine mi_iconst h dJ6_numberOfLeadingZeros_0f7a4_75 ?_
            refine mi_iushr h dJ6_numberOfLeadingZeros_0f7a4_76 (us_1 ⟨by omega, by omega⟩) ?_
            refine mi_isub h dJ6_numberOfLeadingZeros_0f7a4_77 ?_
            refine mt_i (fun y ey => ?_)
            refine mi_ireturn h hr dJ6_numberOfLeadingZeros_0f7a4_78 ?_
            first | (have q9 : y = 0 ∨ y = 1 := (by omega); rcases q9 with q | q <;> subst q <;> first | exact ⟨rfl, by decide, by decide, lz_0 ⟨by omega, by omega⟩⟩ | exact ⟨rfl, by decide, by decide, lz_1 ⟨by omega, by omega⟩⟩) | (have q9 : y = 2 ∨ y = 3 := (by omega); rcases q9 with q | q <;> subst q <;> first | exact ⟨rfl, by decide, by decide, lz_2 ⟨by omega, by omega⟩⟩ | exact ⟨rfl, by decide, by decide, lz_3 ⟨by omega, by omega⟩⟩) | (have q9 : y = 4 ∨ y = 5 := (by omega); rcases q9 with q | q <;> subst q <;> first | exact ⟨rfl, by decide, by decide, lz_4 ⟨by omega, by omega⟩⟩ | exact ⟨rfl, by decide, by decide, lz_5 ⟨by omega, by omega⟩⟩) | (have q9 : y = 6 ∨ y = 7 := (by omega); rcases q9 with q | q <;> subst q <;> first | exact ⟨rfl, by decide, by decide, lz_6 ⟨by omega, by omega⟩⟩ | exact ⟨rfl, by decide, by decide, lz_7 ⟨by omega, by omega⟩⟩) | (have q9 : y = 8 ∨ y = 9 := (by omega); rcases q9 with q | q <;> subst q <;> first | exact ⟨rfl, by decide, by decide, lz_8 ⟨by omega, by omega⟩⟩ | exact ⟨rfl, by decide, by decide, lz_9 ⟨by omega, by omega⟩⟩) | (have q9 : y = 10 ∨ y = 11 := (by omega); rcases q9 with q | q <;> subst q <;> first | exact ⟨rfl, by decide, by decide, lz_10 ⟨by omega, by omega⟩⟩ | exact ⟨rfl, by decide, by decide, lz_11 ⟨by omega, by omega⟩⟩) | (have q9 : y = 12 ∨ y = 13 := (by omega); rcases q9 with q | q <;> subst q <;> first | exact ⟨rfl, by decide, by decide, lz_12 ⟨by omega, by omega⟩⟩ | exact ⟨rfl, by decide, by decide, lz_13 ⟨by omega, by omega⟩⟩) | (have q9 : y = 14 ∨ y = 15 := (by omega); rcases q9 with q | q <;> subst q <;> first | exact ⟨rfl, by decide, by decide, lz_14 ⟨by omega, by omega⟩⟩ | exact ⟨rfl, by decide, by decide, lz_15 ⟨by omega, by omega⟩⟩) | (have q9 : y = 16 ∨ y = 17 := (by omega); rcases q9 with q | q <;> subst q <;> first | exact ⟨rfl, by decide, by decide, lz_16 ⟨by omega, by omega⟩⟩ | exact ⟨rfl, by decide, by decide, lz_17 ⟨by omega, by omega⟩⟩) | (have q9 : y = 18 ∨ y = 19 := (by omega); rcases q9 with q | q <;> subst q <;> first | exact ⟨rfl, by decide, by decide, lz_18 ⟨by omega, by omega⟩⟩ | exact ⟨rfl, by decide, by decide, lz_19 ⟨by omega, by omega⟩⟩) | (have q9 : y = 20 ∨ y = 21 := (by omega); rcases q9 with q | q <;> subst q <;> first | exact ⟨rfl, by decide, by decide, lz_20 ⟨by omega, by omega⟩⟩ | exact ⟨rfl, by decide, by decide, lz_21 ⟨by omega, by omega⟩⟩) | (have q9 : y = 22 ∨ y = 23 := (by omega); rcases q9 with q | q <;> subst q <;> first | exact ⟨rfl, by decide, by decide, lz_22 ⟨by omega, by omega⟩⟩ | exact ⟨rfl, by decide, by decide, lz_23 ⟨by omega, by omega⟩⟩) | (have q9 : y = 24 ∨ y = 25 := (by omega); rcases q9 with q | q <;> subst q <;> first | exact ⟨rfl, by decide, by decide, lz_24 ⟨by omega, by omega⟩⟩ | exact ⟨rfl, by decide, by decide, lz_25 ⟨by omega, by omega⟩⟩) | (have q9 : y = 26 ∨ y = 27 := (by omega); rcases q9 with q | q <;> subst q <;> first | exact ⟨rfl, by decide, by decide, lz_26 ⟨by omega, by omega⟩⟩ | exact ⟨rfl, by decide, by decide, lz_27 ⟨by omega, by omega⟩⟩) | (have q9 : y = 28 ∨ y = 29 := (by omega); rcases q9 with q | q <;> subst q <;> first | exact ⟨rfl, by decide, by decide, lz_28 ⟨by omega, by omega⟩⟩ | exact ⟨rfl, by decide, by decide, lz_29 ⟨by omega, by omega⟩⟩) | (have q9 : y = 30 ∨ y = 31 := (by omega); rcases q9 with q | q <;> subst q <;> first | exact ⟨rfl, by decide, by decide, lz_30 ⟨by omega, by omega⟩⟩ | exact ⟨rfl, by decide, by decide, lz_31 ⟨by omega, by omega⟩⟩)
        · refine mi_iinc h dJ6_numberOfLeadingZeros_0f7a4_54 (by rfl) ?_ (by decide)
          refine mi_iload_n h dJ6_numberOfLeadingZeros_0f7a4_57 (by rfl) ?_
          refine mi_iconst h dJ6_numberOfLeadingZeros_0f7a4_58 ?_
          refine mi_iushr h dJ6_numberOfLeadingZeros_0f7a4_59 (us_4 ⟨by omega, by omega⟩) ?_
          refine mi_istore_n h dJ6_numberOfLeadingZeros_0f7a4_60 (by decide) ?_
          refine mi_iload_n h dJ6_numberOfLeadingZeros_0f7a4_61 (by rfl) ?_
          refine mi_iconst h dJ6_numberOfLeadingZeros_0f7a4_62 ?_
          refine mi_icmp_lt (tgt := 73) h dJ6_numberOfLeadingZeros_0f7a4_63 (by decide) ⟨by omega, by omega⟩ ⟨by omega, by omega⟩ (fun e63 => ?_) (fun e63 => ?_)
          · refine mi_iload_n h dJ6_numberOfLeadingZeros_0f7a4_73 (by rfl) ?_
            refine mi_iload_n h dJ6_numberOfLeadingZeros_0f7a4_74 (by rfl) ?_
            refine mi_iconst h dJ6_numberOfLeadingZeros_0f7a4_75 ?_
            refine mi_iushr h dJ6_numberOfLeadingZeros_0f7a4_76 (us_1 ⟨by omega, by omega⟩) ?_
            refine mi_isub h dJ6_numberOfLeadingZeros_0f7a4_77 ?_
            refine mt_i (fun y ey => ?_)
            refine mi_ireturn h hr dJ6_numberOfLeadingZeros_0f7a4_78 ?_
            first | (have q9 : y = 0 ∨ y = 1 := (by omega); rcases q9 with q | q <;> subst q <;> first | exact ⟨rfl, by decide, by decide, lz_0 ⟨by omega, by omega⟩⟩ | exact ⟨rfl, by decide, by decide, lz_1 ⟨by omega, by omega⟩⟩) | (have q9 : y = 2 ∨ y = 3 := (by omega); rcases q9 with q | q <;> subst q <;> first | exact ⟨rfl, by decide, by decide, lz_2 ⟨by omega, by omega⟩⟩ | exact ⟨rfl, by decide, by decide, lz_3 ⟨by omega, by omega⟩⟩) | (have q9 : y = 4 ∨ y = 5 := (by omega); rcases q9 with q | q <;> subst q <;> first | exact ⟨rfl, by decide, by decide, lz_4 ⟨by omega, by omega⟩⟩ | exact ⟨rfl, by decide, by decide, lz_5 ⟨by omega, by omega⟩⟩) | (have q9 : y = 6 ∨ y = 7 := (by omega); rcases q9 with q | q <;> subst q <;> first | exact ⟨rfl, by decide, by decide, lz_6 ⟨by omega, by omega⟩⟩ | exact ⟨rfl, by decide, by decide, lz_7 ⟨by omega, by omega⟩⟩) | (have q9 : y = 8 ∨ y = 9 := (by omega); rcases q9 with q | q <;> subst q <;> first | exact ⟨rfl, by decide, by decide, lz_8 ⟨by omega, by omega⟩⟩ | exact ⟨rfl, by decide, by decide, lz_9 ⟨by omega, by omega⟩⟩) | (have q9 : y = 10 ∨ y = 11 := (by omega); rcases q9 with q | q <;> subst q <;> first | exact ⟨rfl, by decide, by decide, lz_10 ⟨by omega, by omega⟩⟩ | exact ⟨rfl, by decide, by decide, lz_11 ⟨by omega, by omega⟩⟩) | (have q9 : y = 12 ∨ y = 13 := (by omega); rcases q9 with q | q <;> subst q <;> first | exact ⟨rfl, by decide, by decide, lz_12 ⟨by omega, by omega⟩⟩ | exact ⟨rfl, by decide, by decide, lz_13 ⟨by omega, by omega⟩⟩) | (have q9 : y = 14 ∨ y = 15 := (by omega); rcases q9 with q | q <;> subst q <;> first | exact ⟨rfl, by decide, by decide, lz_14 ⟨by omega, by omega⟩⟩ | exact ⟨rfl, by decide, by decide, lz_15 ⟨by omega, by omega⟩⟩) | (have q9 : y = 16 ∨ y = 17 := (by omega); rcases q9 with q | q <;> subst q <;> first | exact ⟨rfl, by decide, by decide, lz_16 ⟨by omega, by omega⟩⟩ | exact ⟨rfl, by decide, by decide, lz_17 ⟨by omega, by omega⟩⟩) | (have q9 : y = 18 ∨ y = 19 := (by omega); rcases q9 with q | q <;> subst q <;> first | exact ⟨rfl, by decide, by decide, lz_18 ⟨by omega, by omega⟩⟩ | exact ⟨rfl, by decide, by decide, lz_19 ⟨by omega, by omega⟩⟩) | (have q9 : y = 20 ∨ y = 21 := (by omega); rcases q9 with q | q <;> subst q <;> first | exact ⟨rfl, by decide, by decide, lz_20 ⟨by omega, by omega⟩⟩ | exact ⟨rfl, by decide, by decide, lz_21 ⟨by omega, by omega⟩⟩) | (have q9 : y = 22 ∨ y = 23 := (by omega); rcases q9 with q | q <;> subst q <;> first | exact ⟨rfl, by decide, by decide, lz_22 ⟨by omega, by omega⟩⟩ | exact ⟨rfl, by decide, by decide, lz_23 ⟨by omega, by omega⟩⟩) | (have q9 : y = 24 ∨ y = 25 := (by omega); rcases q9 with q | q <;> subst q <;> first | exact ⟨rfl, by decide, by decide, lz_24 ⟨by omega, by omega⟩⟩ | exact ⟨rfl, by decide, by decide, lz_25 ⟨by omega, by omega⟩⟩) | (have q9 : y = 26 ∨ y = 27 := (by omega); rcases q9 with q | q <;> subst q <;> first | exact ⟨rfl, by decide, by decide, lz_26 ⟨by omega, by omega⟩⟩ | exact ⟨rfl, by decide, by decide, lz_27 ⟨by omega, by omega⟩⟩) | (have q9 : y = 28 ∨ y = 29 := (by omega); rcases q9 with q | q <;> subst q <;> first | exact ⟨rfl, by decide, by decide, lz_28 ⟨by omega, by omega⟩⟩ | exact ⟨rfl, by decide, by decide, lz_29 ⟨by omega, by omega⟩⟩) | (have q9 : y = 30 ∨ y = 31 := (by omega); rcases q9 with q | q <;> subst q <;> first | exact ⟨rfl, by decide, by decide, lz_30 ⟨by omega, by omega⟩⟩ | exact ⟨rfl, by decide, by decide, lz_31 ⟨by omega, by omega⟩⟩)
          · refine mi_iinc h dJ6_numberOfLeadingZeros_0f7a4_66 (by rfl) ?_ (by decide)
            refine mi_iload_n h dJ6_numberOfLeadingZeros_0f7a4_69 (by rfl) ?_
            refine mi_iconst h dJ6_numberOfLeadingZeros_0f7a4_70 ?_
            refine mi_iushr h dJ6_numberOfLeadingZeros_0f7a4_71 (us_2 ⟨by omega, by omega⟩) ?_
            refine mi_istore_n h dJ6_numberOfLeadingZeros_0f7a4_72 (by decide) ?_
            refine mi_iload_n h dJ6_numberOfLeadingZeros_0f7a4_73 (by rfl) ?_
            refine mi_iload_n h dJ6_numberOfLeadingZeros_0f7a4_74 (by rfl) ?_
            refine mi_iconst h dJ6_numberOfLeadingZeros_0f7a4_75 ?_
            refine mi_iushr h dJ6_numberOfLeadingZeros_0f7a4_76 (us_1 ⟨by omega, by omega⟩) ?_
            refine mi_isub h dJ6_numberOfLeadingZeros_0f7a4_77 ?_
            refine mt_i (fun y ey => ?_)
            refine mi_ireturn h hr dJ6_numberOfLeadingZeros_0f7a4_78 ?_
            first | (have q9 : y = 0 ∨ y = 1 := (by omega); rcases q9 with q | q <;> subst q <;> first | exact ⟨rfl, by decide, by decide, lz_0 ⟨by omega, by omega⟩⟩ | exact ⟨rfl, by decide, by decide, lz_1 ⟨by omega, by omega⟩⟩) | (have q9 : y = 2 ∨ y = 3 := (by omega); rcases q9 with q | q <;> subst q <;> first | exact ⟨rfl, by decide, by decide, lz_2 ⟨by omega, by omega⟩⟩ | exact ⟨rfl, by decide, by decide, lz_3 ⟨by omega, by omega⟩⟩) | (have q9 : y = 4 ∨ y = 5 := (by omega); rcases q9 with q | q <;> subst q <;> first | exact ⟨rfl, by decide, by decide, lz_4 ⟨by omega, by omega⟩⟩ | exact ⟨rfl, by decide, by decide, lz_5 ⟨by omega, by omega⟩⟩) | (have q9 : y = 6 ∨ y = 7 := (by omega); rcases q9 with q | q <;> subst q <;> first | exact ⟨rfl, by decide, by decide, lz_6 ⟨by omega, by omega⟩⟩ | exact ⟨rfl, by decide, by decide, lz_7 ⟨by omega, by omega⟩⟩) | (have q9 : y = 8 ∨ y = 9 := (by omega); rcases q9 with q | q <;> subst q <;> first | exact ⟨rfl, by decide, by decide, lz_8 ⟨by omega, by omega⟩⟩ | exact ⟨rfl, by decide, by decide, lz_9 ⟨by omega, by omega⟩⟩) | (have q9 : y = 10 ∨ y = 11 := (by omega); rcases q9 with q | q <;> subst q <;> first | exact ⟨rfl, by decide, by decide, lz_10 ⟨by omega, by omega⟩⟩ | exact ⟨rfl, by decide, by decide, lz_11 ⟨by omega, by omega⟩⟩) | (have q9 : y = 12 ∨ y = 13 := (by omega); rcases q9 with q | q <;> subst q <;> first | exact ⟨rfl, by decide, by decide, lz_12 ⟨by omega, by omega⟩⟩ | exact ⟨rfl, by decide, by decide, lz_13 ⟨by omega, by omega⟩⟩) | (have q9 : y = 14 ∨ y = 15 := (by omega); rcases q9 with q | q <;> subst q <;> first | exact ⟨rfl, by decide, by decide, lz_14 ⟨by omega, by omega⟩⟩ | exact ⟨rfl, by decide, by decide, lz_15 ⟨by omega, by omega⟩⟩) | (have q9 : y = 16 ∨ y = 17 := (by omega); rcases q9 with q | q <;> subst q <;> first | exact ⟨rfl, by decide, by decide, lz_16 ⟨by omega, by omega⟩⟩ | exact ⟨rfl, by decide, by decide, lz_17 ⟨by omega, by omega⟩⟩) | (have q9 : y = 18 ∨ y = 19 := (by omega); rcases q9 with q | q <;> subst q <;> first | exact ⟨rfl, by decide, by decide, lz_18 ⟨by omega, by omega⟩⟩ | exact ⟨rfl, by decide, by decide, lz_19 ⟨by omega, by omega⟩⟩) | (have q9 : y = 20 ∨ y = 21 := (by omega); rcases q9 with q | q <;> subst q <;> first | exact ⟨rfl, by decide, by decide, lz_20 ⟨by omega, by omega⟩⟩ | exact ⟨rfl, by decide, by decide, lz_21 ⟨by omega, by omega⟩⟩) | (have q9 : y = 22 ∨ y = 23 := (by omega); rcases q9 with q | q <;> subst q <;> first | exact ⟨rfl, by decide, by decide, lz_22 ⟨by omega, by omega⟩⟩ | exact ⟨rfl, by decide, by decide, lz_23 ⟨by omega, by omega⟩⟩) | (have q9 : y = 24 ∨ y = 25 := (by omega); rcases q9 with q | q <;> subst q <;> first | exact ⟨rfl, by decide, by decide, lz_24 ⟨by omega, by omega⟩⟩ | exact ⟨rfl, by decide, by decide, lz_25 ⟨by omega, by omega⟩⟩) | (have q9 : y = 26 ∨ y = 27 := (by omega); rcases q9 with q | q <;> subst q <;> first | exact ⟨rfl, by decide, by decide, lz_26 ⟨by omega, by omega⟩⟩ | exact ⟨rfl, by decide, by decide, lz_27 ⟨by omega, by omega⟩⟩) | (have q9 : y = 28 ∨ y = 29 := (by omega); rcases q9 with q | q <;> subst q <;> first | exact ⟨rfl, by decide, by decide, lz_28 ⟨by omega, by omega⟩⟩ | exact ⟨rfl, by decide, by decide, lz_29 ⟨by omega, by omega⟩⟩) | (have q9 : y = 30 ∨ y = 31 := (by omega); rcases q9 with q | q <;> subst q <;> first | exact ⟨rfl, by decide, by decide, lz_30 ⟨by omega, by omega⟩⟩ | exact ⟨rfl, by decide, by decide, lz_31 ⟨by omega, by omega⟩⟩)
  · exfalso; omega
set_option maxHeartbeats 4000000 in
set_option maxRecDepth 100000 in
theorem c_J6_nlzNeg {σ : Mem} {x : Int} (hx : 2147483648 ≤ x ∧ x < 4294967296) : Sp1 yJ6_numberOfLeadingZeros_0f7a4 cJ6_numberOfLeadingZeros_0f7a4 2 (some .int) 1 0 [vi x] σ (fun r σ' => σ = σ' ∧ r = 0) := by
  refine Sp1_as (as := [vi (x - 4294967296)]) ?_ (fun ad => ?_)
  · refine Sp1_in RJ6 rfl (by decide +kernel) (Nat.le_of_ble_eq_true rfl) [some (vi (x - 4294967296)), none] rfl ?_
    intro K h hr
    refine mi_iload_n h dJ6_numberOfLeadingZeros_0f7a4_0 (by rfl) ?_
    refine mi_if_gt (tgt := 15) h dJ6_numberOfLeadingZeros_0f7a4_1 (by decide) ⟨by omega, by omega⟩ (fun e1 => ?_) (fun e1 => ?_)
    · exfalso; omega
    · refine mi_iload_n h dJ6_numberOfLeadingZeros_0f7a4_4 (by rfl) ?_
      refine mi_if_ne (tgt := 13) h dJ6_numberOfLeadingZeros_0f7a4_5 (by decide) ⟨by omega, by omega⟩ (fun e5 => ?_) (fun e5 => ?_)
      · refine mi_iconst h dJ6_numberOfLeadingZeros_0f7a4_13 ?_
        refine mi_ireturn h hr dJ6_numberOfLeadingZeros_0f7a4_14 ?_
        exact ⟨rfl, rfl⟩
      · exfalso; omega
  · show [Value.int (Int32.ofInt (x - 4294967296))] = [Value.int (Int32.ofInt x)]
    rw [Int32.ofInt_sub, show Int32.ofInt 4294967296 = 0 by decide]
    simp
theorem c_J6_nlz {σ : Mem} {x : Int} (hx : 1 ≤ x ∧ x < 4294967296) : Sp1 yJ6_numberOfLeadingZeros_0f7a4 cJ6_numberOfLeadingZeros_0f7a4 2 (some .int) 1 0 [vi x] σ (fun r σ' => σ = σ' ∧ 0 ≤ r ∧ r ≤ 31 ∧ 2 ^ (31 - r.toNat) ≤ x ∧ x < 2 ^ (32 - r.toNat)) := by
  rcases Int.lt_or_le x 2147483648 with q | q
  · exact c_J6_numberOfLeadingZeros_0f7a4 ⟨hx.1, q⟩
  · exact Sp1_imp (c_J6_nlzNeg ⟨q, hx.2⟩) (fun r σ' hp => by obtain ⟨h1, rfl⟩ := hp; exact ⟨h1, by decide, by decide, lz_0 ⟨q, hx.2⟩⟩)
set_option maxHeartbeats 4000000 in
set_option maxRecDepth 100000 in
theorem c_J13_numberOfLeadingZeros_95d88 {σ : Mem} {x : Int} (hx : 1 ≤ x ∧ x < 4611686018427387904) : Sp1 yJ13_numberOfLeadingZeros_95d88 cJ13_numberOfLeadingZeros_95d88 3 (some .int) 1 1 [vl x] σ (fun r σ' => σ = σ' ∧ 0 ≤ r ∧ r ≤ 63 ∧ 2 ^ (63 - r.toNat) ≤ x ∧ x < 2 ^ (64 - r.toNat)) := by
  refine Sp1_in RJ13 rfl (by decide +kernel) (Nat.le_of_ble_eq_true rfl) [some (vl x), none, none] rfl ?_
  intro K h hr
  refine mi_lload_n h dJ13_numberOfLeadingZeros_95d88_0 (by rfl) ?_
  refine mi_bipush h dJ13_numberOfLeadingZeros_95d88_1 (by decide) ?_
  refine mi_lushr h dJ13_numberOfLeadingZeros_95d88_3 (ul_32 ⟨by omega, by omega⟩) ?_
  refine mi_l2i h dJ13_numberOfLeadingZeros_95d88_4 ⟨by omega, by omega⟩ ?_
  refine mi_istore_n h dJ13_numberOfLeadingZeros_95d88_5 (by decide) ?_
  refine mi_iload_n h dJ13_numberOfLeadingZeros_95d88_6 (by rfl) ?_
  refine mi_if_ne (tgt := 21) h dJ13_numberOfLeadingZeros_95d88_7 (by decide) ⟨by omega, by omega⟩ (fun e7 => ?_) (fun e7 => ?_)
  · refine mi_iload_n h dJ13_numberOfLeadingZeros_95d88_21 (by rfl) ?_
    refine mi_cS1i (hw := Nat.le_of_ble_eq_true rfl) h dJ13_numberOfLeadingZeros_95d88_22 ml_RJ13_308 ym_yJ6_numberOfLeadingZeros_0f7a4 (c_J6_nlz ⟨by omega, by omega⟩) (fun r22 σ22 hp22 => ?_)
    obtain ⟨rfl, hq, hq2, hq3, hq4⟩ := hp22
    refine mi_ireturn h hr dJ13_numberOfLeadingZeros_95d88_25 ?_
    first | (refine ⟨rfl, by omega, by omega, ?_⟩; rw [show 63 - (32 + r14).toNat = 31 - r14.toNat by omega, show 64 - (32 + r14).toNat = 32 - r14.toNat by omega]; exact ⟨hq3, hq4⟩) | (refine ⟨rfl, by omega, by omega, ?_⟩; rw [show 63 - r22.toNat = 31 - r22.toNat + 32 by omega, show 64 - r22.toNat = 32 - r22.toNat + 32 by omega, Int.pow_add, Int.pow_add, show (2 : Int) ^ 32 = 4294967296 by decide]; omega)
  · refine mi_bipush h dJ13_numberOfLeadingZeros_95d88_10 (by decide) ?_
    refine mi_lload_n h dJ13_numberOfLeadingZeros_95d88_12 (by rfl) ?_
    refine mi_l2i h dJ13_numberOfLeadingZeros_95d88_13 ⟨by omega, by omega⟩ ?_
    refine mi_cS1i (hw := Nat.le_of_ble_eq_true rfl) h dJ13_numberOfLeadingZeros_95d88_14 ml_RJ13_308 ym_yJ6_numberOfLeadingZeros_0f7a4 (c_J6_nlz ⟨by omega, by omega⟩) (fun r14 σ14 hp14 => ?_)
    obtain ⟨rfl, hq, hq2, hq3, hq4⟩ := hp14
    refine mi_iadd h dJ13_numberOfLeadingZeros_95d88_17  ?_
    refine mi_goto (tgt := 25) h dJ13_numberOfLeadingZeros_95d88_18 (by decide) ?_
    refine mi_ireturn h hr dJ13_numberOfLeadingZeros_95d88_25 ?_
    first | (refine ⟨rfl, by omega, by omega, ?_⟩; rw [show 63 - (32 + r14).toNat = 31 - r14.toNat by omega, show 64 - (32 + r14).toNat = 32 - r14.toNat by omega]; exact ⟨hq3, hq4⟩) | (refine ⟨rfl, by omega, by omega, ?_⟩; rw [show 63 - r22.toNat = 31 - r22.toNat + 32 by omega, show 64 - r22.toNat = 32 - r22.toNat + 32 by omega, Int.pow_add, Int.pow_add, show (2 : Int) ^ 32 = 4294967296 by decide]; omega)
theorem rt_start {n r : Int} {k : Nat} (hn : 0 ≤ n) (h1 : rt n * rt n ≤ n) (h2 : n < 2 ^ (64 - r.toNat)) (h3 : 64 - r.toNat ≤ 2 * k) (h4 : k ≤ 33) : rt n ≤ 1 * 2 ^ k ∧ 0 < (1 : Int) * 2 ^ k ∧ 1 * 2 ^ k ≤ (8589934592 : Int) := by
  have a := p2_le h3
  have b := p2_le h4
  have c : (2 : Int) ^ (2 * k) = 2 ^ k * 2 ^ k := by rw [Nat.two_mul, Int.pow_add]
  have d : (0 : Int) < 2 ^ k := Int.pow_pos (by decide)
  have e : (2 : Int) ^ 33 = 8589934592 := by decide
  refine ⟨?_, by omega, by omega⟩
  rcases Int.lt_or_le (1 * 2 ^ k) (rt n) with q | q
  · have := sq_le (a := 2 ^ k) (b := rt n) (by omega) (by omega)
    omega
  · exact q
set_option maxHeartbeats 4000000 in
set_option maxRecDepth 100000 in
theorem c_X3_root {σ : Mem} {n u : Int} (hn : 0 ≤ n ∧ n < 4611686018427387904) (hu : u = 0 ∨ u = 1) : Sp1 yX3_root cX3_root 8 (some .long) 2 2 [vl n, vi u] σ (fun r σ' => σ = σ' ∧ r = if u = 1 then rtu n else rt n) := by
  refine Sp1_in RX3 rfl (by decide +kernel) (Nat.le_of_ble_eq_true rfl) [some (vl n), none, some (vi u), none, none, none, none, none] rfl ?_
  intro K h hr
  have hs0 := rt_nn n
  have hs1 := rt_le hn.1
  have hs2 := rt_lt hn.1
  have hs3 := rt_small hn.2 hn.1
  have hs4 : rt n * rt n < 4611686018427387904 := by omega
  have fin : ∀ l5 l6 l7 : Option MV, M K 66 [some (vl n), none, some (vi u), some (vl (rt n)), none, l5, l6, l7] [] σ := by
    intro l5 l6 l7
    have hz : 0 ≤ rt n * rt n := Int.mul_nonneg hs0 hs0
    refine mi_iload_n h dX3_root_66 (by rfl) ?_
    refine mi_if_eq (tgt := 84) h dX3_root_67 (by decide) ⟨by omega, by omega⟩ (fun e67 => ?_) (fun e67 => ?_)
    · refine mi_lload_n h dX3_root_84 (by rfl) ?_
      refine mi_lreturn h hr dX3_root_85 ?_
      first | exact ⟨rfl, by rw [if_neg (by omega)]⟩ | exact ⟨rfl, by rw [if_pos (by omega)]; unfold rtu; rw [if_pos (by omega)]⟩ | exact ⟨rfl, by rw [if_pos (by omega)]; unfold rtu; rw [if_neg (by omega)]⟩
    · refine mi_lload_n h dX3_root_70 (by rfl) ?_
      refine mi_lload_n h dX3_root_71 (by rfl) ?_
      refine mi_lmul h dX3_root_72 ?_
      refine mi_lload_n h dX3_root_73 (by rfl) ?_
      refine mi_lcmp_ge (tgt := 84) h dX3_root_74 dX3_root_75 (by decide) ⟨by omega, by omega⟩ ⟨by omega, by omega⟩ (fun e74 => ?_) (fun e74 => ?_)
      · refine mi_lload_n h dX3_root_84 (by rfl) ?_
        refine mi_lreturn h hr dX3_root_85 ?_
        first | exact ⟨rfl, by rw [if_neg (by omega)]⟩ | exact ⟨rfl, by rw [if_pos (by omega)]; unfold rtu; rw [if_pos (by omega)]⟩ | exact ⟨rfl, by rw [if_pos (by omega)]; unfold rtu; rw [if_neg (by omega)]⟩
      · refine mi_lload_n h dX3_root_78 (by rfl) ?_
        refine mi_lconst1 h dX3_root_79 ?_
        refine mi_ladd h dX3_root_80 ?_
        refine mi_goto (tgt := 85) h dX3_root_81 (by decide) ?_
        refine mi_lreturn h hr dX3_root_85 ?_
        first | exact ⟨rfl, by rw [if_neg (by omega)]⟩ | exact ⟨rfl, by rw [if_pos (by omega)]; unfold rtu; rw [if_pos (by omega)]⟩ | exact ⟨rfl, by rw [if_pos (by omega)]; unfold rtu; rw [if_neg (by omega)]⟩
  have loop : ∀ (j : Nat) (i x : Int) (l6 l7 : Option MV), 1 ≤ n → i + j = 64 → 0 ≤ i → rt n ≤ x → 0 < x → x ≤ 8589934592 → x - rt n ≤ 8589934592 / 2 ^ i.toNat → M K 23 [some (vl n), none, some (vi u), some (vl x), none, some (vi i), l6, l7] [] σ := by
    intro j
    induction j with
    | zero =>
      intro i x l6 l7 h1 h2 h3 h4 h5 h6 h7
      have hi : i = 64 := by omega
      subst hi
      have h8 : x = rt n := by
        have : (8589934592 : Int) / 2 ^ (64 : Int).toNat = 0 := by decide
        omega
      subst h8
      refine mi_iload h dX3_root_23 (by rfl) ?_
      refine mi_bipush h dX3_root_25 (by decide) ?_
      refine mi_icmp_ge (tgt := 66) h dX3_root_27 (by decide) ⟨by omega, by omega⟩ ⟨by omega, by omega⟩ (fun e27 => ?_) (fun e27 => ?_)
      · exact fin _ _ _
      · exfalso; omega
    | succ j ih =>
      intro i x l6 l7 h1 h2 h3 h4 h5 h6 h7
      have q0 : 0 ≤ n / x := Int.ediv_nonneg (by omega) (by omega)
      have q1 : n / x ≤ n := Int.ediv_le_self x (by omega)
      have q2 := nw_ge (n := n) (x := x) hs1 h5
      refine mi_iload h dX3_root_23 (by rfl) ?_
      refine mi_bipush h dX3_root_25 (by decide) ?_
      refine mi_icmp_ge (tgt := 66) h dX3_root_27 (by decide) ⟨by omega, by omega⟩ ⟨by omega, by omega⟩ (fun e27 => ?_) (fun e27 => ?_)
      · first | exact fin _ _ _ | (exfalso; omega)
      · refine mi_lload_n h dX3_root_30 (by rfl) ?_
        refine mi_lconst0 h dX3_root_31 ?_
        refine mi_lcmp_le (tgt := 66) h dX3_root_32 dX3_root_33 (by decide) ⟨by omega, by omega⟩ ⟨by omega, by omega⟩ (fun e32 => ?_) (fun e32 => ?_)
        · first | exact fin _ _ _ | (exfalso; omega)
        · refine mi_lload_n h dX3_root_36 (by rfl) ?_
          refine mi_lload_n h dX3_root_37 (by rfl) ?_
          refine mi_lload_n h dX3_root_38 (by rfl) ?_
          refine mi_ldiv h dX3_root_39 ⟨by omega, by omega⟩ ⟨by omega, by omega⟩ ?_
          refine mi_ladd h dX3_root_40 ?_
          refine mi_ldc2 (z := 2) h dX3_root_41 kc_RX3_13 rfl ?_
          refine mi_ldiv h dX3_root_44 ⟨by omega, by omega⟩ ⟨by omega, by omega⟩ ?_
          refine mt_l (fun y ey => ?_)
          refine mi_lstore h dX3_root_45 (by decide) ?_
          refine mi_lload h dX3_root_47 (by rfl) ?_
          refine mi_lload_n h dX3_root_49 (by rfl) ?_
          refine mi_lcmp_lt (tgt := 57) h dX3_root_50 dX3_root_51 (by decide) ⟨by omega, by omega⟩ ⟨by omega, by omega⟩ (fun e50 => ?_) (fun e50 => ?_)
          · have hlt : rt n < x := by
              rcases Int.lt_or_le (rt n) x with q | q
              · exact q
              · exfalso; omega
            have q3 := nw_div hs0 hs2 hlt
            have q4 := nw_half i.toNat h7
            refine mi_lload h dX3_root_57 (by rfl) ?_
            refine mi_lstore_n h dX3_root_59 (by decide) ?_
            refine mi_iinc h dX3_root_60 (by rfl) ?_ (by decide)
            refine mi_goto (tgt := 23) h dX3_root_63 (by decide) ?_
            exact ih (i + 1) y _ _ h1 (by omega) (by omega) (by omega) (by have := rt_pos h1; omega) (by omega) (by rw [show (i + 1).toNat = i.toNat + 1 by omega]; omega)
          · have hxs : x = rt n := by
              rcases Int.lt_or_le (rt n) x with q | q
              · have := nw_div hs0 hs2 q; omega
              · omega
            subst hxs
            refine mi_goto (tgt := 66) h dX3_root_54 (by decide) ?_
            first | exact fin _ _ _ | (exfalso; omega)
  refine mi_lload_n h dX3_root_0 (by rfl) ?_
  refine mi_lconst1 h dX3_root_1 ?_
  refine mi_lcmp_ge (tgt := 8) h dX3_root_2 dX3_root_3 (by decide) ⟨by omega, by omega⟩ ⟨by omega, by omega⟩ (fun e2 => ?_) (fun e2 => ?_)
  · refine mi_lconst1 h dX3_root_8 ?_
    refine mi_bipush h dX3_root_9 (by decide) ?_
    refine mi_lload_n h dX3_root_11 (by rfl) ?_
    refine mi_cS1i (hw := Nat.le_of_ble_eq_true rfl) h dX3_root_12 ml_RX3_7 ym_yJ13_numberOfLeadingZeros_95d88 (c_J13_numberOfLeadingZeros_95d88 ⟨by omega, by omega⟩) (fun r12 σ12 hp12 => ?_)
    obtain ⟨rfl, hq, hq2, hq3, hq4⟩ := hp12
    refine mi_isub h dX3_root_15 ?_
    refine mi_iconst h dX3_root_16 ?_
    refine mi_idiv h dX3_root_17 ⟨by omega, by omega⟩ ⟨by omega, by omega⟩ ?_
    obtain ⟨k, hk⟩ : ∃ k : Nat, (65 - r12) / 2 = (k : Int) := ⟨((65 - r12) / 2).toNat, (Int.toNat_of_nonneg (by omega)).symm⟩
    rw [hk]
    refine mi_lshl h dX3_root_18 (sh_l (x := 1) (k := k) (by omega)) ?_
    refine mi_lstore_n h dX3_root_19 (by decide) ?_
    refine mi_iconst h dX3_root_20 ?_
    refine mi_istore h dX3_root_21 (by decide) ?_
    have hk2 : rt n ≤ 1 * 2 ^ k ∧ 0 < (1 : Int) * 2 ^ k ∧ 1 * 2 ^ k ≤ (8589934592 : Int) := rt_start hn.1 hs1 hq4 (by omega) (by omega)
    exact loop 64 0 (1 * 2 ^ k) none none (by omega) (by omega) (by omega) hk2.1 hk2.2.1 hk2.2.2 (by simp only [Int.toNat_zero, Int.pow_zero, Int.ediv_one]; omega)
  · refine mi_lconst0 h dX3_root_6 ?_
    refine mi_lreturn h hr dX3_root_7 ?_
    have : n = 0 := by omega
    subst this
    exact ⟨rfl, by split <;> decide⟩
