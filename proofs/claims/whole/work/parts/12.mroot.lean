theorem sr_l {x : Int} {k : Nat} (hk : k < 64) (h : 0 ≤ x ∧ x < 9223372036854775808) : Int64.ofInt x >>> ((Int32.ofInt (k : Int)).toInt64 &&& 63) = Int64.ofInt (x / 2 ^ k) := by
  have e : ∀ k, k < 64 → (((Int32.ofInt ((k : Nat) : Int)).toInt64 &&& 63).toBitVec.smod 64).toNat = k := by decide
  have p : (0 : Int) < 2 ^ k := Int.pow_pos (by decide)
  have h1 : x / 2 ^ k ≤ x := Int.ediv_le_self _ h.1
  have h2 : 0 ≤ x / 2 ^ k := Int.ediv_nonneg h.1 (by omega)
  apply Int64.toInt_inj.mp
  have e2 : (Int64.ofInt x >>> ((Int32.ofInt (k : Int)).toInt64 &&& 63)).toInt = (Int64.ofInt x).toInt >>> k := by
    have := BitVec.toInt_sshiftRight (x := (Int64.ofInt x).toBitVec) (n := (((Int32.ofInt (k : Int)).toInt64 &&& 63).toBitVec.smod 64).toNat)
    rw [e k hk] at this
    rw [← Int64.toInt_toBitVec, Int64.toBitVec_shiftRight]
    show (BitVec.sshiftRight _ (((Int32.ofInt (k : Int)).toInt64 &&& 63).toBitVec.smod 64).toNat).toInt = _
    rw [e k hk]
    exact this
  rw [e2, i64 ⟨by omega, by omega⟩, Int.shiftRight_eq_div_pow, i64 ⟨by omega, by omega⟩]
  rfl
theorem sr_1 {x : Int} (h : 0 ≤ x ∧ x < 9223372036854775808) : Int64.ofInt x >>> ((Int32.ofInt 1).toInt64 &&& 63) = Int64.ofInt (x / 2) := sr_l (k := 1) (by decide) h
theorem sr_20 {x : Int} (h : 0 ≤ x ∧ x < 9223372036854775808) : Int64.ofInt x >>> ((Int32.ofInt 20).toInt64 &&& 63) = Int64.ofInt (x / 1048576) := sr_l (k := 20) (by decide) h
theorem le_of_sq {x : Int} (h : x * x < 4611686018427387904) : x ≤ 2147483648 := by
  rcases Int.lt_or_le 2147483648 x with q | q
  · have := sq_le (a := 2147483648) (by omega) (Int.le_of_lt q)
    omega
  · exact q
theorem big_sq {n x : Int} (h : 3037000499 < x) (hn : n < 4611686018427387904) : n < x * x := by
  have := sq_le (a := 3037000499) (by omega) (Int.le_of_lt h)
  omega
set_option maxHeartbeats 4000000 in
set_option maxRecDepth 100000 in
theorem c_X6_root {σ : Mem} {n : Int} (hn : 0 ≤ n ∧ n < 4611686018427387904) : Sp1 yX6_root cX6_root 8 (some .long) 2 0 [vl n] σ (fun r σ' => σ = σ' ∧ r = rt n) := by
  refine Sp1_in RX6 rfl (by decide +kernel) (Nat.le_of_ble_eq_true rfl) [some (vl n), none, none, none, none, none, none, none] rfl ?_
  intro K h hr
  have loop : ∀ (m : Nat) (x w b : Int) (l6 l7 : Option MV), m ≤ 32 → w = 2 ^ m → b = w / 2 → 0 ≤ x → x * x ≤ n → n < (x + w) * (x + w) → x ≤ 2147483648 → M K 7 [some (vl n), none, some (vl x), none, some (vl b), none, l6, l7] [] σ := by
    intro m
    induction m with
    | zero =>
      intro x w b l6 l7 h0 h1 h2 h3 h4 h5 h6
      have hw : w = 1 := h1
      subst hw
      subst h2
      refine mi_lload h dX6_root_7 (by rfl) ?_
      refine mi_lconst0 h dX6_root_9 ?_
      refine mi_lcmp_le (tgt := 51) h dX6_root_10 dX6_root_11 (by decide) ⟨by omega, by omega⟩ ⟨by omega, by omega⟩ (fun e10 => ?_) (fun e10 => ?_)
      · refine mi_lload_n h dX6_root_51 (by rfl) ?_
        refine mi_lreturn h hr dX6_root_52 ?_
        exact ⟨rfl, (rt_uniq h3 h4 h5).symm⟩
      · exfalso; omega
    | succ m ih =>
      intro x w b l6 l7 h0 h1 h2 h3 h4 h5 h6
      have hw : w = 2 * 2 ^ m := by rw [h1, Int.pow_succ, Int.mul_comm]
      have hb : b = 2 ^ m := by omega
      have hm : (1 : Int) ≤ 2 ^ m := by have := p2_le (Nat.zero_le m); simpa using this
      have hm2 : (2 : Int) ^ m ≤ 2147483648 := by have := p2_le (show m ≤ 31 by omega); simpa using this
      have hs0 : 0 ≤ (x + b) * (x + b) := Int.mul_nonneg (by omega) (by omega)
      refine mi_lload h dX6_root_7 (by rfl) ?_
      refine mi_lconst0 h dX6_root_9 ?_
      refine mi_lcmp_le (tgt := 51) h dX6_root_10 dX6_root_11 (by decide) ⟨by omega, by omega⟩ ⟨by omega, by omega⟩ (fun e10 => ?_) (fun e10 => ?_)
      · exfalso; omega
      · refine mi_lload_n h dX6_root_14 (by rfl) ?_
        refine mi_lload h dX6_root_15 (by rfl) ?_
        refine mi_ladd h dX6_root_17 ?_
        refine mi_lstore h dX6_root_18 (by decide) ?_
        refine mi_lload h dX6_root_20 (by rfl) ?_
        refine mi_ldc2 (z := 3037000499) h dX6_root_22 kc_RX6_147 rfl ?_
        refine mi_lcmp_gt (tgt := 42) h dX6_root_25 dX6_root_26 (by decide) ⟨by omega, by omega⟩ ⟨by omega, by omega⟩ (fun e25 => ?_) (fun e25 => ?_)
        · refine mi_lload h dX6_root_42 (by rfl) ?_
          refine mi_iconst h dX6_root_44 ?_
          refine mi_lshr h dX6_root_45 (sr_1 ⟨by omega, by omega⟩) ?_
          refine mi_lstore h dX6_root_46 (by decide) ?_
          refine mi_goto (tgt := 7) h dX6_root_48 (by decide) ?_
          first | exact ih _ (2 ^ m) _ _ _ (by omega) rfl (by rw [hb]) (by omega) (by omega) (by rw [show x + b + 2 ^ m = x + w by omega]; exact h5) (le_of_sq h6b) | exact ih _ (2 ^ m) _ _ _ (by omega) rfl (by rw [hb]) h3 h4 (by rw [← hb]; first | omega | exact big_sq (by omega) hn.2) h6
        · have hs : (x + b) * (x + b) ≤ 3037000499 * 3037000499 := sq_le (by omega) (by omega)
          refine mi_lload h dX6_root_29 (by rfl) ?_
          refine mi_lload h dX6_root_31 (by rfl) ?_
          refine mi_lmul h dX6_root_33 ?_
          refine mi_lload_n h dX6_root_34 (by rfl) ?_
          refine mi_lcmp_gt (tgt := 42) h dX6_root_35 dX6_root_36 (by decide) ⟨by omega, by omega⟩ ⟨by omega, by omega⟩ (fun e35 => ?_) (fun e35 => ?_)
          · refine mi_lload h dX6_root_42 (by rfl) ?_
            refine mi_iconst h dX6_root_44 ?_
            refine mi_lshr h dX6_root_45 (sr_1 ⟨by omega, by omega⟩) ?_
            refine mi_lstore h dX6_root_46 (by decide) ?_
            refine mi_goto (tgt := 7) h dX6_root_48 (by decide) ?_
            first | exact ih _ (2 ^ m) _ _ _ (by omega) rfl (by rw [hb]) (by omega) (by omega) (by rw [show x + b + 2 ^ m = x + w by omega]; exact h5) (le_of_sq h6b) | exact ih _ (2 ^ m) _ _ _ (by omega) rfl (by rw [hb]) h3 h4 (by rw [← hb]; first | omega | exact big_sq (by omega) hn.2) h6
          · have h6b : (x + b) * (x + b) < 4611686018427387904 := by omega
            refine mi_lload h dX6_root_39 (by rfl) ?_
            refine mi_lstore_n h dX6_root_41 (by decide) ?_
            refine mi_lload h dX6_root_42 (by rfl) ?_
            refine mi_iconst h dX6_root_44 ?_
            refine mi_lshr h dX6_root_45 (sr_1 ⟨by omega, by omega⟩) ?_
            refine mi_lstore h dX6_root_46 (by decide) ?_
            refine mi_goto (tgt := 7) h dX6_root_48 (by decide) ?_
            first | exact ih _ (2 ^ m) _ _ _ (by omega) rfl (by rw [hb]) (by omega) (by omega) (by rw [show x + b + 2 ^ m = x + w by omega]; exact h5) (le_of_sq h6b) | exact ih _ (2 ^ m) _ _ _ (by omega) rfl (by rw [hb]) h3 h4 (by rw [← hb]; first | omega | exact big_sq (by omega) hn.2) h6
  refine mi_lconst0 h dX6_root_0 ?_
  refine mi_lstore_n h dX6_root_1 (by decide) ?_
  refine mi_ldc2 (z := 2147483648) h dX6_root_2 kc_RX6_145 rfl ?_
  refine mi_lstore h dX6_root_5 (by decide) ?_
  exact loop 32 0 4294967296 2147483648 none none (by omega) (by decide) (by decide) (by omega) (by omega) (by omega) (by omega)
set_option maxHeartbeats 4000000 in
set_option maxRecDepth 100000 in
theorem c_X6_rootUp {σ : Mem} {n : Int} (hn : 0 ≤ n ∧ n < 4611686018427387904) : Sp1 yX6_rootUp cX6_rootUp 4 (some .long) 2 1 [vl n] σ (fun r σ' => σ = σ' ∧ r = rtu n) := by
  refine Sp1_in RX6 rfl (by decide +kernel) (Nat.le_of_ble_eq_true rfl) [some (vl n), none, none, none] rfl ?_
  intro K h hr
  have hs0 := rt_nn n
  have hs1 := rt_le hn.1
  have hs3 := rt_small hn.2 hn.1
  have hz : 0 ≤ rt n * rt n := Int.mul_nonneg hs0 hs0
  refine mi_lload_n h dX6_rootUp_0 (by rfl) ?_
  refine mi_cS1l (hw := Nat.le_of_ble_eq_true rfl) h dX6_rootUp_1 ml_RX6_149 ym_yX6_root (c_X6_root hn) (fun r1 σ1 hp1 => ?_)
  obtain ⟨rfl, rfl⟩ := hp1
  refine mi_lstore_n h dX6_rootUp_4 (by decide) ?_
  refine mi_lload_n h dX6_rootUp_5 (by rfl) ?_
  refine mi_lload_n h dX6_rootUp_6 (by rfl) ?_
  refine mi_lmul h dX6_rootUp_7 ?_
  refine mi_lload_n h dX6_rootUp_8 (by rfl) ?_
  refine mi_lcmp_ge (tgt := 19) h dX6_rootUp_9 dX6_rootUp_10 (by decide) ⟨by omega, by omega⟩ ⟨by omega, by omega⟩ (fun e9 => ?_) (fun e9 => ?_)
  · refine mi_lload_n h dX6_rootUp_19 (by rfl) ?_
    refine mi_lreturn h hr dX6_rootUp_20 ?_
    first | exact ⟨rfl, by unfold rtu; rw [if_pos (by omega)]⟩ | exact ⟨rfl, by unfold rtu; rw [if_neg (by omega)]⟩
  · refine mi_lload_n h dX6_rootUp_13 (by rfl) ?_
    refine mi_lconst1 h dX6_rootUp_14 ?_
    refine mi_ladd h dX6_rootUp_15 ?_
    refine mi_goto (tgt := 20) h dX6_rootUp_16 (by decide) ?_
    refine mi_lreturn h hr dX6_rootUp_20 ?_
    first | exact ⟨rfl, by unfold rtu; rw [if_pos (by omega)]⟩ | exact ⟨rfl, by unfold rtu; rw [if_neg (by omega)]⟩
set_option maxHeartbeats 4000000 in
set_option maxRecDepth 100000 in
theorem c_X6_up {σ : Mem} {a b : Int} (ha : 0 ≤ a ∧ a < 4611686018427387904) (hb : 0 < b ∧ b < 4611686018427387904) : Sp1 yX6_up cX6_up 4 (some .long) 2 0 [vl a, vl b] σ (fun r σ' => σ = σ' ∧ r = qu a b) := by
  refine Sp1_in RX6 rfl (by decide +kernel) (Nat.le_of_ble_eq_true rfl) [some (vl a), none, some (vl b), none] rfl ?_
  intro K h hr
  have h2 := Int.emod_lt_of_pos a hb.1
  have h3 := Int.emod_nonneg a (Int.ne_of_gt hb.1)
  have h4 := qu_up (a := a) hb.1
  refine mi_lload_n h dX6_up_0 (by rfl) ?_
  refine mi_lload_n h dX6_up_1 (by rfl) ?_
  refine mi_ldiv h dX6_up_2 ⟨by omega, by omega⟩ ⟨by omega, by omega⟩ ?_
  refine mi_lload_n h dX6_up_3 (by rfl) ?_
  refine mi_lload_n h dX6_up_4 (by rfl) ?_
  refine mi_lrem h dX6_up_5 ⟨by omega, by omega⟩ ⟨by omega, by omega⟩ ?_
  refine mi_lconst0 h dX6_up_6 ?_
  refine mi_lcmp_le (tgt := 15) h dX6_up_7 dX6_up_8 (by decide) ⟨by omega, by omega⟩ ⟨by omega, by omega⟩ (fun e7 => ?_) (fun e7 => ?_)
  · refine mi_lconst0 h dX6_up_15 ?_
    refine mi_ladd h dX6_up_16 ?_
    refine mi_lreturn h hr dX6_up_17 ?_
    first | exact ⟨rfl, by rw [← h4, if_pos (by omega)]⟩ | exact ⟨rfl, by rw [← h4, if_neg (by omega)]⟩
  · refine mi_lconst1 h dX6_up_11 ?_
    refine mi_goto (tgt := 16) h dX6_up_12 (by decide) ?_
    refine mi_ladd h dX6_up_16 ?_
    refine mi_lreturn h hr dX6_up_17 ?_
    first | exact ⟨rfl, by rw [← h4, if_pos (by omega)]⟩ | exact ⟨rfl, by rw [← h4, if_neg (by omega)]⟩
