set_option maxHeartbeats 4000000 in
set_option maxRecDepth 100000 in
theorem c_X5_isWithin {σ : Mem} {n a b : Int} (hn : R32 n) (ha : R32 a) (hb : R32 b) : Sp1 yX5_isWithin cX5_isWithin 3 (some .boolean) 1 0 [vi n, vi a, vi b] σ (fun r σ' => σ = σ' ∧ (r = 0 ∨ r = 1) ∧ (r = 1 ↔ a ≤ n ∧ n ≤ b)) := by
  refine Sp1_in RX5 rfl (by decide +kernel) (Nat.le_of_ble_eq_true rfl) [some (vi n), some (vi a), some (vi b)] rfl ?_
  intro K h hr
  refine mi_iload_n h dX5_isWithin_0 (by rfl) ?_
  refine mi_iload_n h dX5_isWithin_1 (by rfl) ?_
  refine mi_icmp_lt (tgt := 14) h dX5_isWithin_2 (by decide) ⟨by omega, by omega⟩ ⟨by omega, by omega⟩ (fun e2 => ?_) (fun e2 => ?_)
  · refine mi_iconst h dX5_isWithin_14 ?_
    refine mi_zreturn h hr dX5_isWithin_15 (by omega) ?_
    exact ⟨rfl, by omega, by omega⟩
  · refine mi_iload_n h dX5_isWithin_5 (by rfl) ?_
    refine mi_iload_n h dX5_isWithin_6 (by rfl) ?_
    refine mi_icmp_gt (tgt := 14) h dX5_isWithin_7 (by decide) ⟨by omega, by omega⟩ ⟨by omega, by omega⟩ (fun e7 => ?_) (fun e7 => ?_)
    · refine mi_iconst h dX5_isWithin_14 ?_
      refine mi_zreturn h hr dX5_isWithin_15 (by omega) ?_
      exact ⟨rfl, by omega, by omega⟩
    · refine mi_iconst h dX5_isWithin_10 ?_
      refine mi_goto (tgt := 15) h dX5_isWithin_11 (by decide) ?_
      refine mi_zreturn h hr dX5_isWithin_15 (by omega) ?_
      exact ⟨rfl, by omega, by omega⟩
set_option maxHeartbeats 4000000 in
set_option maxRecDepth 100000 in
theorem c_X5_isSide {σ : Mem} {n : Int} (hn : R32 n) : Sp1 yX5_isSide cX5_isSide 1 (some .boolean) 1 0 [vi n] σ (fun r σ' => σ = σ' ∧ (r = 0 ∨ r = 1) ∧ (r = 1 ↔ n = 0 ∨ n = 1)) := by
  refine Sp1_in RX5 rfl (by decide +kernel) (Nat.le_of_ble_eq_true rfl) [some (vi n)] rfl ?_
  intro K h hr
  refine mi_iload_n h dX5_isSide_0 (by rfl) ?_
  refine mi_if_eq (tgt := 9) h dX5_isSide_1 (by decide) ⟨by omega, by omega⟩ (fun e1 => ?_) (fun e1 => ?_)
  · refine mi_iconst h dX5_isSide_9 ?_
    refine mi_goto (tgt := 14) h dX5_isSide_10 (by decide) ?_
    refine mi_zreturn h hr dX5_isSide_14 (by omega) ?_
    exact ⟨rfl, by omega, by omega⟩
  · refine mi_iload_n h dX5_isSide_4 (by rfl) ?_
    refine mi_iconst h dX5_isSide_5 ?_
    refine mi_icmp_ne (tgt := 13) h dX5_isSide_6 (by decide) ⟨by omega, by omega⟩ ⟨by omega, by omega⟩ (fun e6 => ?_) (fun e6 => ?_)
    · refine mi_iconst h dX5_isSide_13 ?_
      refine mi_zreturn h hr dX5_isSide_14 (by omega) ?_
      exact ⟨rfl, by omega, by omega⟩
    · refine mi_iconst h dX5_isSide_9 ?_
      refine mi_goto (tgt := 14) h dX5_isSide_10 (by decide) ?_
      refine mi_zreturn h hr dX5_isSide_14 (by omega) ?_
      exact ⟨rfl, by omega, by omega⟩
set_option maxHeartbeats 4000000 in
set_option maxRecDepth 100000 in
theorem c_X6_in {σ : Mem} {n a b : Int} (hn : R64 n) (ha : R64 a) (hb : R64 b) : Sp1 yX6_in cX6_in 6 (some .boolean) 1 0 [vl n, vl a, vl b] σ (fun r σ' => σ = σ' ∧ (r = 0 ∨ r = 1) ∧ (r = 1 ↔ a ≤ n ∧ n ≤ b)) := by
  refine Sp1_in RX6 rfl (by decide +kernel) (Nat.le_of_ble_eq_true rfl) [some (vl n), none, some (vl a), none, some (vl b), none] rfl ?_
  intro K h hr
  refine mi_lload_n h dX6_in_0 (by rfl) ?_
  refine mi_lload_n h dX6_in_1 (by rfl) ?_
  refine mi_lcmp_lt (tgt := 17) h dX6_in_2 dX6_in_3 (by decide) ⟨by omega, by omega⟩ ⟨by omega, by omega⟩ (fun e2 => ?_) (fun e2 => ?_)
  · refine mi_iconst h dX6_in_17 ?_
    refine mi_zreturn h hr dX6_in_18 (by omega) ?_
    exact ⟨rfl, by omega, by omega⟩
  · refine mi_lload_n h dX6_in_6 (by rfl) ?_
    refine mi_lload h dX6_in_7 (by rfl) ?_
    refine mi_lcmp_gt (tgt := 17) h dX6_in_9 dX6_in_10 (by decide) ⟨by omega, by omega⟩ ⟨by omega, by omega⟩ (fun e9 => ?_) (fun e9 => ?_)
    · refine mi_iconst h dX6_in_17 ?_
      refine mi_zreturn h hr dX6_in_18 (by omega) ?_
      exact ⟨rfl, by omega, by omega⟩
    · refine mi_iconst h dX6_in_13 ?_
      refine mi_goto (tgt := 18) h dX6_in_14 (by decide) ?_
      refine mi_zreturn h hr dX6_in_18 (by omega) ?_
      exact ⟨rfl, by omega, by omega⟩
set_option maxHeartbeats 4000000 in
set_option maxRecDepth 100000 in
theorem c_X6_asInt {σ : Mem} {n : Int} (hn : n = 0 ∨ n = 1) : Sp1 yX6_asInt cX6_asInt 1 (some .int) 1 0 [vi n] σ (fun r σ' => σ = σ' ∧ r = n) := by
  refine Sp1_in RX6 rfl (by decide +kernel) (Nat.le_of_ble_eq_true rfl) [some (vi n)] rfl ?_
  intro K h hr
  refine mi_iload_n h dX6_asInt_0 (by rfl) ?_
  refine mi_if_eq (tgt := 8) h dX6_asInt_1 (by decide) ⟨by omega, by omega⟩ (fun e1 => ?_) (fun e1 => ?_)
  · refine mi_iconst h dX6_asInt_8 ?_
    refine mi_ireturn h hr dX6_asInt_9 ?_
    exact ⟨rfl, by omega⟩
  · refine mi_iconst h dX6_asInt_4 ?_
    refine mi_goto (tgt := 9) h dX6_asInt_5 (by decide) ?_
    refine mi_ireturn h hr dX6_asInt_9 ?_
    exact ⟨rfl, by omega⟩
set_option maxHeartbeats 4000000 in
set_option maxRecDepth 100000 in
theorem c_J9_abs_0f7a4 {σ : Mem} {n : Int} (hn : -2147483648 < n ∧ n < 2147483648) : Sp1 yJ9_abs_0f7a4 cJ9_abs_0f7a4 1 (some .int) 1 0 [vi n] σ (fun r σ' => σ = σ' ∧ 0 ≤ r ∧ (r = n ∨ r = -n)) := by
  refine Sp1_in RJ9 rfl (by decide +kernel) (Nat.le_of_ble_eq_true rfl) [some (vi n)] rfl ?_
  intro K h hr
  refine mi_iload_n h dJ9_abs_0f7a4_0 (by rfl) ?_
  refine mi_if_ge (tgt := 9) h dJ9_abs_0f7a4_1 (by decide) ⟨by omega, by omega⟩ (fun e1 => ?_) (fun e1 => ?_)
  · refine mi_iload_n h dJ9_abs_0f7a4_9 (by rfl) ?_
    refine mi_ireturn h hr dJ9_abs_0f7a4_10 ?_
    exact ⟨rfl, by omega, by omega⟩
  · refine mi_iload_n h dJ9_abs_0f7a4_4 (by rfl) ?_
    refine mi_ineg h dJ9_abs_0f7a4_5 ?_
    refine mi_goto (tgt := 10) h dJ9_abs_0f7a4_6 (by decide) ?_
    refine mi_ireturn h hr dJ9_abs_0f7a4_10 ?_
    exact ⟨rfl, by omega, by omega⟩
set_option maxHeartbeats 4000000 in
set_option maxRecDepth 100000 in
theorem c_J9_min_f86c9 {σ : Mem} {a b : Int} (ha : R64 a) (hb : R64 b) : Sp1 yJ9_min_f86c9 cJ9_min_f86c9 4 (some .long) 2 0 [vl a, vl b] σ (fun r σ' => σ = σ' ∧ r = min a b) := by
  refine Sp1_in RJ9 rfl (by decide +kernel) (Nat.le_of_ble_eq_true rfl) [some (vl a), none, some (vl b), none] rfl ?_
  intro K h hr
  refine mi_lload_n h dJ9_min_f86c9_0 (by rfl) ?_
  refine mi_lload_n h dJ9_min_f86c9_1 (by rfl) ?_
  refine mi_lcmp_gt (tgt := 10) h dJ9_min_f86c9_2 dJ9_min_f86c9_3 (by decide) ⟨by omega, by omega⟩ ⟨by omega, by omega⟩ (fun e2 => ?_) (fun e2 => ?_)
  · refine mi_lload_n h dJ9_min_f86c9_10 (by rfl) ?_
    refine mi_lreturn h hr dJ9_min_f86c9_11 ?_
    exact ⟨rfl, by omega⟩
  · refine mi_lload_n h dJ9_min_f86c9_6 (by rfl) ?_
    refine mi_goto (tgt := 11) h dJ9_min_f86c9_7 (by decide) ?_
    refine mi_lreturn h hr dJ9_min_f86c9_11 ?_
    exact ⟨rfl, by omega⟩
set_option maxHeartbeats 4000000 in
set_option maxRecDepth 100000 in
theorem c_J9_min_7cf53 {σ : Mem} {a b : Int} (ha : R32 a) (hb : R32 b) : Sp1 yJ9_min_7cf53 cJ9_min_7cf53 2 (some .int) 1 0 [vi a, vi b] σ (fun r σ' => σ = σ' ∧ r = min a b) := by
  refine Sp1_in RJ9 rfl (by decide +kernel) (Nat.le_of_ble_eq_true rfl) [some (vi a), some (vi b)] rfl ?_
  intro K h hr
  refine mi_iload_n h dJ9_min_7cf53_0 (by rfl) ?_
  refine mi_iload_n h dJ9_min_7cf53_1 (by rfl) ?_
  refine mi_icmp_gt (tgt := 9) h dJ9_min_7cf53_2 (by decide) ⟨by omega, by omega⟩ ⟨by omega, by omega⟩ (fun e2 => ?_) (fun e2 => ?_)
  · refine mi_iload_n h dJ9_min_7cf53_9 (by rfl) ?_
    refine mi_ireturn h hr dJ9_min_7cf53_10 ?_
    exact ⟨rfl, by omega⟩
  · refine mi_iload_n h dJ9_min_7cf53_5 (by rfl) ?_
    refine mi_goto (tgt := 10) h dJ9_min_7cf53_6 (by decide) ?_
    refine mi_ireturn h hr dJ9_min_7cf53_10 ?_
    exact ⟨rfl, by omega⟩
set_option maxHeartbeats 4000000 in
set_option maxRecDepth 100000 in
theorem c_J9_max_7cf53 {σ : Mem} {a b : Int} (ha : R32 a) (hb : R32 b) : Sp1 yJ9_max_7cf53 cJ9_max_7cf53 2 (some .int) 1 0 [vi a, vi b] σ (fun r σ' => σ = σ' ∧ r = max a b) := by
  refine Sp1_in RJ9 rfl (by decide +kernel) (Nat.le_of_ble_eq_true rfl) [some (vi a), some (vi b)] rfl ?_
  intro K h hr
  refine mi_iload_n h dJ9_max_7cf53_0 (by rfl) ?_
  refine mi_iload_n h dJ9_max_7cf53_1 (by rfl) ?_
  refine mi_icmp_lt (tgt := 9) h dJ9_max_7cf53_2 (by decide) ⟨by omega, by omega⟩ ⟨by omega, by omega⟩ (fun e2 => ?_) (fun e2 => ?_)
  · refine mi_iload_n h dJ9_max_7cf53_9 (by rfl) ?_
    refine mi_ireturn h hr dJ9_max_7cf53_10 ?_
    exact ⟨rfl, by omega⟩
  · refine mi_iload_n h dJ9_max_7cf53_5 (by rfl) ?_
    refine mi_goto (tgt := 10) h dJ9_max_7cf53_6 (by decide) ?_
    refine mi_ireturn h hr dJ9_max_7cf53_10 ?_
    exact ⟨rfl, by omega⟩
set_option maxHeartbeats 4000000 in
set_option maxRecDepth 100000 in
theorem c_X3_quotient {σ : Mem} {n b u : Int} (hn : 0 ≤ n ∧ n < 4611686018427387904) (hb : 0 < b ∧ b < 4611686018427387904) (hu : u = 0 ∨ u = 1) : Sp1 yX3_quotient cX3_quotient 5 (some .long) 2 0 [vl n, vl b, vi u] σ (fun r σ' => σ = σ' ∧ r = if u = 1 then qu n b else n / b) := by
  refine Sp1_in RX3 rfl (by decide +kernel) (Nat.le_of_ble_eq_true rfl) [some (vl n), none, some (vl b), none, some (vi u)] rfl ?_
  intro K h hr
  refine mi_lload_n h dX3_quotient_0 (by rfl) ?_
  refine mi_lconst1 h dX3_quotient_1 ?_
  refine mi_lcmp_ge (tgt := 8) h dX3_quotient_2 dX3_quotient_3 (by decide) ⟨by omega, by omega⟩ ⟨by omega, by omega⟩ (fun e2 => ?_) (fun e2 => ?_)
  · refine mi_iload h dX3_quotient_8 (by rfl) ?_
    refine mi_if_eq (tgt := 23) h dX3_quotient_10 (by decide) ⟨by omega, by omega⟩ (fun e10 => ?_) (fun e10 => ?_)
    · refine mi_lload_n h dX3_quotient_23 (by rfl) ?_
      refine mi_lload_n h dX3_quotient_24 (by rfl) ?_
      refine mi_ldiv h dX3_quotient_25 ⟨by omega, by omega⟩ ⟨by omega, by omega⟩ ?_
      refine mi_lreturn h hr dX3_quotient_26 ?_
      first | exact ⟨rfl, by rw [if_pos (by omega)]; rfl⟩ | exact ⟨rfl, by rw [if_neg (by omega)]⟩
    · refine mi_lload_n h dX3_quotient_13 (by rfl) ?_
      refine mi_lload_n h dX3_quotient_14 (by rfl) ?_
      refine mi_ladd h dX3_quotient_15 ?_
      refine mi_lconst1 h dX3_quotient_16 ?_
      refine mi_lsub h dX3_quotient_17 ?_
      refine mi_lload_n h dX3_quotient_18 (by rfl) ?_
      refine mi_ldiv h dX3_quotient_19 ⟨by omega, by omega⟩ ⟨by omega, by omega⟩ ?_
      refine mi_goto (tgt := 26) h dX3_quotient_20 (by decide) ?_
      refine mi_lreturn h hr dX3_quotient_26 ?_
      first | exact ⟨rfl, by rw [if_pos (by omega)]; rfl⟩ | exact ⟨rfl, by rw [if_neg (by omega)]⟩
  · exfalso; omega
