theorem up_app (σ : Mem) (c k : Nat) (z : Int) (c' k' : Nat) : up σ c k z c' k' = if c' = c then (if k' = k then z else σ c' k') else σ c' k' := rfl
set_option maxHeartbeats 4000000 in
set_option maxRecDepth 100000 in
theorem c_X5_isPipe {σ : Mem} {x : Int} (hS0 : IS σ) (hx : R32 x) : Sp1 yX5_isPipe cX5_isPipe 2 (some .boolean) 1 0 [vr 0, vi x] σ (fun r σ' => σ = σ' ∧ (r = 0 ∨ r = 1) ∧ (r = 1 ↔ 0 ≤ x ∧ x < σ 1 4)) := by
  refine Sp1_in RX5 rfl (by decide +kernel) (Nat.le_of_ble_eq_true rfl) [some (vr 0), some (vi x)] rfl ?_
  intro K h hr
  obtain ⟨i1, i2, i3, i4, i5, i6, i7, i8⟩ := id hS0
  refine mi_iload_n h dX5_isPipe_0 (by rfl) ?_
  refine mi_if_lt (tgt := 19) h dX5_isPipe_1 (by decide) ⟨by omega, by omega⟩ (fun e1 => ?_) (fun e1 => ?_)
  · refine mi_iconst h dX5_isPipe_19 ?_
    refine mi_zreturn h hr dX5_isPipe_20 (by omega) ?_
    exact ⟨rfl, by omega, by omega⟩
  · refine mi_iload_n h dX5_isPipe_4 (by rfl) ?_
    refine mi_aload_n h dX5_isPipe_5 (by rfl) ?_
    refine gf_X5_0 h dX5_isPipe_6 fl_RX5_17 ?_
    refine gf_X1_4 h dX5_isPipe_9 fl_RX5_71 ?_
    refine mi_icmp_ge (tgt := 19) h dX5_isPipe_12 (by decide) ⟨by omega, by omega⟩ ⟨by omega, by omega⟩ (fun e12 => ?_) (fun e12 => ?_)
    · refine mi_iconst h dX5_isPipe_19 ?_
      refine mi_zreturn h hr dX5_isPipe_20 (by omega) ?_
      exact ⟨rfl, by omega, by omega⟩
    · refine mi_iconst h dX5_isPipe_15 ?_
      refine mi_goto (tgt := 20) h dX5_isPipe_16 (by decide) ?_
      refine mi_zreturn h hr dX5_isPipe_20 (by omega) ?_
      exact ⟨rfl, by omega, by omega⟩
set_option maxHeartbeats 4000000 in
set_option maxRecDepth 100000 in
theorem c_X5_isEnd {σ : Mem} {x : Int} (hS0 : IS σ) (hx : R32 x) : Sp1 yX5_isEnd cX5_isEnd 2 (some .boolean) 1 1 [vr 0, vi x] σ (fun r σ' => σ = σ' ∧ (r = 0 ∨ r = 1) ∧ (r = 1 ↔ -1 ≤ x ∧ x < σ 1 4)) := by
  refine Sp1_in RX5 rfl (by decide +kernel) (Nat.le_of_ble_eq_true rfl) [some (vr 0), some (vi x)] rfl ?_
  intro K h hr
  obtain ⟨i1, i2, i3, i4, i5, i6, i7, i8⟩ := id hS0
  refine mi_iload_n h dX5_isEnd_0 (by rfl) ?_
  refine mi_iconst h dX5_isEnd_1 ?_
  refine mi_icmp_eq (tgt := 13) h dX5_isEnd_2 (by decide) ⟨by omega, by omega⟩ ⟨by omega, by omega⟩ (fun e2 => ?_) (fun e2 => ?_)
  · refine mi_iconst h dX5_isEnd_13 ?_
    refine mi_goto (tgt := 18) h dX5_isEnd_14 (by decide) ?_
    refine mi_zreturn h hr dX5_isEnd_18 (by omega) ?_
    exact ⟨rfl, by omega, by omega⟩
  · refine mi_aload_n h dX5_isEnd_5 (by rfl) ?_
    refine mi_iload_n h dX5_isEnd_6 (by rfl) ?_
    refine mi_cV1i (hw := Nat.le_of_ble_eq_true rfl) h dX5_isEnd_7 ml_RX5_81 ym_yX5_isPipe (by rfl) (by rfl) (c_X5_isPipe hS0 ⟨by omega, by omega⟩) (fun r7 σ7 hp7 => ?_)
    obtain ⟨rfl, hb7, hc7⟩ := hp7
    refine mi_if_eq (tgt := 17) h dX5_isEnd_10 (by decide) ⟨by omega, by omega⟩ (fun e10 => ?_) (fun e10 => ?_)
    · refine mi_iconst h dX5_isEnd_17 ?_
      refine mi_zreturn h hr dX5_isEnd_18 (by omega) ?_
      exact ⟨rfl, by omega, by omega⟩
    · refine mi_iconst h dX5_isEnd_13 ?_
      refine mi_goto (tgt := 18) h dX5_isEnd_14 (by decide) ?_
      refine mi_zreturn h hr dX5_isEnd_18 (by omega) ?_
      exact ⟨rfl, by omega, by omega⟩
set_option maxHeartbeats 4000000 in
set_option maxRecDepth 100000 in
theorem c_X5_isSize {σ : Mem} {x : Int} (hS0 : IS σ) (hx : R32 x) : Sp1 yX5_isSize cX5_isSize 2 (some .boolean) 1 0 [vr 0, vi x] σ (fun r σ' => σ = σ' ∧ (r = 0 ∨ r = 1) ∧ (r = 1 ↔ 0 ≤ x ∧ x < σ 1 1)) := by
  refine Sp1_in RX5 rfl (by decide +kernel) (Nat.le_of_ble_eq_true rfl) [some (vr 0), some (vi x)] rfl ?_
  intro K h hr
  obtain ⟨i1, i2, i3, i4, i5, i6, i7, i8⟩ := id hS0
  refine mi_iload_n h dX5_isSize_0 (by rfl) ?_
  refine mi_if_lt (tgt := 19) h dX5_isSize_1 (by decide) ⟨by omega, by omega⟩ (fun e1 => ?_) (fun e1 => ?_)
  · refine mi_iconst h dX5_isSize_19 ?_
    refine mi_zreturn h hr dX5_isSize_20 (by omega) ?_
    exact ⟨rfl, by omega, by omega⟩
  · refine mi_iload_n h dX5_isSize_4 (by rfl) ?_
    refine mi_aload_n h dX5_isSize_5 (by rfl) ?_
    refine gf_X5_0 h dX5_isSize_6 fl_RX5_17 ?_
    refine gf_X1_1 h dX5_isSize_9 fl_RX5_57 ?_
    refine mi_icmp_ge (tgt := 19) h dX5_isSize_12 (by decide) ⟨by omega, by omega⟩ ⟨by omega, by omega⟩ (fun e12 => ?_) (fun e12 => ?_)
    · refine mi_iconst h dX5_isSize_19 ?_
      refine mi_zreturn h hr dX5_isSize_20 (by omega) ?_
      exact ⟨rfl, by omega, by omega⟩
    · refine mi_iconst h dX5_isSize_15 ?_
      refine mi_goto (tgt := 20) h dX5_isSize_16 (by decide) ?_
      refine mi_zreturn h hr dX5_isSize_20 (by omega) ?_
      exact ⟨rfl, by omega, by omega⟩
set_option maxHeartbeats 4000000 in
set_option maxRecDepth 100000 in
theorem c_X5_isHeap {σ : Mem} {x : Int} (hS0 : IS σ) (hx : R32 x) : Sp1 yX5_isHeap cX5_isHeap 2 (some .boolean) 1 0 [vr 0, vi x] σ (fun r σ' => σ = σ' ∧ (r = 0 ∨ r = 1) ∧ (r = 1 ↔ 0 ≤ x ∧ x < σ 0 5)) := by
  refine Sp1_in RX5 rfl (by decide +kernel) (Nat.le_of_ble_eq_true rfl) [some (vr 0), some (vi x)] rfl ?_
  intro K h hr
  obtain ⟨i1, i2, i3, i4, i5, i6, i7, i8⟩ := id hS0
  refine mi_iload_n h dX5_isHeap_0 (by rfl) ?_
  refine mi_if_lt (tgt := 16) h dX5_isHeap_1 (by decide) ⟨by omega, by omega⟩ (fun e1 => ?_) (fun e1 => ?_)
  · refine mi_iconst h dX5_isHeap_16 ?_
    refine mi_zreturn h hr dX5_isHeap_17 (by omega) ?_
    exact ⟨rfl, by omega, by omega⟩
  · refine mi_iload_n h dX5_isHeap_4 (by rfl) ?_
    refine mi_aload_n h dX5_isHeap_5 (by rfl) ?_
    refine gf_X5_5 h dX5_isHeap_6 fl_RX5_166 ?_
    refine mi_icmp_ge (tgt := 16) h dX5_isHeap_9 (by decide) ⟨by omega, by omega⟩ ⟨by omega, by omega⟩ (fun e9 => ?_) (fun e9 => ?_)
    · refine mi_iconst h dX5_isHeap_16 ?_
      refine mi_zreturn h hr dX5_isHeap_17 (by omega) ?_
      exact ⟨rfl, by omega, by omega⟩
    · refine mi_iconst h dX5_isHeap_12 ?_
      refine mi_goto (tgt := 17) h dX5_isHeap_13 (by decide) ?_
      refine mi_zreturn h hr dX5_isHeap_17 (by omega) ?_
      exact ⟨rfl, by omega, by omega⟩
set_option maxHeartbeats 4000000 in
set_option maxRecDepth 100000 in
theorem c_X5_isHead {σ : Mem} {x : Int} (hS0 : IS σ) (hx : R32 x) : Sp1 yX5_isHead cX5_isHead 2 (some .boolean) 1 1 [vr 0, vi x] σ (fun r σ' => σ = σ' ∧ (r = 0 ∨ r = 1) ∧ (r = 1 ↔ 0 ≤ x ∧ x < σ 1 4 ∧ bv (σ 1 12) x.toNat = 1)) := by
  refine Sp1_in RX5 rfl (by decide +kernel) (Nat.le_of_ble_eq_true rfl) [some (vr 0), some (vi x)] rfl ?_
  intro K h hr
  obtain ⟨i1, i2, i3, i4, i5, i6, i7, i8⟩ := id hS0
  have hv := bv_01 (σ 1 12) x.toNat
  refine mi_aload_n h dX5_isHead_0 (by rfl) ?_
  refine mi_iload_n h dX5_isHead_1 (by rfl) ?_
  refine mi_cV1i (hw := Nat.le_of_ble_eq_true rfl) h dX5_isHead_2 ml_RX5_81 ym_yX5_isPipe (by rfl) (by rfl) (c_X5_isPipe hS0 ⟨by omega, by omega⟩) (fun r2 σ2 hp2 => ?_)
  obtain ⟨rfl, hb2, hc2⟩ := hp2
  refine mi_if_eq (tgt := 27) h dX5_isHead_5 (by decide) ⟨by omega, by omega⟩ (fun e5 => ?_) (fun e5 => ?_)
  · refine mi_iconst h dX5_isHead_27 ?_
    refine mi_zreturn h hr dX5_isHead_28 (by omega) ?_
    refine ⟨rfl, ?_⟩
    try rw [Int.toNat_natCast]
    exact ⟨by omega, by omega⟩
  · have hx2 : x = ((x.toNat : Nat) : Int) := (Int.toNat_of_nonneg (by omega)).symm
    generalize x.toNat = i at hx2 hv
    subst hx2
    refine mi_aload_n h dX5_isHead_8 (by rfl) ?_
    refine gf_X5_0 h dX5_isHead_9 fl_RX5_17 ?_
    refine gf_X1_12 h dX5_isHead_12 fl_RX5_146 ?_
    refine mi_iload_n h dX5_isHead_15 (by rfl) ?_
    refine mi_cS2i (hw := Nat.le_of_ble_eq_true rfl) h dX5_isHead_16 ml_RX5_94 ym_yX5_bit (c_bit ⟨by omega, by omega⟩ (by omega)) (fun r16 σ16 hp16 => ?_)
    obtain ⟨rfl, hv16⟩ := hp16
    refine mi_iconst h dX5_isHead_19 ?_
    refine mi_icmp_ne (tgt := 27) h dX5_isHead_20 (by decide) ⟨by omega, by omega⟩ ⟨by omega, by omega⟩ (fun e20 => ?_) (fun e20 => ?_)
    · refine mi_iconst h dX5_isHead_27 ?_
      refine mi_zreturn h hr dX5_isHead_28 (by omega) ?_
      refine ⟨rfl, ?_⟩
      try rw [Int.toNat_natCast]
      exact ⟨by omega, by omega⟩
    · refine mi_iconst h dX5_isHead_23 ?_
      refine mi_goto (tgt := 28) h dX5_isHead_24 (by decide) ?_
      refine mi_zreturn h hr dX5_isHead_28 (by omega) ?_
      refine ⟨rfl, ?_⟩
      try rw [Int.toNat_natCast]
      exact ⟨by omega, by omega⟩
set_option maxHeartbeats 4000000 in
set_option maxRecDepth 100000 in
theorem c_X1_dragWith {σ : Mem} {p z : Nat} (hp : p < 24) (hz : z < 6) : Sp1 yX1_dragWith cX1_dragWith 3 (some .int) 1 0 [vr 1, vi (p : Int), vi (z : Int)] σ (fun r σ' => σ = σ' ∧ r = σ 9 p * σ 6 z) := by
  refine Sp1_in RX1 rfl (by decide +kernel) (Nat.le_of_ble_eq_true rfl) [some (vr 1), some (vi (p : Int)), some (vi (z : Int))] rfl ?_
  intro K h hr
  refine mi_aload_n h dX1_dragWith_0 (by rfl) ?_
  refine gf_X1_6 h dX1_dragWith_1 fl_RX1_25 ?_
  refine mi_iload_n h dX1_dragWith_4 (by rfl) ?_
  refine mn_iaload (p) h dX1_dragWith_5 (by rfl) (by omega) (by omega) (by decide) ?_
  refine mi_aload_n h dX1_dragWith_6 (by rfl) ?_
  refine gf_X1_2 h dX1_dragWith_7 fl_RX1_15 ?_
  refine mi_iload_n h dX1_dragWith_10 (by rfl) ?_
  refine mn_iaload (z) h dX1_dragWith_11 (by rfl) (by omega) (by omega) (by decide) ?_
  refine mi_imul h dX1_dragWith_12 ?_
  refine mi_ireturn h hr dX1_dragWith_13 ?_
  exact ⟨rfl, rfl⟩
set_option maxHeartbeats 4000000 in
set_option maxRecDepth 100000 in
theorem c_X1_priceWith {σ : Mem} {p z : Nat} (hp : p < 24) (hz : z < 6) : Sp1 yX1_priceWith cX1_priceWith 3 (some .int) 1 0 [vr 1, vi (p : Int), vi (z : Int)] σ (fun r σ' => σ = σ' ∧ r = σ 9 p * σ 7 z) := by
  refine Sp1_in RX1 rfl (by decide +kernel) (Nat.le_of_ble_eq_true rfl) [some (vr 1), some (vi (p : Int)), some (vi (z : Int))] rfl ?_
  intro K h hr
  refine mi_aload_n h dX1_priceWith_0 (by rfl) ?_
  refine gf_X1_6 h dX1_priceWith_1 fl_RX1_25 ?_
  refine mi_iload_n h dX1_priceWith_4 (by rfl) ?_
  refine mn_iaload (p) h dX1_priceWith_5 (by rfl) (by omega) (by omega) (by decide) ?_
  refine mi_aload_n h dX1_priceWith_6 (by rfl) ?_
  refine gf_X1_3 h dX1_priceWith_7 fl_RX1_19 ?_
  refine mi_iload_n h dX1_priceWith_10 (by rfl) ?_
  refine mn_iaload (z) h dX1_priceWith_11 (by rfl) (by omega) (by omega) (by decide) ?_
  refine mi_imul h dX1_priceWith_12 ?_
  refine mi_ireturn h hr dX1_priceWith_13 ?_
  exact ⟨rfl, rfl⟩
def fnw (f c : Int) : Int := f * (100 - c) / 100
theorem fnw_rng {f c : Int} (hf : 0 ≤ f ∧ f ≤ 200) (hc : 0 ≤ c ∧ c ≤ 100) : 0 ≤ f * (100 - c) ∧ f * (100 - c) ≤ 20000 ∧ 0 ≤ fnw f c ∧ fnw f c ≤ 200 := by
  have h1 : 0 ≤ f * (100 - c) := Int.mul_nonneg hf.1 (by omega)
  have h2 : f * (100 - c) ≤ 200 * 100 := Int.mul_le_mul hf.2 (by omega) (by omega) (by omega)
  unfold fnw
  omega
set_option maxHeartbeats 4000000 in
set_option maxRecDepth 100000 in
theorem c_X1_factorNow {σ : Mem} {p : Nat} (hp : p < 24) (hf : 0 ≤ σ 13 p ∧ σ 13 p ≤ 200) (hc : 0 ≤ σ 15 p ∧ σ 15 p ≤ 100) : Sp1 yX1_factorNow cX1_factorNow 2 (some .int) 1 0 [vr 1, vi (p : Int)] σ (fun r σ' => σ = σ' ∧ r = fnw (σ 13 p) (σ 15 p)) := by
  refine Sp1_in RX1 rfl (by decide +kernel) (Nat.le_of_ble_eq_true rfl) [some (vr 1), some (vi (p : Int))] rfl ?_
  intro K h hr
  have h9 := fnw_rng hf hc
  refine mi_aload_n h dX1_factorNow_0 (by rfl) ?_
  refine gf_X1_14 h dX1_factorNow_1 fl_RX1_37 ?_
  refine mi_iload_n h dX1_factorNow_4 (by rfl) ?_
  refine mn_iaload (p) h dX1_factorNow_5 (by rfl) (by omega) (by omega) (by decide) ?_
  refine mi_bipush h dX1_factorNow_6 (by decide) ?_
  refine mi_aload_n h dX1_factorNow_8 (by rfl) ?_
  refine gf_X1_16 h dX1_factorNow_9 fl_RX1_43 ?_
  refine mi_iload_n h dX1_factorNow_12 (by rfl) ?_
  refine mn_iaload (p) h dX1_factorNow_13 (by rfl) (by omega) (by omega) (by decide) ?_
  refine mi_isub h dX1_factorNow_14 ?_
  refine mi_imul h dX1_factorNow_15 ?_
  refine mi_bipush h dX1_factorNow_16 (by decide) ?_
  refine mi_idiv h dX1_factorNow_18 ⟨by omega, by omega⟩ ⟨by omega, by omega⟩ ?_
  refine mi_ireturn h hr dX1_factorNow_19 ?_
  exact ⟨rfl, rfl⟩
set_option maxHeartbeats 4000000 in
set_option maxRecDepth 100000 in
theorem c_X1_addSize {σ : Mem} {d c : Int} (hz : 0 ≤ σ 1 1 ∧ σ 1 1 < 6) : Sp1 yX1_addSize cX1_addSize 3 (some .int) 1 0 [vr 1, vi d, vi c] σ (fun r σ' => r = σ 1 1 ∧ up (up (up σ 6 (σ 1 1).toNat d) 7 (σ 1 1).toNat c) 1 1 (σ 1 1 + 1) = σ') := by
  refine Sp1_in RX1 rfl (by decide +kernel) (Nat.le_of_ble_eq_true rfl) [some (vr 1), some (vi d), some (vi c)] rfl ?_
  intro K h hr
  refine mi_aload_n h dX1_addSize_0 (by rfl) ?_
  refine gf_X1_2 h dX1_addSize_1 fl_RX1_15 ?_
  refine mi_aload_n h dX1_addSize_4 (by rfl) ?_
  refine gf_X1_1 h dX1_addSize_5 fl_RX1_46 ?_
  refine mi_iload_n h dX1_addSize_8 (by rfl) ?_
  refine mn_iastore ((σ 1 1).toNat) h dX1_addSize_9 (by rfl) (by omega) (by omega) (by decide) ?_
  refine mi_aload_n h dX1_addSize_10 (by rfl) ?_
  refine gf_X1_3 h dX1_addSize_11 fl_RX1_19 ?_
  refine mi_aload_n h dX1_addSize_14 (by rfl) ?_
  refine gf_X1_1 h dX1_addSize_15 fl_RX1_46 ?_
  try simp only [up_app, Nat.reduceEqDiff, reduceIte, Nat.add_eq_zero_iff, Nat.succ_ne_self, Nat.add_right_cancel_iff]
  refine mi_iload_n h dX1_addSize_18 (by rfl) ?_
  refine mn_iastore ((σ 1 1).toNat) h dX1_addSize_19 (by rfl) (by omega) (by omega) (by decide) ?_
  refine mi_aload_n h dX1_addSize_20 (by rfl) ?_
  refine mi_dup h dX1_addSize_21 (fun _ => rfl) ?_
  refine gf_X1_1 h dX1_addSize_22 fl_RX1_46 ?_
  try simp only [up_app, Nat.reduceEqDiff, reduceIte, Nat.add_eq_zero_iff, Nat.succ_ne_self, Nat.add_right_cancel_iff]
  refine mi_dup_x1 h dX1_addSize_25 (fun _ => rfl) (fun _ => rfl) ?_
  refine mi_iconst h dX1_addSize_26 ?_
  refine mi_iadd h dX1_addSize_27 ?_
  refine pf_X1_1 h dX1_addSize_28 fl_RX1_46 ?_
  refine mi_ireturn h hr dX1_addSize_31 ?_
  exact ⟨rfl, rfl⟩
set_option maxHeartbeats 4000000 in
set_option maxRecDepth 100000 in
theorem c_X1_setSize {σ : Mem} {p z : Nat} (hp : p < 24) (hz : z < 6) : Sp1 yX1_setSize cX1_setSize 3 none 0 1 [vr 1, vi (p : Int), vi (z : Int)] σ (fun r σ' => up (up σ 10 p z) 12 (p + 1) (σ 9 p * σ 6 z) = σ') := by
  refine Sp1_in RX1 rfl (by decide +kernel) (Nat.le_of_ble_eq_true rfl) [some (vr 1), some (vi (p : Int)), some (vi (z : Int))] rfl ?_
  intro K h hr
  refine mi_aload_n h dX1_setSize_0 (by rfl) ?_
  refine gf_X1_7 h dX1_setSize_1 fl_RX1_28 ?_
  refine mi_iload_n h dX1_setSize_4 (by rfl) ?_
  refine mi_iload_n h dX1_setSize_5 (by rfl) ?_
  refine mn_iastore (p) h dX1_setSize_6 (by rfl) (by omega) (by omega) (by decide) ?_
  refine mi_aload_n h dX1_setSize_7 (by rfl) ?_
  refine gf_X1_9 h dX1_setSize_8 fl_RX1_34 ?_
  refine mi_iload_n h dX1_setSize_11 (by rfl) ?_
  refine mi_iconst h dX1_setSize_12 ?_
  refine mi_iadd h dX1_setSize_13 ?_
  refine mi_aload_n h dX1_setSize_14 (by rfl) ?_
  refine mi_iload_n h dX1_setSize_15 (by rfl) ?_
  refine mi_iload_n h dX1_setSize_16 (by rfl) ?_
  refine mi_cV2i (hw := Nat.le_of_ble_eq_true rfl) h dX1_setSize_17 ml_RX1_56 ym_yX1_dragWith (by rfl) (by rfl) (c_X1_dragWith hp hz) (fun r17 σ17 hp17 => ?_)
  obtain ⟨rfl, rfl⟩ := hp17
  refine mn_iastore (p + 1) h dX1_setSize_20 (by rfl) (by omega) (by omega) (by decide) ?_
  refine mi_return (x := 0) h hr dX1_setSize_21 ?_
  rfl
set_option maxHeartbeats 4000000 in
set_option maxRecDepth 100000 in
theorem c_X1_setHead {σ : Mem} {p : Nat} {f n : Int} (hp : p < 24) (h12 : 0 ≤ σ 1 12 ∧ σ 1 12 < 16777216) (h13 : 0 ≤ σ 1 13 ∧ σ 1 13 < 16777216) : Sp1 yX1_setHead cX1_setHead 4 none 0 1 [vr 1, vi (p : Int), vi f, vi n] σ (fun r σ' => up (up (up (up (up σ 1 12 (wb (σ 1 12) p 1)) 1 13 (wb (σ 1 13) p 0)) 13 p f) 14 p n) 15 p 0 = σ') := by
  refine Sp1_in RX1 rfl (by decide +kernel) (Nat.le_of_ble_eq_true rfl) [some (vr 1), some (vi (p : Int)), some (vi f), some (vi n)] rfl ?_
  intro K h hr
  refine mi_aload_n h dX1_setHead_0 (by rfl) ?_
  refine mi_aload_n h dX1_setHead_1 (by rfl) ?_
  refine gf_X1_12 h dX1_setHead_2 fl_RX1_60 ?_
  refine mi_iload_n h dX1_setHead_5 (by rfl) ?_
  refine mi_iconst h dX1_setHead_6 ?_
  refine mi_cN3i (hw := Nat.le_of_ble_eq_true rfl) (host := "SprinklerHouse") h dX1_setHead_7 (by decide) ym_yX5_withBit (c_X5_withBit h12 hp (by omega)) (fun r7 σ7 hp7 => ?_)
  obtain ⟨rfl, rfl⟩ := hp7
  refine pf_X1_12 h dX1_setHead_10 fl_RX1_60 ?_
  refine mi_aload_n h dX1_setHead_13 (by rfl) ?_
  refine mi_aload_n h dX1_setHead_14 (by rfl) ?_
  refine gf_X1_13 h dX1_setHead_15 fl_RX1_67 ?_
  try simp only [up_app, Nat.reduceEqDiff, reduceIte, Nat.add_eq_zero_iff, Nat.succ_ne_self, Nat.add_right_cancel_iff]
  refine mi_iload_n h dX1_setHead_18 (by rfl) ?_
  refine mi_iconst h dX1_setHead_19 ?_
  refine mi_cN3i (hw := Nat.le_of_ble_eq_true rfl) (host := "SprinklerHouse") h dX1_setHead_20 (by decide) ym_yX5_withBit (c_X5_withBit h13 hp (by omega)) (fun r20 σ20 hp20 => ?_)
  obtain ⟨rfl, rfl⟩ := hp20
  refine pf_X1_13 h dX1_setHead_23 fl_RX1_67 ?_
  refine mi_aload_n h dX1_setHead_26 (by rfl) ?_
  refine gf_X1_14 h dX1_setHead_27 fl_RX1_37 ?_
  refine mi_iload_n h dX1_setHead_30 (by rfl) ?_
  refine mi_iload_n h dX1_setHead_31 (by rfl) ?_
  refine mn_iastore (p) h dX1_setHead_32 (by rfl) (by omega) (by omega) (by decide) ?_
  refine mi_aload_n h dX1_setHead_33 (by rfl) ?_
  refine gf_X1_15 h dX1_setHead_34 fl_RX1_40 ?_
  refine mi_iload_n h dX1_setHead_37 (by rfl) ?_
  refine mi_iload_n h dX1_setHead_38 (by rfl) ?_
  refine mn_iastore (p) h dX1_setHead_39 (by rfl) (by omega) (by omega) (by decide) ?_
  refine mi_aload_n h dX1_setHead_40 (by rfl) ?_
  refine gf_X1_16 h dX1_setHead_41 fl_RX1_43 ?_
  refine mi_iload_n h dX1_setHead_44 (by rfl) ?_
  refine mi_iconst h dX1_setHead_45 ?_
  refine mn_iastore (p) h dX1_setHead_46 (by rfl) (by omega) (by omega) (by decide) ?_
  refine mi_return (x := 0) h hr dX1_setHead_47 ?_
  rfl
set_option maxHeartbeats 4000000 in
set_option maxRecDepth 100000 in
theorem c_X1_addPipe {σ : Mem} {f l : Int} {z : Nat} (hn : 0 ≤ σ 1 4 ∧ σ 1 4 < 24) (hf : -1 ≤ f ∧ f < σ 1 4) (hz : z < 6) : Sp1 yX1_addPipe cX1_addPipe 4 (some .int) 1 2 [vr 1, vi f, vi l, vi (z : Int)] σ (fun r σ' => r = σ 1 4 ∧ up (up (up (up (up (up σ 8 (σ 1 4).toNat f) 9 (σ 1 4).toNat l) 11 ((σ 1 4).toNat + 1) (σ 11 (f + 1).toNat + 1)) 10 (σ 1 4).toNat z) 12 ((σ 1 4).toNat + 1) (l * σ 6 z)) 1 4 (σ 1 4 + 1) = σ') := by
  refine Sp1_in RX1 rfl (by decide +kernel) (Nat.le_of_ble_eq_true rfl) [some (vr 1), some (vi f), some (vi l), some (vi (z : Int))] rfl ?_
  intro K h hr
  obtain ⟨n, hN⟩ : ∃ n : Nat, σ 1 4 = (n : Int) := ⟨(σ 1 4).toNat, (Int.toNat_of_nonneg hn.1).symm⟩
  rw [hN, Int.toNat_natCast] at hr
  refine mi_aload_n h dX1_addPipe_0 (by rfl) ?_
  refine gf_X1_5 h dX1_addPipe_1 fl_RX1_22 ?_
  refine mi_aload_n h dX1_addPipe_4 (by rfl) ?_
  refine gf_X1_4 h dX1_addPipe_5 fl_RX1_49 ?_
  refine mi_iload_n h dX1_addPipe_8 (by rfl) ?_
  refine mn_iastore (n) h dX1_addPipe_9 (by rfl) (by omega) (by omega) (by decide) ?_
  refine mi_aload_n h dX1_addPipe_10 (by rfl) ?_
  refine gf_X1_6 h dX1_addPipe_11 fl_RX1_25 ?_
  refine mi_aload_n h dX1_addPipe_14 (by rfl) ?_
  refine gf_X1_4 h dX1_addPipe_15 fl_RX1_49 ?_
  try simp only [up_app, Nat.reduceEqDiff, reduceIte, Nat.add_eq_zero_iff, Nat.succ_ne_self, Nat.add_right_cancel_iff]
  refine mi_iload_n h dX1_addPipe_18 (by rfl) ?_
  refine mn_iastore (n) h dX1_addPipe_19 (by rfl) (by omega) (by omega) (by decide) ?_
  refine mi_aload_n h dX1_addPipe_20 (by rfl) ?_
  refine gf_X1_8 h dX1_addPipe_21 fl_RX1_31 ?_
  refine mi_aload_n h dX1_addPipe_24 (by rfl) ?_
  refine gf_X1_4 h dX1_addPipe_25 fl_RX1_49 ?_
  try simp only [up_app, Nat.reduceEqDiff, reduceIte, Nat.add_eq_zero_iff, Nat.succ_ne_self, Nat.add_right_cancel_iff]
  refine mi_iconst h dX1_addPipe_28 ?_
  refine mi_iadd h dX1_addPipe_29 ?_
  refine mi_aload_n h dX1_addPipe_30 (by rfl) ?_
  refine gf_X1_8 h dX1_addPipe_31 fl_RX1_31 ?_
  refine mi_iload_n h dX1_addPipe_34 (by rfl) ?_
  refine mi_iconst h dX1_addPipe_35 ?_
  refine mi_iadd h dX1_addPipe_36 ?_
  refine mn_iaload ((f + 1).toNat) h dX1_addPipe_37 (by rfl) (by omega) (by omega) (by decide) ?_
  try simp only [up_app, Nat.reduceEqDiff, reduceIte, Nat.add_eq_zero_iff, Nat.succ_ne_self, Nat.add_right_cancel_iff]
  refine mi_iconst h dX1_addPipe_38 ?_
  refine mi_iadd h dX1_addPipe_39 ?_
  refine mn_iastore (n + 1) h dX1_addPipe_40 (by rfl) (by omega) (by omega) (by decide) ?_
  refine mi_aload_n h dX1_addPipe_41 (by rfl) ?_
  refine mi_aload_n h dX1_addPipe_42 (by rfl) ?_
  refine gf_X1_4 h dX1_addPipe_43 fl_RX1_49 ?_
  try simp only [up_app, Nat.reduceEqDiff, reduceIte, Nat.add_eq_zero_iff, Nat.succ_ne_self, Nat.add_right_cancel_iff]
  refine mt_e (y := (n : Int)) hN ?_
  refine mi_iload_n h dX1_addPipe_46 (by rfl) ?_
  refine mi_cV2v (hw := Nat.le_of_ble_eq_true rfl) h dX1_addPipe_47 ml_RX1_52 ym_yX1_setSize (by rfl) (by rfl) (c_X1_setSize (p := n) (by omega) hz) (fun r47 σ47 hp47 => ?_)
  subst hp47
  refine mi_aload_n h dX1_addPipe_50 (by rfl) ?_
  refine mi_dup h dX1_addPipe_51 (fun _ => rfl) ?_
  refine gf_X1_4 h dX1_addPipe_52 fl_RX1_49 ?_
  try simp only [up_app, Nat.reduceEqDiff, reduceIte, Nat.add_eq_zero_iff, Nat.succ_ne_self, Nat.add_right_cancel_iff]
  refine mi_dup_x1 h dX1_addPipe_55 (fun _ => rfl) (fun _ => rfl) ?_
  refine mi_iconst h dX1_addPipe_56 ?_
  refine mi_iadd h dX1_addPipe_57 ?_
  refine pf_X1_4 h dX1_addPipe_58 fl_RX1_49 ?_
  refine mi_ireturn h hr dX1_addPipe_61 ?_
  exact ⟨by simp only [up_app, Nat.reduceEqDiff, reduceIte, hN], by simp only [up_app, Nat.reduceEqDiff, reduceIte, hN]⟩
