/-! the reference: what holds of its memory -/
def JS (σ : Mem) : Prop := (1 ≤ σ 28 0 ∧ σ 28 0 ≤ 100000) ∧ (0 ≤ σ 28 1 ∧ σ 28 1 ≤ 4000) ∧ (0 ≤ σ 28 4 ∧ σ 28 4 ≤ 6) ∧ (0 ≤ σ 28 11 ∧ σ 28 11 ≤ 24) ∧ (0 ≤ σ 28 25 ∧ σ 28 25 ≤ 6) ∧ (2 ≤ σ 28 29 ∧ σ 28 29 ≤ 16) ∧ (2 ≤ σ 28 30 ∧ σ 28 30 ≤ 16)
def JZ (σ : Mem) : Prop := ∀ i : Nat, i < 6 → (0 ≤ σ 29 i ∧ σ 29 i ≤ 400) ∧ (0 ≤ σ 30 i ∧ σ 30 i ≤ 1000)
def JP (σ : Mem) : Prop := ∀ p : Nat, p < 24 → (-1 ≤ σ 31 p ∧ σ 31 p ≤ 23) ∧ (0 ≤ σ 32 p ∧ σ 32 p ≤ 10) ∧ (0 ≤ σ 33 p ∧ σ 33 p ≤ 5) ∧ (0 ≤ σ 34 p ∧ σ 34 p ≤ 8) ∧ (0 ≤ σ 38 p ∧ σ 38 p ≤ 200) ∧ (0 ≤ σ 39 p ∧ σ 39 p ≤ 30000) ∧ (0 ≤ σ 41 p ∧ σ 41 p ≤ 100)
def JB (σ : Mem) : Prop := (∀ p : Nat, p < 24 → (σ 35 p = 0 ∨ σ 35 p = 1) ∧ (σ 36 p = 0 ∨ σ 36 p = 1) ∧ (σ 37 p = 0 ∨ σ 37 p = 1) ∧ (σ 40 p = 0 ∨ σ 40 p = 1) ∧ (σ 54 p = 0 ∨ σ 54 p = 1)) ∧ (∀ k : Nat, k < 144 → σ 49 k = 0 ∨ σ 49 k = 1)
def JQ (σ : Mem) : Prop := ∀ p : Nat, (p : Int) < σ 28 11 → σ 31 p < p ∧ σ 33 p < σ 28 4
def JF (σ : Mem) : Prop := (∀ k : Nat, k < 256 → 0 ≤ σ 53 k ∧ σ 53 k ≤ 2) ∧ (∀ p : Nat, p < 24 → (0 ≤ σ 55 p ∧ σ 55 p ≤ 15) ∧ (0 ≤ σ 56 p ∧ σ 56 p ≤ 15) ∧ (0 ≤ σ 57 p ∧ σ 57 p ≤ 12))
set_option maxHeartbeats 4000000 in
set_option maxRecDepth 100000 in
theorem c_X6_isPipe {σ : Mem} {x : Int} (hJ : JS σ) (hx : R32 x) : Sp1 yX6_isPipe cX6_isPipe 2 (some .boolean) 1 1 [vr 28, vi x] σ (fun r σ' => σ = σ' ∧ (r = 0 ∨ r = 1) ∧ (r = 1 ↔ 0 ≤ x ∧ x < σ 28 11)) := by
  refine Sp1_in RX6 rfl (by decide +kernel) (Nat.le_of_ble_eq_true rfl) [some (vr 28), some (vi x)] rfl ?_
  intro K h hr
  obtain ⟨j1, j2, j3, j4, j5, j6, j7⟩ := id hJ
  refine mi_iload_n h dX6_isPipe_0 (by rfl) ?_
  refine mi_i2l h dX6_isPipe_1 ⟨by omega, by omega⟩ ?_
  refine mi_lconst0 h dX6_isPipe_2 ?_
  refine mi_aload_n h dX6_isPipe_3 (by rfl) ?_
  refine gf_X6_11 h dX6_isPipe_4 fl_RX6_109 ?_
  refine mi_iconst h dX6_isPipe_7 ?_
  refine mi_isub h dX6_isPipe_8 ?_
  refine mi_i2l h dX6_isPipe_9 ⟨by omega, by omega⟩ ?_
  refine mi_cS3i (hw := Nat.le_of_ble_eq_true rfl) h dX6_isPipe_10 ml_RX6_112 ym_yX6_in (c_X6_in ⟨by omega, by omega⟩ ⟨by omega, by omega⟩ ⟨by omega, by omega⟩) (fun r10 σ10 hp10 => ?_)
  obtain ⟨rfl, hb10, hc10⟩ := hp10
  refine mi_zreturn h hr dX6_isPipe_13 (by omega) ?_
  exact ⟨rfl, by omega, by omega⟩
set_option maxHeartbeats 4000000 in
set_option maxRecDepth 100000 in
theorem c_X6_isHeap {σ : Mem} {x : Int} (hJ : JS σ) (hx : R32 x) : Sp1 yX6_isHeap cX6_isHeap 2 (some .boolean) 1 1 [vr 28, vi x] σ (fun r σ' => σ = σ' ∧ (r = 0 ∨ r = 1) ∧ (r = 1 ↔ 0 ≤ x ∧ x < σ 28 25)) := by
  refine Sp1_in RX6 rfl (by decide +kernel) (Nat.le_of_ble_eq_true rfl) [some (vr 28), some (vi x)] rfl ?_
  intro K h hr
  obtain ⟨j1, j2, j3, j4, j5, j6, j7⟩ := id hJ
  refine mi_iload_n h dX6_isHeap_0 (by rfl) ?_
  refine mi_i2l h dX6_isHeap_1 ⟨by omega, by omega⟩ ?_
  refine mi_lconst0 h dX6_isHeap_2 ?_
  refine mi_aload_n h dX6_isHeap_3 (by rfl) ?_
  refine gf_X6_25 h dX6_isHeap_4 fl_RX6_208 ?_
  refine mi_iconst h dX6_isHeap_7 ?_
  refine mi_isub h dX6_isHeap_8 ?_
  refine mi_i2l h dX6_isHeap_9 ⟨by omega, by omega⟩ ?_
  refine mi_cS3i (hw := Nat.le_of_ble_eq_true rfl) h dX6_isHeap_10 ml_RX6_112 ym_yX6_in (c_X6_in ⟨by omega, by omega⟩ ⟨by omega, by omega⟩ ⟨by omega, by omega⟩) (fun r10 σ10 hp10 => ?_)
  obtain ⟨rfl, hb10, hc10⟩ := hp10
  refine mi_zreturn h hr dX6_isHeap_13 (by omega) ?_
  exact ⟨rfl, by omega, by omega⟩
set_option maxHeartbeats 4000000 in
set_option maxRecDepth 100000 in
theorem c_X6_isHead {σ : Mem} {x : Int} (hJ : JS σ) (hB : JB σ) (hx : R32 x) : Sp1 yX6_isHead cX6_isHead 2 (some .boolean) 1 2 [vr 28, vi x] σ (fun r σ' => σ = σ' ∧ (r = 0 ∨ r = 1) ∧ (r = 1 ↔ 0 ≤ x ∧ x < σ 28 11 ∧ σ 37 x.toNat = 1)) := by
  refine Sp1_in RX6 rfl (by decide +kernel) (Nat.le_of_ble_eq_true rfl) [some (vr 28), some (vi x)] rfl ?_
  intro K h hr
  obtain ⟨j1, j2, j3, j4, j5, j6, j7⟩ := id hJ
  have hv : 0 ≤ x ∧ x < 24 → σ 37 x.toNat = 0 ∨ σ 37 x.toNat = 1 := fun q => (hB.1 x.toNat (by omega)).2.2.1
  refine mi_aload_n h dX6_isHead_0 (by rfl) ?_
  refine mi_iload_n h dX6_isHead_1 (by rfl) ?_
  refine mi_cV1i (hw := Nat.le_of_ble_eq_true rfl) h dX6_isHead_2 ml_RX6_116 ym_yX6_isPipe (by rfl) (by rfl) (c_X6_isPipe hJ ⟨by omega, by omega⟩) (fun r2 σ2 hp2 => ?_)
  obtain ⟨rfl, hb2, hc2⟩ := hp2
  refine mi_if_eq (tgt := 21) h dX6_isHead_5 (by decide) ⟨by omega, by omega⟩ (fun e5 => ?_) (fun e5 => ?_)
  · refine mi_iconst h dX6_isHead_21 ?_
    refine mi_zreturn h hr dX6_isHead_22 (by omega) ?_
    exact ⟨rfl, by omega, by omega⟩
  · refine mi_aload_n h dX6_isHead_8 (by rfl) ?_
    refine gf_X6_12 h dX6_isHead_9 fl_RX6_39 ?_
    refine mi_iload_n h dX6_isHead_12 (by rfl) ?_
    refine mn_baload (x.toNat) h dX6_isHead_13 (by rfl) (by omega) (by omega) (by decide) ?_
    refine mi_if_eq (tgt := 21) h dX6_isHead_14 (by decide) ⟨by omega, by omega⟩ (fun e14 => ?_) (fun e14 => ?_)
    · refine mi_iconst h dX6_isHead_21 ?_
      refine mi_zreturn h hr dX6_isHead_22 (by omega) ?_
      exact ⟨rfl, by omega, by omega⟩
    · refine mi_iconst h dX6_isHead_17 ?_
      refine mi_goto (tgt := 22) h dX6_isHead_18 (by decide) ?_
      refine mi_zreturn h hr dX6_isHead_22 (by omega) ?_
      exact ⟨rfl, by omega, by omega⟩
set_option maxHeartbeats 4000000 in
set_option maxRecDepth 100000 in
theorem c_X6_supply {σ : Mem} {p d : Int} (hp : R32 p) (hd : R32 d) : Sp1 yX6_supply cX6_supply 3 (some .int) 1 1 [vr 28, vi p, vi d] σ (fun r σ' => (r = -2 ∧ σ = σ' ∧ ¬ ((1 ≤ p ∧ p ≤ 100000) ∧ (0 ≤ d ∧ d ≤ 4000))) ∨ (r = 1 ∧ up (up σ 28 0 p) 28 1 d = σ' ∧ (1 ≤ p ∧ p ≤ 100000) ∧ (0 ≤ d ∧ d ≤ 4000))) := by
  refine Sp1_in RX6 rfl (by decide +kernel) (Nat.le_of_ble_eq_true rfl) [some (vr 28), some (vi p), some (vi d)] rfl ?_
  intro K h hr
  refine mi_iload_n h dX6_supply_0 (by rfl) ?_
  refine mi_i2l h dX6_supply_1 ⟨by omega, by omega⟩ ?_
  refine mi_lconst1 h dX6_supply_2 ?_
  refine mi_ldc2 (z := 100000) h dX6_supply_3 kc_RX6_120 rfl ?_
  refine mi_cS3i (hw := Nat.le_of_ble_eq_true rfl) h dX6_supply_6 ml_RX6_112 ym_yX6_in (c_X6_in ⟨by omega, by omega⟩ ⟨by omega, by omega⟩ ⟨by omega, by omega⟩) (fun r6 σ6 hp6 => ?_)
  obtain ⟨rfl, hb6, hc6⟩ := hp6
  refine mi_if_eq (tgt := 24) h dX6_supply_9 (by decide) ⟨by omega, by omega⟩ (fun e9 => ?_) (fun e9 => ?_)
  · refine mi_bipush h dX6_supply_24 (by decide) ?_
    refine mi_ireturn h hr dX6_supply_26 ?_
    first | exact Or.inl ⟨rfl, rfl, by omega⟩ | exact Or.inr ⟨rfl, rfl, by omega, by omega⟩
  · refine mi_iload_n h dX6_supply_12 (by rfl) ?_
    refine mi_i2l h dX6_supply_13 ⟨by omega, by omega⟩ ?_
    refine mi_lconst0 h dX6_supply_14 ?_
    refine mi_ldc2 (z := 4000) h dX6_supply_15 kc_RX6_122 rfl ?_
    refine mi_cS3i (hw := Nat.le_of_ble_eq_true rfl) h dX6_supply_18 ml_RX6_112 ym_yX6_in (c_X6_in ⟨by omega, by omega⟩ ⟨by omega, by omega⟩ ⟨by omega, by omega⟩) (fun r18 σ18 hp18 => ?_)
    obtain ⟨rfl, hb18, hc18⟩ := hp18
    refine mi_if_ne (tgt := 27) h dX6_supply_21 (by decide) ⟨by omega, by omega⟩ (fun e21 => ?_) (fun e21 => ?_)
    · refine mi_aload_n h dX6_supply_27 (by rfl) ?_
      refine mi_iload_n h dX6_supply_28 (by rfl) ?_
      refine pf_X6_0 h dX6_supply_29 fl_RX6_7 ?_
      refine mi_aload_n h dX6_supply_32 (by rfl) ?_
      refine mi_iload_n h dX6_supply_33 (by rfl) ?_
      refine pf_X6_1 h dX6_supply_34 fl_RX6_124 ?_
      refine mi_iconst h dX6_supply_37 ?_
      refine mi_ireturn h hr dX6_supply_38 ?_
      first | exact Or.inl ⟨rfl, rfl, by omega⟩ | exact Or.inr ⟨rfl, rfl, by omega, by omega⟩
    · refine mi_bipush h dX6_supply_24 (by decide) ?_
      refine mi_ireturn h hr dX6_supply_26 ?_
      first | exact Or.inl ⟨rfl, rfl, by omega⟩ | exact Or.inr ⟨rfl, rfl, by omega, by omega⟩
set_option maxHeartbeats 4000000 in
set_option maxRecDepth 100000 in
theorem c_X6_size {σ : Mem} {d p : Int} (hJ : JS σ) (hp : R32 p) (hd : R32 d) : Sp1 yX6_size cX6_size 3 (some .int) 1 1 [vr 28, vi d, vi p] σ (fun r σ' => (r = -2 ∧ σ = σ' ∧ ¬ ((1 ≤ d ∧ d ≤ 400) ∧ (1 ≤ p ∧ p ≤ 1000))) ∨ (r = -4 ∧ σ = σ' ∧ ((1 ≤ d ∧ d ≤ 400) ∧ (1 ≤ p ∧ p ≤ 1000)) ∧ σ 28 4 = 6) ∨ (r = σ 28 4 ∧ up (up (up σ 29 (σ 28 4).toNat d) 30 (σ 28 4).toNat p) 28 4 (σ 28 4 + 1) = σ' ∧ ((1 ≤ d ∧ d ≤ 400) ∧ (1 ≤ p ∧ p ≤ 1000)) ∧ σ 28 4 < 6)) := by
  refine Sp1_in RX6 rfl (by decide +kernel) (Nat.le_of_ble_eq_true rfl) [some (vr 28), some (vi d), some (vi p)] rfl ?_
  intro K h hr
  obtain ⟨j1, j2, j3, j4, j5, j6, j7⟩ := id hJ
  refine mi_iload_n h dX6_size_0 (by rfl) ?_
  refine mi_i2l h dX6_size_1 ⟨by omega, by omega⟩ ?_
  refine mi_lconst1 h dX6_size_2 ?_
  refine mi_ldc2 (z := 400) h dX6_size_3 kc_RX6_127 rfl ?_
  refine mi_cS3i (hw := Nat.le_of_ble_eq_true rfl) h dX6_size_6 ml_RX6_112 ym_yX6_in (c_X6_in ⟨by omega, by omega⟩ ⟨by omega, by omega⟩ ⟨by omega, by omega⟩) (fun r6 σ6 hp6 => ?_)
  obtain ⟨rfl, hb6, hc6⟩ := hp6
  refine mi_if_eq (tgt := 24) h dX6_size_9 (by decide) ⟨by omega, by omega⟩ (fun e9 => ?_) (fun e9 => ?_)
  · refine mi_bipush h dX6_size_24 (by decide) ?_
    refine mi_ireturn h hr dX6_size_26 ?_
    first | exact Or.inl ⟨rfl, rfl, by omega⟩ | exact Or.inr (Or.inl ⟨rfl, rfl, by omega, by omega⟩) | exact Or.inr (Or.inr ⟨by omega, rfl, by omega, by omega⟩)
  · refine mi_iload_n h dX6_size_12 (by rfl) ?_
    refine mi_i2l h dX6_size_13 ⟨by omega, by omega⟩ ?_
    refine mi_lconst1 h dX6_size_14 ?_
    refine mi_ldc2 (z := 1000) h dX6_size_15 kc_RX6_129 rfl ?_
    refine mi_cS3i (hw := Nat.le_of_ble_eq_true rfl) h dX6_size_18 ml_RX6_112 ym_yX6_in (c_X6_in ⟨by omega, by omega⟩ ⟨by omega, by omega⟩ ⟨by omega, by omega⟩) (fun r18 σ18 hp18 => ?_)
    obtain ⟨rfl, hb18, hc18⟩ := hp18
    refine mi_if_ne (tgt := 27) h dX6_size_21 (by decide) ⟨by omega, by omega⟩ (fun e21 => ?_) (fun e21 => ?_)
    · refine mi_aload_n h dX6_size_27 (by rfl) ?_
      refine gf_X6_4 h dX6_size_28 fl_RX6_131 ?_
      refine mi_bipush h dX6_size_31 (by decide) ?_
      refine mi_icmp_ne (tgt := 39) h dX6_size_33 (by decide) ⟨by omega, by omega⟩ ⟨by omega, by omega⟩ (fun e33 => ?_) (fun e33 => ?_)
      · refine mi_aload_n h dX6_size_39 (by rfl) ?_
        refine gf_X6_2 h dX6_size_40 fl_RX6_13 ?_
        refine mi_aload_n h dX6_size_43 (by rfl) ?_
        refine gf_X6_4 h dX6_size_44 fl_RX6_131 ?_
        refine mi_iload_n h dX6_size_47 (by rfl) ?_
        refine mn_iastore ((σ 28 4).toNat) h dX6_size_48 (by rfl) (by omega) (by omega) (by decide) ?_
        refine mi_aload_n h dX6_size_49 (by rfl) ?_
        refine gf_X6_3 h dX6_size_50 fl_RX6_17 ?_
        refine mi_aload_n h dX6_size_53 (by rfl) ?_
        refine gf_X6_4 h dX6_size_54 fl_RX6_131 ?_
        try simp only [up_app, upC_app, Nat.reduceEqDiff, reduceIte, Nat.add_eq_zero_iff, Nat.succ_ne_self, Nat.add_right_cancel_iff]
        refine mi_iload_n h dX6_size_57 (by rfl) ?_
        refine mn_iastore ((σ 28 4).toNat) h dX6_size_58 (by rfl) (by omega) (by omega) (by decide) ?_
        refine mi_aload_n h dX6_size_59 (by rfl) ?_
        refine mi_dup h dX6_size_60 (fun _ => rfl) ?_
        refine gf_X6_4 h dX6_size_61 fl_RX6_131 ?_
        try simp only [up_app, upC_app, Nat.reduceEqDiff, reduceIte, Nat.add_eq_zero_iff, Nat.succ_ne_self, Nat.add_right_cancel_iff]
        refine mi_iconst h dX6_size_64 ?_
        refine mi_iadd h dX6_size_65 ?_
        refine pf_X6_4 h dX6_size_66 fl_RX6_131 ?_
        refine mi_aload_n h dX6_size_69 (by rfl) ?_
        refine gf_X6_4 h dX6_size_70 fl_RX6_131 ?_
        try simp only [up_app, upC_app, Nat.reduceEqDiff, reduceIte, Nat.add_eq_zero_iff, Nat.succ_ne_self, Nat.add_right_cancel_iff]
        refine mi_iconst h dX6_size_73 ?_
        refine mi_isub h dX6_size_74 ?_
        refine mi_ireturn h hr dX6_size_75 ?_
        first | exact Or.inl ⟨rfl, rfl, by omega⟩ | exact Or.inr (Or.inl ⟨rfl, rfl, by omega, by omega⟩) | exact Or.inr (Or.inr ⟨by omega, rfl, by omega, by omega⟩)
      · refine mi_bipush h dX6_size_36 (by decide) ?_
        refine mi_ireturn h hr dX6_size_38 ?_
        first | exact Or.inl ⟨rfl, rfl, by omega⟩ | exact Or.inr (Or.inl ⟨rfl, rfl, by omega, by omega⟩) | exact Or.inr (Or.inr ⟨by omega, rfl, by omega, by omega⟩)
    · refine mi_bipush h dX6_size_24 (by decide) ?_
      refine mi_ireturn h hr dX6_size_26 ?_
      first | exact Or.inl ⟨rfl, rfl, by omega⟩ | exact Or.inr (Or.inl ⟨rfl, rfl, by omega, by omega⟩) | exact Or.inr (Or.inr ⟨by omega, rfl, by omega, by omega⟩)
set_option maxHeartbeats 4000000 in
set_option maxRecDepth 100000 in
theorem c_X6_pipe {σ : Mem} {f l z : Int} (hJ : JS σ) (hP : JP σ) (hf : R32 f) (hl : R32 l) (hz : R32 z) : Sp1 yX6_pipe cX6_pipe 4 (some .int) 1 2 [vr 28, vi f, vi l, vi z] σ (fun r σ' => (r = -1 ∧ σ = σ' ∧ ¬ ((-1 ≤ f ∧ f < σ 28 11) ∧ (0 ≤ z ∧ z < σ 28 4))) ∨ (r = -2 ∧ σ = σ' ∧ ((-1 ≤ f ∧ f < σ 28 11) ∧ (0 ≤ z ∧ z < σ 28 4)) ∧ ¬ (1 ≤ l ∧ l ≤ 10)) ∨ (r = -4 ∧ σ = σ' ∧ ((-1 ≤ f ∧ f < σ 28 11) ∧ (0 ≤ z ∧ z < σ 28 4)) ∧ (1 ≤ l ∧ l ≤ 10) ∧ σ 28 11 = 24) ∨ (r = -5 ∧ σ = σ' ∧ ((-1 ≤ f ∧ f < σ 28 11) ∧ (0 ≤ z ∧ z < σ 28 4)) ∧ (1 ≤ l ∧ l ≤ 10) ∧ σ 28 11 < 24 ∧ (0 ≤ f ∧ σ 34 f.toNat = 8)) ∨ (r = σ 28 11 ∧ up (up (up (up (up σ 31 (σ 28 11).toNat f) 32 (σ 28 11).toNat l) 33 (σ 28 11).toNat z) 34 (σ 28 11).toNat (if f < 0 then 1 else σ 34 f.toNat + 1)) 28 11 (σ 28 11 + 1) = σ' ∧ ((-1 ≤ f ∧ f < σ 28 11) ∧ (0 ≤ z ∧ z < σ 28 4)) ∧ (1 ≤ l ∧ l ≤ 10) ∧ σ 28 11 < 24 ∧ ¬ (0 ≤ f ∧ σ 34 f.toNat = 8))) := by
  refine Sp1_in RX6 rfl (by decide +kernel) (Nat.le_of_ble_eq_true rfl) [some (vr 28), some (vi f), some (vi l), some (vi z)] rfl ?_
  intro K h hr
  obtain ⟨j1, j2, j3, j4, j5, j6, j7⟩ := id hJ
  have hq : 0 ≤ f ∧ f < 24 → 0 ≤ σ 34 f.toNat ∧ σ 34 f.toNat ≤ 8 := fun q => (hP f.toNat (by omega)).2.2.2.1
  have hif : f < 0 → (if f < 0 then 1 else σ 34 f.toNat + 1) = (1 : Int) := fun q => if_pos q
  have hif2 : 0 ≤ f → (if f < 0 then 1 else σ 34 f.toNat + 1) = σ 34 f.toNat + 1 := fun q => if_neg (by omega)
  refine mi_iload_n h dX6_pipe_0 (by rfl) ?_
  refine mi_iconst h dX6_pipe_1 ?_
  refine mi_icmp_eq (tgt := 13) h dX6_pipe_2 (by decide) ⟨by omega, by omega⟩ ⟨by omega, by omega⟩ (fun e2 => ?_) (fun e2 => ?_)
  · refine mi_iload_n h dX6_pipe_13 (by rfl) ?_
    refine mi_i2l h dX6_pipe_14 ⟨by omega, by omega⟩ ?_
    refine mi_lconst0 h dX6_pipe_15 ?_
    refine mi_aload_n h dX6_pipe_16 (by rfl) ?_
    refine gf_X6_4 h dX6_pipe_17 fl_RX6_131 ?_
    refine mi_iconst h dX6_pipe_20 ?_
    refine mi_isub h dX6_pipe_21 ?_
    refine mi_i2l h dX6_pipe_22 ⟨by omega, by omega⟩ ?_
    refine mi_cS3i (hw := Nat.le_of_ble_eq_true rfl) h dX6_pipe_23 ml_RX6_112 ym_yX6_in (c_X6_in ⟨by omega, by omega⟩ ⟨by omega, by omega⟩ ⟨by omega, by omega⟩) (fun r23 σ23 hp23 => ?_)
    obtain ⟨rfl, hb23, hc23⟩ := hp23
    refine mi_if_ne (tgt := 31) h dX6_pipe_26 (by decide) ⟨by omega, by omega⟩ (fun e26 => ?_) (fun e26 => ?_)
    · refine mi_iload_n h dX6_pipe_31 (by rfl) ?_
      refine mi_i2l h dX6_pipe_32 ⟨by omega, by omega⟩ ?_
      refine mi_lconst1 h dX6_pipe_33 ?_
      refine mi_ldc2 (z := 10) h dX6_pipe_34 kc_RX6_134 rfl ?_
      refine mi_cS3i (hw := Nat.le_of_ble_eq_true rfl) h dX6_pipe_37 ml_RX6_112 ym_yX6_in (c_X6_in ⟨by omega, by omega⟩ ⟨by omega, by omega⟩ ⟨by omega, by omega⟩) (fun r37 σ37 hp37 => ?_)
      obtain ⟨rfl, hb37, hc37⟩ := hp37
      refine mi_if_ne (tgt := 46) h dX6_pipe_40 (by decide) ⟨by omega, by omega⟩ (fun e40 => ?_) (fun e40 => ?_)
      · refine mi_aload_n h dX6_pipe_46 (by rfl) ?_
        refine gf_X6_11 h dX6_pipe_47 fl_RX6_109 ?_
        refine mi_bipush h dX6_pipe_50 (by decide) ?_
        refine mi_icmp_ne (tgt := 58) h dX6_pipe_52 (by decide) ⟨by omega, by omega⟩ ⟨by omega, by omega⟩ (fun e52 => ?_) (fun e52 => ?_)
        · refine mi_iload_n h dX6_pipe_58 (by rfl) ?_
          refine mi_if_lt (tgt := 76) h dX6_pipe_59 (by decide) ⟨by omega, by omega⟩ (fun e59 => ?_) (fun e59 => ?_)
          · refine mi_aload_n h dX6_pipe_76 (by rfl) ?_
            refine gf_X6_5 h dX6_pipe_77 fl_RX6_20 ?_
            refine mi_aload_n h dX6_pipe_80 (by rfl) ?_
            refine gf_X6_11 h dX6_pipe_81 fl_RX6_109 ?_
            refine mi_iload_n h dX6_pipe_84 (by rfl) ?_
            refine mn_iastore ((σ 28 11).toNat) h dX6_pipe_85 (by rfl) (by omega) (by omega) (by decide) ?_
            refine mi_aload_n h dX6_pipe_86 (by rfl) ?_
            refine gf_X6_6 h dX6_pipe_87 fl_RX6_23 ?_
            refine mi_aload_n h dX6_pipe_90 (by rfl) ?_
            refine gf_X6_11 h dX6_pipe_91 fl_RX6_109 ?_
            try simp only [up_app, upC_app, Nat.reduceEqDiff, reduceIte, Nat.add_eq_zero_iff, Nat.succ_ne_self, Nat.add_right_cancel_iff]
            refine mi_iload_n h dX6_pipe_94 (by rfl) ?_
            refine mn_iastore ((σ 28 11).toNat) h dX6_pipe_95 (by rfl) (by omega) (by omega) (by decide) ?_
            refine mi_aload_n h dX6_pipe_96 (by rfl) ?_
            refine gf_X6_7 h dX6_pipe_97 fl_RX6_26 ?_
            refine mi_aload_n h dX6_pipe_100 (by rfl) ?_
            refine gf_X6_11 h dX6_pipe_101 fl_RX6_109 ?_
            try simp only [up_app, upC_app, Nat.reduceEqDiff, reduceIte, Nat.add_eq_zero_iff, Nat.succ_ne_self, Nat.add_right_cancel_iff]
            refine mi_iload_n h dX6_pipe_104 (by rfl) ?_
            refine mn_iastore ((σ 28 11).toNat) h dX6_pipe_105 (by rfl) (by omega) (by omega) (by decide) ?_
            refine mi_aload_n h dX6_pipe_106 (by rfl) ?_
            refine gf_X6_8 h dX6_pipe_107 fl_RX6_29 ?_
            refine mi_aload_n h dX6_pipe_110 (by rfl) ?_
            refine gf_X6_11 h dX6_pipe_111 fl_RX6_109 ?_
            try simp only [up_app, upC_app, Nat.reduceEqDiff, reduceIte, Nat.add_eq_zero_iff, Nat.succ_ne_self, Nat.add_right_cancel_iff]
            refine mi_iload_n h dX6_pipe_114 (by rfl) ?_
            refine mi_if_ge (tgt := 122) h dX6_pipe_115 (by decide) ⟨by omega, by omega⟩ (fun e115 => ?_) (fun e115 => ?_)
            · refine mi_aload_n h dX6_pipe_122 (by rfl) ?_
              refine gf_X6_8 h dX6_pipe_123 fl_RX6_29 ?_
              refine mi_iload_n h dX6_pipe_126 (by rfl) ?_
              refine mn_iaload (f.toNat) h dX6_pipe_127 (by rfl) (by omega) (by omega) (by decide) ?_
              try simp only [up_app, upC_app, Nat.reduceEqDiff, reduceIte, Nat.add_eq_zero_iff, Nat.succ_ne_self, Nat.add_right_cancel_iff]
              refine mi_iconst h dX6_pipe_128 ?_
              refine mi_iadd h dX6_pipe_129 ?_
              refine mn_iastore ((σ 28 11).toNat) h dX6_pipe_130 (by rfl) (by omega) (by omega) (by decide) ?_
              refine mi_aload_n h dX6_pipe_131 (by rfl) ?_
              refine mi_dup h dX6_pipe_132 (fun _ => rfl) ?_
              refine gf_X6_11 h dX6_pipe_133 fl_RX6_109 ?_
              try simp only [up_app, upC_app, Nat.reduceEqDiff, reduceIte, Nat.add_eq_zero_iff, Nat.succ_ne_self, Nat.add_right_cancel_iff]
              refine mi_iconst h dX6_pipe_136 ?_
              refine mi_iadd h dX6_pipe_137 ?_
              refine pf_X6_11 h dX6_pipe_138 fl_RX6_109 ?_
              refine mi_aload_n h dX6_pipe_141 (by rfl) ?_
              refine gf_X6_11 h dX6_pipe_142 fl_RX6_109 ?_
              try simp only [up_app, upC_app, Nat.reduceEqDiff, reduceIte, Nat.add_eq_zero_iff, Nat.succ_ne_self, Nat.add_right_cancel_iff]
              refine mi_iconst h dX6_pipe_145 ?_
              refine mi_isub h dX6_pipe_146 ?_
              refine mi_ireturn h hr dX6_pipe_147 ?_
              first | (exfalso; omega) | exact Or.inl ⟨rfl, rfl, by omega⟩ | exact Or.inr (Or.inl ⟨rfl, rfl, by omega, by omega⟩) | exact Or.inr (Or.inr (Or.inl ⟨rfl, rfl, by omega, by omega, by omega⟩)) | exact Or.inr (Or.inr (Or.inr (Or.inl ⟨rfl, rfl, by omega, by omega, by omega, by omega⟩))) | exact Or.inr (Or.inr (Or.inr (Or.inr ⟨by omega, by first | rw [hif (by omega)] | rw [hif2 (by omega)], by omega, by omega, by omega, by omega⟩)))
            · refine mi_iconst h dX6_pipe_118 ?_
              refine mi_goto (tgt := 130) h dX6_pipe_119 (by decide) ?_
              refine mn_iastore ((σ 28 11).toNat) h dX6_pipe_130 (by rfl) (by omega) (by omega) (by decide) ?_
              refine mi_aload_n h dX6_pipe_131 (by rfl) ?_
              refine mi_dup h dX6_pipe_132 (fun _ => rfl) ?_
              refine gf_X6_11 h dX6_pipe_133 fl_RX6_109 ?_
              try simp only [up_app, upC_app, Nat.reduceEqDiff, reduceIte, Nat.add_eq_zero_iff, Nat.succ_ne_self, Nat.add_right_cancel_iff]
              refine mi_iconst h dX6_pipe_136 ?_
              refine mi_iadd h dX6_pipe_137 ?_
              refine pf_X6_11 h dX6_pipe_138 fl_RX6_109 ?_
              refine mi_aload_n h dX6_pipe_141 (by rfl) ?_
              refine gf_X6_11 h dX6_pipe_142 fl_RX6_109 ?_
              try simp only [up_app, upC_app, Nat.reduceEqDiff, reduceIte, Nat.add_eq_zero_iff, Nat.succ_ne_self, Nat.add_right_cancel_iff]
              refine mi_iconst h dX6_pipe_145 ?_
              refine mi_isub h dX6_pipe_146 ?_
              refine mi_ireturn h hr dX6_pipe_147 ?_
              first | (exfalso; omega) | exact Or.inl ⟨rfl, rfl, by omega⟩ | exact Or.inr (Or.inl ⟨rfl, rfl, by omega, by omega⟩) | exact Or.inr (Or.inr (Or.inl ⟨rfl, rfl, by omega, by omega, by omega⟩)) | exact Or.inr (Or.inr (Or.inr (Or.inl ⟨rfl, rfl, by omega, by omega, by omega, by omega⟩))) | exact Or.inr (Or.inr (Or.inr (Or.inr ⟨by omega, by first | rw [hif (by omega)] | rw [hif2 (by omega)], by omega, by omega, by omega, by omega⟩)))
          · refine mi_aload_n h dX6_pipe_62 (by rfl) ?_
            refine gf_X6_8 h dX6_pipe_63 fl_RX6_29 ?_
            refine mi_iload_n h dX6_pipe_66 (by rfl) ?_
            refine mn_iaload (f.toNat) h dX6_pipe_67 (by rfl) (by omega) (by omega) (by decide) ?_
            refine mi_bipush h dX6_pipe_68 (by decide) ?_
            refine mi_icmp_ne (tgt := 76) h dX6_pipe_70 (by decide) ⟨by omega, by omega⟩ ⟨by omega, by omega⟩ (fun e70 => ?_) (fun e70 => ?_)
            · refine mi_aload_n h dX6_pipe_76 (by rfl) ?_
              refine gf_X6_5 h dX6_pipe_77 fl_RX6_20 ?_
              refine mi_aload_n h dX6_pipe_80 (by rfl) ?_
              refine gf_X6_11 h dX6_pipe_81 fl_RX6_109 ?_
              refine mi_iload_n h dX6_pipe_84 (by rfl) ?_
              refine mn_iastore ((σ 28 11).toNat) h dX6_pipe_85 (by rfl) (by omega) (by omega) (by decide) ?_
              refine mi_aload_n h dX6_pipe_86 (by rfl) ?_
              refine gf_X6_6 h dX6_pipe_87 fl_RX6_23 ?_
              refine mi_aload_n h dX6_pipe_90 (by rfl) ?_
              refine gf_X6_11 h dX6_pipe_91 fl_RX6_109 ?_
              try simp only [up_app, upC_app, Nat.reduceEqDiff, reduceIte, Nat.add_eq_zero_iff, Nat.succ_ne_self, Nat.add_right_cancel_iff]
              refine mi_iload_n h dX6_pipe_94 (by rfl) ?_
              refine mn_iastore ((σ 28 11).toNat) h dX6_pipe_95 (by rfl) (by omega) (by omega) (by decide) ?_
              refine mi_aload_n h dX6_pipe_96 (by rfl) ?_
              refine gf_X6_7 h dX6_pipe_97 fl_RX6_26 ?_
              refine mi_aload_n h dX6_pipe_100 (by rfl) ?_
              refine gf_X6_11 h dX6_pipe_101 fl_RX6_109 ?_
              try simp only [up_app, upC_app, Nat.reduceEqDiff, reduceIte, Nat.add_eq_zero_iff, Nat.succ_ne_self, Nat.add_right_cancel_iff]
              refine mi_iload_n h dX6_pipe_104 (by rfl) ?_
              refine mn_iastore ((σ 28 11).toNat) h dX6_pipe_105 (by rfl) (by omega) (by omega) (by decide) ?_
              refine mi_aload_n h dX6_pipe_106 (by rfl) ?_
              refine gf_X6_8 h dX6_pipe_107 fl_RX6_29 ?_
              refine mi_aload_n h dX6_pipe_110 (by rfl) ?_
              refine gf_X6_11 h dX6_pipe_111 fl_RX6_109 ?_
              try simp only [up_app, upC_app, Nat.reduceEqDiff, reduceIte, Nat.add_eq_zero_iff, Nat.succ_ne_self, Nat.add_right_cancel_iff]
              refine mi_iload_n h dX6_pipe_114 (by rfl) ?_
              refine mi_if_ge (tgt := 122) h dX6_pipe_115 (by decide) ⟨by omega, by omega⟩ (fun e115 => ?_) (fun e115 => ?_)
              · refine mi_aload_n h dX6_pipe_122 (by rfl) ?_
                refine gf_X6_8 h dX6_pipe_123 fl_RX6_29 ?_
                refine mi_iload_n h dX6_pipe_126 (by rfl) ?_
                refine mn_iaload (f.toNat) h dX6_pipe_127 (by rfl) (by omega) (by omega) (by decide) ?_
                try simp only [up_app, upC_app, Nat.reduceEqDiff, reduceIte, Nat.add_eq_zero_iff, Nat.succ_ne_self, Nat.add_right_cancel_iff]
                refine mi_iconst h dX6_pipe_128 ?_
                refine mi_iadd h dX6_pipe_129 ?_
                refine mn_iastore ((σ 28 11).toNat) h dX6_pipe_130 (by rfl) (by omega) (by omega) (by decide) ?_
                refine mi_aload_n h dX6_pipe_131 (by rfl) ?_
                refine mi_dup h dX6_pipe_132 (fun _ => rfl) ?_
                refine gf_X6_11 h dX6_pipe_133 fl_RX6_109 ?_
                try simp only [up_app, upC_app, Nat.reduceEqDiff, reduceIte, Nat.add_eq_zero_iff, Nat.succ_ne_self, Nat.add_right_cancel_iff]
                refine mi_iconst h dX6_pipe_136 ?_
                refine mi_iadd h dX6_pipe_137 ?_
                refine pf_X6_11 h dX6_pipe_138 fl_RX6_109 ?_
                refine mi_aload_n h dX6_pipe_141 (by rfl) ?_
                refine gf_X6_11 h dX6_pipe_142 fl_RX6_109 ?_
                try simp only [up_app, upC_app, Nat.reduceEqDiff, reduceIte, Nat.add_eq_zero_iff, Nat.succ_ne_self, Nat.add_right_cancel_iff]
                refine mi_iconst h dX6_pipe_145 ?_
                refine mi_isub h dX6_pipe_146 ?_
                refine mi_ireturn h hr dX6_pipe_147 ?_
                first | (exfalso; omega) | exact Or.inl ⟨rfl, rfl, by omega⟩ | exact Or.inr (Or.inl ⟨rfl, rfl, by omega, by omega⟩) | exact Or.inr (Or.inr (Or.inl ⟨rfl, rfl, by omega, by omega, by omega⟩)) | exact Or.inr (Or.inr (Or.inr (Or.inl ⟨rfl, rfl, by omega, by omega, by omega, by omega⟩))) | exact Or.inr (Or.inr (Or.inr (Or.inr ⟨by omega, by first | rw [hif (by omega)] | rw [hif2 (by omega)], by omega, by omega, by omega, by omega⟩)))
              · refine mi_iconst h dX6_pipe_118 ?_
                refine mi_goto (tgt := 130) h dX6_pipe_119 (by decide) ?_
                refine mn_iastore ((σ 28 11).toNat) h dX6_pipe_130 (by rfl) (by omega) (by omega) (by decide) ?_
                refine mi_aload_n h dX6_pipe_131 (by rfl) ?_
                refine mi_dup h dX6_pipe_132 (fun _ => rfl) ?_
                refine gf_X6_11 h dX6_pipe_133 fl_RX6_109 ?_
                try simp only [up_app, upC_app, Nat.reduceEqDiff, reduceIte, Nat.add_eq_zero_iff, Nat.succ_ne_self, Nat.add_right_cancel_iff]
                refine mi_iconst h dX6_pipe_136 ?_
                refine mi_iadd h dX6_pipe_137 ?_
                refine pf_X6_11 h dX6_pipe_138 fl_RX6_109 ?_
                refine mi_aload_n h dX6_pipe_141 (by rfl) ?_
                refine gf_X6_11 h dX6_pipe_142 fl_RX6_109 ?_
                try simp only [up_app, upC_app, Nat.reduceEqDiff, reduceIte, Nat.add_eq_zero_iff, Nat.succ_ne_self, Nat.add_right_cancel_iff]
                refine mi_iconst h dX6_pipe_145 ?_
                refine mi_isub h dX6_pipe_146 ?_
                refine mi_ireturn h hr dX6_pipe_147 ?_
                first | (exfalso; omega) | exact Or.inl ⟨rfl, rfl, by omega⟩ | exact Or.inr (Or.inl ⟨rfl, rfl, by omega, by omega⟩) | exact Or.inr (Or.inr (Or.inl ⟨rfl, rfl, by omega, by omega, by omega⟩)) | exact Or.inr (Or.inr (Or.inr (Or.inl ⟨rfl, rfl, by omega, by omega, by omega, by omega⟩))) | exact Or.inr (Or.inr (Or.inr (Or.inr ⟨by omega, by first | rw [hif (by omega)] | rw [hif2 (by omega)], by omega, by omega, by omega, by omega⟩)))
            · refine mi_bipush h dX6_pipe_73 (by decide) ?_
              refine mi_ireturn h hr dX6_pipe_75 ?_
              first | (exfalso; omega) | exact Or.inl ⟨rfl, rfl, by omega⟩ | exact Or.inr (Or.inl ⟨rfl, rfl, by omega, by omega⟩) | exact Or.inr (Or.inr (Or.inl ⟨rfl, rfl, by omega, by omega, by omega⟩)) | exact Or.inr (Or.inr (Or.inr (Or.inl ⟨rfl, rfl, by omega, by omega, by omega, by omega⟩))) | exact Or.inr (Or.inr (Or.inr (Or.inr ⟨by omega, by first | rw [hif (by omega)] | rw [hif2 (by omega)], by omega, by omega, by omega, by omega⟩)))
        · refine mi_bipush h dX6_pipe_55 (by decide) ?_
          refine mi_ireturn h hr dX6_pipe_57 ?_
          first | (exfalso; omega) | exact Or.inl ⟨rfl, rfl, by omega⟩ | exact Or.inr (Or.inl ⟨rfl, rfl, by omega, by omega⟩) | exact Or.inr (Or.inr (Or.inl ⟨rfl, rfl, by omega, by omega, by omega⟩)) | exact Or.inr (Or.inr (Or.inr (Or.inl ⟨rfl, rfl, by omega, by omega, by omega, by omega⟩))) | exact Or.inr (Or.inr (Or.inr (Or.inr ⟨by omega, by first | rw [hif (by omega)] | rw [hif2 (by omega)], by omega, by omega, by omega, by omega⟩)))
      · refine mi_bipush h dX6_pipe_43 (by decide) ?_
        refine mi_ireturn h hr dX6_pipe_45 ?_
        first | (exfalso; omega) | exact Or.inl ⟨rfl, rfl, by omega⟩ | exact Or.inr (Or.inl ⟨rfl, rfl, by omega, by omega⟩) | exact Or.inr (Or.inr (Or.inl ⟨rfl, rfl, by omega, by omega, by omega⟩)) | exact Or.inr (Or.inr (Or.inr (Or.inl ⟨rfl, rfl, by omega, by omega, by omega, by omega⟩))) | exact Or.inr (Or.inr (Or.inr (Or.inr ⟨by omega, by first | rw [hif (by omega)] | rw [hif2 (by omega)], by omega, by omega, by omega, by omega⟩)))
    · refine mi_iconst h dX6_pipe_29 ?_
      refine mi_ireturn h hr dX6_pipe_30 ?_
      first | (exfalso; omega) | exact Or.inl ⟨rfl, rfl, by omega⟩ | exact Or.inr (Or.inl ⟨rfl, rfl, by omega, by omega⟩) | exact Or.inr (Or.inr (Or.inl ⟨rfl, rfl, by omega, by omega, by omega⟩)) | exact Or.inr (Or.inr (Or.inr (Or.inl ⟨rfl, rfl, by omega, by omega, by omega, by omega⟩))) | exact Or.inr (Or.inr (Or.inr (Or.inr ⟨by omega, by first | rw [hif (by omega)] | rw [hif2 (by omega)], by omega, by omega, by omega, by omega⟩)))
  · refine mi_aload_n h dX6_pipe_5 (by rfl) ?_
    refine mi_iload_n h dX6_pipe_6 (by rfl) ?_
    refine mi_cV1i (hw := Nat.le_of_ble_eq_true rfl) h dX6_pipe_7 ml_RX6_116 ym_yX6_isPipe (by rfl) (by rfl) (c_X6_isPipe hJ ⟨by omega, by omega⟩) (fun r7 σ7 hp7 => ?_)
    obtain ⟨rfl, hb7, hc7⟩ := hp7
    refine mi_if_eq (tgt := 29) h dX6_pipe_10 (by decide) ⟨by omega, by omega⟩ (fun e10 => ?_) (fun e10 => ?_)
    · refine mi_iconst h dX6_pipe_29 ?_
      refine mi_ireturn h hr dX6_pipe_30 ?_
      first | (exfalso; omega) | exact Or.inl ⟨rfl, rfl, by omega⟩ | exact Or.inr (Or.inl ⟨rfl, rfl, by omega, by omega⟩) | exact Or.inr (Or.inr (Or.inl ⟨rfl, rfl, by omega, by omega, by omega⟩)) | exact Or.inr (Or.inr (Or.inr (Or.inl ⟨rfl, rfl, by omega, by omega, by omega, by omega⟩))) | exact Or.inr (Or.inr (Or.inr (Or.inr ⟨by omega, by first | rw [hif (by omega)] | rw [hif2 (by omega)], by omega, by omega, by omega, by omega⟩)))
    · refine mi_iload_n h dX6_pipe_13 (by rfl) ?_
      refine mi_i2l h dX6_pipe_14 ⟨by omega, by omega⟩ ?_
      refine mi_lconst0 h dX6_pipe_15 ?_
      refine mi_aload_n h dX6_pipe_16 (by rfl) ?_
      refine gf_X6_4 h dX6_pipe_17 fl_RX6_131 ?_
      refine mi_iconst h dX6_pipe_20 ?_
      refine mi_isub h dX6_pipe_21 ?_
      refine mi_i2l h dX6_pipe_22 ⟨by omega, by omega⟩ ?_
      refine mi_cS3i (hw := Nat.le_of_ble_eq_true rfl) h dX6_pipe_23 ml_RX6_112 ym_yX6_in (c_X6_in ⟨by omega, by omega⟩ ⟨by omega, by omega⟩ ⟨by omega, by omega⟩) (fun r23 σ23 hp23 => ?_)
      obtain ⟨rfl, hb23, hc23⟩ := hp23
      refine mi_if_ne (tgt := 31) h dX6_pipe_26 (by decide) ⟨by omega, by omega⟩ (fun e26 => ?_) (fun e26 => ?_)
      · refine mi_iload_n h dX6_pipe_31 (by rfl) ?_
        refine mi_i2l h dX6_pipe_32 ⟨by omega, by omega⟩ ?_
        refine mi_lconst1 h dX6_pipe_33 ?_
        refine mi_ldc2 (z := 10) h dX6_pipe_34 kc_RX6_134 rfl ?_
        refine mi_cS3i (hw := Nat.le_of_ble_eq_true rfl) h dX6_pipe_37 ml_RX6_112 ym_yX6_in (c_X6_in ⟨by omega, by omega⟩ ⟨by omega, by omega⟩ ⟨by omega, by omega⟩) (fun r37 σ37 hp37 => ?_)
        obtain ⟨rfl, hb37, hc37⟩ := hp37
        refine mi_if_ne (tgt := 46) h dX6_pipe_40 (by decide) ⟨by omega, by omega⟩ (fun e40 => ?_) (fun e40 => ?_)
        · refine mi_aload_n h dX6_pipe_46 (by rfl) ?_
          refine gf_X6_11 h dX6_pipe_47 fl_RX6_109 ?_
          refine mi_bipush h dX6_pipe_50 (by decide) ?_
          refine mi_icmp_ne (tgt := 58) h dX6_pipe_52 (by decide) ⟨by omega, by omega⟩ ⟨by omega, by omega⟩ (fun e52 => ?_) (fun e52 => ?_)
          · refine mi_iload_n h dX6_pipe_58 (by rfl) ?_
            refine mi_if_lt (tgt := 76) h dX6_pipe_59 (by decide) ⟨by omega, by omega⟩ (fun e59 => ?_) (fun e59 => ?_)
            · refine mi_aload_n h dX6_pipe_76 (by rfl) ?_
              refine gf_X6_5 h dX6_pipe_77 fl_RX6_20 ?_
              refine mi_aload_n h dX6_pipe_80 (by rfl) ?_
              refine gf_X6_11 h dX6_pipe_81 fl_RX6_109 ?_
              refine mi_iload_n h dX6_pipe_84 (by rfl) ?_
              refine mn_iastore ((σ 28 11).toNat) h dX6_pipe_85 (by rfl) (by omega) (by omega) (by decide) ?_
              refine mi_aload_n h dX6_pipe_86 (by rfl) ?_
              refine gf_X6_6 h dX6_pipe_87 fl_RX6_23 ?_
              refine mi_aload_n h dX6_pipe_90 (by rfl) ?_
              refine gf_X6_11 h dX6_pipe_91 fl_RX6_109 ?_
              try simp only [up_app, upC_app, Nat.reduceEqDiff, reduceIte, Nat.add_eq_zero_iff, Nat.succ_ne_self, Nat.add_right_cancel_iff]
              refine mi_iload_n h dX6_pipe_94 (by rfl) ?_
              refine mn_iastore ((σ 28 11).toNat) h dX6_pipe_95 (by rfl) (by omega) (by omega) (by decide) ?_
              refine mi_aload_n h dX6_pipe_96 (by rfl) ?_
              refine gf_X6_7 h dX6_pipe_97 fl_RX6_26 ?_
              refine mi_aload_n h dX6_pipe_100 (by rfl) ?_
              refine gf_X6_11 h dX6_pipe_101 fl_RX6_109 ?_
              try simp only [up_app, upC_app, Nat.reduceEqDiff, reduceIte, Nat.add_eq_zero_iff, Nat.succ_ne_self, Nat.add_right_cancel_iff]
              refine mi_iload_n h dX6_pipe_104 (by rfl) ?_
              refine mn_iastore ((σ 28 11).toNat) h dX6_pipe_105 (by rfl) (by omega) (by omega) (by decide) ?_
              refine mi_aload_n h dX6_pipe_106 (by rfl) ?_
              refine gf_X6_8 h dX6_pipe_107 fl_RX6_29 ?_
              refine mi_aload_n h dX6_pipe_110 (by rfl) ?_
              refine gf_X6_11 h dX6_pipe_111 fl_RX6_109 ?_
              try simp only [up_app, upC_app, Nat.reduceEqDiff, reduceIte, Nat.add_eq_zero_iff, Nat.succ_ne_self, Nat.add_right_cancel_iff]
              refine mi_iload_n h dX6_pipe_114 (by rfl) ?_
              refine mi_if_ge (tgt := 122) h dX6_pipe_115 (by decide) ⟨by omega, by omega⟩ (fun e115 => ?_) (fun e115 => ?_)
              · refine mi_aload_n h dX6_pipe_122 (by rfl) ?_
                refine gf_X6_8 h dX6_pipe_123 fl_RX6_29 ?_
                refine mi_iload_n h dX6_pipe_126 (by rfl) ?_
                refine mn_iaload (f.toNat) h dX6_pipe_127 (by rfl) (by omega) (by omega) (by decide) ?_
                try simp only [up_app, upC_app, Nat.reduceEqDiff, reduceIte, Nat.add_eq_zero_iff, Nat.succ_ne_self, Nat.add_right_cancel_iff]
                refine mi_iconst h dX6_pipe_128 ?_
                refine mi_iadd h dX6_pipe_129 ?_
                refine mn_iastore ((σ 28 11).toNat) h dX6_pipe_130 (by rfl) (by omega) (by omega) (by decide) ?_
                refine mi_aload_n h dX6_pipe_131 (by rfl) ?_
                refine mi_dup h dX6_pipe_132 (fun _ => rfl) ?_
                refine gf_X6_11 h dX6_pipe_133 fl_RX6_109 ?_
                try simp only [up_app, upC_app, Nat.reduceEqDiff, reduceIte, Nat.add_eq_zero_iff, Nat.succ_ne_self, Nat.add_right_cancel_iff]
                refine mi_iconst h dX6_pipe_136 ?_
                refine mi_iadd h dX6_pipe_137 ?_
                refine pf_X6_11 h dX6_pipe_138 fl_RX6_109 ?_
                refine mi_aload_n h dX6_pipe_141 (by rfl) ?_
                refine gf_X6_11 h dX6_pipe_142 fl_RX6_109 ?_
                try simp only [up_app, upC_app, Nat.reduceEqDiff, reduceIte, Nat.add_eq_zero_iff, Nat.succ_ne_self, Nat.add_right_cancel_iff]
                refine mi_iconst h dX6_pipe_145 ?_
                refine mi_isub h dX6_pipe_146 ?_
                refine mi_ireturn h hr dX6_pipe_147 ?_
                first | (exfalso; omega) | exact Or.inl ⟨rfl, rfl, by omega⟩ | exact Or.inr (Or.inl ⟨rfl, rfl, by omega, by omega⟩) | exact Or.inr (Or.inr (Or.inl ⟨rfl, rfl, by omega, by omega, by omega⟩)) | exact Or.inr (Or.inr (Or.inr (Or.inl ⟨rfl, rfl, by omega, by omega, by omega, by omega⟩))) | exact Or.inr (Or.inr (Or.inr (Or.inr ⟨by omega, by first | rw [hif (by omega)] | rw [hif2 (by omega)], by omega, by omega, by omega, by omega⟩)))
              · refine mi_iconst h dX6_pipe_118 ?_
                refine mi_goto (tgt := 130) h dX6_pipe_119 (by decide) ?_
                refine mn_iastore ((σ 28 11).toNat) h dX6_pipe_130 (by rfl) (by omega) (by omega) (by decide) ?_
                refine mi_aload_n h dX6_pipe_131 (by rfl) ?_
                refine mi_dup h dX6_pipe_132 (fun _ => rfl) ?_
                refine gf_X6_11 h dX6_pipe_133 fl_RX6_109 ?_
                try simp only [up_app, upC_app, Nat.reduceEqDiff, reduceIte, Nat.add_eq_zero_iff, Nat.succ_ne_self, Nat.add_right_cancel_iff]
                refine mi_iconst h dX6_pipe_136 ?_
                refine mi_iadd h dX6_pipe_137 ?_
                refine pf_X6_11 h dX6_pipe_138 fl_RX6_109 ?_
                refine mi_aload_n h dX6_pipe_141 (by rfl) ?_
                refine gf_X6_11 h dX6_pipe_142 fl_RX6_109 ?_
                try simp only [up_app, upC_app, Nat.reduceEqDiff, reduceIte, Nat.add_eq_zero_iff, Nat.succ_ne_self, Nat.add_right_cancel_iff]
                refine mi_iconst h dX6_pipe_145 ?_
                refine mi_isub h dX6_pipe_146 ?_
                refine mi_ireturn h hr dX6_pipe_147 ?_
                first | (exfalso; omega) | exact Or.inl ⟨rfl, rfl, by omega⟩ | exact Or.inr (Or.inl ⟨rfl, rfl, by omega, by omega⟩) | exact Or.inr (Or.inr (Or.inl ⟨rfl, rfl, by omega, by omega, by omega⟩)) | exact Or.inr (Or.inr (Or.inr (Or.inl ⟨rfl, rfl, by omega, by omega, by omega, by omega⟩))) | exact Or.inr (Or.inr (Or.inr (Or.inr ⟨by omega, by first | rw [hif (by omega)] | rw [hif2 (by omega)], by omega, by omega, by omega, by omega⟩)))
            · refine mi_aload_n h dX6_pipe_62 (by rfl) ?_
              refine gf_X6_8 h dX6_pipe_63 fl_RX6_29 ?_
              refine mi_iload_n h dX6_pipe_66 (by rfl) ?_
              refine mn_iaload (f.toNat) h dX6_pipe_67 (by rfl) (by omega) (by omega) (by decide) ?_
              refine mi_bipush h dX6_pipe_68 (by decide) ?_
              refine mi_icmp_ne (tgt := 76) h dX6_pipe_70 (by decide) ⟨by omega, by omega⟩ ⟨by omega, by omega⟩ (fun e70 => ?_) (fun e70 => ?_)
              · refine mi_aload_n h dX6_pipe_76 (by rfl) ?_
                refine gf_X6_5 h dX6_pipe_77 fl_RX6_20 ?_
                refine mi_aload_n h dX6_pipe_80 (by rfl) ?_
                refine gf_X6_11 h dX6_pipe_81 fl_RX6_109 ?_
                refine mi_iload_n h dX6_pipe_84 (by rfl) ?_
                refine mn_iastore ((σ 28 11).toNat) h dX6_pipe_85 (by rfl) (by omega) (by omega) (by decide) ?_
                refine mi_aload_n h dX6_pipe_86 (by rfl) ?_
                refine gf_X6_6 h dX6_pipe_87 fl_RX6_23 ?_
                refine mi_aload_n h dX6_pipe_90 (by rfl) ?_
                refine gf_X6_11 h dX6_pipe_91 fl_RX6_109 ?_
                try simp only [up_app, upC_app, Nat.reduceEqDiff, reduceIte, Nat.add_eq_zero_iff, Nat.succ_ne_self, Nat.add_right_cancel_iff]
                refine mi_iload_n h dX6_pipe_94 (by rfl) ?_
                refine mn_iastore ((σ 28 11).toNat) h dX6_pipe_95 (by rfl) (by omega) (by omega) (by decide) ?_
                refine mi_aload_n h dX6_pipe_96 (by rfl) ?_
                refine gf_X6_7 h dX6_pipe_97 fl_RX6_26 ?_
                refine mi_aload_n h dX6_pipe_100 (by rfl) ?_
                refine gf_X6_11 h dX6_pipe_101 fl_RX6_109 ?_
                try simp only [up_app, upC_app, Nat.reduceEqDiff, reduceIte, Nat.add_eq_zero_iff, Nat.succ_ne_self, Nat.add_right_cancel_iff]
                refine mi_iload_n h dX6_pipe_104 (by rfl) ?_
                refine mn_iastore ((σ 28 11).toNat) h dX6_pipe_105 (by rfl) (by omega) (by omega) (by decide) ?_
                refine mi_aload_n h dX6_pipe_106 (by rfl) ?_
                refine gf_X6_8 h dX6_pipe_107 fl_RX6_29 ?_
                refine mi_aload_n h dX6_pipe_110 (by rfl) ?_
                refine gf_X6_11 h dX6_pipe_111 fl_RX6_109 ?_
                try simp only [up_app, upC_app, Nat.reduceEqDiff, reduceIte, Nat.add_eq_zero_iff, Nat.succ_ne_self, Nat.add_right_cancel_iff]
                refine mi_iload_n h dX6_pipe_114 (by rfl) ?_
                refine mi_if_ge (tgt := 122) h dX6_pipe_115 (by decide) ⟨by omega, by omega⟩ (fun e115 => ?_) (fun e115 => ?_)
                · refine mi_aload_n h dX6_pipe_122 (by rfl) ?_
                  refine gf_X6_8 h dX6_pipe_123 fl_RX6_29 ?_
                  refine mi_iload_n h dX6_pipe_126 (by rfl) ?_
                  refine mn_iaload (f.toNat) h dX6_pipe_127 (by rfl) (by omega) (by omega) (by decide) ?_
                  try simp only [up_app, upC_app, Nat.reduceEqDiff, reduceIte, Nat.add_eq_zero_iff, Nat.succ_ne_self, Nat.add_right_cancel_iff]
                  refine mi_iconst h dX6_pipe_128 ?_
                  refine mi_iadd h dX6_pipe_129 ?_
                  refine mn_iastore ((σ 28 11).toNat) h dX6_pipe_130 (by rfl) (by omega) (by omega) (by decide) ?_
                  refine mi_aload_n h dX6_pipe_131 (by rfl) ?_
                  refine mi_dup h dX6_pipe_132 (fun _ => rfl) ?_
                  refine gf_X6_11 h dX6_pipe_133 fl_RX6_109 ?_
                  try simp only [up_app, upC_app, Nat.reduceEqDiff, reduceIte, Nat.add_eq_zero_iff, Nat.succ_ne_self, Nat.add_right_cancel_iff]
                  refine mi_iconst h dX6_pipe_136 ?_
                  refine mi_iadd h dX6_pipe_137 ?_
                  refine pf_X6_11 h dX6_pipe_138 fl_RX6_109 ?_
                  refine mi_aload_n h dX6_pipe_141 (by rfl) ?_
                  refine gf_X6_11 h dX6_pipe_142 fl_RX6_109 ?_
                  try simp only [up_app, upC_app, Nat.reduceEqDiff, reduceIte, Nat.add_eq_zero_iff, Nat.succ_ne_self, Nat.add_right_cancel_iff]
                  refine mi_iconst h dX6_pipe_145 ?_
                  refine mi_isub h dX6_pipe_146 ?_
                  refine mi_ireturn h hr dX6_pipe_147 ?_
                  first | (exfalso; omega) | exact Or.inl ⟨rfl, rfl, by omega⟩ | exact Or.inr (Or.inl ⟨rfl, rfl, by omega, by omega⟩) | exact Or.inr (Or.inr (Or.inl ⟨rfl, rfl, by omega, by omega, by omega⟩)) | exact Or.inr (Or.inr (Or.inr (Or.inl ⟨rfl, rfl, by omega, by omega, by omega, by omega⟩))) | exact Or.inr (Or.inr (Or.inr (Or.inr ⟨by omega, by first | rw [hif (by omega)] | rw [hif2 (by omega)], by omega, by omega, by omega, by omega⟩)))
                · refine mi_iconst h dX6_pipe_118 ?_
                  refine mi_goto (tgt := 130) h dX6_pipe_119 (by decide) ?_
                  refine mn_iastore ((σ 28 11).toNat) h dX6_pipe_130 (by rfl) (by omega) (by omega) (by decide) ?_
                  refine mi_aload_n h dX6_pipe_131 (by rfl) ?_
                  refine mi_dup h dX6_pipe_132 (fun _ => rfl) ?_
                  refine gf_X6_11 h dX6_pipe_133 fl_RX6_109 ?_
                  try simp only [up_app, upC_app, Nat.reduceEqDiff, reduceIte, Nat.add_eq_zero_iff, Nat.succ_ne_self, Nat.add_right_cancel_iff]
                  refine mi_iconst h dX6_pipe_136 ?_
                  refine mi_iadd h dX6_pipe_137 ?_
                  refine pf_X6_11 h dX6_pipe_138 fl_RX6_109 ?_
                  refine mi_aload_n h dX6_pipe_141 (by rfl) ?_
                  refine gf_X6_11 h dX6_pipe_142 fl_RX6_109 ?_
                  try simp only [up_app, upC_app, Nat.reduceEqDiff, reduceIte, Nat.add_eq_zero_iff, Nat.succ_ne_self, Nat.add_right_cancel_iff]
                  refine mi_iconst h dX6_pipe_145 ?_
                  refine mi_isub h dX6_pipe_146 ?_
                  refine mi_ireturn h hr dX6_pipe_147 ?_
                  first | (exfalso; omega) | exact Or.inl ⟨rfl, rfl, by omega⟩ | exact Or.inr (Or.inl ⟨rfl, rfl, by omega, by omega⟩) | exact Or.inr (Or.inr (Or.inl ⟨rfl, rfl, by omega, by omega, by omega⟩)) | exact Or.inr (Or.inr (Or.inr (Or.inl ⟨rfl, rfl, by omega, by omega, by omega, by omega⟩))) | exact Or.inr (Or.inr (Or.inr (Or.inr ⟨by omega, by first | rw [hif (by omega)] | rw [hif2 (by omega)], by omega, by omega, by omega, by omega⟩)))
              · refine mi_bipush h dX6_pipe_73 (by decide) ?_
                refine mi_ireturn h hr dX6_pipe_75 ?_
                first | (exfalso; omega) | exact Or.inl ⟨rfl, rfl, by omega⟩ | exact Or.inr (Or.inl ⟨rfl, rfl, by omega, by omega⟩) | exact Or.inr (Or.inr (Or.inl ⟨rfl, rfl, by omega, by omega, by omega⟩)) | exact Or.inr (Or.inr (Or.inr (Or.inl ⟨rfl, rfl, by omega, by omega, by omega, by omega⟩))) | exact Or.inr (Or.inr (Or.inr (Or.inr ⟨by omega, by first | rw [hif (by omega)] | rw [hif2 (by omega)], by omega, by omega, by omega, by omega⟩)))
          · refine mi_bipush h dX6_pipe_55 (by decide) ?_
            refine mi_ireturn h hr dX6_pipe_57 ?_
            first | (exfalso; omega) | exact Or.inl ⟨rfl, rfl, by omega⟩ | exact Or.inr (Or.inl ⟨rfl, rfl, by omega, by omega⟩) | exact Or.inr (Or.inr (Or.inl ⟨rfl, rfl, by omega, by omega, by omega⟩)) | exact Or.inr (Or.inr (Or.inr (Or.inl ⟨rfl, rfl, by omega, by omega, by omega, by omega⟩))) | exact Or.inr (Or.inr (Or.inr (Or.inr ⟨by omega, by first | rw [hif (by omega)] | rw [hif2 (by omega)], by omega, by omega, by omega, by omega⟩)))
        · refine mi_bipush h dX6_pipe_43 (by decide) ?_
          refine mi_ireturn h hr dX6_pipe_45 ?_
          first | (exfalso; omega) | exact Or.inl ⟨rfl, rfl, by omega⟩ | exact Or.inr (Or.inl ⟨rfl, rfl, by omega, by omega⟩) | exact Or.inr (Or.inr (Or.inl ⟨rfl, rfl, by omega, by omega, by omega⟩)) | exact Or.inr (Or.inr (Or.inr (Or.inl ⟨rfl, rfl, by omega, by omega, by omega, by omega⟩))) | exact Or.inr (Or.inr (Or.inr (Or.inr ⟨by omega, by first | rw [hif (by omega)] | rw [hif2 (by omega)], by omega, by omega, by omega, by omega⟩)))
      · refine mi_iconst h dX6_pipe_29 ?_
        refine mi_ireturn h hr dX6_pipe_30 ?_
        first | (exfalso; omega) | exact Or.inl ⟨rfl, rfl, by omega⟩ | exact Or.inr (Or.inl ⟨rfl, rfl, by omega, by omega⟩) | exact Or.inr (Or.inr (Or.inl ⟨rfl, rfl, by omega, by omega, by omega⟩)) | exact Or.inr (Or.inr (Or.inr (Or.inl ⟨rfl, rfl, by omega, by omega, by omega, by omega⟩))) | exact Or.inr (Or.inr (Or.inr (Or.inr ⟨by omega, by first | rw [hif (by omega)] | rw [hif2 (by omega)], by omega, by omega, by omega, by omega⟩)))
set_option maxHeartbeats 4000000 in
set_option maxRecDepth 100000 in
theorem c_X6_head {σ : Mem} {p f n : Int} (hJ : JS σ) (hp : R32 p) (hf : R32 f) (hn : R32 n) : Sp1 yX6_head cX6_head 4 (some .int) 1 2 [vr 28, vi p, vi f, vi n] σ (fun r σ' => (r = -1 ∧ σ = σ' ∧ ¬ (0 ≤ p ∧ p < σ 28 11)) ∨ (r = -2 ∧ σ = σ' ∧ (0 ≤ p ∧ p < σ 28 11) ∧ ¬ ((1 ≤ f ∧ f ≤ 200) ∧ (0 ≤ n ∧ n ≤ 30000))) ∨ (r = 1 ∧ up (up (up (up (up σ 37 p.toNat 1) 38 p.toNat f) 39 p.toNat n) 40 p.toNat 0) 41 p.toNat 0 = σ' ∧ (0 ≤ p ∧ p < σ 28 11) ∧ ((1 ≤ f ∧ f ≤ 200) ∧ (0 ≤ n ∧ n ≤ 30000)))) := by
  refine Sp1_in RX6 rfl (by decide +kernel) (Nat.le_of_ble_eq_true rfl) [some (vr 28), some (vi p), some (vi f), some (vi n)] rfl ?_
  intro K h hr
  obtain ⟨j1, j2, j3, j4, j5, j6, j7⟩ := id hJ
  refine mi_aload_n h dX6_head_0 (by rfl) ?_
  refine mi_iload_n h dX6_head_1 (by rfl) ?_
  refine mi_cV1i (hw := Nat.le_of_ble_eq_true rfl) h dX6_head_2 ml_RX6_116 ym_yX6_isPipe (by rfl) (by rfl) (c_X6_isPipe hJ ⟨by omega, by omega⟩) (fun r2 σ2 hp2 => ?_)
  obtain ⟨rfl, hb2, hc2⟩ := hp2
  refine mi_if_ne (tgt := 10) h dX6_head_5 (by decide) ⟨by omega, by omega⟩ (fun e5 => ?_) (fun e5 => ?_)
  · refine mi_iload_n h dX6_head_10 (by rfl) ?_
    refine mi_i2l h dX6_head_11 ⟨by omega, by omega⟩ ?_
    refine mi_lconst1 h dX6_head_12 ?_
    refine mi_ldc2 (z := 200) h dX6_head_13 kc_RX6_136 rfl ?_
    refine mi_cS3i (hw := Nat.le_of_ble_eq_true rfl) h dX6_head_16 ml_RX6_112 ym_yX6_in (c_X6_in ⟨by omega, by omega⟩ ⟨by omega, by omega⟩ ⟨by omega, by omega⟩) (fun r16 σ16 hp16 => ?_)
    obtain ⟨rfl, hb16, hc16⟩ := hp16
    refine mi_if_eq (tgt := 34) h dX6_head_19 (by decide) ⟨by omega, by omega⟩ (fun e19 => ?_) (fun e19 => ?_)
    · refine mi_bipush h dX6_head_34 (by decide) ?_
      refine mi_ireturn h hr dX6_head_36 ?_
      first | exact Or.inl ⟨rfl, rfl, by omega⟩ | exact Or.inr (Or.inl ⟨rfl, rfl, by omega, by omega⟩) | exact Or.inr (Or.inr ⟨rfl, rfl, by omega, by omega⟩)
    · refine mi_iload_n h dX6_head_22 (by rfl) ?_
      refine mi_i2l h dX6_head_23 ⟨by omega, by omega⟩ ?_
      refine mi_lconst0 h dX6_head_24 ?_
      refine mi_ldc2 (z := 30000) h dX6_head_25 kc_RX6_138 rfl ?_
      refine mi_cS3i (hw := Nat.le_of_ble_eq_true rfl) h dX6_head_28 ml_RX6_112 ym_yX6_in (c_X6_in ⟨by omega, by omega⟩ ⟨by omega, by omega⟩ ⟨by omega, by omega⟩) (fun r28 σ28 hp28 => ?_)
      obtain ⟨rfl, hb28, hc28⟩ := hp28
      refine mi_if_ne (tgt := 37) h dX6_head_31 (by decide) ⟨by omega, by omega⟩ (fun e31 => ?_) (fun e31 => ?_)
      · refine mi_aload_n h dX6_head_37 (by rfl) ?_
        refine gf_X6_12 h dX6_head_38 fl_RX6_39 ?_
        refine mi_iload_n h dX6_head_41 (by rfl) ?_
        refine mi_iconst h dX6_head_42 ?_
        refine mn_bastore (p.toNat) h dX6_head_43 (by rfl) (by omega) (by omega) (by decide) (by omega) ?_
        refine mi_aload_n h dX6_head_44 (by rfl) ?_
        refine gf_X6_13 h dX6_head_45 fl_RX6_42 ?_
        refine mi_iload_n h dX6_head_48 (by rfl) ?_
        refine mi_iload_n h dX6_head_49 (by rfl) ?_
        refine mn_iastore (p.toNat) h dX6_head_50 (by rfl) (by omega) (by omega) (by decide) ?_
        refine mi_aload_n h dX6_head_51 (by rfl) ?_
        refine gf_X6_14 h dX6_head_52 fl_RX6_45 ?_
        refine mi_iload_n h dX6_head_55 (by rfl) ?_
        refine mi_iload_n h dX6_head_56 (by rfl) ?_
        refine mn_iastore (p.toNat) h dX6_head_57 (by rfl) (by omega) (by omega) (by decide) ?_
        refine mi_aload_n h dX6_head_58 (by rfl) ?_
        refine gf_X6_15 h dX6_head_59 fl_RX6_48 ?_
        refine mi_iload_n h dX6_head_62 (by rfl) ?_
        refine mi_iconst h dX6_head_63 ?_
        refine mn_bastore (p.toNat) h dX6_head_64 (by rfl) (by omega) (by omega) (by decide) (by omega) ?_
        refine mi_aload_n h dX6_head_65 (by rfl) ?_
        refine gf_X6_16 h dX6_head_66 fl_RX6_51 ?_
        refine mi_iload_n h dX6_head_69 (by rfl) ?_
        refine mi_iconst h dX6_head_70 ?_
        refine mn_iastore (p.toNat) h dX6_head_71 (by rfl) (by omega) (by omega) (by decide) ?_
        refine mi_iconst h dX6_head_72 ?_
        refine mi_ireturn h hr dX6_head_73 ?_
        first | exact Or.inl ⟨rfl, rfl, by omega⟩ | exact Or.inr (Or.inl ⟨rfl, rfl, by omega, by omega⟩) | exact Or.inr (Or.inr ⟨rfl, rfl, by omega, by omega⟩)
      · refine mi_bipush h dX6_head_34 (by decide) ?_
        refine mi_ireturn h hr dX6_head_36 ?_
        first | exact Or.inl ⟨rfl, rfl, by omega⟩ | exact Or.inr (Or.inl ⟨rfl, rfl, by omega, by omega⟩) | exact Or.inr (Or.inr ⟨rfl, rfl, by omega, by omega⟩)
  · refine mi_iconst h dX6_head_8 ?_
    refine mi_ireturn h hr dX6_head_9 ?_
    first | exact Or.inl ⟨rfl, rfl, by omega⟩ | exact Or.inr (Or.inl ⟨rfl, rfl, by omega, by omega⟩) | exact Or.inr (Or.inr ⟨rfl, rfl, by omega, by omega⟩)
set_option maxHeartbeats 4000000 in
set_option maxRecDepth 100000 in
theorem c_X6_open {σ : Mem} {p v : Int} (hJ : JS σ) (hB : JB σ) (hp : R32 p) (hv : v = 0 ∨ v = 1) : Sp1 yX6_open cX6_open 4 (some .int) 1 3 [vr 28, vi p, vi v] σ (fun r σ' => (r = -1 ∧ σ = σ' ∧ ¬ (0 ≤ p ∧ p < σ 28 11 ∧ σ 37 p.toNat = 1)) ∨ (r = σ 40 p.toNat ∧ up σ 40 p.toNat v = σ' ∧ (0 ≤ p ∧ p < σ 28 11 ∧ σ 37 p.toNat = 1))) := by
  refine Sp1_in RX6 rfl (by decide +kernel) (Nat.le_of_ble_eq_true rfl) [some (vr 28), some (vi p), some (vi v), none] rfl ?_
  intro K h hr
  obtain ⟨j1, j2, j3, j4, j5, j6, j7⟩ := id hJ
  have hq : 0 ≤ p ∧ p < 24 → σ 40 p.toNat = 0 ∨ σ 40 p.toNat = 1 := fun q => (hB.1 p.toNat (by omega)).2.2.2.1
  refine mi_aload_n h dX6_open_0 (by rfl) ?_
  refine mi_iload_n h dX6_open_1 (by rfl) ?_
  refine mi_cV1i (hw := Nat.le_of_ble_eq_true rfl) h dX6_open_2 ml_RX6_140 ym_yX6_isHead (by rfl) (by rfl) (c_X6_isHead hJ hB ⟨by omega, by omega⟩) (fun r2 σ2 hp2 => ?_)
  obtain ⟨rfl, hb2, hc2⟩ := hp2
  refine mi_if_ne (tgt := 10) h dX6_open_5 (by decide) ⟨by omega, by omega⟩ (fun e5 => ?_) (fun e5 => ?_)
  · refine mi_aload_n h dX6_open_10 (by rfl) ?_
    refine gf_X6_15 h dX6_open_11 fl_RX6_48 ?_
    refine mi_iload_n h dX6_open_14 (by rfl) ?_
    refine mn_baload (p.toNat) h dX6_open_15 (by rfl) (by omega) (by omega) (by decide) ?_
    refine mi_if_eq (tgt := 23) h dX6_open_16 (by decide) ⟨by omega, by omega⟩ (fun e16 => ?_) (fun e16 => ?_)
    · refine mi_iconst h dX6_open_23 ?_
      refine mi_istore_n h dX6_open_24 (by decide) ?_
      refine mi_aload_n h dX6_open_25 (by rfl) ?_
      refine gf_X6_15 h dX6_open_26 fl_RX6_48 ?_
      refine mi_iload_n h dX6_open_29 (by rfl) ?_
      refine mi_iload_n h dX6_open_30 (by rfl) ?_
      refine mn_bastore (p.toNat) h dX6_open_31 (by rfl) (by omega) (by omega) (by decide) (by omega) ?_
      refine mi_iload_n h dX6_open_32 (by rfl) ?_
      refine mi_ireturn h hr dX6_open_33 ?_
      first | exact Or.inl ⟨rfl, rfl, by omega⟩ | exact Or.inr ⟨by omega, rfl, by omega⟩
    · refine mi_iconst h dX6_open_19 ?_
      refine mi_goto (tgt := 24) h dX6_open_20 (by decide) ?_
      refine mi_istore_n h dX6_open_24 (by decide) ?_
      refine mi_aload_n h dX6_open_25 (by rfl) ?_
      refine gf_X6_15 h dX6_open_26 fl_RX6_48 ?_
      refine mi_iload_n h dX6_open_29 (by rfl) ?_
      refine mi_iload_n h dX6_open_30 (by rfl) ?_
      refine mn_bastore (p.toNat) h dX6_open_31 (by rfl) (by omega) (by omega) (by decide) (by omega) ?_
      refine mi_iload_n h dX6_open_32 (by rfl) ?_
      refine mi_ireturn h hr dX6_open_33 ?_
      first | exact Or.inl ⟨rfl, rfl, by omega⟩ | exact Or.inr ⟨by omega, rfl, by omega⟩
  · refine mi_iconst h dX6_open_8 ?_
    refine mi_ireturn h hr dX6_open_9 ?_
    first | exact Or.inl ⟨rfl, rfl, by omega⟩ | exact Or.inr ⟨by omega, rfl, by omega⟩
set_option maxHeartbeats 4000000 in
set_option maxRecDepth 100000 in
theorem c_X6_shut {σ : Mem} {p v : Int} (hJ : JS σ) (hB : JB σ) (hp : R32 p) (hv : v = 0 ∨ v = 1) : Sp1 yX6_shut cX6_shut 4 (some .int) 1 2 [vr 28, vi p, vi v] σ (fun r σ' => (r = -1 ∧ σ = σ' ∧ ¬ (0 ≤ p ∧ p < σ 28 11)) ∨ (r = σ 35 p.toNat ∧ up σ 35 p.toNat v = σ' ∧ (0 ≤ p ∧ p < σ 28 11))) := by
  refine Sp1_in RX6 rfl (by decide +kernel) (Nat.le_of_ble_eq_true rfl) [some (vr 28), some (vi p), some (vi v), none] rfl ?_
  intro K h hr
  obtain ⟨j1, j2, j3, j4, j5, j6, j7⟩ := id hJ
  have hq : 0 ≤ p ∧ p < 24 → σ 35 p.toNat = 0 ∨ σ 35 p.toNat = 1 := fun q => (hB.1 p.toNat (by omega)).1
  refine mi_aload_n h dX6_shut_0 (by rfl) ?_
  refine mi_iload_n h dX6_shut_1 (by rfl) ?_
  refine mi_cV1i (hw := Nat.le_of_ble_eq_true rfl) h dX6_shut_2 ml_RX6_116 ym_yX6_isPipe (by rfl) (by rfl) (c_X6_isPipe hJ ⟨by omega, by omega⟩) (fun r2 σ2 hp2 => ?_)
  obtain ⟨rfl, hb2, hc2⟩ := hp2
  refine mi_if_ne (tgt := 10) h dX6_shut_5 (by decide) ⟨by omega, by omega⟩ (fun e5 => ?_) (fun e5 => ?_)
  · refine mi_aload_n h dX6_shut_10 (by rfl) ?_
    refine gf_X6_9 h dX6_shut_11 fl_RX6_32 ?_
    refine mi_iload_n h dX6_shut_14 (by rfl) ?_
    refine mn_baload (p.toNat) h dX6_shut_15 (by rfl) (by omega) (by omega) (by decide) ?_
    refine mi_if_eq (tgt := 23) h dX6_shut_16 (by decide) ⟨by omega, by omega⟩ (fun e16 => ?_) (fun e16 => ?_)
    · refine mi_iconst h dX6_shut_23 ?_
      refine mi_istore_n h dX6_shut_24 (by decide) ?_
      refine mi_aload_n h dX6_shut_25 (by rfl) ?_
      refine gf_X6_9 h dX6_shut_26 fl_RX6_32 ?_
      refine mi_iload_n h dX6_shut_29 (by rfl) ?_
      refine mi_iload_n h dX6_shut_30 (by rfl) ?_
      refine mn_bastore (p.toNat) h dX6_shut_31 (by rfl) (by omega) (by omega) (by decide) (by omega) ?_
      refine mi_iload_n h dX6_shut_32 (by rfl) ?_
      refine mi_ireturn h hr dX6_shut_33 ?_
      first | exact Or.inl ⟨rfl, rfl, by omega⟩ | exact Or.inr ⟨by omega, rfl, by omega⟩
    · refine mi_iconst h dX6_shut_19 ?_
      refine mi_goto (tgt := 24) h dX6_shut_20 (by decide) ?_
      refine mi_istore_n h dX6_shut_24 (by decide) ?_
      refine mi_aload_n h dX6_shut_25 (by rfl) ?_
      refine gf_X6_9 h dX6_shut_26 fl_RX6_32 ?_
      refine mi_iload_n h dX6_shut_29 (by rfl) ?_
      refine mi_iload_n h dX6_shut_30 (by rfl) ?_
      refine mn_bastore (p.toNat) h dX6_shut_31 (by rfl) (by omega) (by omega) (by decide) (by omega) ?_
      refine mi_iload_n h dX6_shut_32 (by rfl) ?_
      refine mi_ireturn h hr dX6_shut_33 ?_
      first | exact Or.inl ⟨rfl, rfl, by omega⟩ | exact Or.inr ⟨by omega, rfl, by omega⟩
  · refine mi_iconst h dX6_shut_8 ?_
    refine mi_ireturn h hr dX6_shut_9 ?_
    first | exact Or.inl ⟨rfl, rfl, by omega⟩ | exact Or.inr ⟨by omega, rfl, by omega⟩
set_option maxHeartbeats 4000000 in
set_option maxRecDepth 100000 in
theorem c_X6_clog {σ : Mem} {p c : Int} (hJ : JS σ) (hB : JB σ) (hp : R32 p) (hc : R32 c) : Sp1 yX6_clog cX6_clog 4 (some .int) 1 3 [vr 28, vi p, vi c] σ (fun r σ' => (r = -1 ∧ σ = σ' ∧ ¬ (0 ≤ p ∧ p < σ 28 11 ∧ σ 37 p.toNat = 1)) ∨ (r = -2 ∧ σ = σ' ∧ (0 ≤ p ∧ p < σ 28 11 ∧ σ 37 p.toNat = 1) ∧ ¬ (0 ≤ c ∧ c ≤ 100)) ∨ (r = σ 41 p.toNat ∧ up σ 41 p.toNat c = σ' ∧ (0 ≤ p ∧ p < σ 28 11 ∧ σ 37 p.toNat = 1) ∧ (0 ≤ c ∧ c ≤ 100))) := by
  refine Sp1_in RX6 rfl (by decide +kernel) (Nat.le_of_ble_eq_true rfl) [some (vr 28), some (vi p), some (vi c), none] rfl ?_
  intro K h hr
  obtain ⟨j1, j2, j3, j4, j5, j6, j7⟩ := id hJ
  refine mi_aload_n h dX6_clog_0 (by rfl) ?_
  refine mi_iload_n h dX6_clog_1 (by rfl) ?_
  refine mi_cV1i (hw := Nat.le_of_ble_eq_true rfl) h dX6_clog_2 ml_RX6_140 ym_yX6_isHead (by rfl) (by rfl) (c_X6_isHead hJ hB ⟨by omega, by omega⟩) (fun r2 σ2 hp2 => ?_)
  obtain ⟨rfl, hb2, hc2⟩ := hp2
  refine mi_if_ne (tgt := 10) h dX6_clog_5 (by decide) ⟨by omega, by omega⟩ (fun e5 => ?_) (fun e5 => ?_)
  · refine mi_iload_n h dX6_clog_10 (by rfl) ?_
    refine mi_i2l h dX6_clog_11 ⟨by omega, by omega⟩ ?_
    refine mi_lconst0 h dX6_clog_12 ?_
    refine mi_ldc2 (z := 100) h dX6_clog_13 kc_RX6_143 rfl ?_
    refine mi_cS3i (hw := Nat.le_of_ble_eq_true rfl) h dX6_clog_16 ml_RX6_112 ym_yX6_in (c_X6_in ⟨by omega, by omega⟩ ⟨by omega, by omega⟩ ⟨by omega, by omega⟩) (fun r16 σ16 hp16 => ?_)
    obtain ⟨rfl, hb16, hc16⟩ := hp16
    refine mi_if_ne (tgt := 25) h dX6_clog_19 (by decide) ⟨by omega, by omega⟩ (fun e19 => ?_) (fun e19 => ?_)
    · refine mi_aload_n h dX6_clog_25 (by rfl) ?_
      refine gf_X6_16 h dX6_clog_26 fl_RX6_51 ?_
      refine mi_iload_n h dX6_clog_29 (by rfl) ?_
      refine mn_iaload (p.toNat) h dX6_clog_30 (by rfl) (by omega) (by omega) (by decide) ?_
      refine mi_istore_n h dX6_clog_31 (by decide) ?_
      refine mi_aload_n h dX6_clog_32 (by rfl) ?_
      refine gf_X6_16 h dX6_clog_33 fl_RX6_51 ?_
      refine mi_iload_n h dX6_clog_36 (by rfl) ?_
      refine mi_iload_n h dX6_clog_37 (by rfl) ?_
      refine mn_iastore (p.toNat) h dX6_clog_38 (by rfl) (by omega) (by omega) (by decide) ?_
      refine mi_iload_n h dX6_clog_39 (by rfl) ?_
      refine mi_ireturn h hr dX6_clog_40 ?_
      first | exact Or.inl ⟨rfl, rfl, by omega⟩ | exact Or.inr (Or.inl ⟨rfl, rfl, by omega, by omega⟩) | exact Or.inr (Or.inr ⟨rfl, rfl, by omega, by omega⟩)
    · refine mi_bipush h dX6_clog_22 (by decide) ?_
      refine mi_ireturn h hr dX6_clog_24 ?_
      first | exact Or.inl ⟨rfl, rfl, by omega⟩ | exact Or.inr (Or.inl ⟨rfl, rfl, by omega, by omega⟩) | exact Or.inr (Or.inr ⟨rfl, rfl, by omega, by omega⟩)
  · refine mi_iconst h dX6_clog_8 ?_
    refine mi_ireturn h hr dX6_clog_9 ?_
    first | exact Or.inl ⟨rfl, rfl, by omega⟩ | exact Or.inr (Or.inl ⟨rfl, rfl, by omega, by omega⟩) | exact Or.inr (Or.inr ⟨rfl, rfl, by omega, by omega⟩)
set_option maxHeartbeats 4000000 in
set_option maxRecDepth 100000 in
theorem c_X6_resize {σ : Mem} {p z : Int} (hJ : JS σ) (hp : R32 p) (hz : R32 z) : Sp1 yX6_resize cX6_resize 4 (some .int) 1 2 [vr 28, vi p, vi z] σ (fun r σ' => (r = -1 ∧ σ = σ' ∧ ¬ ((0 ≤ p ∧ p < σ 28 11) ∧ (0 ≤ z ∧ z < σ 28 4))) ∨ (r = σ 33 p.toNat ∧ up σ 33 p.toNat z = σ' ∧ (0 ≤ p ∧ p < σ 28 11) ∧ (0 ≤ z ∧ z < σ 28 4))) := by
  refine Sp1_in RX6 rfl (by decide +kernel) (Nat.le_of_ble_eq_true rfl) [some (vr 28), some (vi p), some (vi z), none] rfl ?_
  intro K h hr
  obtain ⟨j1, j2, j3, j4, j5, j6, j7⟩ := id hJ
  refine mi_aload_n h dX6_resize_0 (by rfl) ?_
  refine mi_iload_n h dX6_resize_1 (by rfl) ?_
  refine mi_cV1i (hw := Nat.le_of_ble_eq_true rfl) h dX6_resize_2 ml_RX6_116 ym_yX6_isPipe (by rfl) (by rfl) (c_X6_isPipe hJ ⟨by omega, by omega⟩) (fun r2 σ2 hp2 => ?_)
  obtain ⟨rfl, hb2, hc2⟩ := hp2
  refine mi_if_eq (tgt := 24) h dX6_resize_5 (by decide) ⟨by omega, by omega⟩ (fun e5 => ?_) (fun e5 => ?_)
  · refine mi_iconst h dX6_resize_24 ?_
    refine mi_ireturn h hr dX6_resize_25 ?_
    first | exact Or.inl ⟨rfl, rfl, by omega⟩ | exact Or.inr ⟨rfl, rfl, by omega, by omega⟩
  · refine mi_iload_n h dX6_resize_8 (by rfl) ?_
    refine mi_i2l h dX6_resize_9 ⟨by omega, by omega⟩ ?_
    refine mi_lconst0 h dX6_resize_10 ?_
    refine mi_aload_n h dX6_resize_11 (by rfl) ?_
    refine gf_X6_4 h dX6_resize_12 fl_RX6_131 ?_
    refine mi_iconst h dX6_resize_15 ?_
    refine mi_isub h dX6_resize_16 ?_
    refine mi_i2l h dX6_resize_17 ⟨by omega, by omega⟩ ?_
    refine mi_cS3i (hw := Nat.le_of_ble_eq_true rfl) h dX6_resize_18 ml_RX6_112 ym_yX6_in (c_X6_in ⟨by omega, by omega⟩ ⟨by omega, by omega⟩ ⟨by omega, by omega⟩) (fun r18 σ18 hp18 => ?_)
    obtain ⟨rfl, hb18, hc18⟩ := hp18
    refine mi_if_ne (tgt := 26) h dX6_resize_21 (by decide) ⟨by omega, by omega⟩ (fun e21 => ?_) (fun e21 => ?_)
    · refine mi_aload_n h dX6_resize_26 (by rfl) ?_
      refine gf_X6_7 h dX6_resize_27 fl_RX6_26 ?_
      refine mi_iload_n h dX6_resize_30 (by rfl) ?_
      refine mn_iaload (p.toNat) h dX6_resize_31 (by rfl) (by omega) (by omega) (by decide) ?_
      refine mi_istore_n h dX6_resize_32 (by decide) ?_
      refine mi_aload_n h dX6_resize_33 (by rfl) ?_
      refine gf_X6_7 h dX6_resize_34 fl_RX6_26 ?_
      refine mi_iload_n h dX6_resize_37 (by rfl) ?_
      refine mi_iload_n h dX6_resize_38 (by rfl) ?_
      refine mn_iastore (p.toNat) h dX6_resize_39 (by rfl) (by omega) (by omega) (by decide) ?_
      refine mi_iload_n h dX6_resize_40 (by rfl) ?_
      refine mi_ireturn h hr dX6_resize_41 ?_
      first | exact Or.inl ⟨rfl, rfl, by omega⟩ | exact Or.inr ⟨rfl, rfl, by omega, by omega⟩
    · refine mi_iconst h dX6_resize_24 ?_
      refine mi_ireturn h hr dX6_resize_25 ?_
      first | exact Or.inl ⟨rfl, rfl, by omega⟩ | exact Or.inr ⟨rfl, rfl, by omega, by omega⟩
def fnM (σ : Mem) (p : Nat) : Int := if σ 37 p = 1 then fnw (σ 38 p) (σ 41 p) else 0
set_option maxHeartbeats 4000000 in
set_option maxRecDepth 100000 in
theorem c_X6_factorNow {σ : Mem} {p : Nat} (hP : JP σ) (hB : JB σ) (hp : p < 24) : Sp1 yX6_factorNow cX6_factorNow 2 (some .int) 1 0 [vr 28, vi (p : Int)] σ (fun r σ' => σ = σ' ∧ r = fnM σ p) := by
  refine Sp1_in RX6 rfl (by decide +kernel) (Nat.le_of_ble_eq_true rfl) [some (vr 28), some (vi (p : Int))] rfl ?_
  intro K h hr
  obtain ⟨-, -, -, -, k1, -, k2⟩ := hP p hp
  have hv := (hB.1 p hp).2.2.1
  have h9 := fnw_rng k1 k2
  refine mi_aload_n h dX6_factorNow_0 (by rfl) ?_
  refine gf_X6_12 h dX6_factorNow_1 fl_RX6_39 ?_
  refine mi_iload_n h dX6_factorNow_4 (by rfl) ?_
  refine mn_baload (p) h dX6_factorNow_5 (by rfl) (by omega) (by omega) (by decide) ?_
  refine mi_if_eq (tgt := 31) h dX6_factorNow_6 (by decide) ⟨by omega, by omega⟩ (fun e6 => ?_) (fun e6 => ?_)
  · refine mi_iconst h dX6_factorNow_31 ?_
    refine mi_ireturn h hr dX6_factorNow_32 ?_
    unfold fnM
    first | exact ⟨rfl, by rw [if_neg (by omega)]⟩ | exact ⟨rfl, by rw [if_pos (by omega)]; rfl⟩
  · refine mi_aload_n h dX6_factorNow_9 (by rfl) ?_
    refine gf_X6_13 h dX6_factorNow_10 fl_RX6_42 ?_
    refine mi_iload_n h dX6_factorNow_13 (by rfl) ?_
    refine mn_iaload (p) h dX6_factorNow_14 (by rfl) (by omega) (by omega) (by decide) ?_
    refine mi_bipush h dX6_factorNow_15 (by decide) ?_
    refine mi_aload_n h dX6_factorNow_17 (by rfl) ?_
    refine gf_X6_16 h dX6_factorNow_18 fl_RX6_51 ?_
    refine mi_iload_n h dX6_factorNow_21 (by rfl) ?_
    refine mn_iaload (p) h dX6_factorNow_22 (by rfl) (by omega) (by omega) (by decide) ?_
    refine mi_isub h dX6_factorNow_23 ?_
    refine mi_imul h dX6_factorNow_24 ?_
    refine mi_bipush h dX6_factorNow_25 (by decide) ?_
    refine mi_idiv h dX6_factorNow_27 ⟨by omega, by omega⟩ ⟨by omega, by omega⟩ ?_
    refine mi_goto (tgt := 32) h dX6_factorNow_28 (by decide) ?_
    refine mi_ireturn h hr dX6_factorNow_32 ?_
    unfold fnM
    first | exact ⟨rfl, by rw [if_neg (by omega)]⟩ | exact ⟨rfl, by rw [if_pos (by omega)]; rfl⟩
def drM (σ : Mem) (p : Nat) : Int := if p = 24 then σ 28 1 else σ 32 p * σ 29 (σ 33 p).toNat
set_option maxHeartbeats 4000000 in
set_option maxRecDepth 100000 in
theorem c_X6_drag {σ : Mem} {p : Nat} (hP : JP σ) (hp : p < 25) : Sp1 yX6_drag cX6_drag 2 (some .int) 1 0 [vr 28, vi (p : Int)] σ (fun r σ' => σ = σ' ∧ r = drM σ p) := by
  refine Sp1_in RX6 rfl (by decide +kernel) (Nat.le_of_ble_eq_true rfl) [some (vr 28), some (vi (p : Int))] rfl ?_
  intro K h hr
  have hz : p < 24 → 0 ≤ σ 33 p ∧ σ 33 p ≤ 5 := fun q => (hP p q).2.2.1
  refine mi_iload_n h dX6_drag_0 (by rfl) ?_
  refine mi_bipush h dX6_drag_1 (by decide) ?_
  refine mi_icmp_ne (tgt := 13) h dX6_drag_3 (by decide) ⟨by omega, by omega⟩ ⟨by omega, by omega⟩ (fun e3 => ?_) (fun e3 => ?_)
  · refine mi_aload_n h dX6_drag_13 (by rfl) ?_
    refine gf_X6_6 h dX6_drag_14 fl_RX6_23 ?_
    refine mi_iload_n h dX6_drag_17 (by rfl) ?_
    refine mn_iaload (p) h dX6_drag_18 (by rfl) (by omega) (by omega) (by decide) ?_
    refine mi_aload_n h dX6_drag_19 (by rfl) ?_
    refine gf_X6_2 h dX6_drag_20 fl_RX6_13 ?_
    refine mi_aload_n h dX6_drag_23 (by rfl) ?_
    refine gf_X6_7 h dX6_drag_24 fl_RX6_26 ?_
    refine mi_iload_n h dX6_drag_27 (by rfl) ?_
    refine mn_iaload (p) h dX6_drag_28 (by rfl) (by omega) (by omega) (by decide) ?_
    refine mn_iaload ((σ 33 p).toNat) h dX6_drag_29 (by rfl) (by omega) (by omega) (by decide) ?_
    refine mi_imul h dX6_drag_30 ?_
    refine mi_ireturn h hr dX6_drag_31 ?_
    unfold drM
    first | exact ⟨rfl, by rw [if_neg (by omega)]⟩ | exact ⟨rfl, by rw [if_pos (by omega)]⟩
  · refine mi_aload_n h dX6_drag_6 (by rfl) ?_
    refine gf_X6_1 h dX6_drag_7 fl_RX6_124 ?_
    refine mi_goto (tgt := 31) h dX6_drag_10 (by decide) ?_
    refine mi_ireturn h hr dX6_drag_31 ?_
    unfold drM
    first | exact ⟨rfl, by rw [if_neg (by omega)]⟩ | exact ⟨rfl, by rw [if_pos (by omega)]⟩
set_option maxHeartbeats 4000000 in
set_option maxRecDepth 100000 in
theorem c_X6_heap {σ : Mem} (hJ : JS σ) : Sp1 yX6_heap cX6_heap 1 (some .int) 1 0 [vr 28] σ (fun r σ' => (r = -4 ∧ σ = σ' ∧ σ 28 25 = 6) ∨ (r = σ 28 25 ∧ up σ 28 25 (σ 28 25 + 1) = σ' ∧ σ 28 25 < 6)) := by
  refine Sp1_in RX6 rfl (by decide +kernel) (Nat.le_of_ble_eq_true rfl) [some (vr 28)] rfl ?_
  intro K h hr
  obtain ⟨j1, j2, j3, j4, j5, j6, j7⟩ := id hJ
  refine mi_aload_n h dX6_heap_0 (by rfl) ?_
  refine gf_X6_25 h dX6_heap_1 fl_RX6_208 ?_
  refine mi_bipush h dX6_heap_4 (by decide) ?_
  refine mi_icmp_ne (tgt := 12) h dX6_heap_6 (by decide) ⟨by omega, by omega⟩ ⟨by omega, by omega⟩ (fun e6 => ?_) (fun e6 => ?_)
  · refine mi_aload_n h dX6_heap_12 (by rfl) ?_
    refine mi_dup h dX6_heap_13 (fun _ => rfl) ?_
    refine gf_X6_25 h dX6_heap_14 fl_RX6_208 ?_
    refine mi_iconst h dX6_heap_17 ?_
    refine mi_iadd h dX6_heap_18 ?_
    refine pf_X6_25 h dX6_heap_19 fl_RX6_208 ?_
    refine mi_aload_n h dX6_heap_22 (by rfl) ?_
    refine gf_X6_25 h dX6_heap_23 fl_RX6_208 ?_
    try simp only [up_app, upC_app, Nat.reduceEqDiff, reduceIte, Nat.add_eq_zero_iff, Nat.succ_ne_self, Nat.add_right_cancel_iff]
    refine mi_iconst h dX6_heap_26 ?_
    refine mi_isub h dX6_heap_27 ?_
    refine mi_ireturn h hr dX6_heap_28 ?_
    first | exact Or.inl ⟨rfl, rfl, by omega⟩ | exact Or.inr ⟨by omega, rfl, by omega⟩
  · refine mi_bipush h dX6_heap_9 (by decide) ?_
    refine mi_ireturn h hr dX6_heap_11 ?_
    first | exact Or.inl ⟨rfl, rfl, by omega⟩ | exact Or.inr ⟨by omega, rfl, by omega⟩
set_option maxHeartbeats 4000000 in
set_option maxRecDepth 100000 in
theorem c_X6_put {σ : Mem} {g p v : Int} (hJ : JS σ) (hB : JB σ) (hg : R32 g) (hp : R32 p) (hv : v = 0 ∨ v = 1) : Sp1 yX6_put cX6_put 6 (some .int) 1 3 [vr 28, vi g, vi p, vi v] σ (fun r σ' => (r = -1 ∧ σ = σ' ∧ ¬ ((0 ≤ g ∧ g < σ 28 25) ∧ (0 ≤ p ∧ p < σ 28 11 ∧ σ 37 p.toNat = 1))) ∨ (r = sm (fun q => up σ 49 (24 * g.toNat + p.toNat) v 49 (24 * g.toNat + q)) (σ 28 11).toNat ∧ up σ 49 (24 * g.toNat + p.toNat) v = σ' ∧ (0 ≤ g ∧ g < σ 28 25) ∧ (0 ≤ p ∧ p < σ 28 11 ∧ σ 37 p.toNat = 1))) := by
  refine Sp1_in RX6 rfl (by decide +kernel) (Nat.le_of_ble_eq_true rfl) [some (vr 28), some (vi g), some (vi p), some (vi v), none, none] rfl ?_
  intro K h hr
  obtain ⟨j1, j2, j3, j4, j5, j6, j7⟩ := id hJ
  have hz : ∀ k : Nat, k < 144 → up σ 49 (24 * g.toNat + p.toNat) v 49 k = 0 ∨ up σ 49 (24 * g.toNat + p.toNat) v 49 k = 1 := fun k hk => by
    rw [up_at]
    have := hB.2 k hk
    split <;> omega
  have loop : (0 ≤ g ∧ g < σ 28 25) → (0 ≤ p ∧ p < σ 28 11 ∧ σ 37 p.toNat = 1) → ∀ (j k : Nat), (k : Int) + j = σ 28 11 → M K 36 [some (vr 28), some (vi g), some (vi p), some (vi v), some (vi (sm (fun q => up σ 49 (24 * g.toNat + p.toNat) v 49 (24 * g.toNat + q)) k)), some (vi (k : Int))] [] (up σ 49 (24 * g.toNat + p.toNat) v) := by
    intro h1 h2 j
    induction j with
    | zero =>
      intro k hk
      refine mi_iload h dX6_put_36 (by rfl) ?_
      refine mi_aload_n h dX6_put_38 (by rfl) ?_
      refine gf_X6_11 h dX6_put_39 fl_RX6_109 ?_
      refine mt_e (y := σ 28 11) rfl ?_
      refine mi_icmp_ge (tgt := 76) h dX6_put_42 (by decide) ⟨by omega, by omega⟩ ⟨by omega, by omega⟩ (fun e42 => ?_) (fun e42 => ?_)
      · refine mi_iload h dX6_put_76 (by rfl) ?_
        refine mi_ireturn h hr dX6_put_78 ?_
        exact Or.inr ⟨by rw [show (σ 28 11).toNat = k by omega], rfl, h1, h2⟩
      · exfalso; omega
    | succ j ih =>
      intro k hk
      have hk9 := hz (24 * g.toNat + k) (by omega)
      have h9 := ih (k + 1) (by omega)
      rw [sm] at h9
      refine mi_iload h dX6_put_36 (by rfl) ?_
      refine mi_aload_n h dX6_put_38 (by rfl) ?_
      refine gf_X6_11 h dX6_put_39 fl_RX6_109 ?_
      refine mt_e (y := σ 28 11) rfl ?_
      refine mi_icmp_ge (tgt := 76) h dX6_put_42 (by decide) ⟨by omega, by omega⟩ ⟨by omega, by omega⟩ (fun e42 => ?_) (fun e42 => ?_)
      · exfalso; omega
      · refine mi_iload h dX6_put_45 (by rfl) ?_
        refine mi_aload_n h dX6_put_47 (by rfl) ?_
        refine gf_X6_24 h dX6_put_48 fl_RX6_76 ?_
        refine mi_bipush h dX6_put_51 (by decide) ?_
        refine mi_iload_n h dX6_put_53 (by rfl) ?_
        refine mi_imul h dX6_put_54 ?_
        refine mi_iload h dX6_put_55 (by rfl) ?_
        refine mi_iadd h dX6_put_57 ?_
        refine mn_baload (24 * g.toNat + k) h dX6_put_58 (by rfl) (by omega) (by omega) (by decide) ?_
        refine mi_if_eq (tgt := 66) h dX6_put_59 (by decide) ⟨by omega, by omega⟩ (fun e59 => ?_) (fun e59 => ?_)
        · refine mi_iconst h dX6_put_66 ?_
          refine mi_iadd h dX6_put_67 ?_
          refine mi_istore h dX6_put_68 (by decide) ?_
          refine mi_iinc h dX6_put_70 (by rfl) ?_ (by decide)
          refine mi_goto (tgt := 36) h dX6_put_73 (by decide) ?_
          first | (rw [show up σ 49 (24 * g.toNat + p.toNat) v 49 (24 * g.toNat + k) = 0 by omega] at h9; exact h9) | (rw [show up σ 49 (24 * g.toNat + p.toNat) v 49 (24 * g.toNat + k) = 1 by omega] at h9; exact h9)
        · refine mi_iconst h dX6_put_62 ?_
          refine mi_goto (tgt := 67) h dX6_put_63 (by decide) ?_
          refine mi_iadd h dX6_put_67 ?_
          refine mi_istore h dX6_put_68 (by decide) ?_
          refine mi_iinc h dX6_put_70 (by rfl) ?_ (by decide)
          refine mi_goto (tgt := 36) h dX6_put_73 (by decide) ?_
          first | (rw [show up σ 49 (24 * g.toNat + p.toNat) v 49 (24 * g.toNat + k) = 0 by omega] at h9; exact h9) | (rw [show up σ 49 (24 * g.toNat + p.toNat) v 49 (24 * g.toNat + k) = 1 by omega] at h9; exact h9)
  refine mi_aload_n h dX6_put_0 (by rfl) ?_
  refine mi_iload_n h dX6_put_1 (by rfl) ?_
  refine mi_cV1i (hw := Nat.le_of_ble_eq_true rfl) h dX6_put_2 ml_RX6_211 ym_yX6_isHeap (by rfl) (by rfl) (c_X6_isHeap hJ ⟨by omega, by omega⟩) (fun r2 σ2 hp2 => ?_)
  obtain ⟨rfl, hb2, hc2⟩ := hp2
  refine mi_if_eq (tgt := 16) h dX6_put_5 (by decide) ⟨by omega, by omega⟩ (fun e5 => ?_) (fun e5 => ?_)
  · refine mi_iconst h dX6_put_16 ?_
    refine mi_ireturn h hr dX6_put_17 ?_
    exact Or.inl ⟨rfl, rfl, by omega⟩
  · refine mi_aload_n h dX6_put_8 (by rfl) ?_
    refine mi_iload_n h dX6_put_9 (by rfl) ?_
    refine mi_cV1i (hw := Nat.le_of_ble_eq_true rfl) h dX6_put_10 ml_RX6_140 ym_yX6_isHead (by rfl) (by rfl) (c_X6_isHead hJ hB ⟨by omega, by omega⟩) (fun r10 σ10 hp10 => ?_)
    obtain ⟨rfl, hb10, hc10⟩ := hp10
    refine mi_if_ne (tgt := 18) h dX6_put_13 (by decide) ⟨by omega, by omega⟩ (fun e13 => ?_) (fun e13 => ?_)
    · refine mi_aload_n h dX6_put_18 (by rfl) ?_
      refine gf_X6_24 h dX6_put_19 fl_RX6_76 ?_
      refine mi_bipush h dX6_put_22 (by decide) ?_
      refine mi_iload_n h dX6_put_24 (by rfl) ?_
      refine mi_imul h dX6_put_25 ?_
      refine mi_iload_n h dX6_put_26 (by rfl) ?_
      refine mi_iadd h dX6_put_27 ?_
      refine mi_iload_n h dX6_put_28 (by rfl) ?_
      refine mn_bastore (24 * g.toNat + p.toNat) h dX6_put_29 (by rfl) (by omega) (by omega) (by decide) (by omega) ?_
      refine mi_iconst h dX6_put_30 ?_
      refine mi_istore h dX6_put_31 (by decide) ?_
      refine mi_iconst h dX6_put_33 ?_
      refine mi_istore h dX6_put_34 (by decide) ?_
      exact loop (by omega) (by omega) (σ 28 11).toNat 0 (by omega)
    · refine mi_iconst h dX6_put_16 ?_
      refine mi_ireturn h hr dX6_put_17 ?_
      exact Or.inl ⟨rfl, rfl, by omega⟩
set_option maxHeartbeats 4000000 in
set_option maxRecDepth 100000 in
theorem c_X6_freeMany {σ : Mem} (hJ : JS σ) (hB : ∀ p : Nat, p < 24 → σ 36 p = 0 ∨ σ 36 p = 1) : Sp1 yX6_freeMany cX6_freeMany 3 (some .int) 1 0 [vr 28] σ (fun r σ' => σ = σ' ∧ r = sm (σ 36) (σ 28 11).toNat ∧ 0 ≤ r ∧ r ≤ 24) := by
  refine Sp1_in RX6 rfl (by decide +kernel) (Nat.le_of_ble_eq_true rfl) [some (vr 28), none, none] rfl ?_
  intro K h hr
  obtain ⟨j1, j2, j3, j4, j5, j6, j7⟩ := id hJ
  have loop : ∀ (j k : Nat), (k : Int) + j = σ 28 11 → M K 4 [some (vr 28), some (vi (sm (σ 36) k)), some (vi (k : Int))] [] σ := by
    intro j
    induction j with
    | zero =>
      intro k hk
      have h8 := sm_24 (f := σ 36) (b := 1) (n := k) (by omega) (by omega) (fun q hq => by have := hB q (by omega); omega)
      refine mi_iload_n h dX6_freeMany_4 (by rfl) ?_
      refine mi_aload_n h dX6_freeMany_5 (by rfl) ?_
      refine gf_X6_11 h dX6_freeMany_6 fl_RX6_109 ?_
      refine mi_icmp_ge (tgt := 35) h dX6_freeMany_9 (by decide) ⟨by omega, by omega⟩ ⟨by omega, by omega⟩ (fun e9 => ?_) (fun e9 => ?_)
      · refine mi_iload_n h dX6_freeMany_35 (by rfl) ?_
        refine mi_ireturn h hr dX6_freeMany_36 ?_
        exact ⟨rfl, by rw [show (σ 28 11).toNat = k by omega], by omega, by omega⟩
      · exfalso; omega
    | succ j ih =>
      intro k hk
      have hk9 := hB k (by omega)
      have h9 := ih (k + 1) (by omega)
      rw [sm] at h9
      refine mi_iload_n h dX6_freeMany_4 (by rfl) ?_
      refine mi_aload_n h dX6_freeMany_5 (by rfl) ?_
      refine gf_X6_11 h dX6_freeMany_6 fl_RX6_109 ?_
      refine mi_icmp_ge (tgt := 35) h dX6_freeMany_9 (by decide) ⟨by omega, by omega⟩ ⟨by omega, by omega⟩ (fun e9 => ?_) (fun e9 => ?_)
      · exfalso; omega
      · refine mi_iload_n h dX6_freeMany_12 (by rfl) ?_
        refine mi_aload_n h dX6_freeMany_13 (by rfl) ?_
        refine gf_X6_10 h dX6_freeMany_14 fl_RX6_36 ?_
        refine mi_iload_n h dX6_freeMany_17 (by rfl) ?_
        refine mn_baload (k) h dX6_freeMany_18 (by rfl) (by omega) (by omega) (by decide) ?_
        refine mi_if_eq (tgt := 26) h dX6_freeMany_19 (by decide) ⟨by omega, by omega⟩ (fun e19 => ?_) (fun e19 => ?_)
        · refine mi_iconst h dX6_freeMany_26 ?_
          refine mi_iadd h dX6_freeMany_27 ?_
          refine mi_istore_n h dX6_freeMany_28 (by decide) ?_
          refine mi_iinc h dX6_freeMany_29 (by rfl) ?_ (by decide)
          refine mi_goto (tgt := 4) h dX6_freeMany_32 (by decide) ?_
          first | (rw [show σ 36 k = 0 by omega] at h9; exact h9) | (rw [show σ 36 k = 1 by omega] at h9; exact h9)
        · refine mi_iconst h dX6_freeMany_22 ?_
          refine mi_goto (tgt := 27) h dX6_freeMany_23 (by decide) ?_
          refine mi_iadd h dX6_freeMany_27 ?_
          refine mi_istore_n h dX6_freeMany_28 (by decide) ?_
          refine mi_iinc h dX6_freeMany_29 (by rfl) ?_ (by decide)
          refine mi_goto (tgt := 4) h dX6_freeMany_32 (by decide) ?_
          first | (rw [show σ 36 k = 0 by omega] at h9; exact h9) | (rw [show σ 36 k = 1 by omega] at h9; exact h9)
  refine mi_iconst h dX6_freeMany_0 ?_
  refine mi_istore_n h dX6_freeMany_1 (by decide) ?_
  refine mi_iconst h dX6_freeMany_2 ?_
  refine mi_istore_n h dX6_freeMany_3 (by decide) ?_
  exact loop (σ 28 11).toNat 0 (by omega)
set_option maxHeartbeats 4000000 in
set_option maxRecDepth 100000 in
theorem c_X6_free {σ : Mem} {p v : Int} (hJ : JS σ) (hB : JB σ) (hp : R32 p) (hv : v = 0 ∨ v = 1) : Sp1 yX6_free cX6_free 3 (some .int) 1 2 [vr 28, vi p, vi v] σ (fun r σ' => (r = -1 ∧ σ = σ' ∧ ¬ (0 ≤ p ∧ p < σ 28 11)) ∨ (r = -4 ∧ σ = σ' ∧ (0 ≤ p ∧ p < σ 28 11) ∧ (v = 1 ∧ σ 36 p.toNat = 0 ∧ sm (σ 36) (σ 28 11).toNat = 5)) ∨ (r = sm (up σ 36 p.toNat v 36) (σ 28 11).toNat ∧ up σ 36 p.toNat v = σ' ∧ (0 ≤ p ∧ p < σ 28 11) ∧ ¬ (v = 1 ∧ σ 36 p.toNat = 0 ∧ sm (σ 36) (σ 28 11).toNat = 5))) := by
  refine Sp1_in RX6 rfl (by decide +kernel) (Nat.le_of_ble_eq_true rfl) [some (vr 28), some (vi p), some (vi v)] rfl ?_
  intro K h hr
  obtain ⟨j1, j2, j3, j4, j5, j6, j7⟩ := id hJ
  have hq : 0 ≤ p ∧ p < 24 → σ 36 p.toNat = 0 ∨ σ 36 p.toNat = 1 := fun q => (hB.1 p.toNat (by omega)).2.1
  refine mi_aload_n h dX6_free_0 (by rfl) ?_
  refine mi_iload_n h dX6_free_1 (by rfl) ?_
  refine mi_cV1i (hw := Nat.le_of_ble_eq_true rfl) h dX6_free_2 ml_RX6_116 ym_yX6_isPipe (by rfl) (by rfl) (c_X6_isPipe hJ ⟨by omega, by omega⟩) (fun r2 σ2 hp2 => ?_)
  obtain ⟨rfl, hb2, hc2⟩ := hp2
  refine mi_if_ne (tgt := 10) h dX6_free_5 (by decide) ⟨by omega, by omega⟩ (fun e5 => ?_) (fun e5 => ?_)
  · refine mi_iload_n h dX6_free_10 (by rfl) ?_
    refine mi_if_eq (tgt := 34) h dX6_free_11 (by decide) ⟨by omega, by omega⟩ (fun e11 => ?_) (fun e11 => ?_)
    · refine mi_aload_n h dX6_free_34 (by rfl) ?_
      refine gf_X6_10 h dX6_free_35 fl_RX6_36 ?_
      refine mi_iload_n h dX6_free_38 (by rfl) ?_
      refine mi_iload_n h dX6_free_39 (by rfl) ?_
      refine mn_bastore (p.toNat) h dX6_free_40 (by rfl) (by omega) (by omega) (by decide) (by omega) ?_
      refine mi_aload_n h dX6_free_41 (by rfl) ?_
      refine mi_cV0i (hw := Nat.le_of_ble_eq_true rfl) h dX6_free_42 ml_RX6_219 ym_yX6_freeMany (by rfl) (by rfl) (c_X6_freeMany (σ := up σ 36 p.toNat v) hJ (fun q hq => by rw [up_at]; have := (hB.1 q hq).2.1; split <;> omega)) (fun r42 σ42 hp42 => ?_)
      obtain ⟨rfl, hv42, hw42⟩ := hp42
      refine mi_ireturn h hr dX6_free_45 ?_
      first | exact Or.inl ⟨rfl, rfl, by omega⟩ | exact Or.inr (Or.inl ⟨rfl, rfl, by omega, by omega⟩) | exact Or.inr (Or.inr ⟨hv42, rfl, by omega, by omega⟩)
    · refine mi_aload_n h dX6_free_14 (by rfl) ?_
      refine gf_X6_10 h dX6_free_15 fl_RX6_36 ?_
      refine mi_iload_n h dX6_free_18 (by rfl) ?_
      refine mn_baload (p.toNat) h dX6_free_19 (by rfl) (by omega) (by omega) (by decide) ?_
      refine mi_if_ne (tgt := 34) h dX6_free_20 (by decide) ⟨by omega, by omega⟩ (fun e20 => ?_) (fun e20 => ?_)
      · refine mi_aload_n h dX6_free_34 (by rfl) ?_
        refine gf_X6_10 h dX6_free_35 fl_RX6_36 ?_
        refine mi_iload_n h dX6_free_38 (by rfl) ?_
        refine mi_iload_n h dX6_free_39 (by rfl) ?_
        refine mn_bastore (p.toNat) h dX6_free_40 (by rfl) (by omega) (by omega) (by decide) (by omega) ?_
        refine mi_aload_n h dX6_free_41 (by rfl) ?_
        refine mi_cV0i (hw := Nat.le_of_ble_eq_true rfl) h dX6_free_42 ml_RX6_219 ym_yX6_freeMany (by rfl) (by rfl) (c_X6_freeMany (σ := up σ 36 p.toNat v) hJ (fun q hq => by rw [up_at]; have := (hB.1 q hq).2.1; split <;> omega)) (fun r42 σ42 hp42 => ?_)
        obtain ⟨rfl, hv42, hw42⟩ := hp42
        refine mi_ireturn h hr dX6_free_45 ?_
        first | exact Or.inl ⟨rfl, rfl, by omega⟩ | exact Or.inr (Or.inl ⟨rfl, rfl, by omega, by omega⟩) | exact Or.inr (Or.inr ⟨hv42, rfl, by omega, by omega⟩)
      · refine mi_aload_n h dX6_free_23 (by rfl) ?_
        refine mi_cV0i (hw := Nat.le_of_ble_eq_true rfl) h dX6_free_24 ml_RX6_219 ym_yX6_freeMany (by rfl) (by rfl) (c_X6_freeMany hJ (fun q hq => (hB.1 q hq).2.1)) (fun r24 σ24 hp24 => ?_)
        obtain ⟨rfl, hv24, hw24⟩ := hp24
        refine mi_iconst h dX6_free_27 ?_
        refine mi_icmp_ne (tgt := 34) h dX6_free_28 (by decide) ⟨by omega, by omega⟩ ⟨by omega, by omega⟩ (fun e28 => ?_) (fun e28 => ?_)
        · refine mi_aload_n h dX6_free_34 (by rfl) ?_
          refine gf_X6_10 h dX6_free_35 fl_RX6_36 ?_
          refine mi_iload_n h dX6_free_38 (by rfl) ?_
          refine mi_iload_n h dX6_free_39 (by rfl) ?_
          refine mn_bastore (p.toNat) h dX6_free_40 (by rfl) (by omega) (by omega) (by decide) (by omega) ?_
          refine mi_aload_n h dX6_free_41 (by rfl) ?_
          refine mi_cV0i (hw := Nat.le_of_ble_eq_true rfl) h dX6_free_42 ml_RX6_219 ym_yX6_freeMany (by rfl) (by rfl) (c_X6_freeMany (σ := up σ 36 p.toNat v) hJ (fun q hq => by rw [up_at]; have := (hB.1 q hq).2.1; split <;> omega)) (fun r42 σ42 hp42 => ?_)
          obtain ⟨rfl, hv42, hw42⟩ := hp42
          refine mi_ireturn h hr dX6_free_45 ?_
          first | exact Or.inl ⟨rfl, rfl, by omega⟩ | exact Or.inr (Or.inl ⟨rfl, rfl, by omega, by omega⟩) | exact Or.inr (Or.inr ⟨hv42, rfl, by omega, by omega⟩)
        · refine mi_bipush h dX6_free_31 (by decide) ?_
          refine mi_ireturn h hr dX6_free_33 ?_
          first | exact Or.inl ⟨rfl, rfl, by omega⟩ | exact Or.inr (Or.inl ⟨rfl, rfl, by omega, by omega⟩) | exact Or.inr (Or.inr ⟨hv42, rfl, by omega, by omega⟩)
  · refine mi_iconst h dX6_free_8 ?_
    refine mi_ireturn h hr dX6_free_9 ?_
    first | exact Or.inl ⟨rfl, rfl, by omega⟩ | exact Or.inr (Or.inl ⟨rfl, rfl, by omega, by omega⟩) | exact Or.inr (Or.inr ⟨hv42, rfl, by omega, by omega⟩)
def prcM (σ : Mem) (p : Nat) : Int := σ 32 p * σ 30 (σ 33 p).toNat
set_option maxHeartbeats 4000000 in
set_option maxRecDepth 100000 in
theorem c_X6_price {σ : Mem} (hJ : JS σ) (hZ : JZ σ) (hP : JP σ) : Sp1 yX6_price cX6_price 4 (some .long) 2 0 [vr 28] σ (fun r σ' => σ = σ' ∧ r = sm (prcM σ) (σ 28 11).toNat) := by
  refine Sp1_in RX6 rfl (by decide +kernel) (Nat.le_of_ble_eq_true rfl) [some (vr 28), none, none, none] rfl ?_
  intro K h hr
  obtain ⟨j1, j2, j3, j4, j5, j6, j7⟩ := id hJ
  have loop : ∀ (j k : Nat), (k : Int) + j = σ 28 11 → M K 4 [some (vr 28), some (vl (sm (prcM σ) k)), none, some (vi (k : Int))] [] σ := by
    intro j
    induction j with
    | zero =>
      intro k hk
      refine mi_iload_n h dX6_price_4 (by rfl) ?_
      refine mi_aload_n h dX6_price_5 (by rfl) ?_
      refine gf_X6_11 h dX6_price_6 fl_RX6_109 ?_
      refine mi_icmp_ge (tgt := 41) h dX6_price_9 (by decide) ⟨by omega, by omega⟩ ⟨by omega, by omega⟩ (fun e9 => ?_) (fun e9 => ?_)
      · refine mi_lload_n h dX6_price_41 (by rfl) ?_
        refine mi_lreturn h hr dX6_price_42 ?_
        exact ⟨rfl, by rw [show (σ 28 11).toNat = k by omega]⟩
      · exfalso; omega
    | succ j ih =>
      intro k hk
      obtain ⟨k1, k2, k3, -⟩ := hP k (by omega)
      have k4 := (hZ (σ 33 k).toNat (by omega)).2
      refine mi_iload_n h dX6_price_4 (by rfl) ?_
      refine mi_aload_n h dX6_price_5 (by rfl) ?_
      refine gf_X6_11 h dX6_price_6 fl_RX6_109 ?_
      refine mi_icmp_ge (tgt := 41) h dX6_price_9 (by decide) ⟨by omega, by omega⟩ ⟨by omega, by omega⟩ (fun e9 => ?_) (fun e9 => ?_)
      · exfalso; omega
      · refine mi_lload_n h dX6_price_12 (by rfl) ?_
        refine mi_aload_n h dX6_price_13 (by rfl) ?_
        refine gf_X6_6 h dX6_price_14 fl_RX6_23 ?_
        refine mi_iload_n h dX6_price_17 (by rfl) ?_
        refine mn_iaload (k) h dX6_price_18 (by rfl) (by omega) (by omega) (by decide) ?_
        refine mi_i2l h dX6_price_19 ⟨by omega, by omega⟩ ?_
        refine mi_aload_n h dX6_price_20 (by rfl) ?_
        refine gf_X6_3 h dX6_price_21 fl_RX6_17 ?_
        refine mi_aload_n h dX6_price_24 (by rfl) ?_
        refine gf_X6_7 h dX6_price_25 fl_RX6_26 ?_
        refine mi_iload_n h dX6_price_28 (by rfl) ?_
        refine mn_iaload (k) h dX6_price_29 (by rfl) (by omega) (by omega) (by decide) ?_
        refine mn_iaload ((σ 33 k).toNat) h dX6_price_30 (by rfl) (by omega) (by omega) (by decide) ?_
        refine mi_i2l h dX6_price_31 ⟨by omega, by omega⟩ ?_
        refine mi_lmul h dX6_price_32 ?_
        refine mi_ladd h dX6_price_33 ?_
        refine mi_lstore_n h dX6_price_34 (by decide) ?_
        refine mi_iinc h dX6_price_35 (by rfl) ?_ (by decide)
        refine mi_goto (tgt := 4) h dX6_price_38 (by decide) ?_
        exact ih (k + 1) (by omega)
  refine mi_lconst0 h dX6_price_0 ?_
  refine mi_lstore_n h dX6_price_1 (by decide) ?_
  refine mi_iconst h dX6_price_2 ?_
  refine mi_istore_n h dX6_price_3 (by decide) ?_
  exact loop (σ 28 11).toNat 0 (by omega)
set_option maxHeartbeats 4000000 in
set_option maxRecDepth 100000 in
theorem c_X6_bill {σ : Mem} (hJ : JS σ) (hZ : JZ σ) (hP : JP σ) : Sp1 yX6_bill cX6_bill 1 (some .long) 2 1 [vr 28] σ (fun r σ' => σ = σ' ∧ r = sm (prcM σ) (σ 28 11).toNat) := by
  refine Sp1_in RX6 rfl (by decide +kernel) (Nat.le_of_ble_eq_true rfl) [some (vr 28)] rfl ?_
  intro K h hr
  refine mi_aload_n h dX6_bill_0 (by rfl) ?_
  refine mi_cV0l (hw := Nat.le_of_ble_eq_true rfl) h dX6_bill_1 ml_RX6_223 ym_yX6_price (by rfl) (by rfl) (c_X6_price hJ hZ hP) (fun r1 σ1 hp1 => ?_)
  obtain ⟨rfl, rfl⟩ := hp1
  refine mi_lreturn h hr dX6_bill_4 ?_
  exact ⟨rfl, rfl⟩
def cfM (σ : Mem) (p : Nat) (q : Nat) : Int := if σ 31 q = p then 1 else 0
set_option maxHeartbeats 4000000 in
set_option maxRecDepth 100000 in
theorem c_X6_about {σ : Mem} {p w : Int} (hJ : JS σ) (hP : JP σ) (hB : JB σ) (hp : R32 p) (hw : R32 w) : Sp1 yX6_about cX6_about 6 (some .int) 1 2 [vr 28, vi p, vi w] σ (fun r σ' => σ = σ' ∧ (¬ (0 ≤ p ∧ p < σ 28 11) → r = -1) ∧ (0 ≤ p ∧ p < σ 28 11 → (w < 0 ∨ 10 < w → r = -2) ∧ (w = 0 → r = σ 31 p.toNat) ∧ (w = 1 → r = σ 32 p.toNat) ∧ (w = 2 → r = σ 33 p.toNat) ∧ (w = 3 → r = σ 35 p.toNat) ∧ (w = 4 → r = σ 37 p.toNat) ∧ (w = 5 → r = fnM σ p.toNat) ∧ (w = 6 → r = if σ 37 p.toNat = 1 then σ 39 p.toNat else 0) ∧ (w = 7 → r = if σ 37 p.toNat = 1 then σ 40 p.toNat else 0) ∧ (w = 8 → r = if σ 37 p.toNat = 1 then σ 41 p.toNat else 0) ∧ (w = 9 → r = σ 36 p.toNat) ∧ (w = 10 → r = sm (cfM σ p.toNat) (σ 28 11).toNat))) := by
  refine Sp1_in RX6 rfl (by decide +kernel) (Nat.le_of_ble_eq_true rfl) [some (vr 28), some (vi p), some (vi w), none, none, none] rfl ?_
  intro K h hr
  obtain ⟨j1, j2, j3, j4, j5, j6, j7⟩ := id hJ
  have hq : 0 ≤ p ∧ p < 24 → (σ 35 p.toNat = 0 ∨ σ 35 p.toNat = 1) ∧ (σ 36 p.toNat = 0 ∨ σ 36 p.toNat = 1) ∧ (σ 37 p.toNat = 0 ∨ σ 37 p.toNat = 1) ∧ (σ 40 p.toNat = 0 ∨ σ 40 p.toNat = 1) := fun q => ⟨(hB.1 p.toNat (by omega)).1, (hB.1 p.toNat (by omega)).2.1, (hB.1 p.toNat (by omega)).2.2.1, (hB.1 p.toNat (by omega)).2.2.2.1⟩
  have loop : (0 ≤ p ∧ p < σ 28 11) → w = 10 → ∀ (x3 : Int) (j k : Nat), (k : Int) + j = σ 28 11 → M K 186 [some (vr 28), some (vi p), some (vi w), some (vi x3), some (vi (sm (cfM σ p.toNat) k)), some (vi (k : Int))] [] σ := by
    intro h1 h2 x3 j
    induction j with
    | zero =>
      intro k hk
      refine mi_iload h dX6_about_186 (by rfl) ?_
      refine mi_aload_n h dX6_about_188 (by rfl) ?_
      refine gf_X6_11 h dX6_about_189 fl_RX6_109 ?_
      refine mi_icmp_ge (tgt := 222) h dX6_about_192 (by decide) ⟨by omega, by omega⟩ ⟨by omega, by omega⟩ (fun e192 => ?_) (fun e192 => ?_)
      · refine mi_iload h dX6_about_222 (by rfl) ?_
        refine mi_ireturn h hr dX6_about_224 ?_
        refine ⟨rfl, fun q => ?_, fun q => ⟨fun z => ?_, fun z => ?_, fun z => ?_, fun z => ?_, fun z => ?_, fun z => ?_, fun z => ?_, fun z => ?_, fun z => ?_, fun z => ?_, fun z => ?_, fun z => ?_⟩⟩ <;> first | (exfalso; omega) | (rw [show (σ 28 11).toNat = k by omega])
      · exfalso; omega
    | succ j ih =>
      intro k hk
      have k1 := (hP k (by omega)).1
      have h9 := ih (k + 1) (by omega)
      rw [sm] at h9
      have q1 : σ 31 k = p → cfM σ p.toNat k = 1 := fun q => by unfold cfM; rw [if_pos (by omega)]
      have q2 : ¬ σ 31 k = p → cfM σ p.toNat k = 0 := fun q => by unfold cfM; rw [if_neg (by omega)]
      refine mi_iload h dX6_about_186 (by rfl) ?_
      refine mi_aload_n h dX6_about_188 (by rfl) ?_
      refine gf_X6_11 h dX6_about_189 fl_RX6_109 ?_
      refine mi_icmp_ge (tgt := 222) h dX6_about_192 (by decide) ⟨by omega, by omega⟩ ⟨by omega, by omega⟩ (fun e192 => ?_) (fun e192 => ?_)
      · exfalso; omega
      · refine mi_iload h dX6_about_195 (by rfl) ?_
        refine mi_aload_n h dX6_about_197 (by rfl) ?_
        refine gf_X6_5 h dX6_about_198 fl_RX6_20 ?_
        refine mi_iload h dX6_about_201 (by rfl) ?_
        refine mn_iaload (k) h dX6_about_203 (by rfl) (by omega) (by omega) (by decide) ?_
        refine mi_iload_n h dX6_about_204 (by rfl) ?_
        refine mi_icmp_ne (tgt := 212) h dX6_about_205 (by decide) ⟨by omega, by omega⟩ ⟨by omega, by omega⟩ (fun e205 => ?_) (fun e205 => ?_)
        · refine mi_iconst h dX6_about_212 ?_
          refine mi_iadd h dX6_about_213 ?_
          refine mi_istore h dX6_about_214 (by decide) ?_
          refine mi_iinc h dX6_about_216 (by rfl) ?_ (by decide)
          refine mi_goto (tgt := 186) h dX6_about_219 (by decide) ?_
          first | (rw [q1 (by omega)] at h9; exact h9) | (rw [q2 (by omega)] at h9; exact h9)
        · refine mi_iconst h dX6_about_208 ?_
          refine mi_goto (tgt := 213) h dX6_about_209 (by decide) ?_
          refine mi_iadd h dX6_about_213 ?_
          refine mi_istore h dX6_about_214 (by decide) ?_
          refine mi_iinc h dX6_about_216 (by rfl) ?_ (by decide)
          refine mi_goto (tgt := 186) h dX6_about_219 (by decide) ?_
          first | (rw [q1 (by omega)] at h9; exact h9) | (rw [q2 (by omega)] at h9; exact h9)
  refine mi_aload_n h dX6_about_0 (by rfl) ?_
  refine mi_iload_n h dX6_about_1 (by rfl) ?_
  refine mi_cV1i (hw := Nat.le_of_ble_eq_true rfl) h dX6_about_2 ml_RX6_116 ym_yX6_isPipe (by rfl) (by rfl) (c_X6_isPipe hJ ⟨by omega, by omega⟩) (fun r2 σ2 hp2 => ?_)
  obtain ⟨rfl, hb2, hc2⟩ := hp2
  refine mi_if_ne (tgt := 10) h dX6_about_5 (by decide) ⟨by omega, by omega⟩ (fun e5 => ?_) (fun e5 => ?_)
  · refine mi_aload_n h dX6_about_10 (by rfl) ?_
    refine gf_X6_12 h dX6_about_11 fl_RX6_39 ?_
    refine mi_iload_n h dX6_about_14 (by rfl) ?_
    refine mn_baload (p.toNat) h dX6_about_15 (by rfl) (by omega) (by omega) (by decide) ?_
    refine mi_istore_n h dX6_about_16 (by decide) ?_
    refine mi_iload_n h dX6_about_17 (by rfl) ?_
    rcases (show (w < 0 ∨ 10 < w) ∨ w = 0 ∨ w = 1 ∨ w = 2 ∨ w = 3 ∨ w = 4 ∨ w = 5 ∨ w = 6 ∨ w = 7 ∨ w = 8 ∨ w = 9 ∨ w = 10 by omega) with e18 | e18 | e18 | e18 | e18 | e18 | e18 | e18 | e18 | e18 | e18 | e18
    · refine mi_tabOut (tgt := 225) h dX6_about_18 ⟨by omega, by omega⟩ e18 (by decide) ?_
      refine mi_bipush h dX6_about_225 (by decide) ?_
      refine mi_ireturn h hr dX6_about_227 ?_
      refine ⟨rfl, fun q => ?_, fun q => ⟨fun z => ?_, fun z => ?_, fun z => ?_, fun z => ?_, fun z => ?_, fun z => ?_, fun z => ?_, fun z => ?_, fun z => ?_, fun z => ?_, fun z => ?_, fun z => ?_⟩⟩ <;> first | rfl | (exfalso; omega) | (rw [if_pos (by omega)]; done) | (rw [if_neg (by omega)]; done) | (rw [if_pos (by omega)]; omega) | (rw [if_neg (by omega)]; omega) | (split <;> omega)
    · subst e18
      refine mi_tabIn (tgt := 76) h dX6_about_18 (by decide) (by decide) (by decide) (off := 58) (by decide) (by decide) ?_
      refine mi_aload_n h dX6_about_76 (by rfl) ?_
      refine gf_X6_5 h dX6_about_77 fl_RX6_20 ?_
      refine mi_iload_n h dX6_about_80 (by rfl) ?_
      refine mn_iaload (p.toNat) h dX6_about_81 (by rfl) (by omega) (by omega) (by decide) ?_
      refine mi_ireturn h hr dX6_about_82 ?_
      refine ⟨rfl, fun q => ?_, fun q => ⟨fun z => ?_, fun z => ?_, fun z => ?_, fun z => ?_, fun z => ?_, fun z => ?_, fun z => ?_, fun z => ?_, fun z => ?_, fun z => ?_, fun z => ?_, fun z => ?_⟩⟩ <;> first | rfl | (exfalso; omega) | (rw [if_pos (by omega)]; done) | (rw [if_neg (by omega)]; done) | (rw [if_pos (by omega)]; omega) | (rw [if_neg (by omega)]; omega) | (split <;> omega)
    · subst e18
      refine mi_tabIn (tgt := 83) h dX6_about_18 (by decide) (by decide) (by decide) (off := 65) (by decide) (by decide) ?_
      refine mi_aload_n h dX6_about_83 (by rfl) ?_
      refine gf_X6_6 h dX6_about_84 fl_RX6_23 ?_
      refine mi_iload_n h dX6_about_87 (by rfl) ?_
      refine mn_iaload (p.toNat) h dX6_about_88 (by rfl) (by omega) (by omega) (by decide) ?_
      refine mi_ireturn h hr dX6_about_89 ?_
      refine ⟨rfl, fun q => ?_, fun q => ⟨fun z => ?_, fun z => ?_, fun z => ?_, fun z => ?_, fun z => ?_, fun z => ?_, fun z => ?_, fun z => ?_, fun z => ?_, fun z => ?_, fun z => ?_, fun z => ?_⟩⟩ <;> first | rfl | (exfalso; omega) | (rw [if_pos (by omega)]; done) | (rw [if_neg (by omega)]; done) | (rw [if_pos (by omega)]; omega) | (rw [if_neg (by omega)]; omega) | (split <;> omega)
    · subst e18
      refine mi_tabIn (tgt := 90) h dX6_about_18 (by decide) (by decide) (by decide) (off := 72) (by decide) (by decide) ?_
      refine mi_aload_n h dX6_about_90 (by rfl) ?_
      refine gf_X6_7 h dX6_about_91 fl_RX6_26 ?_
      refine mi_iload_n h dX6_about_94 (by rfl) ?_
      refine mn_iaload (p.toNat) h dX6_about_95 (by rfl) (by omega) (by omega) (by decide) ?_
      refine mi_ireturn h hr dX6_about_96 ?_
      refine ⟨rfl, fun q => ?_, fun q => ⟨fun z => ?_, fun z => ?_, fun z => ?_, fun z => ?_, fun z => ?_, fun z => ?_, fun z => ?_, fun z => ?_, fun z => ?_, fun z => ?_, fun z => ?_, fun z => ?_⟩⟩ <;> first | rfl | (exfalso; omega) | (rw [if_pos (by omega)]; done) | (rw [if_neg (by omega)]; done) | (rw [if_pos (by omega)]; omega) | (rw [if_neg (by omega)]; omega) | (split <;> omega)
    · subst e18
      refine mi_tabIn (tgt := 97) h dX6_about_18 (by decide) (by decide) (by decide) (off := 79) (by decide) (by decide) ?_
      refine mi_aload_n h dX6_about_97 (by rfl) ?_
      refine gf_X6_9 h dX6_about_98 fl_RX6_32 ?_
      refine mi_iload_n h dX6_about_101 (by rfl) ?_
      refine mn_baload (p.toNat) h dX6_about_102 (by rfl) (by omega) (by omega) (by decide) ?_
      refine mi_cS1i (hw := Nat.le_of_ble_eq_true rfl) h dX6_about_103 ml_RX6_200 ym_yX6_asInt (c_X6_asInt (by omega)) (fun r103 σ103 hp103 => ?_)
      obtain ⟨rfl, rfl⟩ := hp103
      refine mi_ireturn h hr dX6_about_106 ?_
      refine ⟨rfl, fun q => ?_, fun q => ⟨fun z => ?_, fun z => ?_, fun z => ?_, fun z => ?_, fun z => ?_, fun z => ?_, fun z => ?_, fun z => ?_, fun z => ?_, fun z => ?_, fun z => ?_, fun z => ?_⟩⟩ <;> first | rfl | (exfalso; omega) | (rw [if_pos (by omega)]; done) | (rw [if_neg (by omega)]; done) | (rw [if_pos (by omega)]; omega) | (rw [if_neg (by omega)]; omega) | (split <;> omega)
    · subst e18
      refine mi_tabIn (tgt := 107) h dX6_about_18 (by decide) (by decide) (by decide) (off := 89) (by decide) (by decide) ?_
      refine mi_iload_n h dX6_about_107 (by rfl) ?_
      refine mi_cS1i (hw := Nat.le_of_ble_eq_true rfl) h dX6_about_108 ml_RX6_200 ym_yX6_asInt (c_X6_asInt (by omega)) (fun r108 σ108 hp108 => ?_)
      obtain ⟨rfl, rfl⟩ := hp108
      refine mi_ireturn h hr dX6_about_111 ?_
      refine ⟨rfl, fun q => ?_, fun q => ⟨fun z => ?_, fun z => ?_, fun z => ?_, fun z => ?_, fun z => ?_, fun z => ?_, fun z => ?_, fun z => ?_, fun z => ?_, fun z => ?_, fun z => ?_, fun z => ?_⟩⟩ <;> first | rfl | (exfalso; omega) | (rw [if_pos (by omega)]; done) | (rw [if_neg (by omega)]; done) | (rw [if_pos (by omega)]; omega) | (rw [if_neg (by omega)]; omega) | (split <;> omega)
    · subst e18
      refine mi_tabIn (tgt := 112) h dX6_about_18 (by decide) (by decide) (by decide) (off := 94) (by decide) (by decide) ?_
      refine mi_aload_n h dX6_about_112 (by rfl) ?_
      refine mi_iload_n h dX6_about_113 (by rfl) ?_
      refine mt_e (y := ((p.toNat : Nat) : Int)) (by omega) ?_
      refine mi_cV1i (hw := Nat.le_of_ble_eq_true rfl) h dX6_about_114 ml_RX6_172 ym_yX6_factorNow (by rfl) (by rfl) (c_X6_factorNow hP hB (by omega)) (fun r114 σ114 hp114 => ?_)
      obtain ⟨rfl, rfl⟩ := hp114
      refine mi_ireturn h hr dX6_about_117 ?_
      refine ⟨rfl, fun q => ?_, fun q => ⟨fun z => ?_, fun z => ?_, fun z => ?_, fun z => ?_, fun z => ?_, fun z => ?_, fun z => ?_, fun z => ?_, fun z => ?_, fun z => ?_, fun z => ?_, fun z => ?_⟩⟩ <;> first | rfl | (exfalso; omega) | (rw [if_pos (by omega)]; done) | (rw [if_neg (by omega)]; done) | (rw [if_pos (by omega)]; omega) | (rw [if_neg (by omega)]; omega) | (split <;> omega)
    · subst e18
      refine mi_tabIn (tgt := 118) h dX6_about_18 (by decide) (by decide) (by decide) (off := 100) (by decide) (by decide) ?_
      refine mi_iload_n h dX6_about_118 (by rfl) ?_
      refine mi_if_eq (tgt := 131) h dX6_about_119 (by decide) ⟨by omega, by omega⟩ (fun e119 => ?_) (fun e119 => ?_)
      · refine mi_iconst h dX6_about_131 ?_
        refine mi_ireturn h hr dX6_about_132 ?_
        refine ⟨rfl, fun q => ?_, fun q => ⟨fun z => ?_, fun z => ?_, fun z => ?_, fun z => ?_, fun z => ?_, fun z => ?_, fun z => ?_, fun z => ?_, fun z => ?_, fun z => ?_, fun z => ?_, fun z => ?_⟩⟩ <;> first | rfl | (exfalso; omega) | (rw [if_pos (by omega)]; done) | (rw [if_neg (by omega)]; done) | (rw [if_pos (by omega)]; omega) | (rw [if_neg (by omega)]; omega) | (split <;> omega)
      · refine mi_aload_n h dX6_about_122 (by rfl) ?_
        refine gf_X6_14 h dX6_about_123 fl_RX6_45 ?_
        refine mi_iload_n h dX6_about_126 (by rfl) ?_
        refine mn_iaload (p.toNat) h dX6_about_127 (by rfl) (by omega) (by omega) (by decide) ?_
        refine mi_goto (tgt := 132) h dX6_about_128 (by decide) ?_
        refine mi_ireturn h hr dX6_about_132 ?_
        refine ⟨rfl, fun q => ?_, fun q => ⟨fun z => ?_, fun z => ?_, fun z => ?_, fun z => ?_, fun z => ?_, fun z => ?_, fun z => ?_, fun z => ?_, fun z => ?_, fun z => ?_, fun z => ?_, fun z => ?_⟩⟩ <;> first | rfl | (exfalso; omega) | (rw [if_pos (by omega)]; done) | (rw [if_neg (by omega)]; done) | (rw [if_pos (by omega)]; omega) | (rw [if_neg (by omega)]; omega) | (split <;> omega)
    · subst e18
      refine mi_tabIn (tgt := 133) h dX6_about_18 (by decide) (by decide) (by decide) (off := 115) (by decide) (by decide) ?_
      refine mi_iload_n h dX6_about_133 (by rfl) ?_
      refine mi_if_eq (tgt := 150) h dX6_about_134 (by decide) ⟨by omega, by omega⟩ (fun e134 => ?_) (fun e134 => ?_)
      · refine mi_iconst h dX6_about_150 ?_
        refine mi_cS1i (hw := Nat.le_of_ble_eq_true rfl) h dX6_about_151 ml_RX6_200 ym_yX6_asInt (c_X6_asInt (by omega)) (fun r151 σ151 hp151 => ?_)
        obtain ⟨rfl, rfl⟩ := hp151
        refine mi_ireturn h hr dX6_about_154 ?_
        refine ⟨rfl, fun q => ?_, fun q => ⟨fun z => ?_, fun z => ?_, fun z => ?_, fun z => ?_, fun z => ?_, fun z => ?_, fun z => ?_, fun z => ?_, fun z => ?_, fun z => ?_, fun z => ?_, fun z => ?_⟩⟩ <;> first | rfl | (exfalso; omega) | (rw [if_pos (by omega)]; done) | (rw [if_neg (by omega)]; done) | (rw [if_pos (by omega)]; omega) | (rw [if_neg (by omega)]; omega) | (split <;> omega)
      · refine mi_aload_n h dX6_about_137 (by rfl) ?_
        refine gf_X6_15 h dX6_about_138 fl_RX6_48 ?_
        refine mi_iload_n h dX6_about_141 (by rfl) ?_
        refine mn_baload (p.toNat) h dX6_about_142 (by rfl) (by omega) (by omega) (by decide) ?_
        refine mi_if_eq (tgt := 150) h dX6_about_143 (by decide) ⟨by omega, by omega⟩ (fun e143 => ?_) (fun e143 => ?_)
        · refine mi_iconst h dX6_about_150 ?_
          refine mi_cS1i (hw := Nat.le_of_ble_eq_true rfl) h dX6_about_151 ml_RX6_200 ym_yX6_asInt (c_X6_asInt (by omega)) (fun r151 σ151 hp151 => ?_)
          obtain ⟨rfl, rfl⟩ := hp151
          refine mi_ireturn h hr dX6_about_154 ?_
          refine ⟨rfl, fun q => ?_, fun q => ⟨fun z => ?_, fun z => ?_, fun z => ?_, fun z => ?_, fun z => ?_, fun z => ?_, fun z => ?_, fun z => ?_, fun z => ?_, fun z => ?_, fun z => ?_, fun z => ?_⟩⟩ <;> first | rfl | (exfalso; omega) | (rw [if_pos (by omega)]; done) | (rw [if_neg (by omega)]; done) | (rw [if_pos (by omega)]; omega) | (rw [if_neg (by omega)]; omega) | (split <;> omega)
        · refine mi_iconst h dX6_about_146 ?_
          refine mi_goto (tgt := 151) h dX6_about_147 (by decide) ?_
          refine mi_cS1i (hw := Nat.le_of_ble_eq_true rfl) h dX6_about_151 ml_RX6_200 ym_yX6_asInt (c_X6_asInt (by omega)) (fun r151 σ151 hp151 => ?_)
          obtain ⟨rfl, rfl⟩ := hp151
          refine mi_ireturn h hr dX6_about_154 ?_
          refine ⟨rfl, fun q => ?_, fun q => ⟨fun z => ?_, fun z => ?_, fun z => ?_, fun z => ?_, fun z => ?_, fun z => ?_, fun z => ?_, fun z => ?_, fun z => ?_, fun z => ?_, fun z => ?_, fun z => ?_⟩⟩ <;> first | rfl | (exfalso; omega) | (rw [if_pos (by omega)]; done) | (rw [if_neg (by omega)]; done) | (rw [if_pos (by omega)]; omega) | (rw [if_neg (by omega)]; omega) | (split <;> omega)
    · subst e18
      refine mi_tabIn (tgt := 155) h dX6_about_18 (by decide) (by decide) (by decide) (off := 137) (by decide) (by decide) ?_
      refine mi_iload_n h dX6_about_155 (by rfl) ?_
      refine mi_if_eq (tgt := 168) h dX6_about_156 (by decide) ⟨by omega, by omega⟩ (fun e156 => ?_) (fun e156 => ?_)
      · refine mi_iconst h dX6_about_168 ?_
        refine mi_ireturn h hr dX6_about_169 ?_
        refine ⟨rfl, fun q => ?_, fun q => ⟨fun z => ?_, fun z => ?_, fun z => ?_, fun z => ?_, fun z => ?_, fun z => ?_, fun z => ?_, fun z => ?_, fun z => ?_, fun z => ?_, fun z => ?_, fun z => ?_⟩⟩ <;> first | rfl | (exfalso; omega) | (rw [if_pos (by omega)]; done) | (rw [if_neg (by omega)]; done) | (rw [if_pos (by omega)]; omega) | (rw [if_neg (by omega)]; omega) | (split <;> omega)
      · refine mi_aload_n h dX6_about_159 (by rfl) ?_
        refine gf_X6_16 h dX6_about_160 fl_RX6_51 ?_
        refine mi_iload_n h dX6_about_163 (by rfl) ?_
        refine mn_iaload (p.toNat) h dX6_about_164 (by rfl) (by omega) (by omega) (by decide) ?_
        refine mi_goto (tgt := 169) h dX6_about_165 (by decide) ?_
        refine mi_ireturn h hr dX6_about_169 ?_
        refine ⟨rfl, fun q => ?_, fun q => ⟨fun z => ?_, fun z => ?_, fun z => ?_, fun z => ?_, fun z => ?_, fun z => ?_, fun z => ?_, fun z => ?_, fun z => ?_, fun z => ?_, fun z => ?_, fun z => ?_⟩⟩ <;> first | rfl | (exfalso; omega) | (rw [if_pos (by omega)]; done) | (rw [if_neg (by omega)]; done) | (rw [if_pos (by omega)]; omega) | (rw [if_neg (by omega)]; omega) | (split <;> omega)
    · subst e18
      refine mi_tabIn (tgt := 170) h dX6_about_18 (by decide) (by decide) (by decide) (off := 152) (by decide) (by decide) ?_
      refine mi_aload_n h dX6_about_170 (by rfl) ?_
      refine gf_X6_10 h dX6_about_171 fl_RX6_36 ?_
      refine mi_iload_n h dX6_about_174 (by rfl) ?_
      refine mn_baload (p.toNat) h dX6_about_175 (by rfl) (by omega) (by omega) (by decide) ?_
      refine mi_cS1i (hw := Nat.le_of_ble_eq_true rfl) h dX6_about_176 ml_RX6_200 ym_yX6_asInt (c_X6_asInt (by omega)) (fun r176 σ176 hp176 => ?_)
      obtain ⟨rfl, rfl⟩ := hp176
      refine mi_ireturn h hr dX6_about_179 ?_
      refine ⟨rfl, fun q => ?_, fun q => ⟨fun z => ?_, fun z => ?_, fun z => ?_, fun z => ?_, fun z => ?_, fun z => ?_, fun z => ?_, fun z => ?_, fun z => ?_, fun z => ?_, fun z => ?_, fun z => ?_⟩⟩ <;> first | rfl | (exfalso; omega) | (rw [if_pos (by omega)]; done) | (rw [if_neg (by omega)]; done) | (rw [if_pos (by omega)]; omega) | (rw [if_neg (by omega)]; omega) | (split <;> omega)
    · subst e18
      refine mi_tabIn (tgt := 180) h dX6_about_18 (by decide) (by decide) (by decide) (off := 162) (by decide) (by decide) ?_
      refine mi_iconst h dX6_about_180 ?_
      refine mi_istore h dX6_about_181 (by decide) ?_
      refine mi_iconst h dX6_about_183 ?_
      refine mi_istore h dX6_about_184 (by decide) ?_
      exact loop (by omega) rfl _ (σ 28 11).toNat 0 (by omega)
  · refine mi_iconst h dX6_about_8 ?_
    refine mi_ireturn h hr dX6_about_9 ?_
    refine ⟨rfl, fun q => ?_, fun q => ⟨fun z => ?_, fun z => ?_, fun z => ?_, fun z => ?_, fun z => ?_, fun z => ?_, fun z => ?_, fun z => ?_, fun z => ?_, fun z => ?_, fun z => ?_, fun z => ?_⟩⟩ <;> first | rfl | (exfalso; omega) | (rw [if_pos (by omega)]; done) | (rw [if_neg (by omega)]; done) | (rw [if_pos (by omega)]; omega) | (rw [if_neg (by omega)]; omega) | (split <;> omega)
