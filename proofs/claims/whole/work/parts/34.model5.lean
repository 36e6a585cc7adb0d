/-- the reference's scratch: the cells 42 to 48 -/
def wm (σ F : Mem) : Mem := fun c => if 42 ≤ c ∧ c ≤ 48 then F c else σ c
theorem wm_app (σ F : Mem) (c k : Nat) : wm σ F c k = if 42 ≤ c ∧ c ≤ 48 then F c k else σ c k := by
  unfold wm
  split <;> rfl
theorem wm_up (σ F : Mem) {c : Nat} (hc : 42 ≤ c ∧ c ≤ 48) (k : Nat) (z : Int) : up (wm σ F) c k z = wm σ (up F c k z) := by
  funext c' j
  simp only [up_app, wm_app]
  by_cases h1 : c' = c
  · subst h1
    simp only [if_true, if_pos hc]
  · rw [if_neg h1, if_neg h1]
theorem wm_self (σ : Mem) : wm σ σ = σ := by
  funext c k
  rw [wm_app]
  split <;> rfl
theorem wm_wm (σ F F2 : Mem) : wm (wm σ F) F2 = wm σ F2 := by
  funext c k
  rw [wm_app, wm_app, wm_app]
  split <;> rfl
theorem drM_rng {σ : Mem} (hJ : JS σ) (hZ : JZ σ) (hP : JP σ) {p : Nat} (hp : p < 25) : 0 ≤ drM σ p ∧ drM σ p ≤ 4000 := by
  obtain ⟨j1, j2, j3, j4, j5, j6, j7⟩ := hJ
  unfold drM
  by_cases h : p = 24
  · rw [if_pos h]; omega
  · rw [if_neg h]
    obtain ⟨-, k2, k3, -⟩ := hP p (by omega)
    have k4 := (hZ (σ 33 p).toNat (by omega)).1
    have h5 : 0 ≤ σ 32 p * σ 29 (σ 33 p).toNat := Int.mul_nonneg k2.1 k4.1
    have h6 : σ 32 p * σ 29 (σ 33 p).toNat ≤ 10 * 400 := Int.mul_le_mul k2.2 k4.2 k4.1 (by omega)
    omega
set_option maxHeartbeats 4000000 in
set_option maxRecDepth 100000 in
theorem c_X6_openAsTold {σ : Mem} (hJ : JS σ) (hB : JB σ) : Sp1 yX6_openAsTold cX6_openAsTold 2 none 0 0 [vr 28] σ (fun r σ' => ∃ F, wm σ F = σ' ∧ ∀ p : Nat, (p : Int) < σ 28 11 → F 42 p = opM σ p) := by
  refine Sp1_in RX6 rfl (by decide +kernel) (Nat.le_of_ble_eq_true rfl) [some (vr 28), none] rfl ?_
  intro K h hr
  obtain ⟨j1, j2, j3, j4, j5, j6, j7⟩ := id hJ
  have loop : ∀ (j k : Nat) (F : Mem), (k : Int) + j = σ 28 11 → (∀ p : Nat, p < k → F 42 p = opM σ p) → M K 2 [some (vr 28), some (vi (k : Int))] [] (wm σ F) := by
    intro j
    induction j with
    | zero =>
      intro k F hk hF
      refine mi_iload_n h dX6_openAsTold_2 (by rfl) ?_
      refine mi_aload_n h dX6_openAsTold_3 (by rfl) ?_
      refine gf_X6_11 h dX6_openAsTold_4 fl_RX6_109 ?_
      try simp only [up_app, upC_app, wm_app, Nat.reduceEqDiff, reduceIte, Nat.reduceLeDiff, and_self, and_true, true_and, and_false, false_and, Nat.add_eq_zero_iff, Nat.succ_ne_self, Nat.add_right_cancel_iff]
      refine mi_icmp_ge (tgt := 45) h dX6_openAsTold_7 (by decide) ⟨by omega, by omega⟩ ⟨by omega, by omega⟩ (fun e7 => ?_) (fun e7 => ?_)
      · refine mi_return (x := 0) h hr dX6_openAsTold_45 ?_
        exact ⟨F, rfl, fun p hp => hF p (by omega)⟩
      · exfalso; omega
    | succ j ih =>
      intro k F hk hF
      obtain ⟨z1, z2, z3, z4, z5⟩ := hB.1 k (by omega)
      have nxt : ∀ v : Int, v = opM σ k → M K 2 [some (vr 28), some (vi ((k : Int) + 1))] [] (wm σ (up F 42 k v)) := fun v hv => ih (k + 1) _ (by omega) (fun p hp => by
        rw [up_at]
        by_cases e : p = k
        · rw [if_pos e, hv, e]
        · rw [if_neg e]; exact hF p (by omega))
      have q1 : σ 37 k = 1 → opM σ k = σ 40 k := fun q => by unfold opM; rw [if_pos q]
      have q2 : ¬ σ 37 k = 1 → opM σ k = 0 := fun q => by unfold opM; rw [if_neg q]
      refine mi_iload_n h dX6_openAsTold_2 (by rfl) ?_
      refine mi_aload_n h dX6_openAsTold_3 (by rfl) ?_
      refine gf_X6_11 h dX6_openAsTold_4 fl_RX6_109 ?_
      try simp only [up_app, upC_app, wm_app, Nat.reduceEqDiff, reduceIte, Nat.reduceLeDiff, and_self, and_true, true_and, and_false, false_and, Nat.add_eq_zero_iff, Nat.succ_ne_self, Nat.add_right_cancel_iff]
      refine mi_icmp_ge (tgt := 45) h dX6_openAsTold_7 (by decide) ⟨by omega, by omega⟩ ⟨by omega, by omega⟩ (fun e7 => ?_) (fun e7 => ?_)
      · exfalso; omega
      · refine mi_aload_n h dX6_openAsTold_10 (by rfl) ?_
        refine gf_X6_17 h dX6_openAsTold_11 fl_RX6_54 ?_
        refine mi_iload_n h dX6_openAsTold_14 (by rfl) ?_
        refine mi_aload_n h dX6_openAsTold_15 (by rfl) ?_
        refine gf_X6_12 h dX6_openAsTold_16 fl_RX6_39 ?_
        refine mi_iload_n h dX6_openAsTold_19 (by rfl) ?_
        refine mn_baload (k) h dX6_openAsTold_20 (by rfl) (by omega) (by omega) (by decide) ?_
        try simp only [up_app, upC_app, wm_app, Nat.reduceEqDiff, reduceIte, Nat.reduceLeDiff, and_self, and_true, true_and, and_false, false_and, Nat.add_eq_zero_iff, Nat.succ_ne_self, Nat.add_right_cancel_iff]
        refine mi_if_eq (tgt := 37) h dX6_openAsTold_21 (by decide) ⟨by omega, by omega⟩ (fun e21 => ?_) (fun e21 => ?_)
        · refine mi_iconst h dX6_openAsTold_37 ?_
          refine mn_bastore (k) h dX6_openAsTold_38 (by rfl) (by omega) (by omega) (by decide) (by omega) ?_
          rw [wm_up _ _ (by decide)]
          refine mi_iinc h dX6_openAsTold_39 (by rfl) ?_ (by decide)
          refine mi_goto (tgt := 2) h dX6_openAsTold_42 (by decide) ?_
          exact nxt _ (by omega)
        · refine mi_aload_n h dX6_openAsTold_24 (by rfl) ?_
          refine gf_X6_15 h dX6_openAsTold_25 fl_RX6_48 ?_
          refine mi_iload_n h dX6_openAsTold_28 (by rfl) ?_
          refine mn_baload (k) h dX6_openAsTold_29 (by rfl) (by omega) (by omega) (by decide) ?_
          try simp only [up_app, upC_app, wm_app, Nat.reduceEqDiff, reduceIte, Nat.reduceLeDiff, and_self, and_true, true_and, and_false, false_and, Nat.add_eq_zero_iff, Nat.succ_ne_self, Nat.add_right_cancel_iff]
          refine mi_if_eq (tgt := 37) h dX6_openAsTold_30 (by decide) ⟨by omega, by omega⟩ (fun e30 => ?_) (fun e30 => ?_)
          · refine mi_iconst h dX6_openAsTold_37 ?_
            refine mn_bastore (k) h dX6_openAsTold_38 (by rfl) (by omega) (by omega) (by decide) (by omega) ?_
            rw [wm_up _ _ (by decide)]
            refine mi_iinc h dX6_openAsTold_39 (by rfl) ?_ (by decide)
            refine mi_goto (tgt := 2) h dX6_openAsTold_42 (by decide) ?_
            exact nxt _ (by omega)
          · refine mi_iconst h dX6_openAsTold_33 ?_
            refine mi_goto (tgt := 38) h dX6_openAsTold_34 (by decide) ?_
            refine mn_bastore (k) h dX6_openAsTold_38 (by rfl) (by omega) (by omega) (by decide) (by omega) ?_
            rw [wm_up _ _ (by decide)]
            refine mi_iinc h dX6_openAsTold_39 (by rfl) ?_ (by decide)
            refine mi_goto (tgt := 2) h dX6_openAsTold_42 (by decide) ?_
            exact nxt _ (by omega)
  refine mi_iconst h dX6_openAsTold_0 ?_
  refine mi_istore_n h dX6_openAsTold_1 (by decide) ?_
  have h9 := loop (σ 28 11).toNat 0 σ (by omega) (fun p hp => by omega)
  rw [wm_self] at h9
  exact h9
def shM (σ : Mem) (p : Nat) : Prop := p < 24 ∧ σ 35 p = 1
set_option maxHeartbeats 4000000 in
set_option maxRecDepth 100000 in
theorem c_X6_conductOf {σ : Mem} {p : Nat} (hP : JP σ) (hB : JB σ) (hp : p < 25) (hd : 0 ≤ drM σ p ∧ drM σ p ≤ 4000) (hl : 0 ≤ σ 43 p ∧ σ 43 p ≤ 4915200) (hh : 0 ≤ σ 44 p ∧ σ 44 p ≤ 4915200) : Sp1 yX6_conductOf cX6_conductOf 9 none 0 2 [vr 28, vi (p : Int)] σ (fun r σ' => up (up σ 45 p (if p < 24 ∧ σ 35 p = 1 then 0 else cnd 0 (drM σ p) (σ 43 p))) 46 p (if p < 24 ∧ σ 35 p = 1 then 0 else cnd 1 (drM σ p) (σ 44 p)) = σ') := by
  refine Sp1_in RX6 rfl (by decide +kernel) (Nat.le_of_ble_eq_true rfl) [some (vr 28), some (vi (p : Int)), none, none, none, none, none, none, none] rfl ?_
  intro K h hr
  have a9 := rgg hd hl
  have a8 := rt_25 (D := 1125899906842624 + drM σ p * σ 43 p * σ 43 p) (by omega)
  have a7 := rtu_ge (1125899906842624 + drM σ p * σ 43 p * σ 43 p)
  have a6 := rt_small (n := 1125899906842624 + drM σ p * σ 43 p * σ 43 p) (by omega) (by omega)
  have b9 := rgg hd hh
  have b8 := rt_25 (D := 1125899906842624 + drM σ p * σ 44 p * σ 44 p) (by omega)
  have b6 := rt_small (n := 1125899906842624 + drM σ p * σ 44 p * σ 44 p) (by omega) (by omega)
  have hz : p < 24 → σ 35 p = 0 ∨ σ 35 p = 1 := fun q => (hB.1 p q).1
  have cl : cnd 0 (drM σ p) (σ 43 p) = σ 43 p * 33554432 / rtu (1125899906842624 + drM σ p * σ 43 p * σ 43 p) := rfl
  have ch : cnd 1 (drM σ p) (σ 44 p) = qu (σ 44 p * 33554432) (rt (1125899906842624 + drM σ p * σ 44 p * σ 44 p)) := rfl
  have j43 : ∀ v : Int, (v = 0 ∨ v = 1) → (v = 1 ↔ p < 24 ∧ σ 35 p = 1) → M K 43 [some (vr 28), some (vi (p : Int)), some (vl (drM σ p)), none, some (vl (σ 43 p)), none, some (vl (σ 44 p)), none, none] [vi v] σ := by
    intro v hv hv2
    refine mi_istore h dX6_conductOf_43 (by decide) ?_
    refine mi_aload_n h dX6_conductOf_45 (by rfl) ?_
    refine gf_X6_20 h dX6_conductOf_46 fl_RX6_64 ?_
    refine mi_iload_n h dX6_conductOf_49 (by rfl) ?_
    refine mi_iload h dX6_conductOf_50 (by rfl) ?_
    refine mi_if_eq (tgt := 59) h dX6_conductOf_52 (by decide) ⟨by omega, by omega⟩ (fun e52 => ?_) (fun e52 => ?_)
    · refine mi_lload h dX6_conductOf_59 (by rfl) ?_
      refine mi_bipush h dX6_conductOf_61 (by decide) ?_
      refine mi_lshl h dX6_conductOf_63 sh_25 ?_
      refine mi_ldc2 (z := 1125899906842624) h dX6_conductOf_64 kc_RX6_157 rfl ?_
      refine mi_lload_n h dX6_conductOf_67 (by rfl) ?_
      refine mi_lload h dX6_conductOf_68 (by rfl) ?_
      refine mi_lmul h dX6_conductOf_70 ?_
      refine mi_lload h dX6_conductOf_71 (by rfl) ?_
      refine mi_lmul h dX6_conductOf_73 ?_
      refine mi_ladd h dX6_conductOf_74 ?_
      refine mi_cS1l (hw := Nat.le_of_ble_eq_true rfl) h dX6_conductOf_75 ml_RX6_159 ym_yX6_rootUp (c_X6_rootUp ⟨by omega, by omega⟩) (fun r75 σ75 hp75 => ?_)
      obtain ⟨rfl, rfl⟩ := hp75
      refine mi_ldiv h dX6_conductOf_78 ⟨by omega, by omega⟩ ⟨by omega, by omega⟩ ?_
      refine mn_lastore (p) h dX6_conductOf_79 (by rfl) (by omega) (by omega) (by decide) ?_
      refine mi_aload_n h dX6_conductOf_80 (by rfl) ?_
      refine gf_X6_21 h dX6_conductOf_81 fl_RX6_67 ?_
      refine mi_iload_n h dX6_conductOf_84 (by rfl) ?_
      refine mi_iload h dX6_conductOf_85 (by rfl) ?_
      refine mi_if_eq (tgt := 94) h dX6_conductOf_87 (by decide) ⟨by omega, by omega⟩ (fun e87 => ?_) (fun e87 => ?_)
      · refine mi_lload h dX6_conductOf_94 (by rfl) ?_
        refine mi_bipush h dX6_conductOf_96 (by decide) ?_
        refine mi_lshl h dX6_conductOf_98 sh_25 ?_
        refine mi_ldc2 (z := 1125899906842624) h dX6_conductOf_99 kc_RX6_157 rfl ?_
        refine mi_lload_n h dX6_conductOf_102 (by rfl) ?_
        refine mi_lload h dX6_conductOf_103 (by rfl) ?_
        refine mi_lmul h dX6_conductOf_105 ?_
        refine mi_lload h dX6_conductOf_106 (by rfl) ?_
        refine mi_lmul h dX6_conductOf_108 ?_
        refine mi_ladd h dX6_conductOf_109 ?_
        refine mi_cS1l (hw := Nat.le_of_ble_eq_true rfl) h dX6_conductOf_110 ml_RX6_149 ym_yX6_root (c_X6_root ⟨by omega, by omega⟩) (fun r110 σ110 hp110 => ?_)
        obtain ⟨h110, rfl⟩ := hp110
        subst h110
        refine mi_cS2l (hw := Nat.le_of_ble_eq_true rfl) h dX6_conductOf_113 ml_RX6_162 ym_yX6_up (c_X6_up ⟨by omega, by omega⟩ ⟨by omega, by omega⟩) (fun r113 σ113 hp113 => ?_)
        obtain ⟨h113, rfl⟩ := hp113
        subst h113
        refine mn_lastore (p) h dX6_conductOf_116 (by rfl) (by omega) (by omega) (by decide) ?_
        refine mi_return (x := 0) h hr dX6_conductOf_117 ?_
        first | (exfalso; omega) | (rw [if_pos (hv2.mp (by omega)), if_pos (hv2.mp (by omega))]; done) | (rw [if_neg (fun z => by have := hv2.mpr z; omega), if_neg (fun z => by have := hv2.mpr z; omega), cl, ch]; done)
      · refine mi_lconst0 h dX6_conductOf_90 ?_
        refine mi_goto (tgt := 116) h dX6_conductOf_91 (by decide) ?_
        refine mn_lastore (p) h dX6_conductOf_116 (by rfl) (by omega) (by omega) (by decide) ?_
        refine mi_return (x := 0) h hr dX6_conductOf_117 ?_
        first | (exfalso; omega) | (rw [if_pos (hv2.mp (by omega)), if_pos (hv2.mp (by omega))]; done) | (rw [if_neg (fun z => by have := hv2.mpr z; omega), if_neg (fun z => by have := hv2.mpr z; omega), cl, ch]; done)
    · refine mi_lconst0 h dX6_conductOf_55 ?_
      refine mi_goto (tgt := 79) h dX6_conductOf_56 (by decide) ?_
      refine mn_lastore (p) h dX6_conductOf_79 (by rfl) (by omega) (by omega) (by decide) ?_
      refine mi_aload_n h dX6_conductOf_80 (by rfl) ?_
      refine gf_X6_21 h dX6_conductOf_81 fl_RX6_67 ?_
      refine mi_iload_n h dX6_conductOf_84 (by rfl) ?_
      refine mi_iload h dX6_conductOf_85 (by rfl) ?_
      refine mi_if_eq (tgt := 94) h dX6_conductOf_87 (by decide) ⟨by omega, by omega⟩ (fun e87 => ?_) (fun e87 => ?_)
      · refine mi_lload h dX6_conductOf_94 (by rfl) ?_
        refine mi_bipush h dX6_conductOf_96 (by decide) ?_
        refine mi_lshl h dX6_conductOf_98 sh_25 ?_
        refine mi_ldc2 (z := 1125899906842624) h dX6_conductOf_99 kc_RX6_157 rfl ?_
        refine mi_lload_n h dX6_conductOf_102 (by rfl) ?_
        refine mi_lload h dX6_conductOf_103 (by rfl) ?_
        refine mi_lmul h dX6_conductOf_105 ?_
        refine mi_lload h dX6_conductOf_106 (by rfl) ?_
        refine mi_lmul h dX6_conductOf_108 ?_
        refine mi_ladd h dX6_conductOf_109 ?_
        refine mi_cS1l (hw := Nat.le_of_ble_eq_true rfl) h dX6_conductOf_110 ml_RX6_149 ym_yX6_root (c_X6_root ⟨by omega, by omega⟩) (fun r110 σ110 hp110 => ?_)
        obtain ⟨h110, rfl⟩ := hp110
        subst h110
        refine mi_cS2l (hw := Nat.le_of_ble_eq_true rfl) h dX6_conductOf_113 ml_RX6_162 ym_yX6_up (c_X6_up ⟨by omega, by omega⟩ ⟨by omega, by omega⟩) (fun r113 σ113 hp113 => ?_)
        obtain ⟨h113, rfl⟩ := hp113
        subst h113
        refine mn_lastore (p) h dX6_conductOf_116 (by rfl) (by omega) (by omega) (by decide) ?_
        refine mi_return (x := 0) h hr dX6_conductOf_117 ?_
        first | (exfalso; omega) | (rw [if_pos (hv2.mp (by omega)), if_pos (hv2.mp (by omega))]; done) | (rw [if_neg (fun z => by have := hv2.mpr z; omega), if_neg (fun z => by have := hv2.mpr z; omega), cl, ch]; done)
      · refine mi_lconst0 h dX6_conductOf_90 ?_
        refine mi_goto (tgt := 116) h dX6_conductOf_91 (by decide) ?_
        refine mn_lastore (p) h dX6_conductOf_116 (by rfl) (by omega) (by omega) (by decide) ?_
        refine mi_return (x := 0) h hr dX6_conductOf_117 ?_
        first | (exfalso; omega) | (rw [if_pos (hv2.mp (by omega)), if_pos (hv2.mp (by omega))]; done) | (rw [if_neg (fun z => by have := hv2.mpr z; omega), if_neg (fun z => by have := hv2.mpr z; omega), cl, ch]; done)
  refine mi_aload_n h dX6_conductOf_0 (by rfl) ?_
  refine mi_iload_n h dX6_conductOf_1 (by rfl) ?_
  refine mi_cV1i (hw := Nat.le_of_ble_eq_true rfl) h dX6_conductOf_2 ml_RX6_153 ym_yX6_drag (by rfl) (by rfl) (c_X6_drag hP hp) (fun r2 σ2 hp2 => ?_)
  obtain ⟨rfl, rfl⟩ := hp2
  refine mi_i2l h dX6_conductOf_5 ⟨by omega, by omega⟩ ?_
  refine mi_lstore_n h dX6_conductOf_6 (by decide) ?_
  refine mi_aload_n h dX6_conductOf_7 (by rfl) ?_
  refine gf_X6_18 h dX6_conductOf_8 fl_RX6_57 ?_
  refine mi_iload_n h dX6_conductOf_11 (by rfl) ?_
  refine mn_laload (p) h dX6_conductOf_12 (by rfl) (by omega) (by omega) (by decide) ?_
  refine mi_lstore h dX6_conductOf_13 (by decide) ?_
  refine mi_aload_n h dX6_conductOf_15 (by rfl) ?_
  refine gf_X6_19 h dX6_conductOf_16 fl_RX6_61 ?_
  refine mi_iload_n h dX6_conductOf_19 (by rfl) ?_
  refine mn_laload (p) h dX6_conductOf_20 (by rfl) (by omega) (by omega) (by decide) ?_
  refine mi_lstore h dX6_conductOf_21 (by decide) ?_
  refine mi_iload_n h dX6_conductOf_23 (by rfl) ?_
  refine mi_bipush h dX6_conductOf_24 (by decide) ?_
  refine mi_icmp_ge (tgt := 42) h dX6_conductOf_26 (by decide) ⟨by omega, by omega⟩ ⟨by omega, by omega⟩ (fun e26 => ?_) (fun e26 => ?_)
  · refine mi_iconst h dX6_conductOf_42 ?_
    first | exact j43 _ (by omega) ⟨fun z => by omega, fun z => by omega⟩ | exact j43 _ (by omega) ⟨fun z => by omega, fun _ => rfl⟩ | exact j43 _ (by omega) ⟨fun _ => ⟨by omega, by omega⟩, fun _ => rfl⟩
  · refine mi_aload_n h dX6_conductOf_29 (by rfl) ?_
    refine gf_X6_9 h dX6_conductOf_30 fl_RX6_32 ?_
    refine mi_iload_n h dX6_conductOf_33 (by rfl) ?_
    refine mn_baload (p) h dX6_conductOf_34 (by rfl) (by omega) (by omega) (by decide) ?_
    refine mi_if_eq (tgt := 42) h dX6_conductOf_35 (by decide) ⟨by omega, by omega⟩ (fun e35 => ?_) (fun e35 => ?_)
    · refine mi_iconst h dX6_conductOf_42 ?_
      first | exact j43 _ (by omega) ⟨fun z => by omega, fun z => by omega⟩ | exact j43 _ (by omega) ⟨fun z => by omega, fun _ => rfl⟩ | exact j43 _ (by omega) ⟨fun _ => ⟨by omega, by omega⟩, fun _ => rfl⟩
    · refine mi_iconst h dX6_conductOf_38 ?_
      refine mi_goto (tgt := 43) h dX6_conductOf_39 (by decide) ?_
      first | exact j43 _ (by omega) ⟨fun z => by omega, fun z => by omega⟩ | exact j43 _ (by omega) ⟨fun z => by omega, fun _ => rfl⟩ | exact j43 _ (by omega) ⟨fun _ => ⟨by omega, by omega⟩, fun _ => rfl⟩
theorem up_2 (σ : Mem) (p : Nat) (a b x y : Int) : up (up (up (up σ 47 p a) 48 p b) 47 p x) 48 p y = up (up σ 47 p x) 48 p y := by
  funext c k
  simp only [up_app]
  by_cases h1 : c = 48
  · subst h1
    by_cases h2 : k = p <;> simp [h2]
  · by_cases h3 : c = 47
    · subst h3
      by_cases h2 : k = p <;> simp [h2]
    · simp [h1, h3]
set_option maxHeartbeats 4000000 in
set_option maxRecDepth 100000 in
theorem c_X6_pressureOf {σ : Mem} {p : Nat} {x y : Int} (hP : JP σ) (hB : JB σ) (hp : p < 25) (hd : 0 ≤ drM σ p ∧ drM σ p ≤ 4000) (hl : 0 ≤ σ 43 p ∧ σ 43 p ≤ 4915200) (hh : 0 ≤ σ 44 p ∧ σ 44 p ≤ 4915200) (hx : 0 ≤ x ∧ x ≤ 102400000) (hy : 0 ≤ y ∧ y ≤ 102400000) : Sp1 yX6_pressureOf cX6_pressureOf 12 none 0 1 [vr 28, vi (p : Int), vl x, vl y] σ (fun r σ' => up (up σ 47 p (if p < 24 ∧ σ 35 p = 1 then 0 else fln 0 (drM σ p) (σ 44 p) x)) 48 p (if p < 24 ∧ σ 35 p = 1 then 0 else fln 1 (drM σ p) (σ 43 p) y) = σ') := by
  refine Sp1_in RX6 rfl (by decide +kernel) (Nat.le_of_ble_eq_true rfl) [some (vr 28), some (vi (p : Int)), some (vl x), none, some (vl y), none, none, none, none, none, none, none] rfl ?_
  intro K h hr
  have a9 := rgg hd hl
  have b9 := rgg hd hh
  have b8 := qu_nn (a := drM σ p * σ 44 p * σ 44 p) (b := 1048576) (by omega) (by omega)
  have b7 : qu (drM σ p * σ 44 p * σ 44 p) 1048576 ≤ 96636764160000000 := by unfold qu; omega
  have hz : p < 24 → σ 35 p = 0 ∨ σ 35 p = 1 := fun q => (hB.1 p q).1
  have cl : fln 0 (drM σ p) (σ 44 p) x = x * 1073741824 / (1073741824 + qu (drM σ p * σ 44 p * σ 44 p) 1048576) := rfl
  have ch : fln 1 (drM σ p) (σ 43 p) y = qu (y * 1073741824) (1073741824 + drM σ p * σ 43 p * σ 43 p / 1048576) := rfl
  refine mi_aload_n h dX6_pressureOf_0 (by rfl) ?_
  refine mi_iload_n h dX6_pressureOf_1 (by rfl) ?_
  refine mi_cV1i (hw := Nat.le_of_ble_eq_true rfl) h dX6_pressureOf_2 ml_RX6_153 ym_yX6_drag (by rfl) (by rfl) (c_X6_drag hP hp) (fun r2 σ2 hp2 => ?_)
  obtain ⟨rfl, rfl⟩ := hp2
  refine mi_i2l h dX6_pressureOf_5 ⟨by omega, by omega⟩ ?_
  refine mi_lstore h dX6_pressureOf_6 (by decide) ?_
  refine mi_ldc2 (z := 1073741824) h dX6_pressureOf_8 kc_RX6_166 rfl ?_
  refine mi_lload h dX6_pressureOf_11 (by rfl) ?_
  refine mi_aload_n h dX6_pressureOf_13 (by rfl) ?_
  refine gf_X6_19 h dX6_pressureOf_14 fl_RX6_61 ?_
  refine mi_iload_n h dX6_pressureOf_17 (by rfl) ?_
  refine mn_laload (p) h dX6_pressureOf_18 (by rfl) (by omega) (by omega) (by decide) ?_
  refine mi_lmul h dX6_pressureOf_19 ?_
  refine mi_aload_n h dX6_pressureOf_20 (by rfl) ?_
  refine gf_X6_19 h dX6_pressureOf_21 fl_RX6_61 ?_
  refine mi_iload_n h dX6_pressureOf_24 (by rfl) ?_
  refine mn_laload (p) h dX6_pressureOf_25 (by rfl) (by omega) (by omega) (by decide) ?_
  refine mi_lmul h dX6_pressureOf_26 ?_
  refine mi_ldc2 (z := 1048576) h dX6_pressureOf_27 kc_RX6_168 rfl ?_
  refine mi_cS2l (hw := Nat.le_of_ble_eq_true rfl) h dX6_pressureOf_30 ml_RX6_162 ym_yX6_up (c_X6_up ⟨by omega, by omega⟩ ⟨by omega, by omega⟩) (fun r30 σ30 hp30 => ?_)
  obtain ⟨rfl, rfl⟩ := hp30
  refine mi_ladd h dX6_pressureOf_33 ?_
  refine mi_lstore h dX6_pressureOf_34 (by decide) ?_
  refine mi_ldc2 (z := 1073741824) h dX6_pressureOf_36 kc_RX6_166 rfl ?_
  refine mi_lload h dX6_pressureOf_39 (by rfl) ?_
  refine mi_aload_n h dX6_pressureOf_41 (by rfl) ?_
  refine gf_X6_18 h dX6_pressureOf_42 fl_RX6_57 ?_
  refine mi_iload_n h dX6_pressureOf_45 (by rfl) ?_
  refine mn_laload (p) h dX6_pressureOf_46 (by rfl) (by omega) (by omega) (by decide) ?_
  refine mi_lmul h dX6_pressureOf_47 ?_
  refine mi_aload_n h dX6_pressureOf_48 (by rfl) ?_
  refine gf_X6_18 h dX6_pressureOf_49 fl_RX6_57 ?_
  refine mi_iload_n h dX6_pressureOf_52 (by rfl) ?_
  refine mn_laload (p) h dX6_pressureOf_53 (by rfl) (by omega) (by omega) (by decide) ?_
  refine mi_lmul h dX6_pressureOf_54 ?_
  refine mi_bipush h dX6_pressureOf_55 (by decide) ?_
  refine mi_lshr h dX6_pressureOf_57 (sr_20 ⟨by omega, by omega⟩) ?_
  refine mi_ladd h dX6_pressureOf_58 ?_
  refine mi_lstore h dX6_pressureOf_59 (by decide) ?_
  refine mi_aload_n h dX6_pressureOf_61 (by rfl) ?_
  refine gf_X6_22 h dX6_pressureOf_62 fl_RX6_70 ?_
  refine mi_iload_n h dX6_pressureOf_65 (by rfl) ?_
  refine mi_lload_n h dX6_pressureOf_66 (by rfl) ?_
  refine mi_bipush h dX6_pressureOf_67 (by decide) ?_
  refine mi_lshl h dX6_pressureOf_69 sh_30 ?_
  refine mi_lload h dX6_pressureOf_70 (by rfl) ?_
  refine mi_ldiv h dX6_pressureOf_72 ⟨by omega, by omega⟩ ⟨by omega, by omega⟩ ?_
  refine mn_lastore (p) h dX6_pressureOf_73 (by rfl) (by omega) (by omega) (by decide) ?_
  refine mi_aload_n h dX6_pressureOf_74 (by rfl) ?_
  refine gf_X6_23 h dX6_pressureOf_75 fl_RX6_73 ?_
  refine mi_iload_n h dX6_pressureOf_78 (by rfl) ?_
  refine mi_lload h dX6_pressureOf_79 (by rfl) ?_
  refine mi_bipush h dX6_pressureOf_81 (by decide) ?_
  refine mi_lshl h dX6_pressureOf_83 sh_30 ?_
  refine mi_lload h dX6_pressureOf_84 (by rfl) ?_
  refine mi_cS2l (hw := Nat.le_of_ble_eq_true rfl) h dX6_pressureOf_86 ml_RX6_162 ym_yX6_up (c_X6_up ⟨by omega, by omega⟩ ⟨by omega, by omega⟩) (fun r86 σ86 hp86 => ?_)
  obtain ⟨h86, rfl⟩ := hp86
  subst h86
  refine mn_lastore (p) h dX6_pressureOf_89 (by rfl) (by omega) (by omega) (by decide) ?_
  refine mi_iload_n h dX6_pressureOf_90 (by rfl) ?_
  refine mi_bipush h dX6_pressureOf_91 (by decide) ?_
  refine mi_icmp_ge (tgt := 119) h dX6_pressureOf_93 (by decide) ⟨by omega, by omega⟩ ⟨by omega, by omega⟩ (fun e93 => ?_) (fun e93 => ?_)
  · refine mi_return (x := 0) h hr dX6_pressureOf_119 ?_
    first | (exfalso; omega) | (rw [up_2, if_pos ⟨by omega, by omega⟩, if_pos ⟨by omega, by omega⟩]; done) | (rw [if_neg (by omega), if_neg (by omega), cl, ch]; done)
  · refine mi_aload_n h dX6_pressureOf_96 (by rfl) ?_
    refine gf_X6_9 h dX6_pressureOf_97 fl_RX6_32 ?_
    refine mi_iload_n h dX6_pressureOf_100 (by rfl) ?_
    refine mn_baload (p) h dX6_pressureOf_101 (by rfl) (by omega) (by omega) (by decide) ?_
    try simp only [up_app, upC_app, wm_app, Nat.reduceEqDiff, reduceIte, Nat.reduceLeDiff, and_self, and_true, true_and, and_false, false_and, Nat.add_eq_zero_iff, Nat.succ_ne_self, Nat.add_right_cancel_iff]
    refine mi_if_eq (tgt := 119) h dX6_pressureOf_102 (by decide) ⟨by omega, by omega⟩ (fun e102 => ?_) (fun e102 => ?_)
    · refine mi_return (x := 0) h hr dX6_pressureOf_119 ?_
      first | (exfalso; omega) | (rw [up_2, if_pos ⟨by omega, by omega⟩, if_pos ⟨by omega, by omega⟩]; done) | (rw [if_neg (by omega), if_neg (by omega), cl, ch]; done)
    · refine mi_aload_n h dX6_pressureOf_105 (by rfl) ?_
      refine gf_X6_22 h dX6_pressureOf_106 fl_RX6_70 ?_
      refine mi_iload_n h dX6_pressureOf_109 (by rfl) ?_
      refine mi_lconst0 h dX6_pressureOf_110 ?_
      refine mn_lastore (p) h dX6_pressureOf_111 (by rfl) (by omega) (by omega) (by decide) ?_
      refine mi_aload_n h dX6_pressureOf_112 (by rfl) ?_
      refine gf_X6_23 h dX6_pressureOf_113 fl_RX6_73 ?_
      refine mi_iload_n h dX6_pressureOf_116 (by rfl) ?_
      refine mi_lconst0 h dX6_pressureOf_117 ?_
      refine mn_lastore (p) h dX6_pressureOf_118 (by rfl) (by omega) (by omega) (by decide) ?_
      refine mi_return (x := 0) h hr dX6_pressureOf_119 ?_
      first | (exfalso; omega) | (rw [up_2, if_pos ⟨by omega, by omega⟩, if_pos ⟨by omega, by omega⟩]; done) | (rw [if_neg (by omega), if_neg (by omega), cl, ch]; done)
