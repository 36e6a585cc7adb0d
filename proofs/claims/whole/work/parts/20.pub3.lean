def firstC (hit : Nat → Nat → Prop) (rs cs : Nat) (none r : Int) : Prop := (∃ a b, a < rs ∧ b < cs ∧ hit a b ∧ (∀ a' b', a' < rs → b' < cs → (a' < a ∨ a' = a ∧ b' < b) → ¬ hit a' b') ∧ r = ((a * 16 + b : Nat) : Int)) ∨ ((∀ a b, a < rs → b < cs → ¬ hit a b) ∧ r = none)
theorem cntV_rng {dv : Nat → Nat → Int} {cs a b : Nat} (h : ∀ i j, 0 ≤ dv i j ∧ dv i j ≤ 1) (hc : cs ≤ 16) (ha : a ≤ 16) (hb : b ≤ 16) : 0 ≤ cntV dv cs a b ∧ cntV dv cs a b ≤ 272 := by
  have h1 := sm_rng (f := dv a) (b := 1) (n := b) (fun k _ => h a k)
  have h2 := sm_rng (f := fun i => sm (dv i) cs) (b := 16) (n := a) (fun k _ => by
    have := sm_rng (f := dv k) (b := 1) (n := cs) (fun j _ => h k j)
    try dsimp only
    omega)
  unfold cntV
  omega
noncomputable def dryC (σ : Mem) : Nat → Nat → Int := dryV (σ 24) (bv (σ 4 3)) (σ 25) (σ 26) (σ 27)
theorem dryC_01 (σ : Mem) (i j : Nat) : 0 ≤ dryC σ i j ∧ dryC σ i j ≤ 1 := by
  have := b2i_01 (dryP (σ 24) (bv (σ 4 3)) (σ 25) (σ 26) (σ 27) i j)
  unfold dryC dryV
  omega
set_option maxHeartbeats 4000000 in
set_option maxRecDepth 100000 in
theorem c_X5_floor {σ : Mem} {a b : Int} (ha : R32 a) (hb : R32 b) : Sp1 yX5_floor cX5_floor 3 (some .int) 1 2 [vr 0, vi a, vi b] σ (fun r σ' => (r = -2 ∧ σ = σ' ∧ ¬ ((2 ≤ a ∧ a ≤ 16) ∧ (2 ≤ b ∧ b ≤ 16))) ∨ (r = a * b ∧ upC (up (up (up σ 4 0 a) 4 1 b) 4 3 0) 24 (flF (σ 24) 0 256) = σ' ∧ (2 ≤ a ∧ a ≤ 16) ∧ (2 ≤ b ∧ b ≤ 16))) := by
  refine Sp1_in RX5 rfl (by decide +kernel) (Nat.le_of_ble_eq_true rfl) [some (vr 0), some (vi a), some (vi b)] rfl ?_
  intro K h hr
  refine mi_iload_n h dX5_floor_0 (by rfl) ?_
  refine mi_iconst h dX5_floor_1 ?_
  refine mi_bipush h dX5_floor_2 (by decide) ?_
  refine mi_cS3i (hw := Nat.le_of_ble_eq_true rfl) h dX5_floor_4 ml_RX5_46 ym_yX5_isWithin (c_X5_isWithin ⟨by omega, by omega⟩ ⟨by omega, by omega⟩ ⟨by omega, by omega⟩) (fun r4 σ4 hp4 => ?_)
  obtain ⟨rfl, hb4, hc4⟩ := hp4
  refine mi_if_eq (tgt := 20) h dX5_floor_7 (by decide) ⟨by omega, by omega⟩ (fun e7 => ?_) (fun e7 => ?_)
  · refine mi_bipush h dX5_floor_20 (by decide) ?_
    refine mi_ireturn h hr dX5_floor_22 ?_
    first | exact Or.inl ⟨rfl, rfl, by omega⟩ | exact Or.inr ⟨rfl, rfl, by omega, by omega⟩
  · refine mi_iload_n h dX5_floor_10 (by rfl) ?_
    refine mi_iconst h dX5_floor_11 ?_
    refine mi_bipush h dX5_floor_12 (by decide) ?_
    refine mi_cS3i (hw := Nat.le_of_ble_eq_true rfl) h dX5_floor_14 ml_RX5_46 ym_yX5_isWithin (c_X5_isWithin ⟨by omega, by omega⟩ ⟨by omega, by omega⟩ ⟨by omega, by omega⟩) (fun r14 σ14 hp14 => ?_)
    obtain ⟨rfl, hb14, hc14⟩ := hp14
    refine mi_if_ne (tgt := 23) h dX5_floor_17 (by decide) ⟨by omega, by omega⟩ (fun e17 => ?_) (fun e17 => ?_)
    · refine mi_aload_n h dX5_floor_23 (by rfl) ?_
      refine gf_X5_3 h dX5_floor_24 fl_RX5_41 ?_
      refine mi_iload_n h dX5_floor_27 (by rfl) ?_
      refine mi_iload_n h dX5_floor_28 (by rfl) ?_
      refine mi_cV2v (hw := Nat.le_of_ble_eq_true rfl) h dX5_floor_29 ml_RX5_207 ym_yX2_lay (by rfl) (by rfl) (c_X2_lay) (fun r29 σ29 hp29 => ?_)
      subst hp29
      refine mi_iload_n h dX5_floor_32 (by rfl) ?_
      refine mi_iload_n h dX5_floor_33 (by rfl) ?_
      refine mi_imul h dX5_floor_34 ?_
      refine mi_ireturn h hr dX5_floor_35 ?_
      first | exact Or.inl ⟨rfl, rfl, by omega⟩ | exact Or.inr ⟨rfl, rfl, by omega, by omega⟩
    · refine mi_bipush h dX5_floor_20 (by decide) ?_
      refine mi_ireturn h hr dX5_floor_22 ?_
      first | exact Or.inl ⟨rfl, rfl, by omega⟩ | exact Or.inr ⟨rfl, rfl, by omega, by omega⟩
set_option maxHeartbeats 4000000 in
set_option maxRecDepth 100000 in
theorem c_X5_cell {σ : Mem} {a b k : Int} (hF : IF σ) (ha : R32 a) (hb : R32 b) (hk : R32 k) : Sp1 yX5_cell cX5_cell 5 (some .int) 1 2 [vr 0, vi a, vi b, vi k] σ (fun r σ' => (r = -1 ∧ σ = σ' ∧ ¬ ((0 ≤ a ∧ a < σ 4 0) ∧ (0 ≤ b ∧ b < σ 4 1))) ∨ (r = -2 ∧ σ = σ' ∧ ((0 ≤ a ∧ a < σ 4 0) ∧ (0 ≤ b ∧ b < σ 4 1)) ∧ ¬ (0 ≤ k ∧ k ≤ 2)) ∨ (∃ t, firstP (fun p => bv (σ 4 3) p = 1 ∧ σ 25 p = a ∧ σ 26 p = b) 24 (-6) t ∧ ((0 ≤ a ∧ a < σ 4 0) ∧ (0 ≤ b ∧ b < σ 4 1)) ∧ (0 ≤ k ∧ k ≤ 2) ∧ ((r = -3 ∧ σ = σ' ∧ ¬ t = -6) ∨ (r = σ 24 (a.toNat * 16 + b.toNat) ∧ up σ 24 (a.toNat * 16 + b.toNat) k = σ' ∧ t = -6)))) := by
  refine Sp1_in RX5 rfl (by decide +kernel) (Nat.le_of_ble_eq_true rfl) [some (vr 0), some (vi a), some (vi b), some (vi k), none] rfl ?_
  intro K h hr
  obtain ⟨f1, f2, f3, f4, f5, f6⟩ := id hF
  refine mi_aload_n h dX5_cell_0 (by rfl) ?_
  refine gf_X5_3 h dX5_cell_1 fl_RX5_41 ?_
  refine mi_iload_n h dX5_cell_4 (by rfl) ?_
  refine mi_iload_n h dX5_cell_5 (by rfl) ?_
  refine mi_cV2i (hw := Nat.le_of_ble_eq_true rfl) h dX5_cell_6 ml_RX5_210 ym_yX2_isCell (by rfl) (by rfl) (c_X2_isCell hF ⟨by omega, by omega⟩ ⟨by omega, by omega⟩) (fun r6 σ6 hp6 => ?_)
  obtain ⟨rfl, hb6, hc6⟩ := hp6
  refine mi_if_ne (tgt := 14) h dX5_cell_9 (by decide) ⟨by omega, by omega⟩ (fun e9 => ?_) (fun e9 => ?_)
  · refine mi_iload_n h dX5_cell_14 (by rfl) ?_
    refine mi_iconst h dX5_cell_15 ?_
    refine mi_iconst h dX5_cell_16 ?_
    refine mi_cS3i (hw := Nat.le_of_ble_eq_true rfl) h dX5_cell_17 ml_RX5_46 ym_yX5_isWithin (c_X5_isWithin ⟨by omega, by omega⟩ ⟨by omega, by omega⟩ ⟨by omega, by omega⟩) (fun r17 σ17 hp17 => ?_)
    obtain ⟨rfl, hb17, hc17⟩ := hp17
    refine mi_if_ne (tgt := 26) h dX5_cell_20 (by decide) ⟨by omega, by omega⟩ (fun e20 => ?_) (fun e20 => ?_)
    · refine mi_aload_n h dX5_cell_26 (by rfl) ?_
      refine gf_X5_3 h dX5_cell_27 fl_RX5_41 ?_
      refine mi_iload_n h dX5_cell_30 (by rfl) ?_
      refine mi_iload_n h dX5_cell_31 (by rfl) ?_
      refine mi_cV2i (hw := Nat.le_of_ble_eq_true rfl) h dX5_cell_32 ml_RX5_213 ym_yX2_whoStandsIn (by rfl) (by rfl) (c_X2_whoStandsIn hF ⟨by omega, by omega⟩ ⟨by omega, by omega⟩) (fun r32 σ32 hp32 => ?_)
      obtain ⟨rfl, hw⟩ := hp32
      have hw2 : R32 r32 := by
        rcases hw with ⟨p9, q1, -, -, q2⟩ | ⟨-, q2⟩ <;> exact ⟨by omega, by omega⟩
      refine mi_bipush h dX5_cell_35 (by decide) ?_
      refine mi_icmp_eq (tgt := 43) h dX5_cell_37 (by decide) ⟨by omega, by omega⟩ ⟨by omega, by omega⟩ (fun e37 => ?_) (fun e37 => ?_)
      · refine mi_aload_n h dX5_cell_43 (by rfl) ?_
        refine gf_X5_3 h dX5_cell_44 fl_RX5_41 ?_
        refine mi_iload_n h dX5_cell_47 (by rfl) ?_
        refine mt_e (y := ((a.toNat : Nat) : Int)) (by omega) ?_
        refine mi_iload_n h dX5_cell_48 (by rfl) ?_
        refine mt_e (y := ((b.toNat : Nat) : Int)) (by omega) ?_
        refine mi_cV2i (hw := Nat.le_of_ble_eq_true rfl) h dX5_cell_49 ml_RX5_216 ym_yX2_kindOf (by rfl) (by rfl) (c_X2_kindOf (by omega) (by omega)) (fun r49 σ49 hp49 => ?_)
        obtain ⟨rfl, rfl⟩ := hp49
        refine mi_istore h dX5_cell_52 (by decide) ?_
        refine mi_aload_n h dX5_cell_54 (by rfl) ?_
        refine gf_X5_3 h dX5_cell_55 fl_RX5_41 ?_
        refine gf_X2_2 h dX5_cell_58 fl_RX5_219 ?_
        refine mi_iload_n h dX5_cell_61 (by rfl) ?_
        refine mi_bipush h dX5_cell_62 (by decide) ?_
        refine mi_imul h dX5_cell_64 ?_
        refine mi_iload_n h dX5_cell_65 (by rfl) ?_
        refine mi_iadd h dX5_cell_66 ?_
        refine mi_iload_n h dX5_cell_67 (by rfl) ?_
        refine mn_iastore (a.toNat * 16 + b.toNat) h dX5_cell_68 (by rfl) (by omega) (by omega) (by decide) ?_
        refine mi_iload h dX5_cell_69 (by rfl) ?_
        refine mi_ireturn h hr dX5_cell_71 ?_
        first | exact Or.inl ⟨rfl, rfl, by omega⟩ | exact Or.inr (Or.inl ⟨rfl, rfl, by omega, by omega⟩) | exact Or.inr (Or.inr ⟨_, hw, by omega, by omega, Or.inl ⟨rfl, rfl, by omega⟩⟩) | exact Or.inr (Or.inr ⟨_, hw, by omega, by omega, Or.inr ⟨rfl, rfl, by omega⟩⟩)
      · refine mi_bipush h dX5_cell_40 (by decide) ?_
        refine mi_ireturn h hr dX5_cell_42 ?_
        first | exact Or.inl ⟨rfl, rfl, by omega⟩ | exact Or.inr (Or.inl ⟨rfl, rfl, by omega, by omega⟩) | exact Or.inr (Or.inr ⟨_, hw, by omega, by omega, Or.inl ⟨rfl, rfl, by omega⟩⟩) | exact Or.inr (Or.inr ⟨_, hw, by omega, by omega, Or.inr ⟨rfl, rfl, by omega⟩⟩)
    · refine mi_bipush h dX5_cell_23 (by decide) ?_
      refine mi_ireturn h hr dX5_cell_25 ?_
      first | exact Or.inl ⟨rfl, rfl, by omega⟩ | exact Or.inr (Or.inl ⟨rfl, rfl, by omega, by omega⟩) | exact Or.inr (Or.inr ⟨_, hw, by omega, by omega, Or.inl ⟨rfl, rfl, by omega⟩⟩) | exact Or.inr (Or.inr ⟨_, hw, by omega, by omega, Or.inr ⟨rfl, rfl, by omega⟩⟩)
  · refine mi_iconst h dX5_cell_12 ?_
    refine mi_ireturn h hr dX5_cell_13 ?_
    first | exact Or.inl ⟨rfl, rfl, by omega⟩ | exact Or.inr (Or.inl ⟨rfl, rfl, by omega, by omega⟩) | exact Or.inr (Or.inr ⟨_, hw, by omega, by omega, Or.inl ⟨rfl, rfl, by omega⟩⟩) | exact Or.inr (Or.inr ⟨_, hw, by omega, by omega, Or.inr ⟨rfl, rfl, by omega⟩⟩)
set_option maxHeartbeats 4000000 in
set_option maxRecDepth 100000 in
theorem c_X5_stand {σ : Mem} {p a b e : Int} (hS0 : IS σ) (hF : IF σ) (hp : R32 p) (ha : R32 a) (hb : R32 b) (he : R32 e) : Sp1 yX5_stand cX5_stand 6 (some .int) 1 2 [vr 0, vi p, vi a, vi b, vi e] σ (fun r σ' => (r = -1 ∧ σ = σ' ∧ ¬ ((0 ≤ p ∧ p < σ 1 4 ∧ bv (σ 1 12) p.toNat = 1) ∧ ((0 ≤ a ∧ a < σ 4 0) ∧ (0 ≤ b ∧ b < σ 4 1)))) ∨ (r = -2 ∧ σ = σ' ∧ ((0 ≤ p ∧ p < σ 1 4 ∧ bv (σ 1 12) p.toNat = 1) ∧ ((0 ≤ a ∧ a < σ 4 0) ∧ (0 ≤ b ∧ b < σ 4 1))) ∧ ¬ (1 ≤ e ∧ e ≤ 12)) ∨ (∃ t, firstP (fun p => bv (σ 4 3) p = 1 ∧ σ 25 p = a ∧ σ 26 p = b) 24 (-6) t ∧ ((0 ≤ p ∧ p < σ 1 4 ∧ bv (σ 1 12) p.toNat = 1) ∧ ((0 ≤ a ∧ a < σ 4 0) ∧ (0 ≤ b ∧ b < σ 4 1))) ∧ (1 ≤ e ∧ e ≤ 12) ∧ ((r = -5 ∧ σ = σ' ∧ (¬ σ 24 (a.toNat * 16 + b.toNat) = 0 ∨ (¬ t = -6 ∧ ¬ t = p))) ∨ (r = 1 ∧ up (up (up (up σ 4 3 (wb (σ 4 3) p.toNat 1)) 25 p.toNat a) 26 p.toNat b) 27 p.toNat e = σ' ∧ σ 24 (a.toNat * 16 + b.toNat) = 0 ∧ (t = -6 ∨ t = p))))) := by
  refine Sp1_in RX5 rfl (by decide +kernel) (Nat.le_of_ble_eq_true rfl) [some (vr 0), some (vi p), some (vi a), some (vi b), some (vi e), none] rfl ?_
  intro K h hr
  obtain ⟨i1, i2, i3, i4, i5, i6, i7, i8⟩ := id hS0
  obtain ⟨f1, f2, f3, f4, f5, f6⟩ := id hF
  have hv9 := bv_01 (σ 1 12) p.toNat
  refine mi_aload_n h dX5_stand_0 (by rfl) ?_
  refine mi_iload_n h dX5_stand_1 (by rfl) ?_
  refine mi_cV1i (hw := Nat.le_of_ble_eq_true rfl) h dX5_stand_2 ml_RX5_88 ym_yX5_isHead (by rfl) (by rfl) (c_X5_isHead hS0 ⟨by omega, by omega⟩) (fun r2 σ2 hp2 => ?_)
  obtain ⟨rfl, hb2, hc2⟩ := hp2
  refine mi_if_eq (tgt := 20) h dX5_stand_5 (by decide) ⟨by omega, by omega⟩ (fun e5 => ?_) (fun e5 => ?_)
  · refine mi_iconst h dX5_stand_20 ?_
    refine mi_ireturn h hr dX5_stand_21 ?_
    first | exact Or.inl ⟨rfl, rfl, by omega⟩ | exact Or.inr (Or.inl ⟨rfl, rfl, by omega, by omega⟩) | exact Or.inr (Or.inr ⟨_, hw, by omega, by omega, Or.inl ⟨rfl, rfl, by omega⟩⟩) | exact Or.inr (Or.inr ⟨_, hw, by omega, by omega, Or.inr ⟨rfl, rfl, by omega, by omega⟩⟩)
  · refine mi_aload_n h dX5_stand_8 (by rfl) ?_
    refine gf_X5_3 h dX5_stand_9 fl_RX5_41 ?_
    refine mi_iload_n h dX5_stand_12 (by rfl) ?_
    refine mi_iload_n h dX5_stand_13 (by rfl) ?_
    refine mi_cV2i (hw := Nat.le_of_ble_eq_true rfl) h dX5_stand_14 ml_RX5_210 ym_yX2_isCell (by rfl) (by rfl) (c_X2_isCell hF ⟨by omega, by omega⟩ ⟨by omega, by omega⟩) (fun r14 σ14 hp14 => ?_)
    obtain ⟨rfl, hb14, hc14⟩ := hp14
    refine mi_if_ne (tgt := 22) h dX5_stand_17 (by decide) ⟨by omega, by omega⟩ (fun e17 => ?_) (fun e17 => ?_)
    · refine mi_iload h dX5_stand_22 (by rfl) ?_
      refine mi_iconst h dX5_stand_24 ?_
      refine mi_bipush h dX5_stand_25 (by decide) ?_
      refine mi_cS3i (hw := Nat.le_of_ble_eq_true rfl) h dX5_stand_27 ml_RX5_46 ym_yX5_isWithin (c_X5_isWithin ⟨by omega, by omega⟩ ⟨by omega, by omega⟩ ⟨by omega, by omega⟩) (fun r27 σ27 hp27 => ?_)
      obtain ⟨rfl, hb27, hc27⟩ := hp27
      refine mi_if_ne (tgt := 36) h dX5_stand_30 (by decide) ⟨by omega, by omega⟩ (fun e30 => ?_) (fun e30 => ?_)
      · refine mi_aload_n h dX5_stand_36 (by rfl) ?_
        refine gf_X5_3 h dX5_stand_37 fl_RX5_41 ?_
        refine mi_iload_n h dX5_stand_40 (by rfl) ?_
        refine mi_iload_n h dX5_stand_41 (by rfl) ?_
        refine mi_cV2i (hw := Nat.le_of_ble_eq_true rfl) h dX5_stand_42 ml_RX5_213 ym_yX2_whoStandsIn (by rfl) (by rfl) (c_X2_whoStandsIn hF ⟨by omega, by omega⟩ ⟨by omega, by omega⟩) (fun r42 σ42 hp42 => ?_)
        obtain ⟨rfl, hw⟩ := hp42
        have hw2 : R32 r42 := by
          rcases hw with ⟨p9, q1, -, -, q2⟩ | ⟨-, q2⟩ <;> exact ⟨by omega, by omega⟩
        have hk := f4 (a.toNat * 16 + b.toNat) (by omega)
        refine mi_istore h dX5_stand_45 (by decide) ?_
        refine mi_aload_n h dX5_stand_47 (by rfl) ?_
        refine gf_X5_3 h dX5_stand_48 fl_RX5_41 ?_
        refine mi_iload_n h dX5_stand_51 (by rfl) ?_
        refine mt_e (y := ((a.toNat : Nat) : Int)) (by omega) ?_
        refine mi_iload_n h dX5_stand_52 (by rfl) ?_
        refine mt_e (y := ((b.toNat : Nat) : Int)) (by omega) ?_
        refine mi_cV2i (hw := Nat.le_of_ble_eq_true rfl) h dX5_stand_53 ml_RX5_216 ym_yX2_kindOf (by rfl) (by rfl) (c_X2_kindOf (by omega) (by omega)) (fun r53 σ53 hp53 => ?_)
        obtain ⟨rfl, rfl⟩ := hp53
        refine mi_if_ne (tgt := 72) h dX5_stand_56 (by decide) ⟨by omega, by omega⟩ (fun e56 => ?_) (fun e56 => ?_)
        · refine mi_bipush h dX5_stand_72 (by decide) ?_
          refine mi_ireturn h hr dX5_stand_74 ?_
          first | exact Or.inl ⟨rfl, rfl, by omega⟩ | exact Or.inr (Or.inl ⟨rfl, rfl, by omega, by omega⟩) | exact Or.inr (Or.inr ⟨_, hw, by omega, by omega, Or.inl ⟨rfl, rfl, by omega⟩⟩) | exact Or.inr (Or.inr ⟨_, hw, by omega, by omega, Or.inr ⟨rfl, rfl, by omega, by omega⟩⟩)
        · refine mi_iload h dX5_stand_59 (by rfl) ?_
          refine mi_bipush h dX5_stand_61 (by decide) ?_
          refine mi_icmp_eq (tgt := 75) h dX5_stand_63 (by decide) ⟨by omega, by omega⟩ ⟨by omega, by omega⟩ (fun e63 => ?_) (fun e63 => ?_)
          · refine mi_aload_n h dX5_stand_75 (by rfl) ?_
            refine gf_X5_3 h dX5_stand_76 fl_RX5_41 ?_
            refine mi_iload_n h dX5_stand_79 (by rfl) ?_
            refine mt_e (y := ((p.toNat : Nat) : Int)) (by omega) ?_
            refine mi_iload_n h dX5_stand_80 (by rfl) ?_
            refine mi_iload_n h dX5_stand_81 (by rfl) ?_
            refine mi_iload h dX5_stand_82 (by rfl) ?_
            refine mi_cV4v (hw := Nat.le_of_ble_eq_true rfl) h dX5_stand_84 ml_RX5_222 ym_yX2_place (by rfl) (by rfl) (c_X2_place (by omega) f3) (fun r84 σ84 hp84 => ?_)
            subst hp84
            refine mi_iconst h dX5_stand_87 ?_
            refine mi_ireturn h hr dX5_stand_88 ?_
            first | exact Or.inl ⟨rfl, rfl, by omega⟩ | exact Or.inr (Or.inl ⟨rfl, rfl, by omega, by omega⟩) | exact Or.inr (Or.inr ⟨_, hw, by omega, by omega, Or.inl ⟨rfl, rfl, by omega⟩⟩) | exact Or.inr (Or.inr ⟨_, hw, by omega, by omega, Or.inr ⟨rfl, rfl, by omega, by omega⟩⟩)
          · refine mi_iload h dX5_stand_66 (by rfl) ?_
            refine mi_iload_n h dX5_stand_68 (by rfl) ?_
            refine mi_icmp_eq (tgt := 75) h dX5_stand_69 (by decide) ⟨by omega, by omega⟩ ⟨by omega, by omega⟩ (fun e69 => ?_) (fun e69 => ?_)
            · refine mi_aload_n h dX5_stand_75 (by rfl) ?_
              refine gf_X5_3 h dX5_stand_76 fl_RX5_41 ?_
              refine mi_iload_n h dX5_stand_79 (by rfl) ?_
              refine mt_e (y := ((p.toNat : Nat) : Int)) (by omega) ?_
              refine mi_iload_n h dX5_stand_80 (by rfl) ?_
              refine mi_iload_n h dX5_stand_81 (by rfl) ?_
              refine mi_iload h dX5_stand_82 (by rfl) ?_
              refine mi_cV4v (hw := Nat.le_of_ble_eq_true rfl) h dX5_stand_84 ml_RX5_222 ym_yX2_place (by rfl) (by rfl) (c_X2_place (by omega) f3) (fun r84 σ84 hp84 => ?_)
              subst hp84
              refine mi_iconst h dX5_stand_87 ?_
              refine mi_ireturn h hr dX5_stand_88 ?_
              first | exact Or.inl ⟨rfl, rfl, by omega⟩ | exact Or.inr (Or.inl ⟨rfl, rfl, by omega, by omega⟩) | exact Or.inr (Or.inr ⟨_, hw, by omega, by omega, Or.inl ⟨rfl, rfl, by omega⟩⟩) | exact Or.inr (Or.inr ⟨_, hw, by omega, by omega, Or.inr ⟨rfl, rfl, by omega, by omega⟩⟩)
            · refine mi_bipush h dX5_stand_72 (by decide) ?_
              refine mi_ireturn h hr dX5_stand_74 ?_
              first | exact Or.inl ⟨rfl, rfl, by omega⟩ | exact Or.inr (Or.inl ⟨rfl, rfl, by omega, by omega⟩) | exact Or.inr (Or.inr ⟨_, hw, by omega, by omega, Or.inl ⟨rfl, rfl, by omega⟩⟩) | exact Or.inr (Or.inr ⟨_, hw, by omega, by omega, Or.inr ⟨rfl, rfl, by omega, by omega⟩⟩)
      · refine mi_bipush h dX5_stand_33 (by decide) ?_
        refine mi_ireturn h hr dX5_stand_35 ?_
        first | exact Or.inl ⟨rfl, rfl, by omega⟩ | exact Or.inr (Or.inl ⟨rfl, rfl, by omega, by omega⟩) | exact Or.inr (Or.inr ⟨_, hw, by omega, by omega, Or.inl ⟨rfl, rfl, by omega⟩⟩) | exact Or.inr (Or.inr ⟨_, hw, by omega, by omega, Or.inr ⟨rfl, rfl, by omega, by omega⟩⟩)
    · refine mi_iconst h dX5_stand_20 ?_
      refine mi_ireturn h hr dX5_stand_21 ?_
      first | exact Or.inl ⟨rfl, rfl, by omega⟩ | exact Or.inr (Or.inl ⟨rfl, rfl, by omega, by omega⟩) | exact Or.inr (Or.inr ⟨_, hw, by omega, by omega, Or.inl ⟨rfl, rfl, by omega⟩⟩) | exact Or.inr (Or.inr ⟨_, hw, by omega, by omega, Or.inr ⟨rfl, rfl, by omega, by omega⟩⟩)
set_option maxHeartbeats 4000000 in
set_option maxRecDepth 100000 in
theorem c_X5_lift {σ : Mem} {p : Int} (hS0 : IS σ) (hF : IF σ) (hp : R32 p) : Sp1 yX5_lift cX5_lift 3 (some .int) 1 2 [vr 0, vi p] σ (fun r σ' => (r = -1 ∧ σ = σ' ∧ ¬ (0 ≤ p ∧ p < σ 1 4 ∧ bv (σ 1 12) p.toNat = 1)) ∨ (r = bv (σ 4 3) p.toNat ∧ up σ 4 3 (wb (σ 4 3) p.toNat 0) = σ' ∧ (0 ≤ p ∧ p < σ 1 4 ∧ bv (σ 1 12) p.toNat = 1))) := by
  refine Sp1_in RX5 rfl (by decide +kernel) (Nat.le_of_ble_eq_true rfl) [some (vr 0), some (vi p), none] rfl ?_
  intro K h hr
  obtain ⟨i1, i2, i3, i4, i5, i6, i7, i8⟩ := id hS0
  obtain ⟨f1, f2, f3, f4, f5, f6⟩ := id hF
  refine mi_aload_n h dX5_lift_0 (by rfl) ?_
  refine mi_iload_n h dX5_lift_1 (by rfl) ?_
  refine mi_cV1i (hw := Nat.le_of_ble_eq_true rfl) h dX5_lift_2 ml_RX5_88 ym_yX5_isHead (by rfl) (by rfl) (c_X5_isHead hS0 ⟨by omega, by omega⟩) (fun r2 σ2 hp2 => ?_)
  obtain ⟨rfl, hb2, hc2⟩ := hp2
  refine mi_if_ne (tgt := 10) h dX5_lift_5 (by decide) ⟨by omega, by omega⟩ (fun e5 => ?_) (fun e5 => ?_)
  · refine mi_aload_n h dX5_lift_10 (by rfl) ?_
    refine gf_X5_3 h dX5_lift_11 fl_RX5_41 ?_
    refine gf_X2_3 h dX5_lift_14 fl_RX5_226 ?_
    refine mi_iload_n h dX5_lift_17 (by rfl) ?_
    refine mt_e (y := ((p.toNat : Nat) : Int)) (by omega) ?_
    refine mi_cS2i (hw := Nat.le_of_ble_eq_true rfl) h dX5_lift_18 ml_RX5_94 ym_yX5_bit (c_bit f3 (by omega)) (fun r18 σ18 hp18 => ?_)
    obtain ⟨rfl, rfl⟩ := hp18
    refine mi_istore_n h dX5_lift_21 (by decide) ?_
    refine mi_aload_n h dX5_lift_22 (by rfl) ?_
    refine gf_X5_3 h dX5_lift_23 fl_RX5_41 ?_
    refine mi_aload_n h dX5_lift_26 (by rfl) ?_
    refine gf_X5_3 h dX5_lift_27 fl_RX5_41 ?_
    refine gf_X2_3 h dX5_lift_30 fl_RX5_226 ?_
    refine mi_iload_n h dX5_lift_33 (by rfl) ?_
    refine mt_e (y := ((p.toNat : Nat) : Int)) (by omega) ?_
    refine mi_iconst h dX5_lift_34 ?_
    refine mi_cS3i (hw := Nat.le_of_ble_eq_true rfl) h dX5_lift_35 ml_RX5_97 ym_yX5_withBit (c_X5_withBit f3 (by omega) (by omega)) (fun r35 σ35 hp35 => ?_)
    obtain ⟨rfl, rfl⟩ := hp35
    refine pf_X2_3 h dX5_lift_38 fl_RX5_226 ?_
    refine mi_iload_n h dX5_lift_41 (by rfl) ?_
    refine mi_ireturn h hr dX5_lift_42 ?_
    first | exact Or.inl ⟨rfl, rfl, by omega⟩ | exact Or.inr ⟨rfl, rfl, by omega, by omega, by omega⟩
  · refine mi_iconst h dX5_lift_8 ?_
    refine mi_ireturn h hr dX5_lift_9 ?_
    first | exact Or.inl ⟨rfl, rfl, by omega⟩ | exact Or.inr ⟨rfl, rfl, by omega, by omega, by omega⟩
set_option maxHeartbeats 4000000 in
set_option maxRecDepth 100000 in
theorem c_X5_wets {σ : Mem} {p a b : Int} (hS0 : IS σ) (hF : IF σ) (hp : R32 p) (ha : R32 a) (hb : R32 b) : Sp1 yX5_wets cX5_wets 4 (some .int) 1 4 [vr 0, vi p, vi a, vi b] σ (fun r σ' => σ = σ' ∧ ((r = -1 ∧ ¬ ((0 ≤ p ∧ p < σ 1 4 ∧ bv (σ 1 12) p.toNat = 1) ∧ ((0 ≤ a ∧ a < σ 4 0) ∧ (0 ≤ b ∧ b < σ 4 1)))) ∨ (((0 ≤ p ∧ p < σ 1 4 ∧ bv (σ 1 12) p.toNat = 1) ∧ ((0 ≤ a ∧ a < σ 4 0) ∧ (0 ≤ b ∧ b < σ 4 1))) ∧ ((r = -3 ∧ bv (σ 4 3) p.toNat = 0) ∨ (bv (σ 4 3) p.toNat = 1 ∧ r = b2i (wetP (σ 24) (σ 25 p.toNat) (σ 26 p.toNat) (σ 27 p.toNat) a.toNat b.toNat)))))) := by
  refine Sp1_in RX5 rfl (by decide +kernel) (Nat.le_of_ble_eq_true rfl) [some (vr 0), some (vi p), some (vi a), some (vi b)] rfl ?_
  intro K h hr
  obtain ⟨i1, i2, i3, i4, i5, i6, i7, i8⟩ := id hS0
  obtain ⟨f1, f2, f3, f4, f5, f6⟩ := id hF
  have hv9 := bv_01 (σ 4 3) p.toNat
  refine mi_aload_n h dX5_wets_0 (by rfl) ?_
  refine mi_iload_n h dX5_wets_1 (by rfl) ?_
  refine mi_cV1i (hw := Nat.le_of_ble_eq_true rfl) h dX5_wets_2 ml_RX5_88 ym_yX5_isHead (by rfl) (by rfl) (c_X5_isHead hS0 ⟨by omega, by omega⟩) (fun r2 σ2 hp2 => ?_)
  obtain ⟨rfl, hb2, hc2⟩ := hp2
  refine mi_if_eq (tgt := 20) h dX5_wets_5 (by decide) ⟨by omega, by omega⟩ (fun e5 => ?_) (fun e5 => ?_)
  · refine mi_iconst h dX5_wets_20 ?_
    refine mi_ireturn h hr dX5_wets_21 ?_
    first | exact ⟨rfl, Or.inl ⟨rfl, by omega⟩⟩ | exact ⟨rfl, Or.inr ⟨by omega, Or.inl ⟨rfl, by omega⟩⟩⟩ | exact ⟨rfl, Or.inr ⟨by omega, Or.inr ⟨by omega, by omega⟩⟩⟩
  · refine mi_aload_n h dX5_wets_8 (by rfl) ?_
    refine gf_X5_3 h dX5_wets_9 fl_RX5_41 ?_
    refine mi_iload_n h dX5_wets_12 (by rfl) ?_
    refine mi_iload_n h dX5_wets_13 (by rfl) ?_
    refine mi_cV2i (hw := Nat.le_of_ble_eq_true rfl) h dX5_wets_14 ml_RX5_210 ym_yX2_isCell (by rfl) (by rfl) (c_X2_isCell hF ⟨by omega, by omega⟩ ⟨by omega, by omega⟩) (fun r14 σ14 hp14 => ?_)
    obtain ⟨rfl, hb14, hc14⟩ := hp14
    refine mi_if_ne (tgt := 22) h dX5_wets_17 (by decide) ⟨by omega, by omega⟩ (fun e17 => ?_) (fun e17 => ?_)
    · refine mi_aload_n h dX5_wets_22 (by rfl) ?_
      refine gf_X5_3 h dX5_wets_23 fl_RX5_41 ?_
      refine gf_X2_3 h dX5_wets_26 fl_RX5_226 ?_
      refine mi_iload_n h dX5_wets_29 (by rfl) ?_
      refine mt_e (y := ((p.toNat : Nat) : Int)) (by omega) ?_
      refine mi_cS2i (hw := Nat.le_of_ble_eq_true rfl) h dX5_wets_30 ml_RX5_94 ym_yX5_bit (c_bit f3 (by omega)) (fun r30 σ30 hp30 => ?_)
      obtain ⟨rfl, rfl⟩ := hp30
      refine mi_if_ne (tgt := 39) h dX5_wets_33 (by decide) ⟨by omega, by omega⟩ (fun e33 => ?_) (fun e33 => ?_)
      · refine mi_aload_n h dX5_wets_39 (by rfl) ?_
        refine gf_X5_3 h dX5_wets_40 fl_RX5_41 ?_
        refine mi_iload_n h dX5_wets_43 (by rfl) ?_
        refine mt_e (y := ((p.toNat : Nat) : Int)) (by omega) ?_
        refine mi_iload_n h dX5_wets_44 (by rfl) ?_
        refine mt_e (y := ((a.toNat : Nat) : Int)) (by omega) ?_
        refine mi_iload_n h dX5_wets_45 (by rfl) ?_
        refine mt_e (y := ((b.toNat : Nat) : Int)) (by omega) ?_
        refine mi_cV3i (hw := Nat.le_of_ble_eq_true rfl) h dX5_wets_46 ml_RX5_229 ym_yX2_isWetBy (by rfl) (by rfl) (c_X2_isWetBy hF (by omega) (by omega) (by omega)) (fun r46 σ46 hp46 => ?_)
        obtain ⟨rfl, hb9, hc9⟩ := hp46
        have hr9 := b2i_eq hb9 hc9
        refine mi_if_eq (tgt := 56) h dX5_wets_49 (by decide) ⟨by omega, by omega⟩ (fun e49 => ?_) (fun e49 => ?_)
        · refine mi_iconst h dX5_wets_56 ?_
          refine mi_ireturn h hr dX5_wets_57 ?_
          first | exact ⟨rfl, Or.inl ⟨rfl, by omega⟩⟩ | exact ⟨rfl, Or.inr ⟨by omega, Or.inl ⟨rfl, by omega⟩⟩⟩ | exact ⟨rfl, Or.inr ⟨by omega, Or.inr ⟨by omega, by omega⟩⟩⟩
        · refine mi_iconst h dX5_wets_52 ?_
          refine mi_goto (tgt := 57) h dX5_wets_53 (by decide) ?_
          refine mi_ireturn h hr dX5_wets_57 ?_
          first | exact ⟨rfl, Or.inl ⟨rfl, by omega⟩⟩ | exact ⟨rfl, Or.inr ⟨by omega, Or.inl ⟨rfl, by omega⟩⟩⟩ | exact ⟨rfl, Or.inr ⟨by omega, Or.inr ⟨by omega, by omega⟩⟩⟩
      · refine mi_bipush h dX5_wets_36 (by decide) ?_
        refine mi_ireturn h hr dX5_wets_38 ?_
        first | exact ⟨rfl, Or.inl ⟨rfl, by omega⟩⟩ | exact ⟨rfl, Or.inr ⟨by omega, Or.inl ⟨rfl, by omega⟩⟩⟩ | exact ⟨rfl, Or.inr ⟨by omega, Or.inr ⟨by omega, by omega⟩⟩⟩
    · refine mi_iconst h dX5_wets_20 ?_
      refine mi_ireturn h hr dX5_wets_21 ?_
      first | exact ⟨rfl, Or.inl ⟨rfl, by omega⟩⟩ | exact ⟨rfl, Or.inr ⟨by omega, Or.inl ⟨rfl, by omega⟩⟩⟩ | exact ⟨rfl, Or.inr ⟨by omega, Or.inr ⟨by omega, by omega⟩⟩⟩
set_option maxHeartbeats 4000000 in
set_option maxRecDepth 100000 in
theorem c_X5_dry {σ : Mem} {i : Int} (hF : IF σ) (hi : R32 i) : Sp1 yX5_dry cX5_dry 5 (some .int) 1 5 [vr 0, vi i] σ (fun r σ' => σ = σ' ∧ firstC (fun a b => dryC σ a b = 1 ∧ cntV (dryC σ) (σ 4 1).toNat a b = i) (σ 4 0).toNat (σ 4 1).toNat (if i = -1 then cntV (dryC σ) (σ 4 1).toNat (σ 4 0).toNat 0 else -6) r) := by
  refine Sp1_in RX5 rfl (by decide +kernel) (Nat.le_of_ble_eq_true rfl) [some (vr 0), some (vi i), none, none, none] rfl ?_
  intro K h hr
  obtain ⟨f1, f2, f3, f4, f5, f6⟩ := id hF
  have outer : ∀ (m a : Nat) (l4 : Option MV), (a : Int) + m = σ 4 0 → (∀ a' b', a' < a → b' < (σ 4 1).toNat → ¬ (dryC σ a' b' = 1 ∧ cntV (dryC σ) (σ 4 1).toNat a' b' = i)) → M K 4 [some (vr 0), some (vi i), some (vi (cntV (dryC σ) (σ 4 1).toNat a 0)), some (vi (a : Int)), l4] [] σ := by
    intro m
    induction m with
    | zero =>
      intro a l4 hm hno
      have ha : (σ 4 0).toNat = a := by omega
      refine mi_iload_n h dX5_dry_4 (by rfl) ?_
      refine mi_aload_n h dX5_dry_5 (by rfl) ?_
      refine gf_X5_3 h dX5_dry_6 fl_RX5_41 ?_
      refine gf_X2_0 h dX5_dry_9 fl_RX5_232 ?_
      refine mi_icmp_ge (tgt := 71) h dX5_dry_12 (by decide) ⟨by omega, by omega⟩ ⟨by omega, by omega⟩ (fun e12 => ?_) (fun e12 => ?_)
      · refine mi_iload_n h dX5_dry_71 (by rfl) ?_
        refine mi_iconst h dX5_dry_72 ?_
        refine mi_icmp_ne (tgt := 80) h dX5_dry_73 (by decide) ⟨by omega, by omega⟩ ⟨by omega, by omega⟩ (fun e73 => ?_) (fun e73 => ?_)
        · refine mi_bipush h dX5_dry_80 (by decide) ?_
          refine mi_ireturn h hr dX5_dry_82 ?_
          refine ⟨rfl, Or.inr ⟨fun a9 b9 q1 q2 => hno a9 b9 (by omega) q2, ?_⟩⟩
          first | (rw [if_pos (by omega), ha]; done) | (rw [if_neg (by omega)]; done)
        · refine mi_iload_n h dX5_dry_76 (by rfl) ?_
          refine mi_goto (tgt := 82) h dX5_dry_77 (by decide) ?_
          refine mi_ireturn h hr dX5_dry_82 ?_
          refine ⟨rfl, Or.inr ⟨fun a9 b9 q1 q2 => hno a9 b9 (by omega) q2, ?_⟩⟩
          first | (rw [if_pos (by omega), ha]; done) | (rw [if_neg (by omega)]; done)
      · exfalso; omega
    | succ m ih =>
      intro a l4 hm hno
      have inner : ∀ (n b : Nat), (b : Int) + n = σ 4 1 → (∀ b', b' < b → ¬ (dryC σ a b' = 1 ∧ cntV (dryC σ) (σ 4 1).toNat a b' = i)) → M K 18 [some (vr 0), some (vi i), some (vi (cntV (dryC σ) (σ 4 1).toNat a b)), some (vi (a : Int)), some (vi (b : Int))] [] σ := by
        intro n
        induction n with
        | zero =>
          intro b hb hnb
          have hb2 : (σ 4 1).toNat = b := by omega
          have e9 : cntV (dryC σ) (σ 4 1).toNat a b = cntV (dryC σ) (σ 4 1).toNat (a + 1) 0 := by
            unfold cntV
            rw [hb2]
            simp only [sm]
            omega
          rw [e9]
          refine mi_iload h dX5_dry_18 (by rfl) ?_
          refine mi_aload_n h dX5_dry_20 (by rfl) ?_
          refine gf_X5_3 h dX5_dry_21 fl_RX5_41 ?_
          refine gf_X2_1 h dX5_dry_24 fl_RX5_235 ?_
          refine mi_icmp_ge (tgt := 65) h dX5_dry_27 (by decide) ⟨by omega, by omega⟩ ⟨by omega, by omega⟩ (fun e27 => ?_) (fun e27 => ?_)
          · refine mi_iinc h dX5_dry_65 (by rfl) ?_ (by decide)
            refine mi_goto (tgt := 4) h dX5_dry_68 (by decide) ?_
            exact ih (a + 1) _ (by omega) (fun a9 b9 q1 q2 => by
              by_cases e : a9 = a
              · subst e; exact hnb b9 (by omega)
              · exact hno a9 b9 (by omega) q2)
          · exfalso; omega
        | succ n ihn =>
          intro b hb hnb
          have hr9 := cntV_rng (dv := dryC σ) (cs := (σ 4 1).toNat) (a := a) (b := b) (dryC_01 σ) (by omega) (by omega) (by omega)
          have s1 : cntV (dryC σ) (σ 4 1).toNat a (b + 1) = cntV (dryC σ) (σ 4 1).toNat a b + dryC σ a b := by
            unfold cntV
            simp only [sm]
            omega
          refine mi_iload h dX5_dry_18 (by rfl) ?_
          refine mi_aload_n h dX5_dry_20 (by rfl) ?_
          refine gf_X5_3 h dX5_dry_21 fl_RX5_41 ?_
          refine gf_X2_1 h dX5_dry_24 fl_RX5_235 ?_
          refine mi_icmp_ge (tgt := 65) h dX5_dry_27 (by decide) ⟨by omega, by omega⟩ ⟨by omega, by omega⟩ (fun e27 => ?_) (fun e27 => ?_)
          · exfalso; omega
          · refine mi_aload_n h dX5_dry_30 (by rfl) ?_
            refine gf_X5_3 h dX5_dry_31 fl_RX5_41 ?_
            refine mi_iload_n h dX5_dry_34 (by rfl) ?_
            refine mi_iload h dX5_dry_35 (by rfl) ?_
            refine mi_cV2i (hw := Nat.le_of_ble_eq_true rfl) h dX5_dry_37 ml_RX5_238 ym_yX2_isDry (by rfl) (by rfl) (c_X2_isDry hF (by omega) (by omega)) (fun r37 σ37 hp37 => ?_)
            obtain ⟨rfl, hb9, hc9⟩ := hp37
            have hv9 : r37 = dryC σ a b := b2i_eq hb9 hc9
            refine mi_if_eq (tgt := 59) h dX5_dry_40 (by decide) ⟨by omega, by omega⟩ (fun e40 => ?_) (fun e40 => ?_)
            · refine mi_iinc h dX5_dry_59 (by rfl) ?_ (by decide)
              refine mi_goto (tgt := 18) h dX5_dry_62 (by decide) ?_
              have h9 := ihn (b + 1) (by omega) (fun b9 q => by
                by_cases e : b9 = b
                · subst e; first | exact fun z => by omega | exact fun z => by have := z.2; omega
                · exact hnb b9 (by omega))
              rw [s1, ← hv9] at h9
              first | (rw [show r37 = 0 by omega, Int.add_zero] at h9; exact h9) | (rw [show r37 = 1 by omega] at h9; exact h9)
            · refine mi_iload_n h dX5_dry_43 (by rfl) ?_
              refine mi_iload_n h dX5_dry_44 (by rfl) ?_
              refine mi_icmp_ne (tgt := 56) h dX5_dry_45 (by decide) ⟨by omega, by omega⟩ ⟨by omega, by omega⟩ (fun e45 => ?_) (fun e45 => ?_)
              · refine mi_iinc h dX5_dry_56 (by rfl) ?_ (by decide)
                refine mi_iinc h dX5_dry_59 (by rfl) ?_ (by decide)
                refine mi_goto (tgt := 18) h dX5_dry_62 (by decide) ?_
                have h9 := ihn (b + 1) (by omega) (fun b9 q => by
                  by_cases e : b9 = b
                  · subst e; first | exact fun z => by omega | exact fun z => by have := z.2; omega
                  · exact hnb b9 (by omega))
                rw [s1, ← hv9] at h9
                first | (rw [show r37 = 0 by omega, Int.add_zero] at h9; exact h9) | (rw [show r37 = 1 by omega] at h9; exact h9)
              · refine mi_iload_n h dX5_dry_48 (by rfl) ?_
                refine mi_bipush h dX5_dry_49 (by decide) ?_
                refine mi_imul h dX5_dry_51 ?_
                refine mi_iload h dX5_dry_52 (by rfl) ?_
                refine mi_iadd h dX5_dry_54 ?_
                refine mi_ireturn h hr dX5_dry_55 ?_
                refine ⟨rfl, Or.inl ⟨a, b, by omega, by omega, ⟨by omega, by omega⟩, fun a9 b9 q1 q2 q3 => ?_, by omega⟩⟩
                rcases q3 with q3 | ⟨q3, q4⟩
                · exact hno a9 b9 q3 q2
                · subst q3; exact hnb b9 q4
      refine mi_iload_n h dX5_dry_4 (by rfl) ?_
      refine mi_aload_n h dX5_dry_5 (by rfl) ?_
      refine gf_X5_3 h dX5_dry_6 fl_RX5_41 ?_
      refine gf_X2_0 h dX5_dry_9 fl_RX5_232 ?_
      refine mi_icmp_ge (tgt := 71) h dX5_dry_12 (by decide) ⟨by omega, by omega⟩ ⟨by omega, by omega⟩ (fun e12 => ?_) (fun e12 => ?_)
      · exfalso; omega
      · refine mi_iconst h dX5_dry_15 ?_
        refine mi_istore h dX5_dry_16 (by decide) ?_
        exact inner (σ 4 1).toNat 0 (by omega) (fun b9 q => by omega)
  refine mi_iconst h dX5_dry_0 ?_
  refine mi_istore_n h dX5_dry_1 (by decide) ?_
  refine mi_iconst h dX5_dry_2 ?_
  refine mi_istore_n h dX5_dry_3 (by decide) ?_
  have h9 := outer (σ 4 0).toNat 0 none (by omega) (fun a9 b9 q => by omega)
  rw [show cntV (dryC σ) (σ 4 1).toNat 0 0 = 0 from rfl] at h9
  exact h9
set_option maxHeartbeats 4000000 in
set_option maxRecDepth 100000 in
theorem c_X5_near {σ : Mem} {d : Int} (hF : IF σ) (hd : R32 d) : Sp1 yX5_near cX5_near 3 (some .int) 1 2 [vr 0, vi d] σ (fun r σ' => σ = σ' ∧ ((r = -2 ∧ ¬ (1 ≤ d ∧ d ≤ 30)) ∨ ((1 ≤ d ∧ d ≤ 30) ∧ firstP (nearP (bv (σ 4 3)) (σ 25) (σ 26) (d * d)) 24 (-6) r))) := by
  refine Sp1_in RX5 rfl (by decide +kernel) (Nat.le_of_ble_eq_true rfl) [some (vr 0), some (vi d), none] rfl ?_
  intro K h hr
  obtain ⟨f1, f2, f3, f4, f5, f6⟩ := id hF
  have loop : ∀ (m i : Nat), i + m = 24 → (1 ≤ d ∧ d ≤ 30) → (∀ q, q < i → ¬ nearP (bv (σ 4 3)) (σ 25) (σ 26) (d * d) q) → M K 15 [some (vr 0), some (vi d), some (vi (i : Int))] [] σ := by
    intro m
    induction m with
    | zero =>
      intro i hi h1 hno
      refine mi_iload_n h dX5_near_15 (by rfl) ?_
      refine mi_bipush h dX5_near_16 (by decide) ?_
      refine mi_icmp_ge (tgt := 43) h dX5_near_18 (by decide) ⟨by omega, by omega⟩ ⟨by omega, by omega⟩ (fun e18 => ?_) (fun e18 => ?_)
      · refine mi_bipush h dX5_near_43 (by decide) ?_
        refine mi_ireturn h hr dX5_near_45 ?_
        exact ⟨rfl, Or.inr ⟨h1, Or.inr ⟨fun q hq => hno q (by omega), rfl⟩⟩⟩
      · exfalso; omega
    | succ m ih =>
      intro i hi h1 hno
      have m1 := sq_le (a := 1) (b := d) (by omega) h1.1
      have m2 := sq_le (a := d) (b := 30) (by omega) h1.2
      refine mi_iload_n h dX5_near_15 (by rfl) ?_
      refine mi_bipush h dX5_near_16 (by decide) ?_
      refine mi_icmp_ge (tgt := 43) h dX5_near_18 (by decide) ⟨by omega, by omega⟩ ⟨by omega, by omega⟩ (fun e18 => ?_) (fun e18 => ?_)
      · exfalso; omega
      · refine mi_aload_n h dX5_near_21 (by rfl) ?_
        refine gf_X5_3 h dX5_near_22 fl_RX5_41 ?_
        refine mi_iload_n h dX5_near_25 (by rfl) ?_
        refine mi_iload_n h dX5_near_26 (by rfl) ?_
        refine mi_iload_n h dX5_near_27 (by rfl) ?_
        refine mi_imul h dX5_near_28 ?_
        refine mi_cV2i (hw := Nat.le_of_ble_eq_true rfl) h dX5_near_29 ml_RX5_241 ym_yX2_isNearAnother (by rfl) (by rfl) (c_X2_isNearAnother hF (by omega) ⟨by omega, by omega⟩) (fun r29 σ29 hp29 => ?_)
        obtain ⟨rfl, hb9, hc9⟩ := hp29
        refine mi_if_eq (tgt := 37) h dX5_near_32 (by decide) ⟨by omega, by omega⟩ (fun e32 => ?_) (fun e32 => ?_)
        · refine mi_iinc h dX5_near_37 (by rfl) ?_ (by decide)
          refine mi_goto (tgt := 15) h dX5_near_40 (by decide) ?_
          exact ih (i + 1) (by omega) h1 (fun q a1 => by
            by_cases e : q = i
            · subst e; exact fun z => by have := hc9.mpr z; omega
            · exact hno q (by omega))
        · refine mi_iload_n h dX5_near_35 (by rfl) ?_
          refine mi_ireturn h hr dX5_near_36 ?_
          exact ⟨rfl, Or.inr ⟨h1, Or.inl ⟨i, by omega, hc9.mp (by omega), hno, rfl⟩⟩⟩
  refine mi_iload_n h dX5_near_0 (by rfl) ?_
  refine mi_iconst h dX5_near_1 ?_
  refine mi_bipush h dX5_near_2 (by decide) ?_
  refine mi_cS3i (hw := Nat.le_of_ble_eq_true rfl) h dX5_near_4 ml_RX5_46 ym_yX5_isWithin (c_X5_isWithin ⟨by omega, by omega⟩ ⟨by omega, by omega⟩ ⟨by omega, by omega⟩) (fun r4 σ4 hp4 => ?_)
  obtain ⟨rfl, hb4, hc4⟩ := hp4
  refine mi_if_ne (tgt := 13) h dX5_near_7 (by decide) ⟨by omega, by omega⟩ (fun e7 => ?_) (fun e7 => ?_)
  · refine mi_iconst h dX5_near_13 ?_
    refine mi_istore_n h dX5_near_14 (by decide) ?_
    exact loop 24 0 (by omega) (by omega) (fun q a1 => by omega)
  · refine mi_bipush h dX5_near_10 (by decide) ?_
    refine mi_ireturn h hr dX5_near_12 ?_
    exact ⟨rfl, Or.inl ⟨rfl, by omega⟩⟩
set_option maxHeartbeats 4000000 in
set_option maxRecDepth 100000 in
theorem c_X5_told {σ : Mem} {w : Int} (hS0 : IS σ) (hF : IF σ) (hw : R32 w) : Sp1 yX5_told cX5_told 2 (some .int) 1 2 [vr 0, vi w] σ (fun r σ' => σ = σ' ∧ (w < 0 ∨ 9 < w → r = -2) ∧ (w = 0 → r = σ 1 1) ∧ (w = 1 → r = σ 1 4) ∧ (w = 2 → r = (pop (σ 1 12).toNat : Int)) ∧ (w = 3 → r = (pop (σ 1 13).toNat : Int)) ∧ (w = 4 → r = σ 0 5) ∧ (w = 5 → r = (pop (σ 1 11).toNat : Int)) ∧ (w = 6 → r = (pop (σ 4 3).toNat : Int)) ∧ (w = 7 → r = sm (fun i => sm (opV (σ 24) i) (σ 4 1).toNat) (σ 4 0).toNat) ∧ (w = 8 → r = σ 4 0) ∧ (w = 9 → r = σ 4 1)) := by
  refine Sp1_in RX5 rfl (by decide +kernel) (Nat.le_of_ble_eq_true rfl) [some (vr 0), some (vi w)] rfl ?_
  intro K h hr
  obtain ⟨i1, i2, i3, i4, i5, i6, i7, i8⟩ := id hS0
  obtain ⟨f1, f2, f3, f4, f5, f6⟩ := id hF
  refine mi_iload_n h dX5_told_0 (by rfl) ?_
  rcases (show (w < 0 ∨ 9 < w) ∨ w = 0 ∨ w = 1 ∨ w = 2 ∨ w = 3 ∨ w = 4 ∨ w = 5 ∨ w = 6 ∨ w = 7 ∨ w = 8 ∨ w = 9 by omega) with e1 | e1 | e1 | e1 | e1 | e1 | e1 | e1 | e1 | e1 | e1
  · refine mi_tabOut (tgt := 145) h dX5_told_1 ⟨by omega, by omega⟩ e1 (by decide) ?_
    refine mi_bipush h dX5_told_145 (by decide) ?_
    refine mi_ireturn h hr dX5_told_147 ?_
    refine ⟨rfl, fun z => ?_, fun z => ?_, fun z => ?_, fun z => ?_, fun z => ?_, fun z => ?_, fun z => ?_, fun z => ?_, fun z => ?_, fun z => ?_, fun z => ?_⟩ <;> first | rfl | (exfalso; omega)
  · subst e1
    refine mi_tabIn (tgt := 56) h dX5_told_1 (by decide) (by decide) (by decide) (off := 55) (by decide) (by decide) ?_
    refine mi_aload_n h dX5_told_56 (by rfl) ?_
    refine gf_X5_0 h dX5_told_57 fl_RX5_17 ?_
    refine gf_X1_1 h dX5_told_60 fl_RX5_57 ?_
    refine mi_ireturn h hr dX5_told_63 ?_
    refine ⟨rfl, fun z => ?_, fun z => ?_, fun z => ?_, fun z => ?_, fun z => ?_, fun z => ?_, fun z => ?_, fun z => ?_, fun z => ?_, fun z => ?_, fun z => ?_⟩ <;> first | rfl | (exfalso; omega)
  · subst e1
    refine mi_tabIn (tgt := 64) h dX5_told_1 (by decide) (by decide) (by decide) (off := 63) (by decide) (by decide) ?_
    refine mi_aload_n h dX5_told_64 (by rfl) ?_
    refine gf_X5_0 h dX5_told_65 fl_RX5_17 ?_
    refine gf_X1_4 h dX5_told_68 fl_RX5_71 ?_
    refine mi_ireturn h hr dX5_told_71 ?_
    refine ⟨rfl, fun z => ?_, fun z => ?_, fun z => ?_, fun z => ?_, fun z => ?_, fun z => ?_, fun z => ?_, fun z => ?_, fun z => ?_, fun z => ?_, fun z => ?_⟩ <;> first | rfl | (exfalso; omega)
  · subst e1
    refine mi_tabIn (tgt := 72) h dX5_told_1 (by decide) (by decide) (by decide) (off := 71) (by decide) (by decide) ?_
    refine mi_aload_n h dX5_told_72 (by rfl) ?_
    refine gf_X5_0 h dX5_told_73 fl_RX5_17 ?_
    refine gf_X1_12 h dX5_told_76 fl_RX5_146 ?_
    refine mi_cS1i (hw := Nat.le_of_ble_eq_true rfl) h dX5_told_79 ml_RX5_172 ym_yJ6_bitCount_0f7a4 (c_J6_bitCount_0f7a4 i6) (fun r79 σ79 hp79 => ?_)
    obtain ⟨rfl, rfl⟩ := hp79
    refine mi_ireturn h hr dX5_told_82 ?_
    refine ⟨rfl, fun z => ?_, fun z => ?_, fun z => ?_, fun z => ?_, fun z => ?_, fun z => ?_, fun z => ?_, fun z => ?_, fun z => ?_, fun z => ?_, fun z => ?_⟩ <;> first | rfl | (exfalso; omega)
  · subst e1
    refine mi_tabIn (tgt := 83) h dX5_told_1 (by decide) (by decide) (by decide) (off := 82) (by decide) (by decide) ?_
    refine mi_aload_n h dX5_told_83 (by rfl) ?_
    refine gf_X5_0 h dX5_told_84 fl_RX5_17 ?_
    refine gf_X1_13 h dX5_told_87 fl_RX5_91 ?_
    refine mi_cS1i (hw := Nat.le_of_ble_eq_true rfl) h dX5_told_90 ml_RX5_172 ym_yJ6_bitCount_0f7a4 (c_J6_bitCount_0f7a4 i7) (fun r90 σ90 hp90 => ?_)
    obtain ⟨rfl, rfl⟩ := hp90
    refine mi_ireturn h hr dX5_told_93 ?_
    refine ⟨rfl, fun z => ?_, fun z => ?_, fun z => ?_, fun z => ?_, fun z => ?_, fun z => ?_, fun z => ?_, fun z => ?_, fun z => ?_, fun z => ?_, fun z => ?_⟩ <;> first | rfl | (exfalso; omega)
  · subst e1
    refine mi_tabIn (tgt := 94) h dX5_told_1 (by decide) (by decide) (by decide) (off := 93) (by decide) (by decide) ?_
    refine mi_aload_n h dX5_told_94 (by rfl) ?_
    refine gf_X5_5 h dX5_told_95 fl_RX5_166 ?_
    refine mi_ireturn h hr dX5_told_98 ?_
    refine ⟨rfl, fun z => ?_, fun z => ?_, fun z => ?_, fun z => ?_, fun z => ?_, fun z => ?_, fun z => ?_, fun z => ?_, fun z => ?_, fun z => ?_, fun z => ?_⟩ <;> first | rfl | (exfalso; omega)
  · subst e1
    refine mi_tabIn (tgt := 99) h dX5_told_1 (by decide) (by decide) (by decide) (off := 98) (by decide) (by decide) ?_
    refine mi_aload_n h dX5_told_99 (by rfl) ?_
    refine gf_X5_0 h dX5_told_100 fl_RX5_17 ?_
    refine gf_X1_11 h dX5_told_103 fl_RX5_156 ?_
    refine mi_cS1i (hw := Nat.le_of_ble_eq_true rfl) h dX5_told_106 ml_RX5_172 ym_yJ6_bitCount_0f7a4 (c_J6_bitCount_0f7a4 i5) (fun r106 σ106 hp106 => ?_)
    obtain ⟨rfl, rfl⟩ := hp106
    refine mi_ireturn h hr dX5_told_109 ?_
    refine ⟨rfl, fun z => ?_, fun z => ?_, fun z => ?_, fun z => ?_, fun z => ?_, fun z => ?_, fun z => ?_, fun z => ?_, fun z => ?_, fun z => ?_, fun z => ?_⟩ <;> first | rfl | (exfalso; omega)
  · subst e1
    refine mi_tabIn (tgt := 110) h dX5_told_1 (by decide) (by decide) (by decide) (off := 109) (by decide) (by decide) ?_
    refine mi_aload_n h dX5_told_110 (by rfl) ?_
    refine gf_X5_3 h dX5_told_111 fl_RX5_41 ?_
    refine gf_X2_3 h dX5_told_114 fl_RX5_226 ?_
    refine mi_cS1i (hw := Nat.le_of_ble_eq_true rfl) h dX5_told_117 ml_RX5_172 ym_yJ6_bitCount_0f7a4 (c_J6_bitCount_0f7a4 f3) (fun r117 σ117 hp117 => ?_)
    obtain ⟨rfl, rfl⟩ := hp117
    refine mi_ireturn h hr dX5_told_120 ?_
    refine ⟨rfl, fun z => ?_, fun z => ?_, fun z => ?_, fun z => ?_, fun z => ?_, fun z => ?_, fun z => ?_, fun z => ?_, fun z => ?_, fun z => ?_, fun z => ?_⟩ <;> first | rfl | (exfalso; omega)
  · subst e1
    refine mi_tabIn (tgt := 121) h dX5_told_1 (by decide) (by decide) (by decide) (off := 120) (by decide) (by decide) ?_
    refine mi_aload_n h dX5_told_121 (by rfl) ?_
    refine gf_X5_3 h dX5_told_122 fl_RX5_41 ?_
    refine mi_cV0i (hw := Nat.le_of_ble_eq_true rfl) h dX5_told_125 ml_RX5_244 ym_yX2_countOpenCells (by rfl) (by rfl) (c_X2_countOpenCells hF) (fun r125 σ125 hp125 => ?_)
    obtain ⟨rfl, rfl⟩ := hp125
    refine mi_ireturn h hr dX5_told_128 ?_
    refine ⟨rfl, fun z => ?_, fun z => ?_, fun z => ?_, fun z => ?_, fun z => ?_, fun z => ?_, fun z => ?_, fun z => ?_, fun z => ?_, fun z => ?_, fun z => ?_⟩ <;> first | rfl | (exfalso; omega)
  · subst e1
    refine mi_tabIn (tgt := 129) h dX5_told_1 (by decide) (by decide) (by decide) (off := 128) (by decide) (by decide) ?_
    refine mi_aload_n h dX5_told_129 (by rfl) ?_
    refine gf_X5_3 h dX5_told_130 fl_RX5_41 ?_
    refine gf_X2_0 h dX5_told_133 fl_RX5_232 ?_
    refine mi_ireturn h hr dX5_told_136 ?_
    refine ⟨rfl, fun z => ?_, fun z => ?_, fun z => ?_, fun z => ?_, fun z => ?_, fun z => ?_, fun z => ?_, fun z => ?_, fun z => ?_, fun z => ?_, fun z => ?_⟩ <;> first | rfl | (exfalso; omega)
  · subst e1
    refine mi_tabIn (tgt := 137) h dX5_told_1 (by decide) (by decide) (by decide) (off := 136) (by decide) (by decide) ?_
    refine mi_aload_n h dX5_told_137 (by rfl) ?_
    refine gf_X5_3 h dX5_told_138 fl_RX5_41 ?_
    refine gf_X2_1 h dX5_told_141 fl_RX5_235 ?_
    refine mi_ireturn h hr dX5_told_144 ?_
    refine ⟨rfl, fun z => ?_, fun z => ?_, fun z => ?_, fun z => ?_, fun z => ?_, fun z => ?_, fun z => ?_, fun z => ?_, fun z => ?_, fun z => ?_, fun z => ?_⟩ <;> first | rfl | (exfalso; omega)
