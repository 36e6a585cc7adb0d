set_option maxHeartbeats 4000000 in
set_option maxRecDepth 100000 in
theorem c_X6_isCell {σ : Mem} {a b : Int} (hJ : JS σ) (ha : R32 a) (hb : R32 b) : Sp1 yX6_isCell cX6_isCell 3 (some .boolean) 1 1 [vr 28, vi a, vi b] σ (fun r σ' => σ = σ' ∧ (r = 0 ∨ r = 1) ∧ (r = 1 ↔ (0 ≤ a ∧ a < σ 28 29) ∧ (0 ≤ b ∧ b < σ 28 30))) := by
  refine Sp1_in RX6 rfl (by decide +kernel) (Nat.le_of_ble_eq_true rfl) [some (vr 28), some (vi a), some (vi b)] rfl ?_
  intro K h hr
  obtain ⟨j1, j2, j3, j4, j5, j6, j7⟩ := id hJ
  refine mi_iload_n h dX6_isCell_0 (by rfl) ?_
  refine mi_i2l h dX6_isCell_1 ⟨by omega, by omega⟩ ?_
  refine mi_lconst0 h dX6_isCell_2 ?_
  refine mi_aload_n h dX6_isCell_3 (by rfl) ?_
  refine gf_X6_29 h dX6_isCell_4 fl_RX6_88 ?_
  refine mi_iconst h dX6_isCell_7 ?_
  refine mi_isub h dX6_isCell_8 ?_
  refine mi_i2l h dX6_isCell_9 ⟨by omega, by omega⟩ ?_
  refine mi_cS3i (hw := Nat.le_of_ble_eq_true rfl) h dX6_isCell_10 ml_RX6_112 ym_yX6_in (c_X6_in ⟨by omega, by omega⟩ ⟨by omega, by omega⟩ ⟨by omega, by omega⟩) (fun r10 σ10 hp10 => ?_)
  obtain ⟨rfl, hb10, hc10⟩ := hp10
  refine mi_if_eq (tgt := 36) h dX6_isCell_13 (by decide) ⟨by omega, by omega⟩ (fun e13 => ?_) (fun e13 => ?_)
  · refine mi_iconst h dX6_isCell_36 ?_
    refine mi_zreturn h hr dX6_isCell_37 (by omega) ?_
    exact ⟨rfl, by omega, by omega⟩
  · refine mi_iload_n h dX6_isCell_16 (by rfl) ?_
    refine mi_i2l h dX6_isCell_17 ⟨by omega, by omega⟩ ?_
    refine mi_lconst0 h dX6_isCell_18 ?_
    refine mi_aload_n h dX6_isCell_19 (by rfl) ?_
    refine gf_X6_30 h dX6_isCell_20 fl_RX6_91 ?_
    refine mi_iconst h dX6_isCell_23 ?_
    refine mi_isub h dX6_isCell_24 ?_
    refine mi_i2l h dX6_isCell_25 ⟨by omega, by omega⟩ ?_
    refine mi_cS3i (hw := Nat.le_of_ble_eq_true rfl) h dX6_isCell_26 ml_RX6_112 ym_yX6_in (c_X6_in ⟨by omega, by omega⟩ ⟨by omega, by omega⟩ ⟨by omega, by omega⟩) (fun r26 σ26 hp26 => ?_)
    obtain ⟨rfl, hb26, hc26⟩ := hp26
    refine mi_if_eq (tgt := 36) h dX6_isCell_29 (by decide) ⟨by omega, by omega⟩ (fun e29 => ?_) (fun e29 => ?_)
    · refine mi_iconst h dX6_isCell_36 ?_
      refine mi_zreturn h hr dX6_isCell_37 (by omega) ?_
      exact ⟨rfl, by omega, by omega⟩
    · refine mi_iconst h dX6_isCell_32 ?_
      refine mi_goto (tgt := 37) h dX6_isCell_33 (by decide) ?_
      refine mi_zreturn h hr dX6_isCell_37 (by omega) ?_
      exact ⟨rfl, by omega, by omega⟩
set_option maxHeartbeats 4000000 in
set_option maxRecDepth 100000 in
theorem c_X6_floor {σ : Mem} {a b : Int} (ha : R32 a) (hb : R32 b) : Sp1 yX6_floor cX6_floor 4 (some .int) 1 1 [vr 28, vi a, vi b] σ (fun r σ' => (r = -2 ∧ σ = σ' ∧ ¬ ((2 ≤ a ∧ a ≤ 16) ∧ (2 ≤ b ∧ b ≤ 16))) ∨ (r = a * b ∧ upC (upC (up (up σ 28 29 a) 28 30 b) 53 (flF (σ 53) 0 256)) 54 (flF (σ 54) 0 24) = σ' ∧ (2 ≤ a ∧ a ≤ 16) ∧ (2 ≤ b ∧ b ≤ 16))) := by
  refine Sp1_in RX6 rfl (by decide +kernel) (Nat.le_of_ble_eq_true rfl) [some (vr 28), some (vi a), some (vi b), none] rfl ?_
  intro K h hr
  have loop2 : (2 ≤ a ∧ a ≤ 16) → (2 ≤ b ∧ b ≤ 16) → ∀ (j i : Nat), i + j = 24 → M K 65 [some (vr 28), some (vi a), some (vi b), some (vi (i : Int))] [] (upC (upC (up (up σ 28 29 a) 28 30 b) 53 (flF (σ 53) 0 256)) 54 (flF (σ 54) 0 i)) := by
    intro h1 h2 j
    induction j with
    | zero =>
      intro i hi
      have : i = 24 := by omega
      subst this
      refine mi_iload_n h dX6_floor_65 (by rfl) ?_
      refine mi_bipush h dX6_floor_66 (by decide) ?_
      refine mi_icmp_ge (tgt := 84) h dX6_floor_68 (by decide) ⟨by omega, by omega⟩ ⟨by omega, by omega⟩ (fun e68 => ?_) (fun e68 => ?_)
      · refine mi_iload_n h dX6_floor_84 (by rfl) ?_
        refine mi_iload_n h dX6_floor_85 (by rfl) ?_
        refine mi_imul h dX6_floor_86 ?_
        refine mi_ireturn h hr dX6_floor_87 ?_
        exact Or.inr ⟨rfl, rfl, h1, h2⟩
      · exfalso; omega
    | succ j ih =>
      intro i hi
      refine mi_iload_n h dX6_floor_65 (by rfl) ?_
      refine mi_bipush h dX6_floor_66 (by decide) ?_
      refine mi_icmp_ge (tgt := 84) h dX6_floor_68 (by decide) ⟨by omega, by omega⟩ ⟨by omega, by omega⟩ (fun e68 => ?_) (fun e68 => ?_)
      · exfalso; omega
      · refine mi_aload_n h dX6_floor_71 (by rfl) ?_
        refine gf_X6_32 h dX6_floor_72 fl_RX6_97 ?_
        refine mi_iload_n h dX6_floor_75 (by rfl) ?_
        refine mi_iconst h dX6_floor_76 ?_
        refine mn_bastore (i) h dX6_floor_77 (by rfl) (by omega) (by omega) (by decide) (by omega) ?_
        rw [flF_s]
        refine mi_iinc h dX6_floor_78 (by rfl) ?_ (by decide)
        refine mi_goto (tgt := 65) h dX6_floor_81 (by decide) ?_
        exact ih (i + 1) (by omega)
  have loop1 : (2 ≤ a ∧ a ≤ 16) → (2 ≤ b ∧ b ≤ 16) → ∀ (j i : Nat), i + j = 256 → M K 43 [some (vr 28), some (vi a), some (vi b), some (vi (i : Int))] [] (upC (up (up σ 28 29 a) 28 30 b) 53 (flF (σ 53) 0 i)) := by
    intro h1 h2 j
    induction j with
    | zero =>
      intro i hi
      have : i = 256 := by omega
      subst this
      refine mi_iload_n h dX6_floor_43 (by rfl) ?_
      refine mi_sipush h dX6_floor_44 (by decide) ?_
      refine mi_icmp_ge (tgt := 63) h dX6_floor_47 (by decide) ⟨by omega, by omega⟩ ⟨by omega, by omega⟩ (fun e47 => ?_) (fun e47 => ?_)
      · refine mi_iconst h dX6_floor_63 ?_
        refine mi_istore_n h dX6_floor_64 (by decide) ?_
        have h9 := loop2 h1 h2 24 0 (by omega)
        rw [flF_0] at h9
        have e9 := upC_0 (upC (up (up σ 28 29 a) 28 30 b) 53 (flF (σ 53) 0 256)) 54
        rw [show upC (up (up σ 28 29 a) 28 30 b) 53 (flF (σ 53) 0 256) 54 = σ 54 from rfl] at e9
        rw [e9] at h9
        exact h9
      · exfalso; omega
    | succ j ih =>
      intro i hi
      refine mi_iload_n h dX6_floor_43 (by rfl) ?_
      refine mi_sipush h dX6_floor_44 (by decide) ?_
      refine mi_icmp_ge (tgt := 63) h dX6_floor_47 (by decide) ⟨by omega, by omega⟩ ⟨by omega, by omega⟩ (fun e47 => ?_) (fun e47 => ?_)
      · exfalso; omega
      · refine mi_aload_n h dX6_floor_50 (by rfl) ?_
        refine gf_X6_31 h dX6_floor_51 fl_RX6_94 ?_
        refine mi_iload_n h dX6_floor_54 (by rfl) ?_
        refine mi_iconst h dX6_floor_55 ?_
        refine mn_iastore (i) h dX6_floor_56 (by rfl) (by omega) (by omega) (by decide) ?_
        rw [flF_s]
        refine mi_iinc h dX6_floor_57 (by rfl) ?_ (by decide)
        refine mi_goto (tgt := 43) h dX6_floor_60 (by decide) ?_
        exact ih (i + 1) (by omega)
  refine mi_iload_n h dX6_floor_0 (by rfl) ?_
  refine mi_i2l h dX6_floor_1 ⟨by omega, by omega⟩ ?_
  refine mi_ldc2 (z := 2) h dX6_floor_2 kc_RX6_233 rfl ?_
  refine mi_ldc2 (z := 16) h dX6_floor_5 kc_RX6_235 rfl ?_
  refine mi_cS3i (hw := Nat.le_of_ble_eq_true rfl) h dX6_floor_8 ml_RX6_112 ym_yX6_in (c_X6_in ⟨by omega, by omega⟩ ⟨by omega, by omega⟩ ⟨by omega, by omega⟩) (fun r8 σ8 hp8 => ?_)
  obtain ⟨rfl, hb8, hc8⟩ := hp8
  refine mi_if_eq (tgt := 28) h dX6_floor_11 (by decide) ⟨by omega, by omega⟩ (fun e11 => ?_) (fun e11 => ?_)
  · refine mi_bipush h dX6_floor_28 (by decide) ?_
    refine mi_ireturn h hr dX6_floor_30 ?_
    exact Or.inl ⟨rfl, rfl, by omega⟩
  · refine mi_iload_n h dX6_floor_14 (by rfl) ?_
    refine mi_i2l h dX6_floor_15 ⟨by omega, by omega⟩ ?_
    refine mi_ldc2 (z := 2) h dX6_floor_16 kc_RX6_233 rfl ?_
    refine mi_ldc2 (z := 16) h dX6_floor_19 kc_RX6_235 rfl ?_
    refine mi_cS3i (hw := Nat.le_of_ble_eq_true rfl) h dX6_floor_22 ml_RX6_112 ym_yX6_in (c_X6_in ⟨by omega, by omega⟩ ⟨by omega, by omega⟩ ⟨by omega, by omega⟩) (fun r22 σ22 hp22 => ?_)
    obtain ⟨rfl, hb22, hc22⟩ := hp22
    refine mi_if_ne (tgt := 31) h dX6_floor_25 (by decide) ⟨by omega, by omega⟩ (fun e25 => ?_) (fun e25 => ?_)
    · refine mi_aload_n h dX6_floor_31 (by rfl) ?_
      refine mi_iload_n h dX6_floor_32 (by rfl) ?_
      refine pf_X6_29 h dX6_floor_33 fl_RX6_88 ?_
      refine mi_aload_n h dX6_floor_36 (by rfl) ?_
      refine mi_iload_n h dX6_floor_37 (by rfl) ?_
      refine pf_X6_30 h dX6_floor_38 fl_RX6_91 ?_
      refine mi_iconst h dX6_floor_41 ?_
      refine mi_istore_n h dX6_floor_42 (by decide) ?_
      have h9 := loop1 (by omega) (by omega) 256 0 (by omega)
      rw [flF_0] at h9
      have e9 := upC_0 (up (up σ 28 29 a) 28 30 b) 53
      rw [show up (up σ 28 29 a) 28 30 b 53 = σ 53 from rfl] at e9
      rw [e9] at h9
      exact h9
    · refine mi_bipush h dX6_floor_28 (by decide) ?_
      refine mi_ireturn h hr dX6_floor_30 ?_
      exact Or.inl ⟨rfl, rfl, by omega⟩
set_option maxHeartbeats 4000000 in
set_option maxRecDepth 100000 in
theorem c_X6_standsAt {σ : Mem} {a b : Int} (hJ : JS σ) (hB : JB σ) (hF : JF σ) (ha : R32 a) (hb : R32 b) : Sp1 yX6_standsAt cX6_standsAt 4 (some .int) 1 0 [vr 28, vi a, vi b] σ (fun r σ' => σ = σ' ∧ firstP (fun p => σ 54 p = 1 ∧ σ 55 p = a ∧ σ 56 p = b) (σ 28 11).toNat (-6) r) := by
  refine Sp1_in RX6 rfl (by decide +kernel) (Nat.le_of_ble_eq_true rfl) [some (vr 28), some (vi a), some (vi b), none] rfl ?_
  intro K h hr
  obtain ⟨j1, j2, j3, j4, j5, j6, j7⟩ := id hJ
  have loop : ∀ (m i : Nat), (i : Int) + m = σ 28 11 → (∀ q, q < i → ¬ (σ 54 q = 1 ∧ σ 55 q = a ∧ σ 56 q = b)) → M K 2 [some (vr 28), some (vi a), some (vi b), some (vi (i : Int))] [] σ := by
    intro m
    induction m with
    | zero =>
      intro i hi hno
      refine mi_iload_n h dX6_standsAt_2 (by rfl) ?_
      refine mi_aload_n h dX6_standsAt_3 (by rfl) ?_
      refine gf_X6_11 h dX6_standsAt_4 fl_RX6_109 ?_
      refine mi_icmp_ge (tgt := 47) h dX6_standsAt_7 (by decide) ⟨by omega, by omega⟩ ⟨by omega, by omega⟩ (fun e7 => ?_) (fun e7 => ?_)
      · refine mi_bipush h dX6_standsAt_47 (by decide) ?_
        refine mi_ireturn h hr dX6_standsAt_49 ?_
        exact ⟨rfl, Or.inr ⟨fun q hq => hno q (by omega), rfl⟩⟩
      · exfalso; omega
    | succ m ih =>
      intro i hi hno
      have hv := (hB.1 i (by omega)).2.2.2.2
      obtain ⟨g1, g2, g3⟩ := hF.2 i (by omega)
      refine mi_iload_n h dX6_standsAt_2 (by rfl) ?_
      refine mi_aload_n h dX6_standsAt_3 (by rfl) ?_
      refine gf_X6_11 h dX6_standsAt_4 fl_RX6_109 ?_
      refine mi_icmp_ge (tgt := 47) h dX6_standsAt_7 (by decide) ⟨by omega, by omega⟩ ⟨by omega, by omega⟩ (fun e7 => ?_) (fun e7 => ?_)
      · exfalso; omega
      · refine mi_aload_n h dX6_standsAt_10 (by rfl) ?_
        refine gf_X6_32 h dX6_standsAt_11 fl_RX6_97 ?_
        refine mi_iload_n h dX6_standsAt_14 (by rfl) ?_
        refine mn_baload (i) h dX6_standsAt_15 (by rfl) (by omega) (by omega) (by decide) ?_
        refine mi_if_eq (tgt := 41) h dX6_standsAt_16 (by decide) ⟨by omega, by omega⟩ (fun e16 => ?_) (fun e16 => ?_)
        · refine mi_iinc h dX6_standsAt_41 (by rfl) ?_ (by decide)
          refine mi_goto (tgt := 2) h dX6_standsAt_44 (by decide) ?_
          exact ih (i + 1) (by omega) (fun q a1 => by
            by_cases e : q = i
            · subst e; first | exact fun z => by have := z.1; omega | exact fun z => e26 z.2.1 | exact fun z => e36 z.2.2
            · exact hno q (by omega))
        · refine mi_aload_n h dX6_standsAt_19 (by rfl) ?_
          refine gf_X6_33 h dX6_standsAt_20 fl_RX6_100 ?_
          refine mi_iload_n h dX6_standsAt_23 (by rfl) ?_
          refine mn_iaload (i) h dX6_standsAt_24 (by rfl) (by omega) (by omega) (by decide) ?_
          refine mi_iload_n h dX6_standsAt_25 (by rfl) ?_
          refine mi_icmp_ne (tgt := 41) h dX6_standsAt_26 (by decide) ⟨by omega, by omega⟩ ⟨by omega, by omega⟩ (fun e26 => ?_) (fun e26 => ?_)
          · refine mi_iinc h dX6_standsAt_41 (by rfl) ?_ (by decide)
            refine mi_goto (tgt := 2) h dX6_standsAt_44 (by decide) ?_
            exact ih (i + 1) (by omega) (fun q a1 => by
              by_cases e : q = i
              · subst e; first | exact fun z => by have := z.1; omega | exact fun z => e26 z.2.1 | exact fun z => e36 z.2.2
              · exact hno q (by omega))
          · refine mi_aload_n h dX6_standsAt_29 (by rfl) ?_
            refine gf_X6_34 h dX6_standsAt_30 fl_RX6_103 ?_
            refine mi_iload_n h dX6_standsAt_33 (by rfl) ?_
            refine mn_iaload (i) h dX6_standsAt_34 (by rfl) (by omega) (by omega) (by decide) ?_
            refine mi_iload_n h dX6_standsAt_35 (by rfl) ?_
            refine mi_icmp_ne (tgt := 41) h dX6_standsAt_36 (by decide) ⟨by omega, by omega⟩ ⟨by omega, by omega⟩ (fun e36 => ?_) (fun e36 => ?_)
            · refine mi_iinc h dX6_standsAt_41 (by rfl) ?_ (by decide)
              refine mi_goto (tgt := 2) h dX6_standsAt_44 (by decide) ?_
              exact ih (i + 1) (by omega) (fun q a1 => by
                by_cases e : q = i
                · subst e; first | exact fun z => by have := z.1; omega | exact fun z => e26 z.2.1 | exact fun z => e36 z.2.2
                · exact hno q (by omega))
            · refine mi_iload_n h dX6_standsAt_39 (by rfl) ?_
              refine mi_ireturn h hr dX6_standsAt_40 ?_
              exact ⟨rfl, Or.inl ⟨i, by omega, ⟨by omega, e26, e36⟩, hno, rfl⟩⟩
  refine mi_iconst h dX6_standsAt_0 ?_
  refine mi_istore_n h dX6_standsAt_1 (by decide) ?_
  exact loop (σ 28 11).toNat 0 (by omega) (fun q a1 => by omega)
set_option maxHeartbeats 4000000 in
set_option maxRecDepth 100000 in
theorem c_X6_cell {σ : Mem} {a b k : Int} (hJ : JS σ) (hB : JB σ) (hF : JF σ) (ha : R32 a) (hb : R32 b) (hk : R32 k) : Sp1 yX6_cell cX6_cell 5 (some .int) 1 2 [vr 28, vi a, vi b, vi k] σ (fun r σ' => (r = -1 ∧ σ = σ' ∧ ¬ ((0 ≤ a ∧ a < σ 28 29) ∧ (0 ≤ b ∧ b < σ 28 30))) ∨ (r = -2 ∧ σ = σ' ∧ ((0 ≤ a ∧ a < σ 28 29) ∧ (0 ≤ b ∧ b < σ 28 30)) ∧ ¬ (0 ≤ k ∧ k ≤ 2)) ∨ (∃ t, firstP (fun p => σ 54 p = 1 ∧ σ 55 p = a ∧ σ 56 p = b) (σ 28 11).toNat (-6) t ∧ ((0 ≤ a ∧ a < σ 28 29) ∧ (0 ≤ b ∧ b < σ 28 30)) ∧ (0 ≤ k ∧ k ≤ 2) ∧ ((r = -3 ∧ σ = σ' ∧ ¬ t = -6) ∨ (r = σ 53 (a.toNat * 16 + b.toNat) ∧ up σ 53 (a.toNat * 16 + b.toNat) k = σ' ∧ t = -6)))) := by
  refine Sp1_in RX6 rfl (by decide +kernel) (Nat.le_of_ble_eq_true rfl) [some (vr 28), some (vi a), some (vi b), some (vi k), none] rfl ?_
  intro K h hr
  obtain ⟨j1, j2, j3, j4, j5, j6, j7⟩ := id hJ
  refine mi_aload_n h dX6_cell_0 (by rfl) ?_
  refine mi_iload_n h dX6_cell_1 (by rfl) ?_
  refine mi_iload_n h dX6_cell_2 (by rfl) ?_
  refine mi_cV2i (hw := Nat.le_of_ble_eq_true rfl) h dX6_cell_3 ml_RX6_237 ym_yX6_isCell (by rfl) (by rfl) (c_X6_isCell hJ ⟨by omega, by omega⟩ ⟨by omega, by omega⟩) (fun r3 σ3 hp3 => ?_)
  obtain ⟨rfl, hb3, hc3⟩ := hp3
  refine mi_if_ne (tgt := 11) h dX6_cell_6 (by decide) ⟨by omega, by omega⟩ (fun e6 => ?_) (fun e6 => ?_)
  · refine mi_iload_n h dX6_cell_11 (by rfl) ?_
    refine mi_i2l h dX6_cell_12 ⟨by omega, by omega⟩ ?_
    refine mi_lconst0 h dX6_cell_13 ?_
    refine mi_ldc2 (z := 2) h dX6_cell_14 kc_RX6_233 rfl ?_
    refine mi_cS3i (hw := Nat.le_of_ble_eq_true rfl) h dX6_cell_17 ml_RX6_112 ym_yX6_in (c_X6_in ⟨by omega, by omega⟩ ⟨by omega, by omega⟩ ⟨by omega, by omega⟩) (fun r17 σ17 hp17 => ?_)
    obtain ⟨rfl, hb17, hc17⟩ := hp17
    refine mi_if_ne (tgt := 26) h dX6_cell_20 (by decide) ⟨by omega, by omega⟩ (fun e20 => ?_) (fun e20 => ?_)
    · refine mi_aload_n h dX6_cell_26 (by rfl) ?_
      refine mi_iload_n h dX6_cell_27 (by rfl) ?_
      refine mi_iload_n h dX6_cell_28 (by rfl) ?_
      refine mi_cV2i (hw := Nat.le_of_ble_eq_true rfl) h dX6_cell_29 ml_RX6_241 ym_yX6_standsAt (by rfl) (by rfl) (c_X6_standsAt hJ hB hF ⟨by omega, by omega⟩ ⟨by omega, by omega⟩) (fun r29 σ29 hp29 => ?_)
      obtain ⟨rfl, hw⟩ := hp29
      have hw2 : r29 = -6 ∨ (0 ≤ r29 ∧ r29 < 24) := by
        rcases hw with ⟨p9, q1, -, -, q2⟩ | ⟨-, q2⟩ <;> omega
      refine mi_if_lt (tgt := 38) h dX6_cell_32 (by decide) ⟨by omega, by omega⟩ (fun e32 => ?_) (fun e32 => ?_)
      · refine mi_aload_n h dX6_cell_38 (by rfl) ?_
        refine gf_X6_31 h dX6_cell_39 fl_RX6_94 ?_
        refine mi_bipush h dX6_cell_42 (by decide) ?_
        refine mi_iload_n h dX6_cell_44 (by rfl) ?_
        refine mi_imul h dX6_cell_45 ?_
        refine mi_iload_n h dX6_cell_46 (by rfl) ?_
        refine mi_iadd h dX6_cell_47 ?_
        refine mn_iaload (a.toNat * 16 + b.toNat) h dX6_cell_48 (by rfl) (by omega) (by omega) (by decide) ?_
        refine mi_istore h dX6_cell_49 (by decide) ?_
        refine mi_aload_n h dX6_cell_51 (by rfl) ?_
        refine gf_X6_31 h dX6_cell_52 fl_RX6_94 ?_
        refine mi_bipush h dX6_cell_55 (by decide) ?_
        refine mi_iload_n h dX6_cell_57 (by rfl) ?_
        refine mi_imul h dX6_cell_58 ?_
        refine mi_iload_n h dX6_cell_59 (by rfl) ?_
        refine mi_iadd h dX6_cell_60 ?_
        refine mi_iload_n h dX6_cell_61 (by rfl) ?_
        refine mn_iastore (a.toNat * 16 + b.toNat) h dX6_cell_62 (by rfl) (by omega) (by omega) (by decide) ?_
        refine mi_iload h dX6_cell_63 (by rfl) ?_
        refine mi_ireturn h hr dX6_cell_65 ?_
        first | exact Or.inl ⟨rfl, rfl, by omega⟩ | exact Or.inr (Or.inl ⟨rfl, rfl, by omega, by omega⟩) | exact Or.inr (Or.inr ⟨_, hw, by omega, by omega, Or.inl ⟨rfl, rfl, by omega⟩⟩) | exact Or.inr (Or.inr ⟨_, hw, by omega, by omega, Or.inr ⟨rfl, rfl, by omega⟩⟩)
      · refine mi_bipush h dX6_cell_35 (by decide) ?_
        refine mi_ireturn h hr dX6_cell_37 ?_
        first | exact Or.inl ⟨rfl, rfl, by omega⟩ | exact Or.inr (Or.inl ⟨rfl, rfl, by omega, by omega⟩) | exact Or.inr (Or.inr ⟨_, hw, by omega, by omega, Or.inl ⟨rfl, rfl, by omega⟩⟩) | exact Or.inr (Or.inr ⟨_, hw, by omega, by omega, Or.inr ⟨rfl, rfl, by omega⟩⟩)
    · refine mi_bipush h dX6_cell_23 (by decide) ?_
      refine mi_ireturn h hr dX6_cell_25 ?_
      first | exact Or.inl ⟨rfl, rfl, by omega⟩ | exact Or.inr (Or.inl ⟨rfl, rfl, by omega, by omega⟩) | exact Or.inr (Or.inr ⟨_, hw, by omega, by omega, Or.inl ⟨rfl, rfl, by omega⟩⟩) | exact Or.inr (Or.inr ⟨_, hw, by omega, by omega, Or.inr ⟨rfl, rfl, by omega⟩⟩)
  · refine mi_iconst h dX6_cell_9 ?_
    refine mi_ireturn h hr dX6_cell_10 ?_
    first | exact Or.inl ⟨rfl, rfl, by omega⟩ | exact Or.inr (Or.inl ⟨rfl, rfl, by omega, by omega⟩) | exact Or.inr (Or.inr ⟨_, hw, by omega, by omega, Or.inl ⟨rfl, rfl, by omega⟩⟩) | exact Or.inr (Or.inr ⟨_, hw, by omega, by omega, Or.inr ⟨rfl, rfl, by omega⟩⟩)
set_option maxHeartbeats 4000000 in
set_option maxRecDepth 100000 in
theorem c_X6_stand {σ : Mem} {p a b e : Int} (hJ : JS σ) (hB : JB σ) (hF : JF σ) (hp : R32 p) (ha : R32 a) (hb : R32 b) (he : R32 e) : Sp1 yX6_stand cX6_stand 6 (some .int) 1 3 [vr 28, vi p, vi a, vi b, vi e] σ (fun r σ' => (r = -1 ∧ σ = σ' ∧ ¬ ((0 ≤ p ∧ p < σ 28 11 ∧ σ 37 p.toNat = 1) ∧ ((0 ≤ a ∧ a < σ 28 29) ∧ (0 ≤ b ∧ b < σ 28 30)))) ∨ (r = -2 ∧ σ = σ' ∧ ((0 ≤ p ∧ p < σ 28 11 ∧ σ 37 p.toNat = 1) ∧ ((0 ≤ a ∧ a < σ 28 29) ∧ (0 ≤ b ∧ b < σ 28 30))) ∧ ¬ (1 ≤ e ∧ e ≤ 12)) ∨ (∃ t, firstP (fun p => σ 54 p = 1 ∧ σ 55 p = a ∧ σ 56 p = b) (σ 28 11).toNat (-6) t ∧ ((0 ≤ p ∧ p < σ 28 11 ∧ σ 37 p.toNat = 1) ∧ ((0 ≤ a ∧ a < σ 28 29) ∧ (0 ≤ b ∧ b < σ 28 30))) ∧ (1 ≤ e ∧ e ≤ 12) ∧ ((r = -5 ∧ σ = σ' ∧ (¬ σ 53 (a.toNat * 16 + b.toNat) = 0 ∨ (¬ t = -6 ∧ ¬ t = p))) ∨ (r = 1 ∧ up (up (up (up σ 54 p.toNat 1) 55 p.toNat a) 56 p.toNat b) 57 p.toNat e = σ' ∧ σ 53 (a.toNat * 16 + b.toNat) = 0 ∧ (t = -6 ∨ t = p))))) := by
  refine Sp1_in RX6 rfl (by decide +kernel) (Nat.le_of_ble_eq_true rfl) [some (vr 28), some (vi p), some (vi a), some (vi b), some (vi e), none] rfl ?_
  intro K h hr
  obtain ⟨j1, j2, j3, j4, j5, j6, j7⟩ := id hJ
  refine mi_aload_n h dX6_stand_0 (by rfl) ?_
  refine mi_iload_n h dX6_stand_1 (by rfl) ?_
  refine mi_cV1i (hw := Nat.le_of_ble_eq_true rfl) h dX6_stand_2 ml_RX6_140 ym_yX6_isHead (by rfl) (by rfl) (c_X6_isHead hJ hB ⟨by omega, by omega⟩) (fun r2 σ2 hp2 => ?_)
  obtain ⟨rfl, hb2, hc2⟩ := hp2
  refine mi_if_eq (tgt := 17) h dX6_stand_5 (by decide) ⟨by omega, by omega⟩ (fun e5 => ?_) (fun e5 => ?_)
  · refine mi_iconst h dX6_stand_17 ?_
    refine mi_ireturn h hr dX6_stand_18 ?_
    first | exact Or.inl ⟨rfl, rfl, by omega⟩ | exact Or.inr (Or.inl ⟨rfl, rfl, by omega, by omega⟩) | exact Or.inr (Or.inr ⟨_, hw, by omega, by omega, Or.inl ⟨rfl, rfl, by omega⟩⟩) | exact Or.inr (Or.inr ⟨_, hw, by omega, by omega, Or.inr ⟨rfl, rfl, by omega, by omega⟩⟩)
  · refine mi_aload_n h dX6_stand_8 (by rfl) ?_
    refine mi_iload_n h dX6_stand_9 (by rfl) ?_
    refine mi_iload_n h dX6_stand_10 (by rfl) ?_
    refine mi_cV2i (hw := Nat.le_of_ble_eq_true rfl) h dX6_stand_11 ml_RX6_237 ym_yX6_isCell (by rfl) (by rfl) (c_X6_isCell hJ ⟨by omega, by omega⟩ ⟨by omega, by omega⟩) (fun r11 σ11 hp11 => ?_)
    obtain ⟨rfl, hb11, hc11⟩ := hp11
    refine mi_if_ne (tgt := 19) h dX6_stand_14 (by decide) ⟨by omega, by omega⟩ (fun e14 => ?_) (fun e14 => ?_)
    · refine mi_iload h dX6_stand_19 (by rfl) ?_
      refine mi_i2l h dX6_stand_21 ⟨by omega, by omega⟩ ?_
      refine mi_lconst1 h dX6_stand_22 ?_
      refine mi_ldc2 (z := 12) h dX6_stand_23 kc_RX6_245 rfl ?_
      refine mi_cS3i (hw := Nat.le_of_ble_eq_true rfl) h dX6_stand_26 ml_RX6_112 ym_yX6_in (c_X6_in ⟨by omega, by omega⟩ ⟨by omega, by omega⟩ ⟨by omega, by omega⟩) (fun r26 σ26 hp26 => ?_)
      obtain ⟨rfl, hb26, hc26⟩ := hp26
      refine mi_if_ne (tgt := 35) h dX6_stand_29 (by decide) ⟨by omega, by omega⟩ (fun e29 => ?_) (fun e29 => ?_)
      · refine mi_aload_n h dX6_stand_35 (by rfl) ?_
        refine mi_iload_n h dX6_stand_36 (by rfl) ?_
        refine mi_iload_n h dX6_stand_37 (by rfl) ?_
        refine mi_cV2i (hw := Nat.le_of_ble_eq_true rfl) h dX6_stand_38 ml_RX6_241 ym_yX6_standsAt (by rfl) (by rfl) (c_X6_standsAt hJ hB hF ⟨by omega, by omega⟩ ⟨by omega, by omega⟩) (fun r38 σ38 hp38 => ?_)
        obtain ⟨rfl, hw⟩ := hp38
        have hw2 : r38 = -6 ∨ (0 ≤ r38 ∧ r38 < 24) := by
          rcases hw with ⟨p9, q1, -, -, q2⟩ | ⟨-, q2⟩ <;> omega
        have hk := hF.1 (a.toNat * 16 + b.toNat) (by omega)
        refine mi_istore h dX6_stand_41 (by decide) ?_
        refine mi_aload_n h dX6_stand_43 (by rfl) ?_
        refine gf_X6_31 h dX6_stand_44 fl_RX6_94 ?_
        refine mi_bipush h dX6_stand_47 (by decide) ?_
        refine mi_iload_n h dX6_stand_49 (by rfl) ?_
        refine mi_imul h dX6_stand_50 ?_
        refine mi_iload_n h dX6_stand_51 (by rfl) ?_
        refine mi_iadd h dX6_stand_52 ?_
        refine mn_iaload (a.toNat * 16 + b.toNat) h dX6_stand_53 (by rfl) (by omega) (by omega) (by decide) ?_
        refine mi_if_ne (tgt := 68) h dX6_stand_54 (by decide) ⟨by omega, by omega⟩ (fun e54 => ?_) (fun e54 => ?_)
        · refine mi_bipush h dX6_stand_68 (by decide) ?_
          refine mi_ireturn h hr dX6_stand_70 ?_
          first | exact Or.inl ⟨rfl, rfl, by omega⟩ | exact Or.inr (Or.inl ⟨rfl, rfl, by omega, by omega⟩) | exact Or.inr (Or.inr ⟨_, hw, by omega, by omega, Or.inl ⟨rfl, rfl, by omega⟩⟩) | exact Or.inr (Or.inr ⟨_, hw, by omega, by omega, Or.inr ⟨rfl, rfl, by omega, by omega⟩⟩)
        · refine mi_iload h dX6_stand_57 (by rfl) ?_
          refine mi_if_lt (tgt := 71) h dX6_stand_59 (by decide) ⟨by omega, by omega⟩ (fun e59 => ?_) (fun e59 => ?_)
          · refine mi_aload_n h dX6_stand_71 (by rfl) ?_
            refine gf_X6_32 h dX6_stand_72 fl_RX6_97 ?_
            refine mi_iload_n h dX6_stand_75 (by rfl) ?_
            refine mi_iconst h dX6_stand_76 ?_
            refine mn_bastore (p.toNat) h dX6_stand_77 (by rfl) (by omega) (by omega) (by decide) (by omega) ?_
            refine mi_aload_n h dX6_stand_78 (by rfl) ?_
            refine gf_X6_33 h dX6_stand_79 fl_RX6_100 ?_
            refine mi_iload_n h dX6_stand_82 (by rfl) ?_
            refine mi_iload_n h dX6_stand_83 (by rfl) ?_
            refine mn_iastore (p.toNat) h dX6_stand_84 (by rfl) (by omega) (by omega) (by decide) ?_
            refine mi_aload_n h dX6_stand_85 (by rfl) ?_
            refine gf_X6_34 h dX6_stand_86 fl_RX6_103 ?_
            refine mi_iload_n h dX6_stand_89 (by rfl) ?_
            refine mi_iload_n h dX6_stand_90 (by rfl) ?_
            refine mn_iastore (p.toNat) h dX6_stand_91 (by rfl) (by omega) (by omega) (by decide) ?_
            refine mi_aload_n h dX6_stand_92 (by rfl) ?_
            refine gf_X6_35 h dX6_stand_93 fl_RX6_106 ?_
            refine mi_iload_n h dX6_stand_96 (by rfl) ?_
            refine mi_iload h dX6_stand_97 (by rfl) ?_
            refine mn_iastore (p.toNat) h dX6_stand_99 (by rfl) (by omega) (by omega) (by decide) ?_
            refine mi_iconst h dX6_stand_100 ?_
            refine mi_ireturn h hr dX6_stand_101 ?_
            first | exact Or.inl ⟨rfl, rfl, by omega⟩ | exact Or.inr (Or.inl ⟨rfl, rfl, by omega, by omega⟩) | exact Or.inr (Or.inr ⟨_, hw, by omega, by omega, Or.inl ⟨rfl, rfl, by omega⟩⟩) | exact Or.inr (Or.inr ⟨_, hw, by omega, by omega, Or.inr ⟨rfl, rfl, by omega, by omega⟩⟩)
          · refine mi_iload h dX6_stand_62 (by rfl) ?_
            refine mi_iload_n h dX6_stand_64 (by rfl) ?_
            refine mi_icmp_eq (tgt := 71) h dX6_stand_65 (by decide) ⟨by omega, by omega⟩ ⟨by omega, by omega⟩ (fun e65 => ?_) (fun e65 => ?_)
            · refine mi_aload_n h dX6_stand_71 (by rfl) ?_
              refine gf_X6_32 h dX6_stand_72 fl_RX6_97 ?_
              refine mi_iload_n h dX6_stand_75 (by rfl) ?_
              refine mi_iconst h dX6_stand_76 ?_
              refine mn_bastore (p.toNat) h dX6_stand_77 (by rfl) (by omega) (by omega) (by decide) (by omega) ?_
              refine mi_aload_n h dX6_stand_78 (by rfl) ?_
              refine gf_X6_33 h dX6_stand_79 fl_RX6_100 ?_
              refine mi_iload_n h dX6_stand_82 (by rfl) ?_
              refine mi_iload_n h dX6_stand_83 (by rfl) ?_
              refine mn_iastore (p.toNat) h dX6_stand_84 (by rfl) (by omega) (by omega) (by decide) ?_
              refine mi_aload_n h dX6_stand_85 (by rfl) ?_
              refine gf_X6_34 h dX6_stand_86 fl_RX6_103 ?_
              refine mi_iload_n h dX6_stand_89 (by rfl) ?_
              refine mi_iload_n h dX6_stand_90 (by rfl) ?_
              refine mn_iastore (p.toNat) h dX6_stand_91 (by rfl) (by omega) (by omega) (by decide) ?_
              refine mi_aload_n h dX6_stand_92 (by rfl) ?_
              refine gf_X6_35 h dX6_stand_93 fl_RX6_106 ?_
              refine mi_iload_n h dX6_stand_96 (by rfl) ?_
              refine mi_iload h dX6_stand_97 (by rfl) ?_
              refine mn_iastore (p.toNat) h dX6_stand_99 (by rfl) (by omega) (by omega) (by decide) ?_
              refine mi_iconst h dX6_stand_100 ?_
              refine mi_ireturn h hr dX6_stand_101 ?_
              first | exact Or.inl ⟨rfl, rfl, by omega⟩ | exact Or.inr (Or.inl ⟨rfl, rfl, by omega, by omega⟩) | exact Or.inr (Or.inr ⟨_, hw, by omega, by omega, Or.inl ⟨rfl, rfl, by omega⟩⟩) | exact Or.inr (Or.inr ⟨_, hw, by omega, by omega, Or.inr ⟨rfl, rfl, by omega, by omega⟩⟩)
            · refine mi_bipush h dX6_stand_68 (by decide) ?_
              refine mi_ireturn h hr dX6_stand_70 ?_
              first | exact Or.inl ⟨rfl, rfl, by omega⟩ | exact Or.inr (Or.inl ⟨rfl, rfl, by omega, by omega⟩) | exact Or.inr (Or.inr ⟨_, hw, by omega, by omega, Or.inl ⟨rfl, rfl, by omega⟩⟩) | exact Or.inr (Or.inr ⟨_, hw, by omega, by omega, Or.inr ⟨rfl, rfl, by omega, by omega⟩⟩)
      · refine mi_bipush h dX6_stand_32 (by decide) ?_
        refine mi_ireturn h hr dX6_stand_34 ?_
        first | exact Or.inl ⟨rfl, rfl, by omega⟩ | exact Or.inr (Or.inl ⟨rfl, rfl, by omega, by omega⟩) | exact Or.inr (Or.inr ⟨_, hw, by omega, by omega, Or.inl ⟨rfl, rfl, by omega⟩⟩) | exact Or.inr (Or.inr ⟨_, hw, by omega, by omega, Or.inr ⟨rfl, rfl, by omega, by omega⟩⟩)
    · refine mi_iconst h dX6_stand_17 ?_
      refine mi_ireturn h hr dX6_stand_18 ?_
      first | exact Or.inl ⟨rfl, rfl, by omega⟩ | exact Or.inr (Or.inl ⟨rfl, rfl, by omega, by omega⟩) | exact Or.inr (Or.inr ⟨_, hw, by omega, by omega, Or.inl ⟨rfl, rfl, by omega⟩⟩) | exact Or.inr (Or.inr ⟨_, hw, by omega, by omega, Or.inr ⟨rfl, rfl, by omega, by omega⟩⟩)
set_option maxHeartbeats 4000000 in
set_option maxRecDepth 100000 in
theorem c_X6_lift {σ : Mem} {p : Int} (hJ : JS σ) (hB : JB σ) (hp : R32 p) : Sp1 yX6_lift cX6_lift 3 (some .int) 1 3 [vr 28, vi p] σ (fun r σ' => (r = -1 ∧ σ = σ' ∧ ¬ (0 ≤ p ∧ p < σ 28 11 ∧ σ 37 p.toNat = 1)) ∨ (r = σ 54 p.toNat ∧ up σ 54 p.toNat 0 = σ' ∧ (0 ≤ p ∧ p < σ 28 11 ∧ σ 37 p.toNat = 1))) := by
  refine Sp1_in RX6 rfl (by decide +kernel) (Nat.le_of_ble_eq_true rfl) [some (vr 28), some (vi p), none] rfl ?_
  intro K h hr
  obtain ⟨j1, j2, j3, j4, j5, j6, j7⟩ := id hJ
  have hq : 0 ≤ p ∧ p < 24 → σ 54 p.toNat = 0 ∨ σ 54 p.toNat = 1 := fun q => (hB.1 p.toNat (by omega)).2.2.2.2
  refine mi_aload_n h dX6_lift_0 (by rfl) ?_
  refine mi_iload_n h dX6_lift_1 (by rfl) ?_
  refine mi_cV1i (hw := Nat.le_of_ble_eq_true rfl) h dX6_lift_2 ml_RX6_140 ym_yX6_isHead (by rfl) (by rfl) (c_X6_isHead hJ hB ⟨by omega, by omega⟩) (fun r2 σ2 hp2 => ?_)
  obtain ⟨rfl, hb2, hc2⟩ := hp2
  refine mi_if_ne (tgt := 10) h dX6_lift_5 (by decide) ⟨by omega, by omega⟩ (fun e5 => ?_) (fun e5 => ?_)
  · refine mi_aload_n h dX6_lift_10 (by rfl) ?_
    refine gf_X6_32 h dX6_lift_11 fl_RX6_97 ?_
    refine mi_iload_n h dX6_lift_14 (by rfl) ?_
    refine mn_baload (p.toNat) h dX6_lift_15 (by rfl) (by omega) (by omega) (by decide) ?_
    refine mi_cS1i (hw := Nat.le_of_ble_eq_true rfl) h dX6_lift_16 ml_RX6_200 ym_yX6_asInt (c_X6_asInt (by omega)) (fun r16 σ16 hp16 => ?_)
    obtain ⟨rfl, rfl⟩ := hp16
    refine mi_istore_n h dX6_lift_19 (by decide) ?_
    refine mi_aload_n h dX6_lift_20 (by rfl) ?_
    refine gf_X6_32 h dX6_lift_21 fl_RX6_97 ?_
    refine mi_iload_n h dX6_lift_24 (by rfl) ?_
    refine mi_iconst h dX6_lift_25 ?_
    refine mn_bastore (p.toNat) h dX6_lift_26 (by rfl) (by omega) (by omega) (by decide) (by omega) ?_
    refine mi_iload_n h dX6_lift_27 (by rfl) ?_
    refine mi_ireturn h hr dX6_lift_28 ?_
    first | exact Or.inl ⟨rfl, rfl, by omega⟩ | exact Or.inr ⟨rfl, rfl, by omega, by omega, by omega⟩
  · refine mi_iconst h dX6_lift_8 ?_
    refine mi_ireturn h hr dX6_lift_9 ?_
    first | exact Or.inl ⟨rfl, rfl, by omega⟩ | exact Or.inr ⟨rfl, rfl, by omega, by omega, by omega⟩
set_option maxHeartbeats 4000000 in
set_option maxRecDepth 100000 in
theorem c_X6_square {σ : Mem} {a b : Int} : Sp1 yX6_square cX6_square 2 (some .int) 1 0 [vi a, vi b] σ (fun r σ' => σ = σ' ∧ r = a * a + b * b) := by
  refine Sp1_in RX6 rfl (by decide +kernel) (Nat.le_of_ble_eq_true rfl) [some (vi a), some (vi b)] rfl ?_
  intro K h hr
  refine mi_iload_n h dX6_square_0 (by rfl) ?_
  refine mi_iload_n h dX6_square_1 (by rfl) ?_
  refine mi_imul h dX6_square_2 ?_
  refine mi_iload_n h dX6_square_3 (by rfl) ?_
  refine mi_iload_n h dX6_square_4 (by rfl) ?_
  refine mi_imul h dX6_square_5 ?_
  refine mi_iadd h dX6_square_6 ?_
  refine mi_ireturn h hr dX6_square_7 ?_
  exact ⟨rfl, rfl⟩
set_option maxHeartbeats 4000000 in
set_option maxRecDepth 100000 in
theorem c_X6_side {σ : Mem} {r1 c1 r2 c2 a b : Int} (h1 : 0 ≤ r1 ∧ r1 ≤ 16) (h2 : 0 ≤ c1 ∧ c1 ≤ 16) (h3 : 0 ≤ r2 ∧ r2 ≤ 16) (h4 : 0 ≤ c2 ∧ c2 ≤ 16) (h5 : 0 ≤ a ∧ a ≤ 17) (h6 : 0 ≤ b ∧ b ≤ 17) : Sp1 yX6_side cX6_side 7 (some .int) 1 0 [vi r1, vi c1, vi r2, vi c2, vi a, vi b] σ (fun r σ' => σ = σ' ∧ -1 ≤ r ∧ r ≤ 1 ∧ (r < 0 ↔ (r2 - r1) * (2 * b - 2 * c1 - 1) - (c2 - c1) * (2 * a - 2 * r1 - 1) < 0) ∧ (0 < r ↔ 0 < (r2 - r1) * (2 * b - 2 * c1 - 1) - (c2 - c1) * (2 * a - 2 * r1 - 1))) := by
  refine Sp1_in RX6 rfl (by decide +kernel) (Nat.le_of_ble_eq_true rfl) [some (vi r1), some (vi c1), some (vi r2), some (vi c2), some (vi a), some (vi b), none] rfl ?_
  intro K h hr
  have m1 := mul_rng (a := r2 - r1) (b := 2 * b - 2 * c1 - 1) (k := 16) (m := 40) ⟨by omega, by omega⟩ ⟨by omega, by omega⟩
  have m2 := mul_rng (a := c2 - c1) (b := 2 * a - 2 * r1 - 1) (k := 16) (m := 40) ⟨by omega, by omega⟩ ⟨by omega, by omega⟩
  refine mi_iload_n h dX6_side_0 (by rfl) ?_
  refine mi_iload_n h dX6_side_1 (by rfl) ?_
  refine mi_isub h dX6_side_2 ?_
  refine mi_iconst h dX6_side_3 ?_
  refine mi_iload h dX6_side_4 (by rfl) ?_
  refine mi_imul h dX6_side_6 ?_
  refine mi_iconst h dX6_side_7 ?_
  refine mi_iload_n h dX6_side_8 (by rfl) ?_
  refine mi_imul h dX6_side_9 ?_
  refine mi_isub h dX6_side_10 ?_
  refine mi_iconst h dX6_side_11 ?_
  refine mi_isub h dX6_side_12 ?_
  refine mi_imul h dX6_side_13 ?_
  refine mi_iload_n h dX6_side_14 (by rfl) ?_
  refine mi_iload_n h dX6_side_15 (by rfl) ?_
  refine mi_isub h dX6_side_16 ?_
  refine mi_iconst h dX6_side_17 ?_
  refine mi_iload h dX6_side_18 (by rfl) ?_
  refine mi_imul h dX6_side_20 ?_
  refine mi_iconst h dX6_side_21 ?_
  refine mi_iload_n h dX6_side_22 (by rfl) ?_
  refine mi_imul h dX6_side_23 ?_
  refine mi_isub h dX6_side_24 ?_
  refine mi_iconst h dX6_side_25 ?_
  refine mi_isub h dX6_side_26 ?_
  refine mi_imul h dX6_side_27 ?_
  refine mi_isub h dX6_side_28 ?_
  refine mi_istore h dX6_side_29 (by decide) ?_
  refine mi_iload h dX6_side_31 (by rfl) ?_
  refine mi_if_ge (tgt := 40) h dX6_side_33 (by decide) ⟨by omega, by omega⟩ (fun e33 => ?_) (fun e33 => ?_)
  · refine mi_iload h dX6_side_40 (by rfl) ?_
    refine mi_if_le (tgt := 49) h dX6_side_42 (by decide) ⟨by omega, by omega⟩ (fun e42 => ?_) (fun e42 => ?_)
    · refine mi_iconst h dX6_side_49 ?_
      refine mi_ireturn h hr dX6_side_50 ?_
      exact ⟨rfl, by omega, by omega, by omega, by omega⟩
    · refine mi_iconst h dX6_side_45 ?_
      refine mi_goto (tgt := 50) h dX6_side_46 (by decide) ?_
      refine mi_ireturn h hr dX6_side_50 ?_
      exact ⟨rfl, by omega, by omega, by omega, by omega⟩
  · refine mi_iconst h dX6_side_36 ?_
    refine mi_goto (tgt := 50) h dX6_side_37 (by decide) ?_
    refine mi_ireturn h hr dX6_side_50 ?_
    exact ⟨rfl, by omega, by omega, by omega, by omega⟩
theorem sdE (R C a b r1 c1 : Int) : R * (2 * b - 2 * c1 - 1) - C * (2 * a - 2 * r1 - 1) = 2 * (R * (b - c1) - C * (a - r1)) - R + C := by
  rw [show 2 * b - 2 * c1 - 1 = 2 * (b - c1) - 1 by omega, show 2 * a - 2 * r1 - 1 = 2 * (a - r1) - 1 by omega, Int.mul_sub R, Int.mul_sub C, Int.mul_left_comm R, Int.mul_left_comm C]
  omega
theorem sdP (R b c1 : Int) : R * (b + 1 - c1) = R * (b - c1) + R := by
  rw [show b + 1 - c1 = b - c1 + 1 by omega, Int.mul_add, Int.mul_one]
set_option maxHeartbeats 4000000 in
set_option maxRecDepth 100000 in
theorem c_X6_goesThrough {σ : Mem} {r1 c1 r2 c2 a b : Int} (h1 : 0 ≤ r1 ∧ r1 ≤ 16) (h2 : 0 ≤ c1 ∧ c1 ≤ 16) (h3 : 0 ≤ r2 ∧ r2 ≤ 16) (h4 : 0 ≤ c2 ∧ c2 ≤ 16) (h5 : 0 ≤ a ∧ a ≤ 16) (h6 : 0 ≤ b ∧ b ≤ 16) : Sp1 yX6_goesThrough cX6_goesThrough 12 (some .boolean) 1 1 [vi r1, vi c1, vi r2, vi c2, vi a, vi b] σ (fun r σ' => σ = σ' ∧ (r = 0 ∨ r = 1) ∧ (r = 1 ↔ cutP ((r2 - r1) * (b - c1) - (c2 - c1) * (a - r1)) (r2 - r1) (c2 - c1))) := by
  refine Sp1_in RX6 rfl (by decide +kernel) (Nat.le_of_ble_eq_true rfl) [some (vi r1), some (vi c1), some (vi r2), some (vi c2), some (vi a), some (vi b), none, none, none, none, none, none] rfl ?_
  intro K h hr
  have q1 := sdE (r2 - r1) (c2 - c1) a b r1 c1
  have q2 := sdE (r2 - r1) (c2 - c1) (a + 1) b r1 c1
  have q3 := sdE (r2 - r1) (c2 - c1) a (b + 1) r1 c1
  have q4 := sdE (r2 - r1) (c2 - c1) (a + 1) (b + 1) r1 c1
  rw [sdP] at q2 q3
  rw [sdP, sdP] at q4
  have j112 : ∀ (x6 x7 x8 x9 x10 v : Int), -1 ≤ x6 ∧ x6 ≤ 1 → -1 ≤ x7 ∧ x7 ≤ 1 → -1 ≤ x8 ∧ x8 ≤ 1 → -1 ≤ x9 ∧ x9 ≤ 1 → (v = 0 ∨ v = 1) → (x10 = 0 ∨ x10 = 1) → (x10 = 1 ∧ v = 1 ↔ cutP ((r2 - r1) * (b - c1) - (c2 - c1) * (a - r1)) (r2 - r1) (c2 - c1)) → M K 112 [some (vi r1), some (vi c1), some (vi r2), some (vi c2), some (vi a), some (vi b), some (vi x6), some (vi x7), some (vi x8), some (vi x9), some (vi x10), none] [vi v] σ := by
    intro x6 x7 x8 x9 x10 v k6 k7 k8 k9 kv k10 kk
    refine mi_istore h dX6_goesThrough_112 (by decide) ?_
    refine mi_iload h dX6_goesThrough_114 (by rfl) ?_
    refine mi_if_eq (tgt := 128) h dX6_goesThrough_116 (by decide) ⟨by omega, by omega⟩ (fun e116 => ?_) (fun e116 => ?_)
    · refine mi_iconst h dX6_goesThrough_128 ?_
      refine mi_zreturn h hr dX6_goesThrough_129 (by omega) ?_
      refine ⟨rfl, by omega, ?_⟩
      rw [← kk]
      omega
    · refine mi_iload h dX6_goesThrough_119 (by rfl) ?_
      refine mi_if_eq (tgt := 128) h dX6_goesThrough_121 (by decide) ⟨by omega, by omega⟩ (fun e121 => ?_) (fun e121 => ?_)
      · refine mi_iconst h dX6_goesThrough_128 ?_
        refine mi_zreturn h hr dX6_goesThrough_129 (by omega) ?_
        refine ⟨rfl, by omega, ?_⟩
        rw [← kk]
        omega
      · refine mi_iconst h dX6_goesThrough_124 ?_
        refine mi_goto (tgt := 129) h dX6_goesThrough_125 (by decide) ?_
        refine mi_zreturn h hr dX6_goesThrough_129 (by omega) ?_
        refine ⟨rfl, by omega, ?_⟩
        rw [← kk]
        omega
  have j85 : ∀ (x6 x7 x8 x9 v : Int), -1 ≤ x6 ∧ x6 ≤ 1 → -1 ≤ x7 ∧ x7 ≤ 1 → -1 ≤ x8 ∧ x8 ≤ 1 → -1 ≤ x9 ∧ x9 ≤ 1 → (v = 0 ∨ v = 1) → (v = 1 ∧ (0 < x6 ∨ 0 < x7 ∨ 0 < x8 ∨ 0 < x9) ↔ cutP ((r2 - r1) * (b - c1) - (c2 - c1) * (a - r1)) (r2 - r1) (c2 - c1)) → M K 85 [some (vi r1), some (vi c1), some (vi r2), some (vi c2), some (vi a), some (vi b), some (vi x6), some (vi x7), some (vi x8), some (vi x9), none, none] [vi v] σ := by
    intro x6 x7 x8 x9 v k6 k7 k8 k9 kv kk
    refine mi_istore h dX6_goesThrough_85 (by decide) ?_
    refine mi_iload h dX6_goesThrough_87 (by rfl) ?_
    refine mi_if_gt (tgt := 107) h dX6_goesThrough_89 (by decide) ⟨by omega, by omega⟩ (fun e89 => ?_) (fun e89 => ?_)
    · refine mi_iconst h dX6_goesThrough_107 ?_
      refine mi_goto (tgt := 112) h dX6_goesThrough_108 (by decide) ?_
      exact j112 _ _ _ _ _ _ k6 k7 k8 k9 (by omega) kv (by rw [← kk]; omega)
    · refine mi_iload h dX6_goesThrough_92 (by rfl) ?_
      refine mi_if_gt (tgt := 107) h dX6_goesThrough_94 (by decide) ⟨by omega, by omega⟩ (fun e94 => ?_) (fun e94 => ?_)
      · refine mi_iconst h dX6_goesThrough_107 ?_
        refine mi_goto (tgt := 112) h dX6_goesThrough_108 (by decide) ?_
        exact j112 _ _ _ _ _ _ k6 k7 k8 k9 (by omega) kv (by rw [← kk]; omega)
      · refine mi_iload h dX6_goesThrough_97 (by rfl) ?_
        refine mi_if_gt (tgt := 107) h dX6_goesThrough_99 (by decide) ⟨by omega, by omega⟩ (fun e99 => ?_) (fun e99 => ?_)
        · refine mi_iconst h dX6_goesThrough_107 ?_
          refine mi_goto (tgt := 112) h dX6_goesThrough_108 (by decide) ?_
          exact j112 _ _ _ _ _ _ k6 k7 k8 k9 (by omega) kv (by rw [← kk]; omega)
        · refine mi_iload h dX6_goesThrough_102 (by rfl) ?_
          refine mi_if_le (tgt := 111) h dX6_goesThrough_104 (by decide) ⟨by omega, by omega⟩ (fun e104 => ?_) (fun e104 => ?_)
          · refine mi_iconst h dX6_goesThrough_111 ?_
            exact j112 _ _ _ _ _ _ k6 k7 k8 k9 (by omega) kv (by rw [← kk]; omega)
          · refine mi_iconst h dX6_goesThrough_107 ?_
            refine mi_goto (tgt := 112) h dX6_goesThrough_108 (by decide) ?_
            exact j112 _ _ _ _ _ _ k6 k7 k8 k9 (by omega) kv (by rw [← kk]; omega)
  refine mi_iload_n h dX6_goesThrough_0 (by rfl) ?_
  refine mi_iload_n h dX6_goesThrough_1 (by rfl) ?_
  refine mi_iload_n h dX6_goesThrough_2 (by rfl) ?_
  refine mi_iload_n h dX6_goesThrough_3 (by rfl) ?_
  refine mi_iload h dX6_goesThrough_4 (by rfl) ?_
  refine mi_iload h dX6_goesThrough_6 (by rfl) ?_
  refine mi_cS6i (hw := Nat.le_of_ble_eq_true rfl) h dX6_goesThrough_8 ml_RX6_247 ym_yX6_side (c_X6_side h1 h2 h3 h4 ⟨by omega, by omega⟩ ⟨by omega, by omega⟩) (fun r8 σ8 hp8 => ?_)
  obtain ⟨rfl, ha8, hb8, hc8, hd8⟩ := hp8
  rw [q1] at hc8 hd8
  refine mi_istore h dX6_goesThrough_11 (by decide) ?_
  refine mi_iload_n h dX6_goesThrough_13 (by rfl) ?_
  refine mi_iload_n h dX6_goesThrough_14 (by rfl) ?_
  refine mi_iload_n h dX6_goesThrough_15 (by rfl) ?_
  refine mi_iload_n h dX6_goesThrough_16 (by rfl) ?_
  refine mi_iload h dX6_goesThrough_17 (by rfl) ?_
  refine mi_iconst h dX6_goesThrough_19 ?_
  refine mi_iadd h dX6_goesThrough_20 ?_
  refine mi_iload h dX6_goesThrough_21 (by rfl) ?_
  refine mi_cS6i (hw := Nat.le_of_ble_eq_true rfl) h dX6_goesThrough_23 ml_RX6_247 ym_yX6_side (c_X6_side h1 h2 h3 h4 ⟨by omega, by omega⟩ ⟨by omega, by omega⟩) (fun r23 σ23 hp23 => ?_)
  obtain ⟨rfl, ha23, hb23, hc23, hd23⟩ := hp23
  rw [q2] at hc23 hd23
  refine mi_istore h dX6_goesThrough_26 (by decide) ?_
  refine mi_iload_n h dX6_goesThrough_28 (by rfl) ?_
  refine mi_iload_n h dX6_goesThrough_29 (by rfl) ?_
  refine mi_iload_n h dX6_goesThrough_30 (by rfl) ?_
  refine mi_iload_n h dX6_goesThrough_31 (by rfl) ?_
  refine mi_iload h dX6_goesThrough_32 (by rfl) ?_
  refine mi_iload h dX6_goesThrough_34 (by rfl) ?_
  refine mi_iconst h dX6_goesThrough_36 ?_
  refine mi_iadd h dX6_goesThrough_37 ?_
  refine mi_cS6i (hw := Nat.le_of_ble_eq_true rfl) h dX6_goesThrough_38 ml_RX6_247 ym_yX6_side (c_X6_side h1 h2 h3 h4 ⟨by omega, by omega⟩ ⟨by omega, by omega⟩) (fun r38 σ38 hp38 => ?_)
  obtain ⟨rfl, ha38, hb38, hc38, hd38⟩ := hp38
  rw [q3] at hc38 hd38
  refine mi_istore h dX6_goesThrough_41 (by decide) ?_
  refine mi_iload_n h dX6_goesThrough_43 (by rfl) ?_
  refine mi_iload_n h dX6_goesThrough_44 (by rfl) ?_
  refine mi_iload_n h dX6_goesThrough_45 (by rfl) ?_
  refine mi_iload_n h dX6_goesThrough_46 (by rfl) ?_
  refine mi_iload h dX6_goesThrough_47 (by rfl) ?_
  refine mi_iconst h dX6_goesThrough_49 ?_
  refine mi_iadd h dX6_goesThrough_50 ?_
  refine mi_iload h dX6_goesThrough_51 (by rfl) ?_
  refine mi_iconst h dX6_goesThrough_53 ?_
  refine mi_iadd h dX6_goesThrough_54 ?_
  refine mi_cS6i (hw := Nat.le_of_ble_eq_true rfl) h dX6_goesThrough_55 ml_RX6_247 ym_yX6_side (c_X6_side h1 h2 h3 h4 ⟨by omega, by omega⟩ ⟨by omega, by omega⟩) (fun r55 σ55 hp55 => ?_)
  obtain ⟨rfl, ha55, hb55, hc55, hd55⟩ := hp55
  rw [q4] at hc55 hd55
  generalize (r2 - r1) * (b - c1) = X1 at *
  generalize (c2 - c1) * (a - r1) = X2 at *
  refine mi_istore h dX6_goesThrough_58 (by decide) ?_
  refine mi_iload h dX6_goesThrough_60 (by rfl) ?_
  refine mi_if_lt (tgt := 80) h dX6_goesThrough_62 (by decide) ⟨by omega, by omega⟩ (fun e62 => ?_) (fun e62 => ?_)
  · refine mi_iconst h dX6_goesThrough_80 ?_
    refine mi_goto (tgt := 85) h dX6_goesThrough_81 (by decide) ?_
    exact j85 _ _ _ _ _ ⟨by omega, by omega⟩ ⟨by omega, by omega⟩ ⟨by omega, by omega⟩ ⟨by omega, by omega⟩ (by omega) (by unfold cutP; omega)
  · refine mi_iload h dX6_goesThrough_65 (by rfl) ?_
    refine mi_if_lt (tgt := 80) h dX6_goesThrough_67 (by decide) ⟨by omega, by omega⟩ (fun e67 => ?_) (fun e67 => ?_)
    · refine mi_iconst h dX6_goesThrough_80 ?_
      refine mi_goto (tgt := 85) h dX6_goesThrough_81 (by decide) ?_
      exact j85 _ _ _ _ _ ⟨by omega, by omega⟩ ⟨by omega, by omega⟩ ⟨by omega, by omega⟩ ⟨by omega, by omega⟩ (by omega) (by unfold cutP; omega)
    · refine mi_iload h dX6_goesThrough_70 (by rfl) ?_
      refine mi_if_lt (tgt := 80) h dX6_goesThrough_72 (by decide) ⟨by omega, by omega⟩ (fun e72 => ?_) (fun e72 => ?_)
      · refine mi_iconst h dX6_goesThrough_80 ?_
        refine mi_goto (tgt := 85) h dX6_goesThrough_81 (by decide) ?_
        exact j85 _ _ _ _ _ ⟨by omega, by omega⟩ ⟨by omega, by omega⟩ ⟨by omega, by omega⟩ ⟨by omega, by omega⟩ (by omega) (by unfold cutP; omega)
      · refine mi_iload h dX6_goesThrough_75 (by rfl) ?_
        refine mi_if_ge (tgt := 84) h dX6_goesThrough_77 (by decide) ⟨by omega, by omega⟩ (fun e77 => ?_) (fun e77 => ?_)
        · refine mi_iconst h dX6_goesThrough_84 ?_
          exact j85 _ _ _ _ _ ⟨by omega, by omega⟩ ⟨by omega, by omega⟩ ⟨by omega, by omega⟩ ⟨by omega, by omega⟩ (by omega) (by unfold cutP; omega)
        · refine mi_iconst h dX6_goesThrough_80 ?_
          refine mi_goto (tgt := 85) h dX6_goesThrough_81 (by decide) ?_
          exact j85 _ _ _ _ _ ⟨by omega, by omega⟩ ⟨by omega, by omega⟩ ⟨by omega, by omega⟩ ⟨by omega, by omega⟩ (by omega) (by unfold cutP; omega)
