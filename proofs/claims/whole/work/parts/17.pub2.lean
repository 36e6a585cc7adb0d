def prc (σ : Mem) (p : Nat) : Int := σ 9 p * σ 7 (σ 10 p).toNat
theorem prc_rng {σ : Mem} (hZ : IZ σ) (hP : IP σ) {p : Nat} (hp : p < 24) : 0 ≤ prc σ p ∧ prc σ p ≤ 10000 := by
  obtain ⟨-, h2, h3, -⟩ := hP p hp
  obtain ⟨-, h4, -⟩ := hZ (σ 10 p).toNat (by omega)
  unfold prc
  have h5 : 0 ≤ σ 9 p * σ 7 (σ 10 p).toNat := Int.mul_nonneg h2.1 h4.1
  have h6 : σ 9 p * σ 7 (σ 10 p).toNat ≤ 10 * 1000 := Int.mul_le_mul h2.2 h4.2 h4.1 (by omega)
  omega
theorem sm_rng {f : Nat → Int} {b : Int} : ∀ {n : Nat}, (∀ k, k < n → 0 ≤ f k ∧ f k ≤ b) → 0 ≤ sm f n ∧ sm f n ≤ n * b
  | 0, _ => by simp [sm]
  | n + 1, h => by
    have h1 := sm_rng (f := f) (b := b) (n := n) (fun k hk => h k (by omega))
    have h2 := h n (by omega)
    rw [sm, Int.natCast_add, Int.add_mul]
    simp only [Int.natCast_one, Int.one_mul]
    omega
theorem sm_24 {f : Nat → Int} {b : Int} {n : Nat} (hn : n ≤ 24) (hb : 0 ≤ b) (h : ∀ k, k < n → 0 ≤ f k ∧ f k ≤ b) : 0 ≤ sm f n ∧ sm f n ≤ 24 * b := by
  have h1 := sm_rng h
  have h2 : (n : Int) * b ≤ 24 * b := Int.mul_le_mul_of_nonneg_right (by omega) hb
  omega
set_option maxHeartbeats 4000000 in
set_option maxRecDepth 100000 in
theorem c_X1_priceOfAll {σ : Mem} (hS0 : IS σ) (hZ : IZ σ) (hP : IP σ) : Sp1 yX1_priceOfAll cX1_priceOfAll 3 (some .int) 1 1 [vr 1] σ (fun r σ' => σ = σ' ∧ r = sm (prc σ) (σ 1 4).toNat ∧ 0 ≤ r ∧ r ≤ 240000) := by
  refine Sp1_in RX1 rfl (by decide +kernel) (Nat.le_of_ble_eq_true rfl) [some (vr 1), none, none] rfl ?_
  intro K h hr
  obtain ⟨i1, i2, i3, i4, i5, i6, i7, i8⟩ := id hS0
  have loop : ∀ (j i : Nat), (i : Int) + j = σ 1 4 → M K 4 [some (vr 1), some (vi (sm (prc σ) i)), some (vi (i : Int))] [] σ := by
    intro j
    induction j with
    | zero =>
      intro i hi
      have hb := sm_24 (f := prc σ) (b := 10000) (n := i) (by omega) (by omega) (fun k hk => prc_rng hZ hP (by omega))
      refine mi_iload_n h dX1_priceOfAll_4 (by rfl) ?_
      refine mi_aload_n h dX1_priceOfAll_5 (by rfl) ?_
      refine gf_X1_4 h dX1_priceOfAll_6 fl_RX1_49 ?_
      refine mi_icmp_ge (tgt := 32) h dX1_priceOfAll_9 (by decide) ⟨by omega, by omega⟩ ⟨by omega, by omega⟩ (fun e9 => ?_) (fun e9 => ?_)
      · refine mi_iload_n h dX1_priceOfAll_32 (by rfl) ?_
        refine mi_ireturn h hr dX1_priceOfAll_33 ?_
        exact ⟨rfl, by rw [show (σ 1 4).toNat = i by omega], by omega, by omega⟩
      · exfalso; omega
    | succ j ih =>
      intro i hi
      have hz := (hP i (by omega)).2.2.1
      refine mi_iload_n h dX1_priceOfAll_4 (by rfl) ?_
      refine mi_aload_n h dX1_priceOfAll_5 (by rfl) ?_
      refine gf_X1_4 h dX1_priceOfAll_6 fl_RX1_49 ?_
      refine mi_icmp_ge (tgt := 32) h dX1_priceOfAll_9 (by decide) ⟨by omega, by omega⟩ ⟨by omega, by omega⟩ (fun e9 => ?_) (fun e9 => ?_)
      · exfalso; omega
      · refine mi_iload_n h dX1_priceOfAll_12 (by rfl) ?_
        refine mi_aload_n h dX1_priceOfAll_13 (by rfl) ?_
        refine mi_iload_n h dX1_priceOfAll_14 (by rfl) ?_
        refine mi_aload_n h dX1_priceOfAll_15 (by rfl) ?_
        refine gf_X1_7 h dX1_priceOfAll_16 fl_RX1_28 ?_
        refine mi_iload_n h dX1_priceOfAll_19 (by rfl) ?_
        refine mn_iaload (i) h dX1_priceOfAll_20 (by rfl) (by omega) (by omega) (by decide) ?_
        refine mt_e (y := (((σ 10 i).toNat : Nat) : Int)) (by omega) ?_
        refine mi_cV2i (hw := Nat.le_of_ble_eq_true rfl) h dX1_priceOfAll_21 ml_RX1_70 ym_yX1_priceWith (by rfl) (by rfl) (c_X1_priceWith (by omega) (by omega)) (fun r21 σ21 hp21 => ?_)
        obtain ⟨rfl, rfl⟩ := hp21
        refine mi_iadd h dX1_priceOfAll_24 ?_
        refine mi_istore_n h dX1_priceOfAll_25 (by decide) ?_
        refine mi_iinc h dX1_priceOfAll_26 (by rfl) ?_ (by decide)
        refine mi_goto (tgt := 4) h dX1_priceOfAll_29 (by decide) ?_
        exact ih (i + 1) (by omega)
  refine mi_iconst h dX1_priceOfAll_0 ?_
  refine mi_istore_n h dX1_priceOfAll_1 (by decide) ?_
  refine mi_iconst h dX1_priceOfAll_2 ?_
  refine mi_istore_n h dX1_priceOfAll_3 (by decide) ?_
  exact loop (σ 1 4).toNat 0 (by omega)
set_option maxHeartbeats 4000000 in
set_option maxRecDepth 100000 in
theorem c_X5_bill {σ : Mem} (hS0 : IS σ) (hZ : IZ σ) (hP : IP σ) : Sp1 yX5_bill cX5_bill 1 (some .long) 2 2 [vr 0] σ (fun r σ' => σ = σ' ∧ r = sm (prc σ) (σ 1 4).toNat) := by
  refine Sp1_in RX5 rfl (by decide +kernel) (Nat.le_of_ble_eq_true rfl) [some (vr 0)] rfl ?_
  intro K h hr
  refine mi_aload_n h dX5_bill_0 (by rfl) ?_
  refine gf_X5_0 h dX5_bill_1 fl_RX5_17 ?_
  refine mi_cV0i (hw := Nat.le_of_ble_eq_true rfl) h dX5_bill_4 ml_RX5_194 ym_yX1_priceOfAll (by rfl) (by rfl) (c_X1_priceOfAll hS0 hZ hP) (fun r4 σ4 hp4 => ?_)
  obtain ⟨rfl, h4, h5⟩ := hp4
  refine mi_i2l h dX5_bill_7 ⟨by omega, by omega⟩ ?_
  refine mi_lreturn h hr dX5_bill_8 ?_
  exact ⟨rfl, h4⟩
def cfr (σ : Mem) (p : Nat) (q : Nat) : Int := if σ 8 q = p then 1 else 0
set_option maxHeartbeats 4000000 in
set_option maxRecDepth 100000 in
theorem c_X1_countFrom {σ : Mem} {p : Nat} (hS0 : IS σ) (hP : IP σ) (hQ : IQ σ) (hp : (p : Int) < σ 1 4) : Sp1 yX1_countFrom cX1_countFrom 4 (some .int) 1 0 [vr 1, vi (p : Int)] σ (fun r σ' => σ = σ' ∧ r = sm (cfr σ p) (σ 1 4).toNat) := by
  refine Sp1_in RX1 rfl (by decide +kernel) (Nat.le_of_ble_eq_true rfl) [some (vr 1), some (vi (p : Int)), none, none] rfl ?_
  intro K h hr
  obtain ⟨i1, i2, i3, i4, i5, i6, i7, i8⟩ := id hS0
  have loop : ∀ (j i : Nat), (i : Int) + j = σ 1 4 → M K 6 [some (vr 1), some (vi (p : Int)), some (vi (sm (cfr σ p) i)), some (vi (i : Int))] [] σ := by
    intro j
    induction j with
    | zero =>
      intro i hi
      refine mi_iload_n h dX1_countFrom_6 (by rfl) ?_
      refine mi_aload_n h dX1_countFrom_7 (by rfl) ?_
      refine gf_X1_4 h dX1_countFrom_8 fl_RX1_49 ?_
      refine mi_icmp_ge (tgt := 33) h dX1_countFrom_11 (by decide) ⟨by omega, by omega⟩ ⟨by omega, by omega⟩ (fun e11 => ?_) (fun e11 => ?_)
      · refine mi_iload_n h dX1_countFrom_33 (by rfl) ?_
        refine mi_ireturn h hr dX1_countFrom_34 ?_
        exact ⟨rfl, by rw [show (σ 1 4).toNat = i by omega]⟩
      · exfalso; omega
    | succ j ih =>
      intro i hi
      have hz := (hP i (by omega)).1
      have hq : σ 8 i = p → sm (cfr σ p) i + 1 = sm (cfr σ p) (i + 1) := fun q => by rw [sm]; unfold cfr; rw [if_pos q]
      have hq2 : ¬ σ 8 i = p → sm (cfr σ p) i = sm (cfr σ p) (i + 1) := fun q => by rw [sm]; unfold cfr; rw [if_neg q]; omega
      refine mi_iload_n h dX1_countFrom_6 (by rfl) ?_
      refine mi_aload_n h dX1_countFrom_7 (by rfl) ?_
      refine gf_X1_4 h dX1_countFrom_8 fl_RX1_49 ?_
      refine mi_icmp_ge (tgt := 33) h dX1_countFrom_11 (by decide) ⟨by omega, by omega⟩ ⟨by omega, by omega⟩ (fun e11 => ?_) (fun e11 => ?_)
      · exfalso; omega
      · refine mi_aload_n h dX1_countFrom_14 (by rfl) ?_
        refine gf_X1_5 h dX1_countFrom_15 fl_RX1_22 ?_
        refine mi_iload_n h dX1_countFrom_18 (by rfl) ?_
        refine mn_iaload (i) h dX1_countFrom_19 (by rfl) (by omega) (by omega) (by decide) ?_
        refine mi_iload_n h dX1_countFrom_20 (by rfl) ?_
        refine mi_icmp_ne (tgt := 27) h dX1_countFrom_21 (by decide) ⟨by omega, by omega⟩ ⟨by omega, by omega⟩ (fun e21 => ?_) (fun e21 => ?_)
        · refine mi_iinc h dX1_countFrom_27 (by rfl) ?_ (by decide)
          refine mi_goto (tgt := 6) h dX1_countFrom_30 (by decide) ?_
          first | exact (hq2 (by omega)) ▸ ih (i + 1) (by omega) | exact (hq (by omega)) ▸ ih (i + 1) (by omega)
        · refine mi_iinc h dX1_countFrom_24 (by rfl) ?_ (by decide)
          refine mi_iinc h dX1_countFrom_27 (by rfl) ?_ (by decide)
          refine mi_goto (tgt := 6) h dX1_countFrom_30 (by decide) ?_
          first | exact (hq2 (by omega)) ▸ ih (i + 1) (by omega) | exact (hq (by omega)) ▸ ih (i + 1) (by omega)
  have h0 : sm (cfr σ p) (p + 1) = 0 := sm_0 (fun k hk => by have := (hQ k (by omega)).1; unfold cfr; rw [if_neg (by omega)])
  refine mi_iconst h dX1_countFrom_0 ?_
  refine mi_istore_n h dX1_countFrom_1 (by decide) ?_
  refine mi_iload_n h dX1_countFrom_2 (by rfl) ?_
  refine mi_iconst h dX1_countFrom_3 ?_
  refine mi_iadd h dX1_countFrom_4 ?_
  refine mi_istore_n h dX1_countFrom_5 (by decide) ?_
  have := loop (σ 1 4 - (p + 1)).toNat (p + 1) (by omega)
  rw [h0] at this
  exact this
set_option maxHeartbeats 4000000 in
set_option maxRecDepth 100000 in
theorem c_X5_about {σ : Mem} {p w : Int} (hS0 : IS σ) (hP : IP σ) (hQ : IQ σ) (hp : R32 p) (hw : R32 w) : Sp1 yX5_about cX5_about 3 (some .int) 1 1 [vr 0, vi p, vi w] σ (fun r σ' => σ = σ' ∧ (¬ (0 ≤ p ∧ p < σ 1 4) → r = -1) ∧ (0 ≤ p ∧ p < σ 1 4 → (w < 0 ∨ 10 < w → r = -2) ∧ (w = 0 → r = σ 8 p.toNat) ∧ (w = 1 → r = σ 9 p.toNat) ∧ (w = 2 → r = σ 10 p.toNat) ∧ (w = 3 → r = bv (σ 1 10) p.toNat) ∧ (w = 4 → r = bv (σ 1 12) p.toNat) ∧ (w = 5 → r = fnw (σ 13 p.toNat) (σ 15 p.toNat)) ∧ (w = 6 → r = σ 14 p.toNat) ∧ (w = 7 → r = bv (σ 1 13) p.toNat) ∧ (w = 8 → r = σ 15 p.toNat) ∧ (w = 9 → r = bv (σ 1 11) p.toNat) ∧ (w = 10 → r = sm (cfr σ p.toNat) (σ 1 4).toNat))) := by
  refine Sp1_in RX5 rfl (by decide +kernel) (Nat.le_of_ble_eq_true rfl) [some (vr 0), some (vi p), some (vi w)] rfl ?_
  intro K h hr
  obtain ⟨i1, i2, i3, i4, i5, i6, i7, i8⟩ := id hS0
  refine mi_aload_n h dX5_about_0 (by rfl) ?_
  refine mi_iload_n h dX5_about_1 (by rfl) ?_
  refine mi_cV1i (hw := Nat.le_of_ble_eq_true rfl) h dX5_about_2 ml_RX5_81 ym_yX5_isPipe (by rfl) (by rfl) (c_X5_isPipe hS0 ⟨by omega, by omega⟩) (fun r2 σ2 hp2 => ?_)
  obtain ⟨rfl, hb2, hc2⟩ := hp2
  refine mi_if_ne (tgt := 10) h dX5_about_5 (by decide) ⟨by omega, by omega⟩ (fun e5 => ?_) (fun e5 => ?_)
  · refine mi_iload_n h dX5_about_10 (by rfl) ?_
    rcases (show (w < 0 ∨ 10 < w) ∨ w = 0 ∨ w = 1 ∨ w = 2 ∨ w = 3 ∨ w = 4 ∨ w = 5 ∨ w = 6 ∨ w = 7 ∨ w = 8 ∨ w = 9 ∨ w = 10 by omega) with e11 | e11 | e11 | e11 | e11 | e11 | e11 | e11 | e11 | e11 | e11 | e11
    · refine mi_tabOut (tgt := 184) h dX5_about_11 ⟨by omega, by omega⟩ e11 (by decide) ?_
      refine mi_bipush h dX5_about_184 (by decide) ?_
      refine mi_ireturn h hr dX5_about_186 ?_
      refine ⟨rfl, fun q => ?_, fun q => ⟨fun z => ?_, fun z => ?_, fun z => ?_, fun z => ?_, fun z => ?_, fun z => ?_, fun z => ?_, fun z => ?_, fun z => ?_, fun z => ?_, fun z => ?_, fun z => ?_⟩⟩ <;> first | rfl | (exfalso; omega)
    · subst e11
      refine mi_tabIn (tgt := 68) h dX5_about_11 (by decide) (by decide) (by decide) (off := 57) (by decide) (by decide) ?_
      refine mi_aload_n h dX5_about_68 (by rfl) ?_
      refine gf_X5_0 h dX5_about_69 fl_RX5_17 ?_
      refine gf_X1_5 h dX5_about_72 fl_RX5_140 ?_
      refine mi_iload_n h dX5_about_75 (by rfl) ?_
      refine mn_iaload (p.toNat) h dX5_about_76 (by rfl) (by omega) (by omega) (by decide) ?_
      refine mi_ireturn h hr dX5_about_77 ?_
      refine ⟨rfl, fun q => ?_, fun q => ⟨fun z => ?_, fun z => ?_, fun z => ?_, fun z => ?_, fun z => ?_, fun z => ?_, fun z => ?_, fun z => ?_, fun z => ?_, fun z => ?_, fun z => ?_, fun z => ?_⟩⟩ <;> first | rfl | (exfalso; omega)
    · subst e11
      refine mi_tabIn (tgt := 78) h dX5_about_11 (by decide) (by decide) (by decide) (off := 67) (by decide) (by decide) ?_
      refine mi_aload_n h dX5_about_78 (by rfl) ?_
      refine gf_X5_0 h dX5_about_79 fl_RX5_17 ?_
      refine gf_X1_6 h dX5_about_82 fl_RX5_143 ?_
      refine mi_iload_n h dX5_about_85 (by rfl) ?_
      refine mn_iaload (p.toNat) h dX5_about_86 (by rfl) (by omega) (by omega) (by decide) ?_
      refine mi_ireturn h hr dX5_about_87 ?_
      refine ⟨rfl, fun q => ?_, fun q => ⟨fun z => ?_, fun z => ?_, fun z => ?_, fun z => ?_, fun z => ?_, fun z => ?_, fun z => ?_, fun z => ?_, fun z => ?_, fun z => ?_, fun z => ?_, fun z => ?_⟩⟩ <;> first | rfl | (exfalso; omega)
    · subst e11
      refine mi_tabIn (tgt := 88) h dX5_about_11 (by decide) (by decide) (by decide) (off := 77) (by decide) (by decide) ?_
      refine mi_aload_n h dX5_about_88 (by rfl) ?_
      refine gf_X5_0 h dX5_about_89 fl_RX5_17 ?_
      refine gf_X1_7 h dX5_about_92 fl_RX5_107 ?_
      refine mi_iload_n h dX5_about_95 (by rfl) ?_
      refine mn_iaload (p.toNat) h dX5_about_96 (by rfl) (by omega) (by omega) (by decide) ?_
      refine mi_ireturn h hr dX5_about_97 ?_
      refine ⟨rfl, fun q => ?_, fun q => ⟨fun z => ?_, fun z => ?_, fun z => ?_, fun z => ?_, fun z => ?_, fun z => ?_, fun z => ?_, fun z => ?_, fun z => ?_, fun z => ?_, fun z => ?_, fun z => ?_⟩⟩ <;> first | rfl | (exfalso; omega)
    · subst e11
      refine mi_tabIn (tgt := 98) h dX5_about_11 (by decide) (by decide) (by decide) (off := 87) (by decide) (by decide) ?_
      refine mi_aload_n h dX5_about_98 (by rfl) ?_
      refine gf_X5_0 h dX5_about_99 fl_RX5_17 ?_
      refine gf_X1_10 h dX5_about_102 fl_RX5_101 ?_
      refine mi_iload_n h dX5_about_105 (by rfl) ?_
      refine mt_e (y := ((p.toNat : Nat) : Int)) (by omega) ?_
      refine mi_cS2i (hw := Nat.le_of_ble_eq_true rfl) h dX5_about_106 ml_RX5_94 ym_yX5_bit (c_bit i4 (by omega)) (fun r106 σ106 hp106 => ?_)
      obtain ⟨rfl, rfl⟩ := hp106
      refine mi_ireturn h hr dX5_about_109 ?_
      refine ⟨rfl, fun q => ?_, fun q => ⟨fun z => ?_, fun z => ?_, fun z => ?_, fun z => ?_, fun z => ?_, fun z => ?_, fun z => ?_, fun z => ?_, fun z => ?_, fun z => ?_, fun z => ?_, fun z => ?_⟩⟩ <;> first | rfl | (exfalso; omega)
    · subst e11
      refine mi_tabIn (tgt := 110) h dX5_about_11 (by decide) (by decide) (by decide) (off := 99) (by decide) (by decide) ?_
      refine mi_aload_n h dX5_about_110 (by rfl) ?_
      refine gf_X5_0 h dX5_about_111 fl_RX5_17 ?_
      refine gf_X1_12 h dX5_about_114 fl_RX5_146 ?_
      refine mi_iload_n h dX5_about_117 (by rfl) ?_
      refine mt_e (y := ((p.toNat : Nat) : Int)) (by omega) ?_
      refine mi_cS2i (hw := Nat.le_of_ble_eq_true rfl) h dX5_about_118 ml_RX5_94 ym_yX5_bit (c_bit i6 (by omega)) (fun r118 σ118 hp118 => ?_)
      obtain ⟨rfl, rfl⟩ := hp118
      refine mi_ireturn h hr dX5_about_121 ?_
      refine ⟨rfl, fun q => ?_, fun q => ⟨fun z => ?_, fun z => ?_, fun z => ?_, fun z => ?_, fun z => ?_, fun z => ?_, fun z => ?_, fun z => ?_, fun z => ?_, fun z => ?_, fun z => ?_, fun z => ?_⟩⟩ <;> first | rfl | (exfalso; omega)
    · subst e11
      refine mi_tabIn (tgt := 122) h dX5_about_11 (by decide) (by decide) (by decide) (off := 111) (by decide) (by decide) ?_
      refine mi_aload_n h dX5_about_122 (by rfl) ?_
      refine gf_X5_0 h dX5_about_123 fl_RX5_17 ?_
      refine mi_iload_n h dX5_about_126 (by rfl) ?_
      refine mt_e (y := ((p.toNat : Nat) : Int)) (by omega) ?_
      refine mi_cV1i (hw := Nat.le_of_ble_eq_true rfl) h dX5_about_127 ml_RX5_149 ym_yX1_factorNow (by rfl) (by rfl) (c_X1_factorNow (by omega) (hP p.toNat (by omega)).2.2.2.1 (hP p.toNat (by omega)).2.2.2.2.2) (fun r127 σ127 hp127 => ?_)
      obtain ⟨rfl, rfl⟩ := hp127
      refine mi_ireturn h hr dX5_about_130 ?_
      refine ⟨rfl, fun q => ?_, fun q => ⟨fun z => ?_, fun z => ?_, fun z => ?_, fun z => ?_, fun z => ?_, fun z => ?_, fun z => ?_, fun z => ?_, fun z => ?_, fun z => ?_, fun z => ?_, fun z => ?_⟩⟩ <;> first | rfl | (exfalso; omega)
    · subst e11
      refine mi_tabIn (tgt := 131) h dX5_about_11 (by decide) (by decide) (by decide) (off := 120) (by decide) (by decide) ?_
      refine mi_aload_n h dX5_about_131 (by rfl) ?_
      refine gf_X5_0 h dX5_about_132 fl_RX5_17 ?_
      refine gf_X1_15 h dX5_about_135 fl_RX5_153 ?_
      refine mi_iload_n h dX5_about_138 (by rfl) ?_
      refine mn_iaload (p.toNat) h dX5_about_139 (by rfl) (by omega) (by omega) (by decide) ?_
      refine mi_ireturn h hr dX5_about_140 ?_
      refine ⟨rfl, fun q => ?_, fun q => ⟨fun z => ?_, fun z => ?_, fun z => ?_, fun z => ?_, fun z => ?_, fun z => ?_, fun z => ?_, fun z => ?_, fun z => ?_, fun z => ?_, fun z => ?_, fun z => ?_⟩⟩ <;> first | rfl | (exfalso; omega)
    · subst e11
      refine mi_tabIn (tgt := 141) h dX5_about_11 (by decide) (by decide) (by decide) (off := 130) (by decide) (by decide) ?_
      refine mi_aload_n h dX5_about_141 (by rfl) ?_
      refine gf_X5_0 h dX5_about_142 fl_RX5_17 ?_
      refine gf_X1_13 h dX5_about_145 fl_RX5_91 ?_
      refine mi_iload_n h dX5_about_148 (by rfl) ?_
      refine mt_e (y := ((p.toNat : Nat) : Int)) (by omega) ?_
      refine mi_cS2i (hw := Nat.le_of_ble_eq_true rfl) h dX5_about_149 ml_RX5_94 ym_yX5_bit (c_bit i7 (by omega)) (fun r149 σ149 hp149 => ?_)
      obtain ⟨rfl, rfl⟩ := hp149
      refine mi_ireturn h hr dX5_about_152 ?_
      refine ⟨rfl, fun q => ?_, fun q => ⟨fun z => ?_, fun z => ?_, fun z => ?_, fun z => ?_, fun z => ?_, fun z => ?_, fun z => ?_, fun z => ?_, fun z => ?_, fun z => ?_, fun z => ?_, fun z => ?_⟩⟩ <;> first | rfl | (exfalso; omega)
    · subst e11
      refine mi_tabIn (tgt := 153) h dX5_about_11 (by decide) (by decide) (by decide) (off := 142) (by decide) (by decide) ?_
      refine mi_aload_n h dX5_about_153 (by rfl) ?_
      refine gf_X5_0 h dX5_about_154 fl_RX5_17 ?_
      refine gf_X1_16 h dX5_about_157 fl_RX5_104 ?_
      refine mi_iload_n h dX5_about_160 (by rfl) ?_
      refine mn_iaload (p.toNat) h dX5_about_161 (by rfl) (by omega) (by omega) (by decide) ?_
      refine mi_ireturn h hr dX5_about_162 ?_
      refine ⟨rfl, fun q => ?_, fun q => ⟨fun z => ?_, fun z => ?_, fun z => ?_, fun z => ?_, fun z => ?_, fun z => ?_, fun z => ?_, fun z => ?_, fun z => ?_, fun z => ?_, fun z => ?_, fun z => ?_⟩⟩ <;> first | rfl | (exfalso; omega)
    · subst e11
      refine mi_tabIn (tgt := 163) h dX5_about_11 (by decide) (by decide) (by decide) (off := 152) (by decide) (by decide) ?_
      refine mi_aload_n h dX5_about_163 (by rfl) ?_
      refine gf_X5_0 h dX5_about_164 fl_RX5_17 ?_
      refine gf_X1_11 h dX5_about_167 fl_RX5_156 ?_
      refine mi_iload_n h dX5_about_170 (by rfl) ?_
      refine mt_e (y := ((p.toNat : Nat) : Int)) (by omega) ?_
      refine mi_cS2i (hw := Nat.le_of_ble_eq_true rfl) h dX5_about_171 ml_RX5_94 ym_yX5_bit (c_bit i5 (by omega)) (fun r171 σ171 hp171 => ?_)
      obtain ⟨rfl, rfl⟩ := hp171
      refine mi_ireturn h hr dX5_about_174 ?_
      refine ⟨rfl, fun q => ?_, fun q => ⟨fun z => ?_, fun z => ?_, fun z => ?_, fun z => ?_, fun z => ?_, fun z => ?_, fun z => ?_, fun z => ?_, fun z => ?_, fun z => ?_, fun z => ?_, fun z => ?_⟩⟩ <;> first | rfl | (exfalso; omega)
    · subst e11
      refine mi_tabIn (tgt := 175) h dX5_about_11 (by decide) (by decide) (by decide) (off := 164) (by decide) (by decide) ?_
      refine mi_aload_n h dX5_about_175 (by rfl) ?_
      refine gf_X5_0 h dX5_about_176 fl_RX5_17 ?_
      refine mi_iload_n h dX5_about_179 (by rfl) ?_
      refine mt_e (y := ((p.toNat : Nat) : Int)) (by omega) ?_
      refine mi_cV1i (hw := Nat.le_of_ble_eq_true rfl) h dX5_about_180 ml_RX5_159 ym_yX1_countFrom (by rfl) (by rfl) (c_X1_countFrom hS0 hP hQ (by omega)) (fun r180 σ180 hp180 => ?_)
      obtain ⟨rfl, rfl⟩ := hp180
      refine mi_ireturn h hr dX5_about_183 ?_
      refine ⟨rfl, fun q => ?_, fun q => ⟨fun z => ?_, fun z => ?_, fun z => ?_, fun z => ?_, fun z => ?_, fun z => ?_, fun z => ?_, fun z => ?_, fun z => ?_, fun z => ?_, fun z => ?_, fun z => ?_⟩⟩ <;> first | rfl | (exfalso; omega)
  · refine mi_iconst h dX5_about_8 ?_
    refine mi_ireturn h hr dX5_about_9 ?_
    refine ⟨rfl, fun q => ?_, fun q => ⟨fun z => ?_, fun z => ?_, fun z => ?_, fun z => ?_, fun z => ?_, fun z => ?_, fun z => ?_, fun z => ?_, fun z => ?_, fun z => ?_, fun z => ?_, fun z => ?_⟩⟩ <;> first | rfl | (exfalso; omega)
