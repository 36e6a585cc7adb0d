/-! the scratch rows g and p -/
def SC (σ σ' : Mem) : Prop := ∃ G P, upC (upC σ 16 G) 17 P = σ'
theorem SC_rf (σ : Mem) : SC σ σ := ⟨σ 16, σ 17, by rw [upC_0]; exact upC_0 σ 17⟩
theorem SC_g (σ : Mem) (G : Nat → Int) : SC σ (upC σ 16 G) := ⟨G, σ 17, by
  have := upC_0 (upC σ 16 G) 17
  exact this⟩
theorem scr2 (σ : Mem) (G P G2 P2 : Nat → Int) : upC (upC (upC (upC σ 16 G) 17 P) 16 G2) 17 P2 = upC (upC σ 16 G2) 17 P2 := by
  funext c k
  simp only [upC_app]
  by_cases h1 : c = 17
  · simp [h1]
  · by_cases h2 : c = 16
    · simp [h2]
    · simp [h1, h2]
theorem scr1 (σ : Mem) (G P P2 : Nat → Int) : upC (upC (upC σ 16 G) 17 P) 17 P2 = upC (upC σ 16 G) 17 P2 := by
  funext c k
  simp only [upC_app]
  by_cases h1 : c = 17
  · simp [h1]
  · simp [h1]
def GvC (s m : Int) (σ : Mem) : Nat → Int := Gv s (σ 1 4).toNat (σ 8) (hdV m σ) (σ 12) (bv (σ 1 10))
def PvC (s m q : Int) (σ : Mem) : Nat → Int := Pv s (σ 1 4).toNat (σ 8) (hdV m σ) (σ 12) (bv (σ 1 10)) (1024 * q)
theorem GvC_rng {σ : Mem} {s m : Int} (hS0 : IS σ) (hP : IP σ) (hE : IE σ) (hQ : IQ σ) {e : Nat} (he : (e : Int) ≤ σ 1 4) : 0 ≤ GvC s m σ e ∧ GvC s m σ e ≤ 4915200 :=
  Gv_rng (netok hS0 hP hQ (fun e he => (hE e he).2)) (by omega)
theorem PvC_rng {σ : Mem} {s m q : Int} (hS0 : IS σ) (hP : IP σ) (hE : IE σ) (hQ : IQ σ) (hq : 0 ≤ q ∧ q ≤ 100000) {e : Nat} (he : (e : Int) ≤ σ 1 4) : 0 ≤ PvC s m q σ e ∧ PvC s m q σ e ≤ 102400000 := by
  have hN := netok (m := m) hS0 hP hQ (fun e he => (hE e he).2)
  have := prs_rng (s := s) (cl := bv (σ 1 10)) (G := GvC (1 - s) m σ) (P0 := 1024 * q) hN.1 hN.2.1 hN.2.2.2 (fun e he => GvC_rng hS0 hP hE hQ (by omega)) (by omega) (fun _ => 0) (σ 1 4).toNat (Nat.le_refl _) e (by omega)
  exact ⟨this.1, Int.le_trans this.2 (by omega)⟩
set_option maxHeartbeats 4000000 in
set_option maxRecDepth 100000 in
theorem c_X5_conduct {σ : Mem} {p s : Int} (hS0 : IS σ) (hP : IP σ) (hE : IE σ) (hQ : IQ σ) (hp : R32 p) (hs : R32 s) : Sp1 yX5_conduct cX5_conduct 3 (some .long) 2 5 [vr 0, vi p, vi s] σ (fun r σ' => SC σ σ' ∧ ((r = -1 ∧ ¬ (-1 ≤ p ∧ p < σ 1 4)) ∨ (r = -2 ∧ (-1 ≤ p ∧ p < σ 1 4) ∧ ¬ (s = 0 ∨ s = 1)) ∨ ((-1 ≤ p ∧ p < σ 1 4) ∧ (s = 0 ∨ s = 1) ∧ r = if 0 < (p + 1).toNat ∧ bv (σ 1 10) ((p + 1).toNat - 1) = 1 then 0 else cnd s (σ 12 (p + 1).toNat) (GvC s (σ 1 13) σ (p + 1).toNat)))) := by
  refine Sp1_in RX5 rfl (by decide +kernel) (Nat.le_of_ble_eq_true rfl) [some (vr 0), some (vi p), some (vi s)] rfl ?_
  intro K h hr
  obtain ⟨i1, i2, i3, i4, i5, i6, i7, i8⟩ := id hS0
  have hdr : ∀ e, e < 25 → 0 ≤ σ 12 e ∧ σ 12 e ≤ 4000 := fun e he => (hE e he).2
  have hN := netok (m := σ 1 13) hS0 hP hQ hdr
  have hG : ∀ e : Nat, (e : Int) ≤ σ 1 4 → gath s (σ 8) (hdV (σ 1 13) σ) (σ 12) (bv (σ 1 10)) (σ 1 4).toNat (flF (σ 16) 0 25) e = GvC s (σ 1 13) σ e := fun e he =>
    gath_cong _ 24 _ _ (fun q hq => (hN.2.1 q hq).2) hN.1 (fun k hk => by unfold flF; rw [if_pos (by omega)]) e (by omega)
  refine mi_aload_n h dX5_conduct_0 (by rfl) ?_
  refine mi_iload_n h dX5_conduct_1 (by rfl) ?_
  refine mi_cV1i (hw := Nat.le_of_ble_eq_true rfl) h dX5_conduct_2 ml_RX5_64 ym_yX5_isEnd (by rfl) (by rfl) (c_X5_isEnd hS0 ⟨by omega, by omega⟩) (fun r2 σ2 hp2 => ?_)
  obtain ⟨rfl, hb2, hc2⟩ := hp2
  refine mi_if_ne (tgt := 12) h dX5_conduct_5 (by decide) ⟨by omega, by omega⟩ (fun e5 => ?_) (fun e5 => ?_)
  · refine mi_iload_n h dX5_conduct_12 (by rfl) ?_
    refine mi_cS1i (hw := Nat.le_of_ble_eq_true rfl) h dX5_conduct_13 ml_RX5_116 ym_yX5_isSide (c_X5_isSide ⟨by omega, by omega⟩) (fun r13 σ13 hp13 => ?_)
    obtain ⟨rfl, hb13, hc13⟩ := hp13
    refine mi_if_ne (tgt := 23) h dX5_conduct_16 (by decide) ⟨by omega, by omega⟩ (fun e16 => ?_) (fun e16 => ?_)
    · refine mi_aload_n h dX5_conduct_23 (by rfl) ?_
      refine gf_X5_1 h dX5_conduct_24 fl_RX5_21 ?_
      refine mi_iload_n h dX5_conduct_27 (by rfl) ?_
      refine mi_aload_n h dX5_conduct_28 (by rfl) ?_
      refine gf_X5_0 h dX5_conduct_29 fl_RX5_17 ?_
      refine gf_X1_9 h dX5_conduct_32 fl_RX5_54 ?_
      refine mi_aload_n h dX5_conduct_35 (by rfl) ?_
      refine gf_X5_0 h dX5_conduct_36 fl_RX5_17 ?_
      refine gf_X1_13 h dX5_conduct_39 fl_RX5_91 ?_
      refine mi_cV3v (hw := Nat.le_of_ble_eq_true rfl) h dX5_conduct_42 ml_RX5_121 ym_yX4_gather (by rfl) (by rfl) (c_X4_gather (dc := 12) hS0 hP hQ rfl (by omega) i7 hdr (by decide)) (fun r42 σ42 hp42 => ?_)
      subst hp42
      refine mi_aload_n h dX5_conduct_45 (by rfl) ?_
      refine gf_X5_1 h dX5_conduct_46 fl_RX5_21 ?_
      refine mi_iload_n h dX5_conduct_49 (by rfl) ?_
      refine mi_iconst h dX5_conduct_50 ?_
      refine mi_iadd h dX5_conduct_51 ?_
      refine mt_e (y := (((p + 1).toNat : Nat) : Int)) (by omega) ?_
      refine mi_iload_n h dX5_conduct_52 (by rfl) ?_
      refine mi_aload_n h dX5_conduct_53 (by rfl) ?_
      refine gf_X5_0 h dX5_conduct_54 fl_RX5_17 ?_
      refine gf_X1_9 h dX5_conduct_57 fl_RX5_54 ?_
      refine mi_cV3l (hw := Nat.le_of_ble_eq_true rfl) h dX5_conduct_60 ml_RX5_125 ym_yX4_conductOf (by rfl) (by rfl) (c_X4_conductOf (σ := upC σ 16 (gath s (σ 8) (hdV (σ 1 13) σ) (σ 12) (bv (σ 1 10)) (σ 1 4).toNat (flF (σ 16) 0 25))) (e := (p + 1).toNat) (dc := 12) i4 (by omega) rfl (by omega) (hdr _ (by omega)) (by rw [upC_eq, hG _ (by omega)]; exact GvC_rng hS0 hP hE hQ (by omega))) (fun r60 σ60 hp60 => ?_)
      obtain ⟨rfl, hv60⟩ := hp60
      rw [upC_eq, hG _ (by omega)] at hv60
      refine mi_lreturn h hr dX5_conduct_63 ?_
      exact ⟨SC_g _ _, Or.inr (Or.inr ⟨by omega, by omega, hv60⟩)⟩
    · refine mi_ldc2 (z := -2) h dX5_conduct_19 kc_RX5_119 rfl ?_
      refine mi_lreturn h hr dX5_conduct_22 ?_
      exact ⟨SC_rf _, Or.inr (Or.inl ⟨rfl, by omega, by omega⟩)⟩
  · refine mi_ldc2 (z := -1) h dX5_conduct_8 kc_RX5_114 rfl ?_
    refine mi_lreturn h hr dX5_conduct_11 ?_
    exact ⟨SC_rf _, Or.inl ⟨rfl, by omega⟩⟩
set_option maxHeartbeats 4000000 in
set_option maxRecDepth 100000 in
theorem c_X5_pressure {σ : Mem} {p s : Int} (hS0 : IS σ) (hP : IP σ) (hE : IE σ) (hQ : IQ σ) (hp : R32 p) (hs : R32 s) : Sp1 yX5_pressure cX5_pressure 3 (some .long) 2 6 [vr 0, vi p, vi s] σ (fun r σ' => SC σ σ' ∧ ((r = -1 ∧ ¬ (-1 ≤ p ∧ p < σ 1 4)) ∨ (r = -2 ∧ (-1 ≤ p ∧ p < σ 1 4) ∧ ¬ (s = 0 ∨ s = 1)) ∨ ((-1 ≤ p ∧ p < σ 1 4) ∧ (s = 0 ∨ s = 1) ∧ r = PvC s (σ 1 13) (σ 1 0) σ (p + 1).toNat))) := by
  refine Sp1_in RX5 rfl (by decide +kernel) (Nat.le_of_ble_eq_true rfl) [some (vr 0), some (vi p), some (vi s)] rfl ?_
  intro K h hr
  obtain ⟨i1, i2, i3, i4, i5, i6, i7, i8⟩ := id hS0
  refine mi_aload_n h dX5_pressure_0 (by rfl) ?_
  refine mi_iload_n h dX5_pressure_1 (by rfl) ?_
  refine mi_cV1i (hw := Nat.le_of_ble_eq_true rfl) h dX5_pressure_2 ml_RX5_64 ym_yX5_isEnd (by rfl) (by rfl) (c_X5_isEnd hS0 ⟨by omega, by omega⟩) (fun r2 σ2 hp2 => ?_)
  obtain ⟨rfl, hb2, hc2⟩ := hp2
  refine mi_if_ne (tgt := 12) h dX5_pressure_5 (by decide) ⟨by omega, by omega⟩ (fun e5 => ?_) (fun e5 => ?_)
  · refine mi_iload_n h dX5_pressure_12 (by rfl) ?_
    refine mi_cS1i (hw := Nat.le_of_ble_eq_true rfl) h dX5_pressure_13 ml_RX5_116 ym_yX5_isSide (c_X5_isSide ⟨by omega, by omega⟩) (fun r13 σ13 hp13 => ?_)
    obtain ⟨rfl, hb13, hc13⟩ := hp13
    refine mi_if_ne (tgt := 23) h dX5_pressure_16 (by decide) ⟨by omega, by omega⟩ (fun e16 => ?_) (fun e16 => ?_)
    · refine mi_aload_n h dX5_pressure_23 (by rfl) ?_
      refine gf_X5_1 h dX5_pressure_24 fl_RX5_21 ?_
      refine mi_iload_n h dX5_pressure_27 (by rfl) ?_
      refine mi_aload_n h dX5_pressure_28 (by rfl) ?_
      refine gf_X5_0 h dX5_pressure_29 fl_RX5_17 ?_
      refine gf_X1_13 h dX5_pressure_32 fl_RX5_91 ?_
      refine mi_cV2v (hw := Nat.le_of_ble_eq_true rfl) h dX5_pressure_35 ml_RX5_129 ym_yX4_holdPressures (by rfl) (by rfl) (c_X4_holdPressures hS0 hP hE hQ (by omega) i7) (fun r35 σ35 hp35 => ?_)
      obtain ⟨G, P, rfl, hG, hPv⟩ := hp35
      refine mi_aload_n h dX5_pressure_38 (by rfl) ?_
      refine gf_X5_1 h dX5_pressure_39 fl_RX5_21 ?_
      refine gf_X4_2 h dX5_pressure_42 fl_RX5_132 ?_
      refine mi_iload_n h dX5_pressure_45 (by rfl) ?_
      refine mi_iconst h dX5_pressure_46 ?_
      refine mi_iadd h dX5_pressure_47 ?_
      refine mn_laload ((p + 1).toNat) h dX5_pressure_48 (by rfl) (by omega) (by omega) (by decide) ?_
      refine mi_lreturn h hr dX5_pressure_49 ?_
      exact ⟨⟨G, P, rfl⟩, Or.inr (Or.inr ⟨by omega, by omega, hPv _ (by omega)⟩)⟩
    · refine mi_ldc2 (z := -2) h dX5_pressure_19 kc_RX5_119 rfl ?_
      refine mi_lreturn h hr dX5_pressure_22 ?_
      exact ⟨SC_rf _, Or.inr (Or.inl ⟨rfl, by omega, by omega⟩)⟩
  · refine mi_ldc2 (z := -1) h dX5_pressure_8 kc_RX5_114 rfl ?_
    refine mi_lreturn h hr dX5_pressure_11 ?_
    exact ⟨SC_rf _, Or.inl ⟨rfl, by omega⟩⟩
set_option maxHeartbeats 4000000 in
set_option maxRecDepth 100000 in
theorem c_X5_flow {σ : Mem} {p s : Int} (hS0 : IS σ) (hP : IP σ) (hE : IE σ) (hQ : IQ σ) (hp : R32 p) (hs : R32 s) : Sp1 yX5_flow cX5_flow 3 (some .long) 2 6 [vr 0, vi p, vi s] σ (fun r σ' => SC σ σ' ∧ ((r = -1 ∧ ¬ (0 ≤ p ∧ p < σ 1 4 ∧ bv (σ 1 12) p.toNat = 1)) ∨ (r = -2 ∧ (0 ≤ p ∧ p < σ 1 4 ∧ bv (σ 1 12) p.toNat = 1) ∧ ¬ (s = 0 ∨ s = 1)) ∨ ((0 ≤ p ∧ p < σ 1 4 ∧ bv (σ 1 12) p.toNat = 1) ∧ (s = 0 ∨ s = 1) ∧ r = if bv (σ 1 13) p.toNat = 1 then fl s (fnw (σ 13 p.toNat) (σ 15 p.toNat)) (PvC s (σ 1 13) (σ 1 0) σ (p.toNat + 1)) else 0))) := by
  refine Sp1_in RX5 rfl (by decide +kernel) (Nat.le_of_ble_eq_true rfl) [some (vr 0), some (vi p), some (vi s)] rfl ?_
  intro K h hr
  obtain ⟨i1, i2, i3, i4, i5, i6, i7, i8⟩ := id hS0
  have hv9 := bv_01 (σ 1 13) p.toNat
  refine mi_aload_n h dX5_flow_0 (by rfl) ?_
  refine mi_iload_n h dX5_flow_1 (by rfl) ?_
  refine mi_cV1i (hw := Nat.le_of_ble_eq_true rfl) h dX5_flow_2 ml_RX5_88 ym_yX5_isHead (by rfl) (by rfl) (c_X5_isHead hS0 ⟨by omega, by omega⟩) (fun r2 σ2 hp2 => ?_)
  obtain ⟨rfl, hb2, hc2⟩ := hp2
  refine mi_if_ne (tgt := 12) h dX5_flow_5 (by decide) ⟨by omega, by omega⟩ (fun e5 => ?_) (fun e5 => ?_)
  · refine mi_iload_n h dX5_flow_12 (by rfl) ?_
    refine mi_cS1i (hw := Nat.le_of_ble_eq_true rfl) h dX5_flow_13 ml_RX5_116 ym_yX5_isSide (c_X5_isSide ⟨by omega, by omega⟩) (fun r13 σ13 hp13 => ?_)
    obtain ⟨rfl, hb13, hc13⟩ := hp13
    refine mi_if_ne (tgt := 23) h dX5_flow_16 (by decide) ⟨by omega, by omega⟩ (fun e16 => ?_) (fun e16 => ?_)
    · refine mi_aload_n h dX5_flow_23 (by rfl) ?_
      refine gf_X5_0 h dX5_flow_24 fl_RX5_17 ?_
      refine gf_X1_13 h dX5_flow_27 fl_RX5_91 ?_
      refine mi_iload_n h dX5_flow_30 (by rfl) ?_
      refine mt_e (y := ((p.toNat : Nat) : Int)) (by omega) ?_
      refine mi_cS2i (hw := Nat.le_of_ble_eq_true rfl) h dX5_flow_31 ml_RX5_94 ym_yX5_bit (c_bit i7 (by omega)) (fun r31 σ31 hp31 => ?_)
      obtain ⟨rfl, rfl⟩ := hp31
      refine mi_if_ne (tgt := 39) h dX5_flow_34 (by decide) ⟨by omega, by omega⟩ (fun e34 => ?_) (fun e34 => ?_)
      · refine mi_aload_n h dX5_flow_39 (by rfl) ?_
        refine gf_X5_1 h dX5_flow_40 fl_RX5_21 ?_
        refine mi_iload_n h dX5_flow_43 (by rfl) ?_
        refine mi_aload_n h dX5_flow_44 (by rfl) ?_
        refine gf_X5_0 h dX5_flow_45 fl_RX5_17 ?_
        refine gf_X1_13 h dX5_flow_48 fl_RX5_91 ?_
        refine mi_cV2v (hw := Nat.le_of_ble_eq_true rfl) h dX5_flow_51 ml_RX5_129 ym_yX4_holdPressures (by rfl) (by rfl) (c_X4_holdPressures hS0 hP hE hQ (by omega) i7) (fun r51 σ51 hp51 => ?_)
        obtain ⟨G, P, rfl, hG, hPv⟩ := hp51
        obtain ⟨-, -, -, k1, k3, k2⟩ := hP p.toNat (by omega)
        have hq9 : P (p.toNat + 1) = PvC s (σ 1 13) (σ 1 0) σ (p.toNat + 1) := hPv (p.toNat + 1) (by omega)
        have hq8 := PvC_rng (s := s) (m := σ 1 13) (q := σ 1 0) hS0 hP hE hQ (by omega) (e := p.toNat + 1) (by omega)
        refine mi_aload_n h dX5_flow_54 (by rfl) ?_
        refine gf_X5_1 h dX5_flow_55 fl_RX5_21 ?_
        refine mi_iload_n h dX5_flow_58 (by rfl) ?_
        refine mt_e (y := ((p.toNat : Nat) : Int)) (by omega) ?_
        refine mi_iload_n h dX5_flow_59 (by rfl) ?_
        refine mi_cV2l (hw := Nat.le_of_ble_eq_true rfl) h dX5_flow_60 ml_RX5_136 ym_yX4_flowOf (by rfl) (by rfl) (c_X4_flowOf (σ := upC (upC σ 16 G) 17 P) (p := p.toNat) (by omega) (by omega) k1 k2 (by rw [upC_eq, hq9]; exact hq8)) (fun r60 σ60 hp60 => ?_)
        obtain ⟨rfl, hv60⟩ := hp60
        rw [upC_eq, hq9] at hv60
        refine mi_lreturn h hr dX5_flow_63 ?_
        exact ⟨⟨G, P, rfl⟩, Or.inr (Or.inr ⟨by omega, by omega, by rw [if_pos (by omega)]; exact hv60⟩)⟩
      · refine mi_lconst0 h dX5_flow_37 ?_
        refine mi_lreturn h hr dX5_flow_38 ?_
        exact ⟨SC_rf _, Or.inr (Or.inr ⟨by omega, by omega, by rw [if_neg (by omega)]⟩)⟩
    · refine mi_ldc2 (z := -2) h dX5_flow_19 kc_RX5_119 rfl ?_
      refine mi_lreturn h hr dX5_flow_22 ?_
      exact ⟨SC_rf _, Or.inr (Or.inl ⟨rfl, by omega, by omega⟩)⟩
  · refine mi_ldc2 (z := -1) h dX5_flow_8 kc_RX5_114 rfl ?_
    refine mi_lreturn h hr dX5_flow_11 ?_
    exact ⟨SC_rf _, Or.inl ⟨rfl, by omega⟩⟩
def flC (s : Int) (σ : Mem) (p : Nat) : Int := if bv (σ 1 13) p = 1 then fl s (fnw (σ 13 p) (σ 15 p)) (PvC s (σ 1 13) (σ 1 0) σ (p + 1)) else 0
set_option maxHeartbeats 4000000 in
set_option maxRecDepth 100000 in
theorem c_X5_total {σ : Mem} {s : Int} (hS0 : IS σ) (hP : IP σ) (hE : IE σ) (hQ : IQ σ) (hs : R32 s) : Sp1 yX5_total cX5_total 5 (some .long) 2 6 [vr 0, vi s] σ (fun r σ' => SC σ σ' ∧ ((r = -2 ∧ ¬ (s = 0 ∨ s = 1)) ∨ ((s = 0 ∨ s = 1) ∧ r = sm (flC s σ) (σ 1 4).toNat))) := by
  refine Sp1_in RX5 rfl (by decide +kernel) (Nat.le_of_ble_eq_true rfl) [some (vr 0), some (vi s), none, none, none] rfl ?_
  intro K h hr
  obtain ⟨i1, i2, i3, i4, i5, i6, i7, i8⟩ := id hS0
  have loop : ∀ (G P : Nat → Int), (s = 0 ∨ s = 1) → (∀ e : Nat, (e : Int) ≤ σ 1 4 → P e = PvC s (σ 1 13) (σ 1 0) σ e) → ∀ (j k : Nat), (k : Int) + j = σ 1 4 → M K 31 [some (vr 0), some (vi s), some (vl (sm (flC s σ) k)), none, some (vi (k : Int))] [] (upC (upC σ 16 G) 17 P) := by
    intro G P hs2 hPv j
    induction j with
    | zero =>
      intro k hk
      refine mi_iload h dX5_total_31 (by rfl) ?_
      refine mi_aload_n h dX5_total_33 (by rfl) ?_
      refine gf_X5_0 h dX5_total_34 fl_RX5_17 ?_
      refine gf_X1_4 h dX5_total_37 fl_RX5_71 ?_
      try simp only [up_app, upC_app, Nat.reduceEqDiff, reduceIte, Nat.add_eq_zero_iff, Nat.succ_ne_self, Nat.add_right_cancel_iff]
      refine mi_icmp_ge (tgt := 78) h dX5_total_40 (by decide) ⟨by omega, by omega⟩ ⟨by omega, by omega⟩ (fun e40 => ?_) (fun e40 => ?_)
      · refine mi_lload_n h dX5_total_78 (by rfl) ?_
        refine mi_lreturn h hr dX5_total_79 ?_
        exact ⟨⟨G, P, rfl⟩, Or.inr ⟨hs2, by rw [show (σ 1 4).toNat = k by omega]⟩⟩
      · exfalso; omega
    | succ j ih =>
      intro k hk
      have k1 := bv_01 (σ 1 13) k
      obtain ⟨-, -, -, k2, -, k3⟩ := hP k (by omega)
      have hq8 := PvC_rng (s := s) (m := σ 1 13) (q := σ 1 0) hS0 hP hE hQ (by omega) (e := k + 1) (by omega)
      have s1 : bv (σ 1 13) k = 1 → sm (flC s σ) (k + 1) = sm (flC s σ) k + fl s (fnw (σ 13 k) (σ 15 k)) (P (k + 1)) := fun q => by rw [sm, hPv (k + 1) (by omega)]; unfold flC; rw [if_pos q]
      have s2 : ¬ bv (σ 1 13) k = 1 → sm (flC s σ) (k + 1) = sm (flC s σ) k := fun q => by rw [sm]; unfold flC; rw [if_neg q]; omega
      refine mi_iload h dX5_total_31 (by rfl) ?_
      refine mi_aload_n h dX5_total_33 (by rfl) ?_
      refine gf_X5_0 h dX5_total_34 fl_RX5_17 ?_
      refine gf_X1_4 h dX5_total_37 fl_RX5_71 ?_
      try simp only [up_app, upC_app, Nat.reduceEqDiff, reduceIte, Nat.add_eq_zero_iff, Nat.succ_ne_self, Nat.add_right_cancel_iff]
      refine mi_icmp_ge (tgt := 78) h dX5_total_40 (by decide) ⟨by omega, by omega⟩ ⟨by omega, by omega⟩ (fun e40 => ?_) (fun e40 => ?_)
      · exfalso; omega
      · refine mi_aload_n h dX5_total_43 (by rfl) ?_
        refine gf_X5_0 h dX5_total_44 fl_RX5_17 ?_
        refine gf_X1_13 h dX5_total_47 fl_RX5_91 ?_
        try simp only [up_app, upC_app, Nat.reduceEqDiff, reduceIte, Nat.add_eq_zero_iff, Nat.succ_ne_self, Nat.add_right_cancel_iff]
        refine mi_iload h dX5_total_50 (by rfl) ?_
        refine mi_cS2i (hw := Nat.le_of_ble_eq_true rfl) h dX5_total_52 ml_RX5_94 ym_yX5_bit (c_bit i7 (by omega)) (fun r52 σ52 hp52 => ?_)
        obtain ⟨rfl, rfl⟩ := hp52
        refine mi_iconst h dX5_total_55 ?_
        refine mi_icmp_ne (tgt := 72) h dX5_total_56 (by decide) ⟨by omega, by omega⟩ ⟨by omega, by omega⟩ (fun e56 => ?_) (fun e56 => ?_)
        · refine mi_iinc h dX5_total_72 (by rfl) ?_ (by decide)
          refine mi_goto (tgt := 31) h dX5_total_75 (by decide) ?_
          have h9 := ih (k + 1) (by omega)
          first | (rw [s2 e56] at h9; exact h9) | (rw [s1 e56, ← hv67] at h9; exact h9)
        · refine mi_lload_n h dX5_total_59 (by rfl) ?_
          refine mi_aload_n h dX5_total_60 (by rfl) ?_
          refine gf_X5_1 h dX5_total_61 fl_RX5_21 ?_
          refine mi_iload h dX5_total_64 (by rfl) ?_
          refine mi_iload_n h dX5_total_66 (by rfl) ?_
          refine mi_cV2l (hw := Nat.le_of_ble_eq_true rfl) h dX5_total_67 ml_RX5_136 ym_yX4_flowOf (by rfl) (by rfl) (c_X4_flowOf (σ := upC (upC σ 16 G) 17 P) (by omega) hs2 k2 k3 (by rw [upC_eq, hPv (k + 1) (by omega)]; exact hq8)) (fun r67 σ67 hp67 => ?_)
          obtain ⟨rfl, hv67⟩ := hp67
          have hv67 : r67 = fl s (fnw (σ 13 k) (σ 15 k)) (P (k + 1)) := hv67
          refine mi_ladd h dX5_total_70 ?_
          refine mi_lstore_n h dX5_total_71 (by decide) ?_
          refine mi_iinc h dX5_total_72 (by rfl) ?_ (by decide)
          refine mi_goto (tgt := 31) h dX5_total_75 (by decide) ?_
          have h9 := ih (k + 1) (by omega)
          first | (rw [s2 e56] at h9; exact h9) | (rw [s1 e56, ← hv67] at h9; exact h9)
  refine mi_iload_n h dX5_total_0 (by rfl) ?_
  refine mi_cS1i (hw := Nat.le_of_ble_eq_true rfl) h dX5_total_1 ml_RX5_116 ym_yX5_isSide (c_X5_isSide ⟨by omega, by omega⟩) (fun r1 σ1 hp1 => ?_)
  obtain ⟨rfl, hb1, hc1⟩ := hp1
  refine mi_if_ne (tgt := 11) h dX5_total_4 (by decide) ⟨by omega, by omega⟩ (fun e4 => ?_) (fun e4 => ?_)
  · refine mi_aload_n h dX5_total_11 (by rfl) ?_
    refine gf_X5_1 h dX5_total_12 fl_RX5_21 ?_
    refine mi_iload_n h dX5_total_15 (by rfl) ?_
    refine mi_aload_n h dX5_total_16 (by rfl) ?_
    refine gf_X5_0 h dX5_total_17 fl_RX5_17 ?_
    refine gf_X1_13 h dX5_total_20 fl_RX5_91 ?_
    refine mi_cV2v (hw := Nat.le_of_ble_eq_true rfl) h dX5_total_23 ml_RX5_129 ym_yX4_holdPressures (by rfl) (by rfl) (c_X4_holdPressures hS0 hP hE hQ (by omega) i7) (fun r23 σ23 hp23 => ?_)
    obtain ⟨G, P, rfl, hG, hPv⟩ := hp23
    refine mi_lconst0 h dX5_total_26 ?_
    refine mi_lstore_n h dX5_total_27 (by decide) ?_
    refine mi_iconst h dX5_total_28 ?_
    refine mi_istore h dX5_total_29 (by decide) ?_
    exact loop G P (by omega) hPv (σ 1 4).toNat 0 (by omega)
  · refine mi_ldc2 (z := -2) h dX5_total_7 kc_RX5_119 rfl ?_
    refine mi_lreturn h hr dX5_total_10 ?_
    exact ⟨SC_rf _, Or.inl ⟨rfl, by omega⟩⟩
/-- the first of the least -/
def wI (b sp : Nat → Int) : Nat → Int
  | 0 => -6
  | k + 1 => if b k = 1 ∧ (wI b sp k < 0 ∨ sp k < sp (wI b sp k).toNat) then k else wI b sp k
theorem wI_rng (b sp : Nat → Int) : ∀ k, wI b sp k = -6 ∨ (0 ≤ wI b sp k ∧ wI b sp k < k)
  | 0 => Or.inl rfl
  | k + 1 => by
    have := wI_rng b sp k
    rw [wI]
    split <;> omega
theorem wI_cong {b b' sp sp' : Nat → Int} : ∀ {n : Nat}, (∀ k, k < n → b k = b' k) → (∀ k, k < n → sp k = sp' k) → wI b sp n = wI b' sp' n
  | 0, _, _ => rfl
  | n + 1, h, h2 => by
    have e := wI_cong (b := b) (b' := b') (sp := sp) (sp' := sp') (n := n) (fun k hk => h k (by omega)) (fun k hk => h2 k (by omega))
    have r := wI_rng b sp n
    rw [wI, wI, ← e, h n (by omega), h2 n (by omega)]
    rcases r with r | r
    · rw [r]
      simp
    · rw [h2 (wI b sp n).toNat (by omega)]
def spC (m q : Int) (σ : Mem) (p : Nat) : Int := fl 0 (fnw (σ 13 p) (σ 15 p)) (PvC 0 m q σ (p + 1)) - 1024 * σ 14 p
set_option maxHeartbeats 4000000 in
set_option maxRecDepth 100000 in
theorem c_X5_worst {σ : Mem} (hS0 : IS σ) (hP : IP σ) (hE : IE σ) (hQ : IQ σ) : Sp1 yX5_worst cX5_worst 7 (some .int) 1 6 [vr 0] σ (fun r σ' => SC σ σ' ∧ r = wI (bv (σ 1 13)) (spC (σ 1 13) (σ 1 0) σ) (σ 1 4).toNat) := by
  refine Sp1_in RX5 rfl (by decide +kernel) (Nat.le_of_ble_eq_true rfl) [some (vr 0), none, none, none, none, none, none] rfl ?_
  intro K h hr
  obtain ⟨i1, i2, i3, i4, i5, i6, i7, i8⟩ := id hS0
  have loop : ∀ (G P : Nat → Int), (∀ e : Nat, (e : Int) ≤ σ 1 4 → P e = PvC 0 (σ 1 13) (σ 1 0) σ e) → ∀ (j k : Nat) (x : Int) (l5 l6 : Option MV), (k : Int) + j = σ 1 4 → (0 ≤ wI (bv (σ 1 13)) (spC (σ 1 13) (σ 1 0) σ) k → x = spC (σ 1 13) (σ 1 0) σ (wI (bv (σ 1 13)) (spC (σ 1 13) (σ 1 0) σ) k).toNat) → R64 x → M K 23 [some (vr 0), some (vi (wI (bv (σ 1 13)) (spC (σ 1 13) (σ 1 0) σ) k)), some (vl x), none, some (vi (k : Int)), l5, l6] [] (upC (upC σ 16 G) 17 P) := by
    intro G P hPv j
    induction j with
    | zero =>
      intro k x l5 l6 hk hx hx2
      refine mi_iload h dX5_worst_23 (by rfl) ?_
      refine mi_aload_n h dX5_worst_25 (by rfl) ?_
      refine gf_X5_0 h dX5_worst_26 fl_RX5_17 ?_
      refine gf_X1_4 h dX5_worst_29 fl_RX5_71 ?_
      try simp only [up_app, upC_app, Nat.reduceEqDiff, reduceIte, Nat.add_eq_zero_iff, Nat.succ_ne_self, Nat.add_right_cancel_iff]
      refine mi_icmp_ge (tgt := 87) h dX5_worst_32 (by decide) ⟨by omega, by omega⟩ ⟨by omega, by omega⟩ (fun e32 => ?_) (fun e32 => ?_)
      · refine mi_iload_n h dX5_worst_87 (by rfl) ?_
        refine mi_ireturn h hr dX5_worst_88 ?_
        exact ⟨⟨G, P, rfl⟩, by rw [show (σ 1 4).toNat = k by omega]⟩
      · exfalso; omega
    | succ j ih =>
      intro k x l5 l6 hk hx hx2
      have k1 := bv_01 (σ 1 13) k
      have hq8 := PvC_rng (s := 0) (m := σ 1 13) (q := σ 1 0) hS0 hP hE hQ (by omega) (e := k + 1) (by omega)
      have k2 := wI_rng (bv (σ 1 13)) (spC (σ 1 13) (σ 1 0) σ) k
      have k3 : spV (upC (upC σ 16 G) 17 P) k = spC (σ 1 13) (σ 1 0) σ k := by
        have e9 := hPv (k + 1) (by omega)
        show fl 0 (fnw (σ 13 k) (σ 15 k)) (P (k + 1)) - 1024 * σ 14 k = _
        rw [e9]; rfl
      have k4 := spV_rng (σ := upC (upC σ 16 G) 17 P) hP (p := k) (by omega) (by rw [upC_eq, hPv (k + 1) (by omega)]; exact hq8)
      have step : wI (bv (σ 1 13)) (spC (σ 1 13) (σ 1 0) σ) (k + 1) = if bv (σ 1 13) k = 1 ∧ (wI (bv (σ 1 13)) (spC (σ 1 13) (σ 1 0) σ) k < 0 ∨ spC (σ 1 13) (σ 1 0) σ k < spC (σ 1 13) (σ 1 0) σ (wI (bv (σ 1 13)) (spC (σ 1 13) (σ 1 0) σ) k).toNat) then (k : Int) else wI (bv (σ 1 13)) (spC (σ 1 13) (σ 1 0) σ) k := rfl
      have keep : ¬ (bv (σ 1 13) k = 1 ∧ (wI (bv (σ 1 13)) (spC (σ 1 13) (σ 1 0) σ) k < 0 ∨ spC (σ 1 13) (σ 1 0) σ k < spC (σ 1 13) (σ 1 0) σ (wI (bv (σ 1 13)) (spC (σ 1 13) (σ 1 0) σ) k).toNat)) → ∀ l5 l6 : Option MV, M K 23 [some (vr 0), some (vi (wI (bv (σ 1 13)) (spC (σ 1 13) (σ 1 0) σ) k)), some (vl x), none, some (vi ((k : Int) + 1)), l5, l6] [] (upC (upC σ 16 G) 17 P) := fun q l5 l6 => by
        have h9 := ih (k + 1) x l5 l6 (by omega) (by rw [step, if_neg q]; exact hx) hx2
        rw [step, if_neg q] at h9
        exact h9
      have take : (bv (σ 1 13) k = 1 ∧ (wI (bv (σ 1 13)) (spC (σ 1 13) (σ 1 0) σ) k < 0 ∨ spC (σ 1 13) (σ 1 0) σ k < spC (σ 1 13) (σ 1 0) σ (wI (bv (σ 1 13)) (spC (σ 1 13) (σ 1 0) σ) k).toNat)) → ∀ l5 l6 : Option MV, M K 23 [some (vr 0), some (vi (k : Int)), some (vl (spC (σ 1 13) (σ 1 0) σ k)), none, some (vi ((k : Int) + 1)), l5, l6] [] (upC (upC σ 16 G) 17 P) := fun q l5 l6 => by
        have h9 := ih (k + 1) (spC (σ 1 13) (σ 1 0) σ k) l5 l6 (by omega) (by rw [step, if_pos q]; intro _; rfl) (by rw [← k3]; exact ⟨by omega, by omega⟩)
        rw [step, if_pos q] at h9
        exact h9
      refine mi_iload h dX5_worst_23 (by rfl) ?_
      refine mi_aload_n h dX5_worst_25 (by rfl) ?_
      refine gf_X5_0 h dX5_worst_26 fl_RX5_17 ?_
      refine gf_X1_4 h dX5_worst_29 fl_RX5_71 ?_
      try simp only [up_app, upC_app, Nat.reduceEqDiff, reduceIte, Nat.add_eq_zero_iff, Nat.succ_ne_self, Nat.add_right_cancel_iff]
      refine mi_icmp_ge (tgt := 87) h dX5_worst_32 (by decide) ⟨by omega, by omega⟩ ⟨by omega, by omega⟩ (fun e32 => ?_) (fun e32 => ?_)
      · exfalso; omega
      · refine mi_aload_n h dX5_worst_35 (by rfl) ?_
        refine gf_X5_0 h dX5_worst_36 fl_RX5_17 ?_
        refine gf_X1_13 h dX5_worst_39 fl_RX5_91 ?_
        try simp only [up_app, upC_app, Nat.reduceEqDiff, reduceIte, Nat.add_eq_zero_iff, Nat.succ_ne_self, Nat.add_right_cancel_iff]
        refine mi_iload h dX5_worst_42 (by rfl) ?_
        refine mi_cS2i (hw := Nat.le_of_ble_eq_true rfl) h dX5_worst_44 ml_RX5_94 ym_yX5_bit (c_bit i7 (by omega)) (fun r44 σ44 hp44 => ?_)
        obtain ⟨rfl, rfl⟩ := hp44
        refine mi_iconst h dX5_worst_47 ?_
        refine mi_icmp_ne (tgt := 81) h dX5_worst_48 (by decide) ⟨by omega, by omega⟩ ⟨by omega, by omega⟩ (fun e48 => ?_) (fun e48 => ?_)
        · refine mi_iinc h dX5_worst_81 (by rfl) ?_ (by decide)
          refine mi_goto (tgt := 23) h dX5_worst_84 (by decide) ?_
          first | exact take ⟨by omega, by omega⟩ _ _ | exact keep (by omega) _ _
        · refine mi_aload_n h dX5_worst_51 (by rfl) ?_
          refine gf_X5_1 h dX5_worst_52 fl_RX5_21 ?_
          refine mi_iload h dX5_worst_55 (by rfl) ?_
          refine mi_cV1l (hw := Nat.le_of_ble_eq_true rfl) h dX5_worst_57 ml_RX5_162 ym_yX4_spareOf (by rfl) (by rfl) (c_X4_spareOf (σ := upC (upC σ 16 G) 17 P) hP (by omega) (by rw [upC_eq, hPv (k + 1) (by omega)]; exact hq8)) (fun r57 σ57 hp57 => ?_)
          obtain ⟨rfl, hv57⟩ := hp57
          rw [k3] at hv57 k4
          subst hv57
          refine mi_lstore h dX5_worst_60 (by decide) ?_
          refine mi_iload_n h dX5_worst_62 (by rfl) ?_
          refine mi_bipush h dX5_worst_63 (by decide) ?_
          refine mi_icmp_eq (tgt := 75) h dX5_worst_65 (by decide) ⟨by omega, by omega⟩ ⟨by omega, by omega⟩ (fun e65 => ?_) (fun e65 => ?_)
          · refine mi_iload h dX5_worst_75 (by rfl) ?_
            refine mi_istore_n h dX5_worst_77 (by decide) ?_
            refine mi_lload h dX5_worst_78 (by rfl) ?_
            refine mi_lstore_n h dX5_worst_80 (by decide) ?_
            refine mi_iinc h dX5_worst_81 (by rfl) ?_ (by decide)
            refine mi_goto (tgt := 23) h dX5_worst_84 (by decide) ?_
            first | exact take ⟨by omega, by omega⟩ _ _ | exact keep (by omega) _ _
          · refine mi_lload h dX5_worst_68 (by rfl) ?_
            refine mi_lload_n h dX5_worst_70 (by rfl) ?_
            refine mi_lcmp_ge (tgt := 81) h dX5_worst_71 dX5_worst_72 (by decide) ⟨by omega, by omega⟩ ⟨by omega, by omega⟩ (fun e71 => ?_) (fun e71 => ?_)
            · refine mi_iinc h dX5_worst_81 (by rfl) ?_ (by decide)
              refine mi_goto (tgt := 23) h dX5_worst_84 (by decide) ?_
              first | exact take ⟨by omega, by omega⟩ _ _ | exact keep (by omega) _ _
            · refine mi_iload h dX5_worst_75 (by rfl) ?_
              refine mi_istore_n h dX5_worst_77 (by decide) ?_
              refine mi_lload h dX5_worst_78 (by rfl) ?_
              refine mi_lstore_n h dX5_worst_80 (by decide) ?_
              refine mi_iinc h dX5_worst_81 (by rfl) ?_ (by decide)
              refine mi_goto (tgt := 23) h dX5_worst_84 (by decide) ?_
              first | exact take ⟨by omega, by omega⟩ _ _ | exact keep (by omega) _ _
  refine mi_aload_n h dX5_worst_0 (by rfl) ?_
  refine gf_X5_1 h dX5_worst_1 fl_RX5_21 ?_
  refine mi_iconst h dX5_worst_4 ?_
  refine mi_aload_n h dX5_worst_5 (by rfl) ?_
  refine gf_X5_0 h dX5_worst_6 fl_RX5_17 ?_
  refine gf_X1_13 h dX5_worst_9 fl_RX5_91 ?_
  refine mi_cV2v (hw := Nat.le_of_ble_eq_true rfl) h dX5_worst_12 ml_RX5_129 ym_yX4_holdPressures (by rfl) (by rfl) (c_X4_holdPressures hS0 hP hE hQ (by omega) i7) (fun r12 σ12 hp12 => ?_)
  obtain ⟨G, P, rfl, hG, hPv⟩ := hp12
  refine mi_bipush h dX5_worst_15 (by decide) ?_
  refine mi_istore_n h dX5_worst_17 (by decide) ?_
  refine mi_lconst0 h dX5_worst_18 ?_
  refine mi_lstore_n h dX5_worst_19 (by decide) ?_
  refine mi_iconst h dX5_worst_20 ?_
  refine mi_istore h dX5_worst_21 (by decide) ?_
  exact loop G P hPv (σ 1 4).toNat 0 0 _ _ (by omega) (fun q => by have q : (0 : Int) ≤ -6 := q; omega) ⟨by omega, by omega⟩
