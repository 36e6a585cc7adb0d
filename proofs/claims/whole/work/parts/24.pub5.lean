/-- LEAST of a heap at a pressure -/
def lsC (σ : Mem) (h : Nat) (q : Int) : Int := lsV (bv (σ 5 h)) (spC (σ 5 h) q σ) (σ 1 4).toNat
theorem spC_rng {σ : Mem} {m q : Int} (hS0 : IS σ) (hP : IP σ) (hE : IE σ) (hQ : IQ σ) (hq : 0 ≤ q ∧ q ≤ 100000) {p : Nat} (hp : (p : Int) < σ 1 4) : -30720000 ≤ spC m q σ p ∧ spC m q σ p ≤ 64800000 := by
  obtain ⟨i1, i2, i3, i4, i5, i6, i7, i8⟩ := id hS0
  obtain ⟨-, -, -, k1, k3, k2⟩ := hP p (by omega)
  have h1 := fnw_rng k1 k2
  have h2 := PvC_rng (s := 0) (m := m) hS0 hP hE hQ hq (e := p + 1) (by omega)
  have h3 := fl_rng (s := 0) ⟨h1.2.2.1, h1.2.2.2⟩ h2
  unfold spC
  omega
theorem lsO_ge {b sp : Nat → Int} {B : Int} : ∀ {n : Nat} {l : Int}, (∀ k, k < n → B ≤ sp k) → lsO b sp n = some l → B ≤ l
  | 0, l, _, h => by cases h
  | n + 1, l, hb, h => by
    rw [lsO] at h
    by_cases q : b n = 1
    · rw [if_pos q] at h
      have h9 := hb n (by omega)
      cases h2 : lsO b sp n with
      | none => rw [h2] at h; cases h; exact h9
      | some l9 =>
        have h8 := lsO_ge (n := n) (fun k hk => hb k (by omega)) h2
        rw [h2] at h
        have e : min l9 (sp n) = l := Option.some.inj h
        omega
    · rw [if_neg q] at h
      exact lsO_ge (n := n) (fun k hk => hb k (by omega)) h
theorem lsV_rng {b sp : Nat → Int} {n : Nat} (h : ∀ k, k < n → -30720000 ≤ sp k ∧ sp k ≤ 64800000) : -30720000 ≤ lsV b sp n ∧ lsV b sp n ≤ 64800000 := by
  unfold lsV
  cases h2 : lsO b sp n with
  | none => show (-30720000 : Int) ≤ 0 ∧ (0 : Int) ≤ 64800000; decide
  | some l =>
    have h3 := lsO_ge (B := -30720000) (fun k hk => (h k hk).1) h2
    have h4 := lsO_lt (B := 64800001) (fun k hk => by have := (h k hk).2; omega) h2
    show -30720000 ≤ l ∧ l ≤ 64800000
    omega
theorem lsC_rng {σ : Mem} {h : Nat} {q : Int} (hS0 : IS σ) (hP : IP σ) (hE : IE σ) (hQ : IQ σ) (hq : 0 ≤ q ∧ q ≤ 100000) : -30720000 ≤ lsC σ h q ∧ lsC σ h q ≤ 64800000 :=
  lsV_rng (fun k hk => spC_rng hS0 hP hE hQ hq (by obtain ⟨i1, i2, i3, i4, i5, i6, i7, i8⟩ := hS0; omega))
theorem lsV_cong {b sp sp' : Nat → Int} {n : Nat} (h : ∀ k, k < n → b k = 1 → sp k = sp' k) : lsV b sp n = lsV b sp' n := by
  unfold lsV
  rw [lsO_cong (fun _ _ => rfl) h]
set_option maxHeartbeats 4000000 in
set_option maxRecDepth 100000 in
theorem c_X5_leastOfHeap {σ : Mem} {g : Nat} (hS0 : IS σ) (hZ : IZ σ) (hP : IP σ) (hE : IE σ) (hQ : IQ σ) (hB : IB σ) (hg : g < 6) : Sp1 yX5_leastOfHeap cX5_leastOfHeap 2 (some .long) 2 6 [vr 0, vi (g : Int)] σ (fun r σ' => SC σ σ' ∧ r = lsC σ g (σ 1 0)) := by
  refine Sp1_in RX5 rfl (by decide +kernel) (Nat.le_of_ble_eq_true rfl) [some (vr 0), some (vi (g : Int))] rfl ?_
  intro K h hr
  obtain ⟨i1, i2, i3, i4, i5, i6, i7, i8⟩ := id hS0
  have hm := (hZ g hg).2.2
  have hb : ∀ p : Nat, bv (σ 5 g) p = 1 → (p : Int) < σ 1 4 := fun p q => hB.1 p (hB.2.2.2.2.2.1 g p hg q)
  refine mi_aload_n h dX5_leastOfHeap_0 (by rfl) ?_
  refine gf_X5_1 h dX5_leastOfHeap_1 fl_RX5_21 ?_
  refine mi_iconst h dX5_leastOfHeap_4 ?_
  refine mi_aload_n h dX5_leastOfHeap_5 (by rfl) ?_
  refine gf_X5_4 h dX5_leastOfHeap_6 fl_RX5_25 ?_
  refine mi_iload_n h dX5_leastOfHeap_9 (by rfl) ?_
  refine mn_iaload (g) h dX5_leastOfHeap_10 (by rfl) (by omega) (by omega) (by decide) ?_
  refine mi_cV2v (hw := Nat.le_of_ble_eq_true rfl) h dX5_leastOfHeap_11 ml_RX5_129 ym_yX4_holdPressures (by rfl) (by rfl) (c_X4_holdPressures hS0 hP hE hQ (by omega) hm) (fun r11 σ11 hp11 => ?_)
  obtain ⟨G, P, rfl, hG, hPv⟩ := hp11
  refine mi_aload_n h dX5_leastOfHeap_14 (by rfl) ?_
  refine gf_X5_1 h dX5_leastOfHeap_15 fl_RX5_21 ?_
  refine mi_aload_n h dX5_leastOfHeap_18 (by rfl) ?_
  refine gf_X5_4 h dX5_leastOfHeap_19 fl_RX5_25 ?_
  refine mi_iload_n h dX5_leastOfHeap_22 (by rfl) ?_
  refine mn_iaload (g) h dX5_leastOfHeap_23 (by rfl) (by omega) (by omega) (by decide) ?_
  refine mi_cV1l (hw := Nat.le_of_ble_eq_true rfl) h dX5_leastOfHeap_24 ml_RX5_247 ym_yX4_leastSpare (by rfl) (by rfl) (c_X4_leastSpare (σ := upC (upC σ 16 G) 17 P) hS0 hP hm hb (fun p hp => by rw [upC_eq, hPv (p + 1) (by have : (p : Int) < σ 1 4 := hp; omega)]; exact PvC_rng hS0 hP hE hQ (by omega) (by have : (p : Int) < σ 1 4 := hp; omega))) (fun r24 σ24 hp24 => ?_)
  obtain ⟨rfl, hv24⟩ := hp24
  refine mi_lreturn h hr dX5_leastOfHeap_27 ?_
  refine ⟨⟨G, P, rfl⟩, ?_⟩
  rw [hv24]
  exact lsV_cong (fun k hk _ => by
    have hk : k < (σ 1 4).toNat := hk
    have e9 := hPv (k + 1) (by omega)
    show fl 0 (fnw (σ 13 k) (σ 15 k)) (P (k + 1)) - 1024 * σ 14 k = _
    rw [e9]; rfl)
set_option maxHeartbeats 4000000 in
set_option maxRecDepth 100000 in
theorem c_X5_least {σ : Mem} {g : Int} (hS0 : IS σ) (hZ : IZ σ) (hP : IP σ) (hE : IE σ) (hQ : IQ σ) (hB : IB σ) (hg : R32 g) : Sp1 yX5_least cX5_least 2 (some .long) 2 7 [vr 0, vi g] σ (fun r σ' => SC σ σ' ∧ ((r = -1000000000001 ∧ ¬ (0 ≤ g ∧ g < σ 0 5)) ∨ ((0 ≤ g ∧ g < σ 0 5) ∧ r = lsC σ g.toNat (σ 1 0)))) := by
  refine Sp1_in RX5 rfl (by decide +kernel) (Nat.le_of_ble_eq_true rfl) [some (vr 0), some (vi g)] rfl ?_
  intro K h hr
  obtain ⟨i1, i2, i3, i4, i5, i6, i7, i8⟩ := id hS0
  refine mi_aload_n h dX5_least_0 (by rfl) ?_
  refine mi_iload_n h dX5_least_1 (by rfl) ?_
  refine mi_cV1i (hw := Nat.le_of_ble_eq_true rfl) h dX5_least_2 ml_RX5_169 ym_yX5_isHeap (by rfl) (by rfl) (c_X5_isHeap hS0 ⟨by omega, by omega⟩) (fun r2 σ2 hp2 => ?_)
  obtain ⟨rfl, hb2, hc2⟩ := hp2
  refine mi_if_ne (tgt := 12) h dX5_least_5 (by decide) ⟨by omega, by omega⟩ (fun e5 => ?_) (fun e5 => ?_)
  · refine mi_aload_n h dX5_least_12 (by rfl) ?_
    refine mi_iload_n h dX5_least_13 (by rfl) ?_
    refine mt_e (y := ((g.toNat : Nat) : Int)) (by omega) ?_
    refine mi_cV1l (hw := Nat.le_of_ble_eq_true rfl) h dX5_least_14 ml_RX5_179 ym_yX5_leastOfHeap (by rfl) (by rfl) (c_X5_leastOfHeap hS0 hZ hP hE hQ hB (by omega)) (fun r14 σ14 hp14 => ?_)
    obtain ⟨hsc, rfl⟩ := hp14
    refine mi_lreturn h hr dX5_least_17 ?_
    exact ⟨hsc, Or.inr ⟨by omega, rfl⟩⟩
  · refine mi_ldc2 (z := -1000000000001) h dX5_least_8 kc_RX5_177 rfl ?_
    refine mi_lreturn h hr dX5_least_11 ?_
    exact ⟨SC_rf _, Or.inl ⟨rfl, by omega⟩⟩
set_option maxHeartbeats 4000000 in
set_option maxRecDepth 100000 in
theorem c_X5_thinnest {σ : Mem} (hS0 : IS σ) (hZ : IZ σ) (hP : IP σ) (hE : IE σ) (hQ : IQ σ) (hB : IB σ) : Sp1 yX5_thinnest cX5_thinnest 7 (some .int) 1 7 [vr 0] σ (fun r σ' => SC σ σ' ∧ r = wI (fun _ => 1) (fun h => lsC σ h (σ 1 0)) (σ 0 5).toNat) := by
  refine Sp1_in RX5 rfl (by decide +kernel) (Nat.le_of_ble_eq_true rfl) [some (vr 0), none, none, none, none, none, none] rfl ?_
  intro K h hr
  obtain ⟨i1, i2, i3, i4, i5, i6, i7, i8⟩ := id hS0
  have loop : ∀ (j k : Nat) (x : Int) (l5 l6 : Option MV) (G P : Nat → Int), (k : Int) + j = σ 0 5 → (0 ≤ wI (fun _ => 1) (fun h => lsC σ h (σ 1 0)) k → x = lsC σ (wI (fun _ => 1) (fun h => lsC σ h (σ 1 0)) k).toNat (σ 1 0)) → R64 x → M K 8 [some (vr 0), some (vi (wI (fun _ => 1) (fun h => lsC σ h (σ 1 0)) k)), some (vl x), none, some (vi (k : Int)), l5, l6] [] (upC (upC σ 16 G) 17 P) := by
    intro j
    induction j with
    | zero =>
      intro k x l5 l6 G P hk hx hx2
      refine mi_iload h dX5_thinnest_8 (by rfl) ?_
      refine mi_aload_n h dX5_thinnest_10 (by rfl) ?_
      refine gf_X5_5 h dX5_thinnest_11 fl_RX5_166 ?_
      try simp only [up_app, upC_app, Nat.reduceEqDiff, reduceIte, Nat.add_eq_zero_iff, Nat.succ_ne_self, Nat.add_right_cancel_iff]
      refine mi_icmp_ge (tgt := 50) h dX5_thinnest_14 (by decide) ⟨by omega, by omega⟩ ⟨by omega, by omega⟩ (fun e14 => ?_) (fun e14 => ?_)
      · refine mi_iload_n h dX5_thinnest_50 (by rfl) ?_
        refine mi_ireturn h hr dX5_thinnest_51 ?_
        exact ⟨⟨G, P, rfl⟩, by rw [show (σ 0 5).toNat = k by omega]⟩
      · exfalso; omega
    | succ j ih =>
      intro k x l5 l6 G P hk hx hx2
      have k2 := wI_rng (fun _ => 1) (fun h => lsC σ h (σ 1 0)) k
      have k4 := lsC_rng (h := k) (q := σ 1 0) hS0 hP hE hQ (by omega)
      have step : wI (fun _ => 1) (fun h => lsC σ h (σ 1 0)) (k + 1) = if (1 : Int) = 1 ∧ (wI (fun _ => 1) (fun h => lsC σ h (σ 1 0)) k < 0 ∨ lsC σ k (σ 1 0) < lsC σ (wI (fun _ => 1) (fun h => lsC σ h (σ 1 0)) k).toNat (σ 1 0)) then (k : Int) else wI (fun _ => 1) (fun h => lsC σ h (σ 1 0)) k := rfl
      have keep : ¬ ((1 : Int) = 1 ∧ (wI (fun _ => 1) (fun h => lsC σ h (σ 1 0)) k < 0 ∨ lsC σ k (σ 1 0) < lsC σ (wI (fun _ => 1) (fun h => lsC σ h (σ 1 0)) k).toNat (σ 1 0))) → ∀ (l5 l6 : Option MV) (G P : Nat → Int), M K 8 [some (vr 0), some (vi (wI (fun _ => 1) (fun h => lsC σ h (σ 1 0)) k)), some (vl x), none, some (vi ((k : Int) + 1)), l5, l6] [] (upC (upC σ 16 G) 17 P) := fun q l5 l6 G P => by
        have h9 := ih (k + 1) x l5 l6 G P (by omega) (by rw [step, if_neg q]; exact hx) hx2
        rw [step, if_neg q] at h9
        exact h9
      have take : ((1 : Int) = 1 ∧ (wI (fun _ => 1) (fun h => lsC σ h (σ 1 0)) k < 0 ∨ lsC σ k (σ 1 0) < lsC σ (wI (fun _ => 1) (fun h => lsC σ h (σ 1 0)) k).toNat (σ 1 0))) → ∀ (l5 l6 : Option MV) (G P : Nat → Int), M K 8 [some (vr 0), some (vi (k : Int)), some (vl (lsC σ k (σ 1 0))), none, some (vi ((k : Int) + 1)), l5, l6] [] (upC (upC σ 16 G) 17 P) := fun q l5 l6 G P => by
        have h9 := ih (k + 1) (lsC σ k (σ 1 0)) l5 l6 G P (by omega) (by rw [step, if_pos q]; intro _; rfl) ⟨by omega, by omega⟩
        rw [step, if_pos q] at h9
        exact h9
      refine mi_iload h dX5_thinnest_8 (by rfl) ?_
      refine mi_aload_n h dX5_thinnest_10 (by rfl) ?_
      refine gf_X5_5 h dX5_thinnest_11 fl_RX5_166 ?_
      try simp only [up_app, upC_app, Nat.reduceEqDiff, reduceIte, Nat.add_eq_zero_iff, Nat.succ_ne_self, Nat.add_right_cancel_iff]
      refine mi_icmp_ge (tgt := 50) h dX5_thinnest_14 (by decide) ⟨by omega, by omega⟩ ⟨by omega, by omega⟩ (fun e14 => ?_) (fun e14 => ?_)
      · exfalso; omega
      · refine mi_aload_n h dX5_thinnest_17 (by rfl) ?_
        refine mi_iload h dX5_thinnest_18 (by rfl) ?_
        refine mi_cV1l (hw := Nat.le_of_ble_eq_true rfl) h dX5_thinnest_20 ml_RX5_179 ym_yX5_leastOfHeap (by rfl) (by rfl) (c_X5_leastOfHeap (σ := upC (upC σ 16 G) 17 P) hS0 hZ hP hE hQ hB (by omega)) (fun r20 σ20 hp20 => ?_)
        obtain ⟨⟨G2, P2, rfl⟩, hv20⟩ := hp20
        rw [scr2]
        have hv20 : r20 = lsC σ k (σ 1 0) := hv20
        subst hv20
        refine mi_lstore h dX5_thinnest_23 (by decide) ?_
        refine mi_iload_n h dX5_thinnest_25 (by rfl) ?_
        refine mi_bipush h dX5_thinnest_26 (by decide) ?_
        refine mi_icmp_eq (tgt := 38) h dX5_thinnest_28 (by decide) ⟨by omega, by omega⟩ ⟨by omega, by omega⟩ (fun e28 => ?_) (fun e28 => ?_)
        · refine mi_iload h dX5_thinnest_38 (by rfl) ?_
          refine mi_istore_n h dX5_thinnest_40 (by decide) ?_
          refine mi_lload h dX5_thinnest_41 (by rfl) ?_
          refine mi_lstore_n h dX5_thinnest_43 (by decide) ?_
          refine mi_iinc h dX5_thinnest_44 (by rfl) ?_ (by decide)
          refine mi_goto (tgt := 8) h dX5_thinnest_47 (by decide) ?_
          first | exact take ⟨rfl, by omega⟩ _ _ _ _ | exact keep (by omega) _ _ _ _
        · refine mi_lload h dX5_thinnest_31 (by rfl) ?_
          refine mi_lload_n h dX5_thinnest_33 (by rfl) ?_
          refine mi_lcmp_ge (tgt := 44) h dX5_thinnest_34 dX5_thinnest_35 (by decide) ⟨by omega, by omega⟩ ⟨by omega, by omega⟩ (fun e34 => ?_) (fun e34 => ?_)
          · refine mi_iinc h dX5_thinnest_44 (by rfl) ?_ (by decide)
            refine mi_goto (tgt := 8) h dX5_thinnest_47 (by decide) ?_
            first | exact take ⟨rfl, by omega⟩ _ _ _ _ | exact keep (by omega) _ _ _ _
          · refine mi_iload h dX5_thinnest_38 (by rfl) ?_
            refine mi_istore_n h dX5_thinnest_40 (by decide) ?_
            refine mi_lload h dX5_thinnest_41 (by rfl) ?_
            refine mi_lstore_n h dX5_thinnest_43 (by decide) ?_
            refine mi_iinc h dX5_thinnest_44 (by rfl) ?_ (by decide)
            refine mi_goto (tgt := 8) h dX5_thinnest_47 (by decide) ?_
            first | exact take ⟨rfl, by omega⟩ _ _ _ _ | exact keep (by omega) _ _ _ _
  refine mi_bipush h dX5_thinnest_0 (by decide) ?_
  refine mi_istore_n h dX5_thinnest_2 (by decide) ?_
  refine mi_lconst0 h dX5_thinnest_3 ?_
  refine mi_lstore_n h dX5_thinnest_4 (by decide) ?_
  refine mi_iconst h dX5_thinnest_5 ?_
  refine mi_istore h dX5_thinnest_6 (by decide) ?_
  have h9 := loop (σ 0 5).toNat 0 0 none none (σ 16) (σ 17) (by omega) (fun q => by have q : (0 : Int) ≤ -6 := q; omega) ⟨by omega, by omega⟩
  rw [upC_0, upC_0] at h9
  exact h9
/-- whether a heap is met with so many hundredths less -/
def lft (q x : Int) : Int := max 1 (q * (100 - x) / 100)
theorem lft_rng {q x : Int} (hq : 1 ≤ q ∧ q ≤ 100000) (hx : 0 ≤ x ∧ x ≤ 100) : 0 ≤ q * (100 - x) ∧ q * (100 - x) ≤ 10000000 ∧ 1 ≤ lft q x ∧ lft q x ≤ 100000 := by
  have h1 : 0 ≤ q * (100 - x) := Int.mul_nonneg (by omega) (by omega)
  have h2 : q * (100 - x) ≤ 100000 * 100 := Int.mul_le_mul hq.2 (by omega) (by omega) (by omega)
  unfold lft
  omega
def metC (σ : Mem) (h : Nat) (x : Int) : Prop := 0 ≤ lsC σ h (lft (σ 1 0) x)
set_option maxHeartbeats 4000000 in
set_option maxRecDepth 100000 in
theorem c_X5_isMetWithLess {σ : Mem} {g : Nat} {x : Int} {G P : Nat → Int} (hS0 : IS σ) (hZ : IZ σ) (hP : IP σ) (hE : IE σ) (hQ : IQ σ) (hB : IB σ) (hg : g < 6) (hx : 0 ≤ x ∧ x ≤ 100) (hG : ∀ e : Nat, (e : Int) ≤ σ 1 4 → G e = GvC 1 (σ 5 g) σ e) : Sp1 yX5_isMetWithLess cX5_isMetWithLess 4 (some .boolean) 1 6 [vr 0, vi (g : Int), vi x] (upC (upC σ 16 G) 17 P) (fun r σ' => (∃ P2, upC (upC σ 16 G) 17 P2 = σ') ∧ (r = 0 ∨ r = 1) ∧ (r = 1 ↔ metC σ g x)) := by
  refine Sp1_in RX5 rfl (by decide +kernel) (Nat.le_of_ble_eq_true rfl) [some (vr 0), some (vi (g : Int)), some (vi x), none] rfl ?_
  intro K h hr
  obtain ⟨i1, i2, i3, i4, i5, i6, i7, i8⟩ := id hS0
  have hm := (hZ g hg).2.2
  have hb : ∀ p : Nat, bv (σ 5 g) p = 1 → (p : Int) < σ 1 4 := fun p q => hB.1 p (hB.2.2.2.2.2.1 g p hg q)
  have h9 := lft_rng i1 hx
  have h8 := lsC_rng (h := g) (q := lft (σ 1 0) x) hS0 hP hE hQ (by omega)
  have hN := netok (m := σ 5 g) hS0 hP hQ (fun e he => (hE e he).2)
  have hPv : ∀ e : Nat, (e : Int) ≤ σ 1 4 → prs 0 (σ 8) (σ 12) (bv (σ 1 10)) G (1024 * lft (σ 1 0) x) (σ 1 4).toNat P e = PvC 0 (σ 5 g) (lft (σ 1 0) x) σ e := fun e he =>
    prs_cong (n := (σ 1 4).toNat) hN.2.1 (fun k hk => hG k (by omega)) _ _ _ (Nat.le_refl _) e (by omega)
  refine mi_iconst h dX5_isMetWithLess_0 ?_
  refine mi_aload_n h dX5_isMetWithLess_1 (by rfl) ?_
  refine gf_X5_0 h dX5_isMetWithLess_2 fl_RX5_17 ?_
  refine gf_X1_0 h dX5_isMetWithLess_5 fl_RX5_50 ?_
  try simp only [up_app, upC_app, Nat.reduceEqDiff, reduceIte, Nat.add_eq_zero_iff, Nat.succ_ne_self, Nat.add_right_cancel_iff]
  refine mi_bipush h dX5_isMetWithLess_8 (by decide) ?_
  refine mi_iload_n h dX5_isMetWithLess_10 (by rfl) ?_
  refine mi_isub h dX5_isMetWithLess_11 ?_
  refine mi_imul h dX5_isMetWithLess_12 ?_
  refine mi_bipush h dX5_isMetWithLess_13 (by decide) ?_
  refine mi_idiv h dX5_isMetWithLess_15 ⟨by omega, by omega⟩ ⟨by omega, by omega⟩ ?_
  refine mi_cS2i (hw := Nat.le_of_ble_eq_true rfl) h dX5_isMetWithLess_16 ml_RX5_250 ym_yJ9_max_7cf53 (c_J9_max_7cf53 ⟨by omega, by omega⟩ ⟨by omega, by omega⟩) (fun r16 σ16 hp16 => ?_)
  obtain ⟨rfl, hv16⟩ := hp16
  have hv16 : r16 = lft (σ 1 0) x := hv16
  subst hv16
  refine mi_istore_n h dX5_isMetWithLess_19 (by decide) ?_
  refine mi_aload_n h dX5_isMetWithLess_20 (by rfl) ?_
  refine gf_X5_1 h dX5_isMetWithLess_21 fl_RX5_21 ?_
  refine mi_iconst h dX5_isMetWithLess_24 ?_
  refine mi_aload_n h dX5_isMetWithLess_25 (by rfl) ?_
  refine gf_X5_0 h dX5_isMetWithLess_26 fl_RX5_17 ?_
  refine gf_X1_9 h dX5_isMetWithLess_29 fl_RX5_54 ?_
  refine mi_iload_n h dX5_isMetWithLess_32 (by rfl) ?_
  refine mi_cV3v (hw := Nat.le_of_ble_eq_true rfl) h dX5_isMetWithLess_33 ml_RX5_255 ym_yX4_fall (by rfl) (by rfl) (c_X4_fall (σ := upC (upC σ 16 G) 17 P) (dc := 12) hS0 hP hQ rfl (by omega) ⟨by omega, by omega⟩ (fun e he => (hE e he).2) (fun e he => by show 0 ≤ G e ∧ G e ≤ 4915200; rw [hG e he]; exact GvC_rng hS0 hP hE hQ he) (by decide)) (fun r33 σ33 hp33 => ?_)
  rw [scr1] at hp33
  subst hp33
  refine mi_aload_n h dX5_isMetWithLess_36 (by rfl) ?_
  refine gf_X5_1 h dX5_isMetWithLess_37 fl_RX5_21 ?_
  refine mi_aload_n h dX5_isMetWithLess_40 (by rfl) ?_
  refine gf_X5_4 h dX5_isMetWithLess_41 fl_RX5_25 ?_
  refine mi_iload_n h dX5_isMetWithLess_44 (by rfl) ?_
  refine mn_iaload (g) h dX5_isMetWithLess_45 (by rfl) (by omega) (by omega) (by decide) ?_
  try simp only [up_app, upC_app, Nat.reduceEqDiff, reduceIte, Nat.add_eq_zero_iff, Nat.succ_ne_self, Nat.add_right_cancel_iff]
  refine mi_cV1l (hw := Nat.le_of_ble_eq_true rfl) h dX5_isMetWithLess_46 ml_RX5_247 ym_yX4_leastSpare (by rfl) (by rfl) (c_X4_leastSpare (σ := upC (upC σ 16 G) 17 (prs 0 (σ 8) (σ 12) (bv (σ 1 10)) G (1024 * lft (σ 1 0) x) (σ 1 4).toNat P)) hS0 hP hm hb (fun p hp => by rw [upC_eq, hPv (p + 1) (by have : (p : Int) < σ 1 4 := hp; omega)]; exact PvC_rng hS0 hP hE hQ (by omega) (by have : (p : Int) < σ 1 4 := hp; omega))) (fun r46 σ46 hp46 => ?_)
  obtain ⟨rfl, hv46⟩ := hp46
  have hv46 : r46 = lsC σ g (lft (σ 1 0) x) := by
    rw [hv46]
    exact lsV_cong (fun k hk _ => by
      have hk : k < (σ 1 4).toNat := hk
      have e9 := hPv (k + 1) (by omega)
      show fl 0 (fnw (σ 13 k) (σ 15 k)) (prs 0 (σ 8) (σ 12) (bv (σ 1 10)) G (1024 * lft (σ 1 0) x) (σ 1 4).toNat P (k + 1)) - 1024 * σ 14 k = _
      rw [e9]; rfl)
  subst hv46
  refine mi_lconst0 h dX5_isMetWithLess_49 ?_
  refine mi_lcmp_lt (tgt := 58) h dX5_isMetWithLess_50 dX5_isMetWithLess_51 (by decide) ⟨by omega, by omega⟩ ⟨by omega, by omega⟩ (fun e50 => ?_) (fun e50 => ?_)
  · refine mi_iconst h dX5_isMetWithLess_58 ?_
    refine mi_zreturn h hr dX5_isMetWithLess_59 (by omega) ?_
    refine ⟨⟨_, rfl⟩, by omega, ?_⟩
    unfold metC
    omega
  · refine mi_iconst h dX5_isMetWithLess_54 ?_
    refine mi_goto (tgt := 59) h dX5_isMetWithLess_55 (by decide) ?_
    refine mi_zreturn h hr dX5_isMetWithLess_59 (by omega) ?_
    refine ⟨⟨_, rfl⟩, by omega, ?_⟩
    unfold metC
    omega
set_option maxHeartbeats 4000000 in
set_option maxRecDepth 100000 in
theorem c_X5_leastTooMuch {σ : Mem} {g : Nat} {G P : Nat → Int} (hS0 : IS σ) (hZ : IZ σ) (hP : IP σ) (hE : IE σ) (hQ : IQ σ) (hB : IB σ) (hg : g < 6) (hG : ∀ e : Nat, (e : Int) ≤ σ 1 4 → G e = GvC 1 (σ 5 g) σ e) (hm0 : metC σ g 0) (hm1 : ¬ metC σ g 100) : Sp1 yX5_leastTooMuch cX5_leastTooMuch 6 (some .int) 1 7 [vr 0, vi (g : Int)] (upC (upC σ 16 G) 17 P) (fun r σ' => (∃ P2, upC (upC σ 16 G) 17 P2 = σ') ∧ (1 ≤ r ∧ r ≤ 100) ∧ metC σ g (r - 1) ∧ ¬ metC σ g r) := by
  refine Sp1_in RX5 rfl (by decide +kernel) (Nat.le_of_ble_eq_true rfl) [some (vr 0), some (vi (g : Int)), none, none, none, none] rfl ?_
  intro K h hr
  have loop : ∀ (j : Nat) (i a b : Int) (l5 : Option MV) (P : Nat → Int), i + j = 100 → 0 ≤ i → 0 ≤ a → a < b → b ≤ 100 → b - a ≤ 100 - i → metC σ g a → ¬ metC σ g b → M K 8 [some (vr 0), some (vi (g : Int)), some (vi a), some (vi b), some (vi i), l5] [] (upC (upC σ 16 G) 17 P) := by
    intro j
    induction j with
    | zero => intro i a b l5 P h1 h2 h3 h4 h5 h6; exfalso; omega
    | succ j ih =>
      intro i a b l5 P h1 h2 h3 h4 h5 h6 h7 h8
      refine mi_iload h dX5_leastTooMuch_8 (by rfl) ?_
      refine mi_bipush h dX5_leastTooMuch_10 (by decide) ?_
      refine mi_icmp_ge (tgt := 54) h dX5_leastTooMuch_12 (by decide) ⟨by omega, by omega⟩ ⟨by omega, by omega⟩ (fun e12 => ?_) (fun e12 => ?_)
      · exfalso; omega
      · refine mi_iload_n h dX5_leastTooMuch_15 (by rfl) ?_
        refine mi_iload_n h dX5_leastTooMuch_16 (by rfl) ?_
        refine mi_isub h dX5_leastTooMuch_17 ?_
        refine mi_iconst h dX5_leastTooMuch_18 ?_
        refine mi_icmp_le (tgt := 54) h dX5_leastTooMuch_19 (by decide) ⟨by omega, by omega⟩ ⟨by omega, by omega⟩ (fun e19 => ?_) (fun e19 => ?_)
        · refine mi_iload_n h dX5_leastTooMuch_54 (by rfl) ?_
          refine mi_ireturn h hr dX5_leastTooMuch_55 ?_
          refine ⟨⟨P, rfl⟩, ⟨by omega, by omega⟩, ?_, h8⟩
          rw [show b - 1 = a by omega]
          exact h7
        · refine mi_iload_n h dX5_leastTooMuch_22 (by rfl) ?_
          refine mi_iload_n h dX5_leastTooMuch_23 (by rfl) ?_
          refine mi_iadd h dX5_leastTooMuch_24 ?_
          refine mi_iconst h dX5_leastTooMuch_25 ?_
          refine mi_idiv h dX5_leastTooMuch_26 ⟨by omega, by omega⟩ ⟨by omega, by omega⟩ ?_
          refine mi_istore h dX5_leastTooMuch_27 (by decide) ?_
          refine mi_aload_n h dX5_leastTooMuch_29 (by rfl) ?_
          refine mi_iload_n h dX5_leastTooMuch_30 (by rfl) ?_
          refine mi_iload h dX5_leastTooMuch_31 (by rfl) ?_
          refine mi_cV2i (hw := Nat.le_of_ble_eq_true rfl) h dX5_leastTooMuch_33 ml_RX5_200 ym_yX5_isMetWithLess (by rfl) (by rfl) (c_X5_isMetWithLess (P := P) hS0 hZ hP hE hQ hB hg ⟨by omega, by omega⟩ hG) (fun r33 σ33 hp33 => ?_)
          obtain ⟨⟨P2, rfl⟩, hb33, hc33⟩ := hp33
          refine mi_if_eq (tgt := 45) h dX5_leastTooMuch_36 (by decide) ⟨by omega, by omega⟩ (fun e36 => ?_) (fun e36 => ?_)
          · refine mi_iload h dX5_leastTooMuch_45 (by rfl) ?_
            refine mi_istore_n h dX5_leastTooMuch_47 (by decide) ?_
            refine mi_iinc h dX5_leastTooMuch_48 (by rfl) ?_ (by decide)
            refine mi_goto (tgt := 8) h dX5_leastTooMuch_51 (by decide) ?_
            first | exact ih (i + 1) _ _ _ P2 (by omega) (by omega) (by omega) (by omega) (by omega) (by omega) (hc33.mp (by omega)) h8 | exact ih (i + 1) _ _ _ P2 (by omega) (by omega) (by omega) (by omega) (by omega) (by omega) h7 (fun z => by have := hc33.mpr z; omega)
          · refine mi_iload h dX5_leastTooMuch_39 (by rfl) ?_
            refine mi_istore_n h dX5_leastTooMuch_41 (by decide) ?_
            refine mi_goto (tgt := 48) h dX5_leastTooMuch_42 (by decide) ?_
            refine mi_iinc h dX5_leastTooMuch_48 (by rfl) ?_ (by decide)
            refine mi_goto (tgt := 8) h dX5_leastTooMuch_51 (by decide) ?_
            first | exact ih (i + 1) _ _ _ P2 (by omega) (by omega) (by omega) (by omega) (by omega) (by omega) (hc33.mp (by omega)) h8 | exact ih (i + 1) _ _ _ P2 (by omega) (by omega) (by omega) (by omega) (by omega) (by omega) h7 (fun z => by have := hc33.mpr z; omega)
  refine mi_iconst h dX5_leastTooMuch_0 ?_
  refine mi_istore_n h dX5_leastTooMuch_1 (by decide) ?_
  refine mi_bipush h dX5_leastTooMuch_2 (by decide) ?_
  refine mi_istore_n h dX5_leastTooMuch_4 (by decide) ?_
  refine mi_iconst h dX5_leastTooMuch_5 ?_
  refine mi_istore h dX5_leastTooMuch_6 (by decide) ?_
  exact loop 100 0 0 100 _ P (by omega) (by omega) (by omega) (by omega) (by omega) (by omega) hm0 hm1
set_option maxHeartbeats 4000000 in
set_option maxRecDepth 100000 in
theorem c_X5_margin {σ : Mem} {g : Int} (hS0 : IS σ) (hZ : IZ σ) (hP : IP σ) (hE : IE σ) (hQ : IQ σ) (hB : IB σ) (hg : R32 g) : Sp1 yX5_margin cX5_margin 2 (some .int) 1 8 [vr 0, vi g] σ (fun r σ' => SC σ σ' ∧ ((r = -1 ∧ ¬ (0 ≤ g ∧ g < σ 0 5)) ∨ ((0 ≤ g ∧ g < σ 0 5) ∧ ((r = -5 ∧ ¬ metC σ g.toNat 0) ∨ (metC σ g.toNat 0 ∧ metC σ g.toNat 100 ∧ r = -6) ∨ (metC σ g.toNat 0 ∧ ¬ metC σ g.toNat 100 ∧ (1 ≤ r ∧ r ≤ 100) ∧ metC σ g.toNat (r - 1) ∧ ¬ metC σ g.toNat r))))) := by
  refine Sp1_in RX5 rfl (by decide +kernel) (Nat.le_of_ble_eq_true rfl) [some (vr 0), some (vi g)] rfl ?_
  intro K h hr
  obtain ⟨i1, i2, i3, i4, i5, i6, i7, i8⟩ := id hS0
  have hdr : ∀ e, e < 25 → 0 ≤ σ 12 e ∧ σ 12 e ≤ 4000 := fun e he => (hE e he).2
  have hN := netok (m := σ 5 g.toNat) hS0 hP hQ hdr
  have hG : ∀ e : Nat, (e : Int) ≤ σ 1 4 → gath 1 (σ 8) (hdV (σ 5 g.toNat) σ) (σ 12) (bv (σ 1 10)) (σ 1 4).toNat (flF (σ 16) 0 25) e = GvC 1 (σ 5 g.toNat) σ e := fun e he =>
    gath_cong _ 24 _ _ (fun q hq => (hN.2.1 q hq).2) hN.1 (fun k hk => by unfold flF; rw [if_pos (by omega)]) e (by omega)
  refine mi_aload_n h dX5_margin_0 (by rfl) ?_
  refine mi_iload_n h dX5_margin_1 (by rfl) ?_
  refine mi_cV1i (hw := Nat.le_of_ble_eq_true rfl) h dX5_margin_2 ml_RX5_169 ym_yX5_isHeap (by rfl) (by rfl) (c_X5_isHeap hS0 ⟨by omega, by omega⟩) (fun r2 σ2 hp2 => ?_)
  obtain ⟨rfl, hb2, hc2⟩ := hp2
  refine mi_if_ne (tgt := 10) h dX5_margin_5 (by decide) ⟨by omega, by omega⟩ (fun e5 => ?_) (fun e5 => ?_)
  · refine mi_aload_n h dX5_margin_10 (by rfl) ?_
    refine gf_X5_1 h dX5_margin_11 fl_RX5_21 ?_
    refine mi_iconst h dX5_margin_14 ?_
    refine mi_aload_n h dX5_margin_15 (by rfl) ?_
    refine gf_X5_0 h dX5_margin_16 fl_RX5_17 ?_
    refine gf_X1_9 h dX5_margin_19 fl_RX5_54 ?_
    refine mi_aload_n h dX5_margin_22 (by rfl) ?_
    refine gf_X5_4 h dX5_margin_23 fl_RX5_25 ?_
    refine mi_iload_n h dX5_margin_26 (by rfl) ?_
    refine mn_iaload (g.toNat) h dX5_margin_27 (by rfl) (by omega) (by omega) (by decide) ?_
    refine mi_cV3v (hw := Nat.le_of_ble_eq_true rfl) h dX5_margin_28 ml_RX5_121 ym_yX4_gather (by rfl) (by rfl) (c_X4_gather (dc := 12) hS0 hP hQ rfl (by omega) (hZ g.toNat (by omega)).2.2 hdr (by decide)) (fun r28 σ28 hp28 => ?_)
    have e28 : upC (upC σ 16 (gath 1 (σ 8) (hdV (σ 5 g.toNat) σ) (σ 12) (bv (σ 1 10)) (σ 1 4).toNat (flF (σ 16) 0 25))) 17 (σ 17) = upC σ 16 (gath 1 (σ 8) (hdV (σ 5 g.toNat) σ) (σ 12) (bv (σ 1 10)) (σ 1 4).toNat (flF (σ 16) 0 25)) := upC_0 (upC σ 16 _) 17
    subst hp28
    rw [← e28]
    refine mi_aload_n h dX5_margin_31 (by rfl) ?_
    refine mi_iload_n h dX5_margin_32 (by rfl) ?_
    refine mt_e (y := ((g.toNat : Nat) : Int)) (by omega) ?_
    refine mi_iconst h dX5_margin_33 ?_
    refine mi_cV2i (hw := Nat.le_of_ble_eq_true rfl) h dX5_margin_34 ml_RX5_200 ym_yX5_isMetWithLess (by rfl) (by rfl) (c_X5_isMetWithLess (σ := σ) (g := g.toNat) (x := 0) hS0 hZ hP hE hQ hB (by omega) (by omega) hG) (fun r34 σ34 hp34 => ?_)
    obtain ⟨⟨P2, rfl⟩, hb34, hc34⟩ := hp34
    refine mi_if_ne (tgt := 43) h dX5_margin_37 (by decide) ⟨by omega, by omega⟩ (fun e37 => ?_) (fun e37 => ?_)
    · refine mi_aload_n h dX5_margin_43 (by rfl) ?_
      refine mi_iload_n h dX5_margin_44 (by rfl) ?_
      refine mt_e (y := ((g.toNat : Nat) : Int)) (by omega) ?_
      refine mi_bipush h dX5_margin_45 (by decide) ?_
      refine mi_cV2i (hw := Nat.le_of_ble_eq_true rfl) h dX5_margin_47 ml_RX5_200 ym_yX5_isMetWithLess (by rfl) (by rfl) (c_X5_isMetWithLess (σ := σ) (g := g.toNat) (x := 100) hS0 hZ hP hE hQ hB (by omega) (by omega) hG) (fun r47 σ47 hp47 => ?_)
      obtain ⟨⟨P3, rfl⟩, hb47, hc47⟩ := hp47
      refine mi_if_eq (tgt := 56) h dX5_margin_50 (by decide) ⟨by omega, by omega⟩ (fun e50 => ?_) (fun e50 => ?_)
      · refine mi_aload_n h dX5_margin_56 (by rfl) ?_
        refine mi_iload_n h dX5_margin_57 (by rfl) ?_
        refine mt_e (y := ((g.toNat : Nat) : Int)) (by omega) ?_
        refine mi_cV1i (hw := Nat.le_of_ble_eq_true rfl) h dX5_margin_58 ml_RX5_204 ym_yX5_leastTooMuch (by rfl) (by rfl) (c_X5_leastTooMuch (σ := σ) (g := g.toNat) hS0 hZ hP hE hQ hB (by omega) hG (hc34.mp (by omega)) (fun z => by have := hc47.mpr z; omega)) (fun r58 σ58 hp58 => ?_)
        obtain ⟨⟨P4, rfl⟩, hr58, ha58, hb58⟩ := hp58
        refine mi_ireturn h hr dX5_margin_61 ?_
        exact ⟨⟨_, _, rfl⟩, Or.inr ⟨by omega, Or.inr (Or.inr ⟨hc34.mp (by omega), fun z => by have := hc47.mpr z; omega, hr58, ha58, hb58⟩)⟩⟩
      · refine mi_bipush h dX5_margin_53 (by decide) ?_
        refine mi_ireturn h hr dX5_margin_55 ?_
        exact ⟨⟨_, _, rfl⟩, Or.inr ⟨by omega, Or.inr (Or.inl ⟨hc34.mp (by omega), hc47.mp (by omega), rfl⟩)⟩⟩
    · refine mi_bipush h dX5_margin_40 (by decide) ?_
      refine mi_ireturn h hr dX5_margin_42 ?_
      exact ⟨⟨_, _, rfl⟩, Or.inr ⟨by omega, Or.inl ⟨rfl, fun z => by have := hc34.mpr z; omega⟩⟩⟩
  · refine mi_iconst h dX5_margin_8 ?_
    refine mi_ireturn h hr dX5_margin_9 ?_
    exact ⟨SC_rf _, Or.inl ⟨rfl, by omega⟩⟩
