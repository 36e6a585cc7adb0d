/-- the free pipes of rank below k have their new sizes -/
def rsk (σ : Mem) (z : Nat → Nat) (j : Nat) : Mem := fun c k => if c = 10 then (if bv (σ 1 11) k = 1 ∧ rkN (bv (σ 1 11)) k < j then (z k : Int) else σ 10 k) else if c = 12 then (if 0 < k ∧ bv (σ 1 11) (k - 1) = 1 ∧ rkN (bv (σ 1 11)) (k - 1) < j then σ 9 (k - 1) * σ 6 (z (k - 1)) else σ 12 k) else σ c k
theorem rsk_0 (σ : Mem) (z : Nat → Nat) : rsk σ z 0 = σ := by
  funext c k
  unfold rsk
  by_cases h1 : c = 10
  · rw [if_pos h1, if_neg (by omega), h1]
  · rw [if_neg h1]
    by_cases h2 : c = 12
    · rw [if_pos h2, if_neg (by omega), h2]
    · rw [if_neg h2]
theorem rsk_c {σ : Mem} (hB : IB σ) (z : Nat → Nat) : rsk σ z (cntC σ) = rsz σ z := by
  have key : ∀ p, bv (σ 1 11) p = 1 → rkN (bv (σ 1 11)) p < cntC σ := fun p h => rkN_lt h (by have := fr_lt hB h; omega)
  funext c k
  unfold rsk rsz
  have e1 : (bv (σ 1 11) k = 1 ∧ rkN (bv (σ 1 11)) k < cntC σ) = (bv (σ 1 11) k = 1) := propext ⟨fun q => q.1, fun q => ⟨q, key k q⟩⟩
  have e2 : (0 < k ∧ bv (σ 1 11) (k - 1) = 1 ∧ rkN (bv (σ 1 11)) (k - 1) < cntC σ) = (0 < k ∧ bv (σ 1 11) (k - 1) = 1) := propext ⟨fun q => ⟨q.1, q.2.1⟩, fun q => ⟨q.1, q.2, key _ q.2⟩⟩
  simp only [e1, e2]
theorem rsk_s {σ : Mem} {z : Nat → Nat} {F : Mem} {j p : Nat} (hp : bv (σ 1 11) p = 1) (hr : rkN (bv (σ 1 11)) p = j) : up (up (cm (rsk σ z j) F) 10 p (z p)) 12 (p + 1) (σ 9 p * σ 6 (z p)) = cm (rsk σ z (j + 1)) F := by
  have key : ∀ k, bv (σ 1 11) k = 1 → k ≠ p → (rkN (bv (σ 1 11)) k < j + 1 ↔ rkN (bv (σ 1 11)) k < j) := fun k hk hne => by
    have : rkN (bv (σ 1 11)) k ≠ j := fun q => hne (rkN_inj hk hp (by omega))
    omega
  funext c k
  simp only [up_app, cm_app]
  by_cases h2 : c = 12
  · subst h2
    have e9 : ∀ j, rsk σ z j 12 k = if 0 < k ∧ bv (σ 1 11) (k - 1) = 1 ∧ rkN (bv (σ 1 11)) (k - 1) < j then σ 9 (k - 1) * σ 6 (z (k - 1)) else σ 12 k := fun j => rfl
    simp only [reduceIte, Nat.reduceEqDiff, Nat.reduceLeDiff, false_and, or_false, e9]
    by_cases h3 : k = p + 1
    · subst h3
      rw [if_pos rfl, Nat.add_sub_cancel, if_pos ⟨by omega, hp, by omega⟩]
    · rw [if_neg h3]
      by_cases h4 : 0 < k ∧ bv (σ 1 11) (k - 1) = 1
      · have := key (k - 1) h4.2 (by omega)
        by_cases h5 : rkN (bv (σ 1 11)) (k - 1) < j
        · rw [if_pos ⟨h4.1, h4.2, h5⟩, if_pos ⟨h4.1, h4.2, by omega⟩]
        · rw [if_neg (fun q => h5 q.2.2), if_neg (fun q => h5 (this.mp q.2.2))]
      · rw [if_neg (fun q => h4 ⟨q.1, q.2.1⟩), if_neg (fun q => h4 ⟨q.1, q.2.1⟩)]
  · rw [if_neg h2]
    by_cases h1 : c = 10
    · subst h1
      have e9 : ∀ j, rsk σ z j 10 k = if bv (σ 1 11) k = 1 ∧ rkN (bv (σ 1 11)) k < j then (z k : Int) else σ 10 k := fun j => rfl
      simp only [reduceIte, Nat.reduceEqDiff, Nat.reduceLeDiff, false_and, or_false, e9]
      by_cases h3 : k = p
      · subst h3
        rw [if_pos rfl, if_pos ⟨hp, by omega⟩]
      · rw [if_neg h3]
        by_cases h4 : bv (σ 1 11) k = 1
        · have := key k h4 h3
          by_cases h5 : rkN (bv (σ 1 11)) k < j
          · rw [if_pos ⟨h4, h5⟩, if_pos ⟨h4, by omega⟩]
          · rw [if_neg (fun q => h5 q.2), if_neg (fun q => h5 (this.mp q.2))]
        · rw [if_neg (fun q => h4 q.1), if_neg (fun q => h4 q.1)]
    · rw [if_neg h1]
      have e9 : ∀ j, rsk σ z j c k = σ c k := fun j => by unfold rsk; rw [if_neg h1, if_neg h2]
      rw [e9, e9]
/-- what all pipes cost with the i-th choice -/
def cst (σ : Mem) (i : Nat) : Int := sm (prc (rsz σ (zi σ i))) (σ 1 4).toNat
theorem cst_ppr {σ : Mem} {f : Nat → Int} (hF : FL (bv (σ 1 11)) (σ 1 4).toNat f) (i : Nat) : cst σ i = ppr σ f (cntC σ) i + sm (fun p => if bv (σ 1 11) p = 1 then 0 else prc σ p) (σ 1 4).toNat := by
  have h1 := sm_cut hF.1 (prc σ) (fun p k => σ 9 p * σ 7 (dg (zN σ) (cntC σ) i k)) (σ 1 4).toNat (Nat.le_refl _)
  have e1 : cst σ i = sm (fun p => if bv (σ 1 11) p = 1 then σ 9 p * σ 7 (dg (zN σ) (cntC σ) i (rkN (bv (σ 1 11)) p)) else prc σ p) (σ 1 4).toNat := by
    unfold cst
    refine sm_cong (fun p _ => ?_)
    have e2 : prc (rsz σ (zi σ i)) p = σ 9 p * σ 7 (if bv (σ 1 11) p = 1 then (zi σ i p : Int) else σ 10 p).toNat := rfl
    rw [e2]
    by_cases q : bv (σ 1 11) p = 1
    · rw [if_pos q, if_pos q, Int.toNat_natCast]; rfl
    · rw [if_neg q, if_neg q]; rfl
  rw [e1, h1, Int.add_comm]
  rfl
theorem fO_cst {σ : Mem} {f : Nat → Int} (hF : FL (bv (σ 1 11)) (σ 1 4).toNat f) (n : Nat) : fO (cst σ) (mtC σ) n = fO (ppr σ f (cntC σ)) (mtC σ) n :=
  fO_cong (fun i _ => cst_ppr hF i) (fun _ _ => Iff.rfl)
set_option maxHeartbeats 4000000 in
set_option maxRecDepth 100000 in
theorem c_X0_begin {σ : Mem} (hS0 : IS σ) (hZ : IZ σ) (hP : IP σ) (hE : IE σ) (hQ : IQ σ) (hB : IB σ) : Sp1 yX0_begin cX0_begin 2 none 0 3 [vr 3, vi (σ 0 5)] σ (fun r σ' => ∃ F, cm σ F = σ' ∧ HS σ (F 18) (F 21) ∧ F 3 4 = (cntC σ : Int) ∧ F 3 3 = σ 0 5 ∧ F 3 8 = 2000000000 ∧ F 3 12 = 0 ∧ (∀ e, e < 25 → F 22 e = dL σ 0 0 e ∧ F 23 e = dH σ 0 0 e)) := by
  refine Sp1_in RX0 rfl (by decide +kernel) (Nat.le_of_ble_eq_true rfl) [some (vr 3), some (vi (σ 0 5))] rfl ?_
  intro K h hr
  obtain ⟨i1, i2, i3, i4, i5, i6, i7, i8⟩ := id hS0
  have e0 : up (up (up σ 3 3 (σ 0 5)) 3 12 0) 3 8 2000000000 = cm σ (up (up (up σ 3 3 (σ 0 5)) 3 12 0) 3 8 2000000000) := by
    rw [← cm_up _ _ (by decide), ← cm_up _ _ (by decide), ← cm_up _ _ (by decide), cm_self]
  refine mi_aload_n h dX0_begin_0 (by rfl) ?_
  refine mi_iload_n h dX0_begin_1 (by rfl) ?_
  refine pf_X0_3 h dX0_begin_2 fl_RX0_41 ?_
  refine mi_aload_n h dX0_begin_5 (by rfl) ?_
  refine mi_iconst h dX0_begin_6 ?_
  refine pf_X0_12 h dX0_begin_7 fl_RX0_45 ?_
  refine mi_aload_n h dX0_begin_10 (by rfl) ?_
  refine mi_ldc (z := 2000000000) h dX0_begin_11 kc_RX0_48 rfl ?_
  refine pf_X0_8 h dX0_begin_13 fl_RX0_49 ?_
  rw [e0]
  refine mi_aload_n h dX0_begin_16 (by rfl) ?_
  refine mi_cV0v (hw := Nat.le_of_ble_eq_true rfl) h dX0_begin_17 ml_RX0_52 ym_yX0_listFreePipes (by rfl) (by rfl) (c_X0_listFreePipes hS0 hZ hP hE hQ hB) (fun r17 σ17 hp17 => ?_)
  obtain ⟨F, rfl, hH, h34, h33, h38, h312, hdr⟩ := hp17
  refine mi_return (x := 0) h hr dX0_begin_20 ?_
  exact ⟨F, rfl, hH, h34, h33, h38, h312, hdr⟩
set_option maxHeartbeats 4000000 in
set_option maxRecDepth 100000 in
theorem c_X0_settle {σ F2 : Mem} {f lr : Nat → Int} (hS0 : IS σ) (hZ : IZ σ) (hP : IP σ) (hE : IE σ) (hQ : IQ σ) (hB : IB σ) (hH : HS σ f lr) (hI : SI σ f lr 0 0 F2) (hB2 : BI σ f (zN σ ^ cntC σ) F2) : Sp1 yX0_settle cX0_settle 2 (some .boolean) 1 2 [vr 3] (cm σ F2) (fun r σ' => (r = 0 ∧ fO (cst σ) (mtC σ) (zN σ ^ cntC σ) = none ∧ ∃ F, cm σ F = σ') ∨ (r = 1 ∧ ∃ b F, fO (cst σ) (mtC σ) (zN σ ^ cntC σ) = some b ∧ cm (rsz σ (zi σ b)) F = σ')) := by
  refine Sp1_in RX0 rfl (by decide +kernel) (Nat.le_of_ble_eq_true rfl) [some (vr 3), none] rfl ?_
  intro K h hr
  obtain ⟨i1, i2, i3, i4, i5, i6, i7, i8⟩ := id hS0
  have h5 := cnt_le hS0 hB
  have loop : ∀ (F : Mem) (b : Nat), HS σ (F 18) (F 21) → F 3 4 = (cntC σ : Int) → (∀ k, k < cntC σ → F 20 k = (dg (zN σ) (cntC σ) b k : Int)) → fO (cst σ) (mtC σ) (zN σ ^ cntC σ) = some b → ∀ (j k : Nat), k + j = cntC σ → M K 13 [some (vr 3), some (vi (k : Int))] [] (cm (rsk σ (zi σ b) k) F) := by
    intro F b hH h34 h20 hfo j
    induction j with
    | zero =>
      intro k hk
      have e9 : rsk σ (zi σ b) k = rsz σ (zi σ b) := by rw [show k = cntC σ by omega]; exact rsk_c hB _
      rw [e9]
      refine mi_iload_n h dX0_settle_13 (by rfl) ?_
      refine mi_aload_n h dX0_settle_14 (by rfl) ?_
      refine gf_X0_4 h dX0_settle_15 fl_RX0_55 ?_
      try simp only [up_app, upC_app, cm_app, Nat.reduceEqDiff, reduceIte, Nat.reduceLeDiff, and_self, and_true, true_and, and_false, false_and, or_self, or_true, true_or, or_false, false_or, Nat.add_eq_zero_iff, Nat.succ_ne_self, Nat.add_right_cancel_iff]
      refine mi_icmp_ge (tgt := 46) h dX0_settle_18 (by decide) ⟨by omega, by omega⟩ ⟨by omega, by omega⟩ (fun e18 => ?_) (fun e18 => ?_)
      · refine mi_iconst h dX0_settle_46 ?_
        refine mi_zreturn h hr dX0_settle_47 (by omega) ?_
        exact Or.inr ⟨rfl, b, F, hfo, rfl⟩
      · exfalso; omega
    | succ j ihj =>
      intro k hk
      obtain ⟨-, hF, -⟩ := id hH
      have c1 := hF.2 k (by unfold cntC at hk; omega)
      have z6 := Z_cnt hH (k := k) (by omega)
      have e20 := h20 k (by omega)
      have ez : zi σ b (F 18 k).toNat = dg (zN σ) (cntC σ) b k := by unfold zi; rw [c1.2.2.2]
      have hz9 : dg (zN σ) (cntC σ) b k < 6 := Nat.lt_of_lt_of_le (dg_lt z6.1) z6.2
      have nx := ihj (k + 1) (by omega)
      rw [← rsk_s (F := F) c1.2.2.1 c1.2.2.2, ez] at nx
      refine mi_iload_n h dX0_settle_13 (by rfl) ?_
      refine mi_aload_n h dX0_settle_14 (by rfl) ?_
      refine gf_X0_4 h dX0_settle_15 fl_RX0_55 ?_
      try simp only [up_app, upC_app, cm_app, Nat.reduceEqDiff, reduceIte, Nat.reduceLeDiff, and_self, and_true, true_and, and_false, false_and, or_self, or_true, true_or, or_false, false_or, Nat.add_eq_zero_iff, Nat.succ_ne_self, Nat.add_right_cancel_iff]
      refine mi_icmp_ge (tgt := 46) h dX0_settle_18 (by decide) ⟨by omega, by omega⟩ ⟨by omega, by omega⟩ (fun e18 => ?_) (fun e18 => ?_)
      · exfalso; omega
      · refine mi_aload_n h dX0_settle_21 (by rfl) ?_
        refine gf_X0_0 h dX0_settle_22 fl_RX0_9 ?_
        refine mi_aload_n h dX0_settle_25 (by rfl) ?_
        refine gf_X0_5 h dX0_settle_26 fl_RX0_23 ?_
        refine mi_iload_n h dX0_settle_29 (by rfl) ?_
        refine mn_iaload (k) h dX0_settle_30 (by rfl) (by omega) (by omega) (by decide) ?_
        try simp only [up_app, upC_app, cm_app, Nat.reduceEqDiff, reduceIte, Nat.reduceLeDiff, and_self, and_true, true_and, and_false, false_and, or_self, or_true, true_or, or_false, false_or, Nat.add_eq_zero_iff, Nat.succ_ne_self, Nat.add_right_cancel_iff]
        refine mt_e (y := (((F 18 k).toNat : Nat) : Int)) (by omega) ?_
        refine mi_aload_n h dX0_settle_31 (by rfl) ?_
        refine gf_X0_7 h dX0_settle_32 fl_RX0_29 ?_
        refine mi_iload_n h dX0_settle_35 (by rfl) ?_
        refine mn_iaload (k) h dX0_settle_36 (by rfl) (by omega) (by omega) (by decide) ?_
        try simp only [up_app, upC_app, cm_app, Nat.reduceEqDiff, reduceIte, Nat.reduceLeDiff, and_self, and_true, true_and, and_false, false_and, or_self, or_true, true_or, or_false, false_or, Nat.add_eq_zero_iff, Nat.succ_ne_self, Nat.add_right_cancel_iff]
        rw [e20]
        refine mi_cV2v (hw := Nat.le_of_ble_eq_true rfl) h dX0_settle_37 ml_RX0_58 ym_yX1_setSize (by rfl) (by rfl) (c_X1_setSize (σ := cm (rsk σ (zi σ b) k) F) (p := (F 18 k).toNat) (z := dg (zN σ) (cntC σ) b k) (by omega) hz9) (fun r37 σ37 hp37 => ?_)
        have hp37 : up (up (cm (rsk σ (zi σ b) k) F) 10 (F 18 k).toNat (dg (zN σ) (cntC σ) b k)) 12 ((F 18 k).toNat + 1) (σ 9 (F 18 k).toNat * σ 6 (dg (zN σ) (cntC σ) b k)) = σ37 := hp37
        subst hp37
        refine mi_iinc h dX0_settle_40 (by rfl) ?_ (by decide)
        refine mi_goto (tgt := 13) h dX0_settle_43 (by decide) ?_
        exact nx
  have w3 := BI_rng hH hB2
  have hfo := fO_cst hH.2.1 (zN σ ^ cntC σ)
  obtain ⟨q18, q21, q33, q34, q312, q19, qd⟩ := hI
  refine mi_aload_n h dX0_settle_0 (by rfl) ?_
  refine gf_X0_8 h dX0_settle_1 fl_RX0_49 ?_
  try simp only [up_app, upC_app, cm_app, Nat.reduceEqDiff, reduceIte, Nat.reduceLeDiff, and_self, and_true, true_and, and_false, false_and, or_self, or_true, true_or, or_false, false_or, Nat.add_eq_zero_iff, Nat.succ_ne_self, Nat.add_right_cancel_iff]
  refine mi_ldc (z := 2000000000) h dX0_settle_4 kc_RX0_48 rfl ?_
  refine mi_icmp_ne (tgt := 11) h dX0_settle_6 (by decide) ⟨by omega, by omega⟩ ⟨by omega, by omega⟩ (fun e6 => ?_) (fun e6 => ?_)
  · refine mi_iconst h dX0_settle_11 ?_
    refine mi_istore_n h dX0_settle_12 (by decide) ?_
    cases e : fO (ppr σ f (cntC σ)) (mtC σ) (zN σ ^ cntC σ) with
    | none => have := hB2.1 e; omega
    | some b =>
      have h9 := loop F2 b (by rw [q18, q21]; exact hH) q34 (hB2.2 b e).2 (hfo.trans e) (cntC σ) 0 (by omega)
      rw [rsk_0] at h9
      exact h9
  · refine mi_iconst h dX0_settle_9 ?_
    refine mi_zreturn h hr dX0_settle_10 (by omega) ?_
    refine Or.inl ⟨rfl, ?_, F2, rfl⟩
    rw [hfo]
    cases e : fO (ppr σ f (cntC σ)) (mtC σ) (zN σ ^ cntC σ) with
    | none => rfl
    | some b => have := (hB2.2 b e).1; have := ppr_rng hH (a := b) (Nat.le_refl (cntC σ)); omega
theorem zi_lt {σ : Mem} (hS0 : IS σ) (hP : IP σ) (hQ : IQ σ) (hB : IB σ) {i p : Nat} (h : bv (σ 1 11) p = 1) : zi σ i p < zN σ ∧ zN σ ≤ 6 := by
  have := Z_pos hS0 hP hQ (fr_lt hB h)
  exact ⟨dg_lt this.1, this.2⟩
theorem IP_rsz {σ : Mem} {z : Nat → Nat} (hP : IP σ) (hz : ∀ p, bv (σ 1 11) p = 1 → z p < zN σ ∧ zN σ ≤ 6) : IP (rsz σ z) := by
  intro p hp
  obtain ⟨h1, h2, h3, h4⟩ := hP p hp
  refine ⟨h1, h2, ?_, h4⟩
  show 0 ≤ (if bv (σ 1 11) p = 1 then (z p : Int) else σ 10 p) ∧ (if bv (σ 1 11) p = 1 then (z p : Int) else σ 10 p) ≤ 5
  by_cases q : bv (σ 1 11) p = 1
  · have := hz p q
    rw [if_pos q]; omega
  · rw [if_neg q]; exact h3
theorem IC_rsz {σ : Mem} {z : Nat → Nat} (h : IC σ) (hz : ∀ p, bv (σ 1 11) p = 1 → z p < zN σ ∧ zN σ ≤ 6) : IC (rsz σ z) := by
  obtain ⟨hS0, hZ, hP, hE, hQ, hB, hF⟩ := h
  refine ⟨hS0, hZ, IP_rsz hP hz, fun e he => ⟨(hE e he).1, ?_⟩, fun p hp => ⟨(hQ p hp).1, ?_, ?_⟩, hB, hF⟩
  · show 0 ≤ (if 0 < e ∧ bv (σ 1 11) (e - 1) = 1 then σ 9 (e - 1) * σ 6 (z (e - 1)) else σ 12 e) ∧ (if 0 < e ∧ bv (σ 1 11) (e - 1) = 1 then σ 9 (e - 1) * σ 6 (z (e - 1)) else σ 12 e) ≤ 4000
    by_cases q : 0 < e ∧ bv (σ 1 11) (e - 1) = 1
    · rw [if_pos q]
      have := hz _ q.2
      exact ml_rng (hP (e - 1) (by omega)).2.1 (hZ (z (e - 1)) (by omega)).1 rfl
    · rw [if_neg q]; exact (hE e he).2
  · show (if bv (σ 1 11) p = 1 then (z p : Int) else σ 10 p) < σ 1 1
    have hZn : zN σ = (σ 1 1).toNat := rfl
    by_cases q : bv (σ 1 11) p = 1
    · have := hz p q
      rw [if_pos q]; omega
    · rw [if_neg q]; exact (hQ p hp).2.1
  · show (if 0 < p + 1 ∧ bv (σ 1 11) (p + 1 - 1) = 1 then σ 9 (p + 1 - 1) * σ 6 (z (p + 1 - 1)) else σ 12 (p + 1)) = σ 9 p * σ 6 (if bv (σ 1 11) p = 1 then (z p : Int) else σ 10 p).toNat
    rw [Nat.add_sub_cancel]
    by_cases q : bv (σ 1 11) p = 1
    · rw [if_pos ⟨by omega, q⟩, if_pos q, Int.toNat_natCast]
    · rw [if_neg (fun z => q z.2), if_neg q]; exact (hQ p hp).2.2
set_option maxHeartbeats 4000000 in
set_option maxRecDepth 100000 in
theorem c_X5_choose {σ : Mem} (hS0 : IS σ) (hZ : IZ σ) (hP : IP σ) (hE : IE σ) (hQ : IQ σ) (hB : IB σ) : Sp1 yX5_choose cX5_choose 1 (some .long) 2 (14) [vr 0] σ (fun r σ' => (r = -5 ∧ fO (cst σ) (mtC σ) (zN σ ^ cntC σ) = none ∧ ∃ F, cm σ F = σ') ∨ (∃ b F, fO (cst σ) (mtC σ) (zN σ ^ cntC σ) = some b ∧ cm (rsz σ (zi σ b)) F = σ' ∧ r = cst σ b)) := by
  refine Sp1_in RX5 rfl (by decide +kernel) (Nat.le_of_ble_eq_true rfl) [some (vr 0)] rfl ?_
  intro K h hr
  have h5 := cnt_le hS0 hB
  refine mi_aload_n h dX5_choose_0 (by rfl) ?_
  refine gf_X5_2 h dX5_choose_1 fl_RX5_34 ?_
  refine mi_aload_n h dX5_choose_4 (by rfl) ?_
  refine gf_X5_5 h dX5_choose_5 fl_RX5_166 ?_
  refine mi_cV1v (hw := Nat.le_of_ble_eq_true rfl) (hlev := by omega) h dX5_choose_8 ml_RX5_182 ym_yX0_begin (by rfl) (by rfl) (c_X0_begin hS0 hZ hP hE hQ hB) (fun r8 σ8 hp8 => ?_)
  obtain ⟨F, rfl, hH, h34, h33, h38, h312, hdr⟩ := hp8
  refine mi_aload_n h dX5_choose_11 (by rfl) ?_
  refine gf_X5_2 h dX5_choose_12 fl_RX5_34 ?_
  refine mi_iconst h dX5_choose_15 ?_
  refine mt_e (y := ((0 : Nat) : Int)) rfl ?_
  refine mi_iconst h dX5_choose_16 ?_
  refine mi_cN3v (hw := Nat.le_of_ble_eq_true rfl) (host := "SprinklerHouse") (hlev := by omega) h dX5_choose_17 (by decide) ym_yX0_search (SR_all hH (cntC σ) 0 0 F 0 (by omega) rfl ⟨rfl, rfl, h33, h34, by have := hS0; obtain ⟨i1, i2, i3, i4, i5, i6, i7, i8⟩ := this; omega, fun k hk => by omega, fun e he _ => hdr e he⟩ ⟨fun _ => h38, fun b hb => by rw [Nat.zero_mul] at hb; cases hb⟩) (fun r17 σ17 hp17 => ?_)
  obtain ⟨F2, rfl, hI, hB2⟩ := hp17
  rw [Nat.zero_add, Nat.one_mul] at hB2
  refine mi_aload_n h dX5_choose_20 (by rfl) ?_
  refine gf_X5_2 h dX5_choose_21 fl_RX5_34 ?_
  refine mi_cV0i (hw := Nat.le_of_ble_eq_true rfl) (hlev := by omega) h dX5_choose_24 ml_RX5_190 ym_yX0_settle (by rfl) (by rfl) (c_X0_settle hS0 hZ hP hE hQ hB hH hI hB2) (fun r24 σ24 hp24 => ?_)
  rcases hp24 with ⟨rfl, hfo, F3, rfl⟩ | ⟨rfl, b, F3, hfo, rfl⟩
  · refine mi_if_eq (tgt := 41) h dX5_choose_27 (by decide) ⟨by omega, by omega⟩ (fun _ => ?_) (fun q => absurd rfl q)
    refine mi_ldc2 (z := -5) h dX5_choose_41 kc_RX5_198 rfl ?_
    refine mi_lreturn h hr dX5_choose_44 ?_
    exact Or.inl ⟨rfl, hfo, F3, rfl⟩
  refine mi_if_eq (tgt := 41) h dX5_choose_27 (by decide) ⟨by omega, by omega⟩ (fun e27 => ?_) (fun e27 => ?_)
  · exfalso; omega
  · refine mi_aload_n h dX5_choose_30 (by rfl) ?_
    refine gf_X5_0 h dX5_choose_31 fl_RX5_17 ?_
    refine mi_cV0i (hw := Nat.le_of_ble_eq_true rfl) (hlev := by omega) h dX5_choose_34 ml_RX5_194 ym_yX1_priceOfAll (by rfl) (by rfl) (c_X1_priceOfAll (σ := cm (rsz σ (zi σ b)) F3) hS0 hZ (IP_rsz hP (fun p q => zi_lt hS0 hP hQ hB q))) (fun r34 σ34 hp34 => ?_)
    obtain ⟨rfl, h18, h19, h20⟩ := hp34
    refine mi_i2l h dX5_choose_37 ⟨by omega, by omega⟩ ?_
    refine mi_goto (tgt := 44) h dX5_choose_38 (by decide) ?_
    refine mi_lreturn h hr dX5_choose_44 ?_
    exact Or.inr ⟨b, F3, hfo, rfl, h18⟩
