theorem ppr_s {σ : Mem} {f : Nat → Int} {d a s : Nat} (hs : s < zN σ) : ppr σ f (d + 1) (a * zN σ + s) = ppr σ f d a + σ 9 (f d).toNat * σ 7 s := by
  unfold ppr
  rw [sm, dg_new hs, sm_cong (g := fun k => σ 9 (f k).toNat * σ 7 (dg (zN σ) d a k)) (fun k hk => by rw [dg_old hs hk])]
def SR (σ : Mem) (f lr : Nat → Int) (m : Nat) : Prop := ∀ (d a : Nat) (F : Mem) (pr : Int), d + m = cntC σ → pr = ppr σ f d a → SI σ f lr d a F → BI σ f (a * zN σ ^ m) F → Sp1 yX0_search cX0_search 4 none 0 (7 + m) [vr 3, vi (d : Int), vi pr] (cm σ F) (fun _ σ' => ∃ F', cm σ F' = σ' ∧ SI σ f lr d a F' ∧ BI σ f ((a + 1) * zN σ ^ m) F')
set_option maxHeartbeats 4000000 in
set_option maxRecDepth 100000 in
theorem c_X0_search {σ F : Mem} {f lr : Nat → Int} {m d a : Nat} {pr : Int} (hH : HS σ f lr) (ih : ∀ m', m = m' + 1 → SR σ f lr m') (hd : d + m = cntC σ) (hpr : pr = ppr σ f d a) (hI : SI σ f lr d a F) (hB2 : BI σ f (a * zN σ ^ m) F) : Sp1 yX0_search cX0_search 4 none 0 (7 + m) [vr 3, vi (d : Int), vi pr] (cm σ F) (fun r σ' => ∃ F', cm σ F' = σ' ∧ SI σ f lr d a F' ∧ BI σ f ((a + 1) * zN σ ^ m) F') := by
  refine Sp1_in RX0 rfl (by decide +kernel) (Nat.le_of_ble_eq_true rfl) [some (vr 3), some (vi (d : Int)), some (vi pr), none] rfl ?_
  intro K h hr
  obtain ⟨⟨hS0, hZ, hP, hE, hQ, hB⟩, hF, -⟩ := id hH
  obtain ⟨i1, i2, i3, i4, i5, i6, i7, i8⟩ := id hS0
  obtain ⟨q18, q21, q33, q34, q312, q19, qd⟩ := id hI
  have h5 := cnt_le hS0 hB
  have w1 := ppr_rng hH (d := d) (a := a) (by omega)
  have w2 := lr_rng hH (d := d) (by omega)
  have w3 := BI_rng hH hB2
  have q21d : F 21 d = lr d := by rw [q21]
  have hp0 := pw_pos hS0 hP hQ m (by omega)
  have skip : ∀ F', BI σ f (a * zN σ ^ m) F' → (∀ i, a * zN σ ^ m ≤ i → i < (a + 1) * zN σ ^ m → mtC σ i → ∃ b, fO (ppr σ f (cntC σ)) (mtC σ) (a * zN σ ^ m) = some b ∧ ppr σ f (cntC σ) b ≤ ppr σ f (cntC σ) i) → BI σ f ((a + 1) * zN σ ^ m) F' := by
    intro F' h1 h2
    have e : fO (ppr σ f (cntC σ)) (mtC σ) ((a + 1) * zN σ ^ m) = fO (ppr σ f (cntC σ)) (mtC σ) (a * zN σ ^ m) := by
      rw [Nat.add_mul, Nat.one_mul]
      exact fO_skip _ (fun n q1 q2 => h2 n q1 (by rw [Nat.add_mul]; omega))
    unfold BI
    rw [e]
    exact h1
  have hdr : ∀ e, e < 25 → (0 ≤ F 22 e ∧ F 22 e ≤ 4000) ∧ (0 ≤ F 23 e ∧ F 23 e ≤ 4000) := fun e he => by
    have := dLH hS0 hZ hP hE hQ hB hd (a := a) (i := a * zN σ ^ m) (Nat.le_refl _) (by rw [Nat.add_mul]; omega) he
    have h9 := qd e he (fun z => z)
    rw [h9.1, h9.2]
    omega
  have scr : ∀ (G P : Nat → Int) (g : Int), 0 ≤ g → (g < σ 0 5 ∨ g = 0) → SI σ f lr d a (up (upC (upC F 16 G) 17 P) 3 12 g) := fun G P g g1 g2 => ⟨q18, q21, q33, q34, ⟨g1, g2⟩, q19, qd⟩
  have bscr : ∀ (G P : Nat → Int) (g : Int), BI σ f (a * zN σ ^ m) (up (upC (upC F 16 G) 17 P) 3 12 g) := fun G P g => hB2
  have tail : ∀ (F : Mem) (l3 : Option MV), d < cntC σ → SI σ f lr d a F → BI σ f (a * zN σ ^ m) F → M K 79 [some (vr 3), some (vi (d : Int)), some (vi pr), l3] [] (cm σ F) := by
    intro F l3 hdc hI hB2
    have c1 := hF.2 d hdc
    have z6 := Z_cnt hH hdc
    cases m with
    | zero => omega
    | succ m =>
      have loop : ∀ (j s : Nat) (F : Mem), s + j = zN σ → SW σ f lr d a (fun e => e = (f d).toNat + 1) F → BI σ f ((a * zN σ + s) * zN σ ^ m) F → M K 81 [some (vr 3), some (vi (d : Int)), some (vi pr), some (vi (s : Int))] [] (cm σ F) := by
        intro j
        induction j with
        | zero =>
          intro s F hs hSW hBI
          have hkp : cm σ F 18 d = (((f d).toNat : Nat) : Int) := by show F 18 d = _; rw [hSW.1]; omega
          have e9 : (a * zN σ + s) * zN σ ^ m = (a + 1) * zN σ ^ (m + 1) := by
            rw [show s = zN σ by omega, Nat.pow_succ, Nat.mul_comm (zN σ ^ m), ← Nat.mul_assoc, Nat.add_mul a, Nat.one_mul]
          rw [e9] at hBI
          have hZs : zN σ = (σ 1 1).toNat := rfl
          refine mi_iload_n h dX0_search_81 (by rfl) ?_
          refine mi_aload_n h dX0_search_82 (by rfl) ?_
          refine gf_X0_0 h dX0_search_83 fl_RX0_9 ?_
          refine gf_X1_1 h dX0_search_86 fl_RX0_90 ?_
          try simp only [up_app, upC_app, cm_app, Nat.reduceEqDiff, reduceIte, Nat.reduceLeDiff, and_self, and_true, true_and, and_false, false_and, or_self, or_true, true_or, or_false, false_or, Nat.add_eq_zero_iff, Nat.succ_ne_self, Nat.add_right_cancel_iff]
          refine mi_icmp_ge (tgt := 127) h dX0_search_89 (by decide) ⟨by omega, by omega⟩ ⟨by omega, by omega⟩ (fun e89 => ?_) (fun e89 => ?_)
          · refine mi_aload_n h dX0_search_127 (by rfl) ?_
            refine mi_iload_n h dX0_search_128 (by rfl) ?_
            refine mi_cV1v (hw := Nat.le_of_ble_eq_true rfl) (hlev := by omega) h dX0_search_129 ml_RX0_82 ym_yX0_widen (by rfl) (by rfl) (c_X0_widen (σ := cm σ F) (k := d) (p := (f d).toNat) hS0 hZ hP (by omega) (by omega) hkp) (fun r129 σ129 hp129 => ?_)
            rw [cm_up _ _ (by decide), cm_up _ _ (by decide)] at hp129
            subst hp129
            refine mi_return (x := 0) h hr dX0_search_132 ?_
            exact ⟨_, rfl, SW_widen hH hdc hSW, hBI⟩
          · exfalso; omega
        | succ j ihj =>
          intro s F hs hSW hBI
          have hkp : cm σ F 18 d = (((f d).toNat : Nat) : Int) := by show F 18 d = _; rw [hSW.1]; omega
          have hkp2 : F 18 d = (((f d).toNat : Nat) : Int) := hkp
          have hZs : zN σ = (σ 1 1).toNat := rfl
          refine mi_iload_n h dX0_search_81 (by rfl) ?_
          refine mi_aload_n h dX0_search_82 (by rfl) ?_
          refine gf_X0_0 h dX0_search_83 fl_RX0_9 ?_
          refine gf_X1_1 h dX0_search_86 fl_RX0_90 ?_
          try simp only [up_app, upC_app, cm_app, Nat.reduceEqDiff, reduceIte, Nat.reduceLeDiff, and_self, and_true, true_and, and_false, false_and, or_self, or_true, true_or, or_false, false_or, Nat.add_eq_zero_iff, Nat.succ_ne_self, Nat.add_right_cancel_iff]
          refine mi_icmp_ge (tgt := 127) h dX0_search_89 (by decide) ⟨by omega, by omega⟩ ⟨by omega, by omega⟩ (fun e89 => ?_) (fun e89 => ?_)
          · exfalso; omega
          · refine mi_aload_n h dX0_search_92 (by rfl) ?_
            refine mi_iload_n h dX0_search_93 (by rfl) ?_
            refine mi_iload_n h dX0_search_94 (by rfl) ?_
            refine mi_cV2v (hw := Nat.le_of_ble_eq_true rfl) (hlev := by omega) h dX0_search_95 ml_RX0_105 ym_yX0_fix (by rfl) (by rfl) (c_X0_fix (σ := cm σ F) (k := d) (p := (f d).toNat) (z := s) (by omega) (by omega) (by omega) hkp) (fun r95 σ95 hp95 => ?_)
            rw [cm_up _ _ (by decide), cm_up _ _ (by decide), cm_up _ _ (by decide)] at hp95
            subst hp95
            refine mi_aload_n h dX0_search_98 (by rfl) ?_
            refine mi_iload_n h dX0_search_99 (by rfl) ?_
            refine mi_iconst h dX0_search_100 ?_
            refine mi_iadd h dX0_search_101 ?_
            refine mt_e (y := ((d + 1 : Nat) : Int)) (by omega) ?_
            refine mi_iload_n h dX0_search_102 (by rfl) ?_
            refine mi_aload_n h dX0_search_103 (by rfl) ?_
            refine gf_X0_0 h dX0_search_104 fl_RX0_9 ?_
            refine mi_aload_n h dX0_search_107 (by rfl) ?_
            refine gf_X0_5 h dX0_search_108 fl_RX0_23 ?_
            refine mi_iload_n h dX0_search_111 (by rfl) ?_
            refine mn_iaload (d) h dX0_search_112 (by rfl) (by omega) (by omega) (by decide) ?_
            try simp only [up_app, upC_app, cm_app, Nat.reduceEqDiff, reduceIte, Nat.reduceLeDiff, and_self, and_true, true_and, and_false, false_and, or_self, or_true, true_or, or_false, false_or, Nat.add_eq_zero_iff, Nat.succ_ne_self, Nat.add_right_cancel_iff]
            rw [hkp2]
            refine mi_iload_n h dX0_search_113 (by rfl) ?_
            refine mi_cV2i (hw := Nat.le_of_ble_eq_true rfl) (hlev := by omega) h dX0_search_114 ml_RX0_93 ym_yX1_priceWith (by rfl) (by rfl) (c_X1_priceWith (p := (f d).toNat) (z := s) (by omega) (by omega)) (fun r114 σ114 hp114 => ?_)
            obtain ⟨rfl, hv114⟩ := hp114
            have hv114 : r114 = σ 9 (f d).toNat * σ 7 s := hv114
            subst hv114
            refine mi_iadd h dX0_search_117 ?_
            refine mi_cS3v (hw := Nat.le_of_ble_eq_true rfl) (hlev := by omega) h dX0_search_118 ml_RX0_108 ym_yX0_search (ih m rfl (d + 1) (a * zN σ + s) _ _ (by omega) (by rw [ppr_s (by omega), hpr]) (SW_fix hH hdc (by omega) hSW) hBI) (fun r118 σ118 hp118 => ?_)
            obtain ⟨F3, rfl, hs3, hb3⟩ := hp118
            refine mi_iinc h dX0_search_121 (by rfl) ?_ (by decide)
            refine mi_goto (tgt := 81) h dX0_search_124 (by decide) ?_
            exact ihj (s + 1) F3 (by omega) (SW_back hH hdc (by omega) hs3) hb3
      have e8 : (a * zN σ + 0) * zN σ ^ m = a * zN σ ^ (m + 1) := by
        rw [Nat.add_zero, Nat.pow_succ, Nat.mul_comm (zN σ ^ m), ← Nat.mul_assoc]
      refine mi_iconst h dX0_search_79 ?_
      refine mi_istore_n h dX0_search_80 (by decide) ?_
      exact loop (zN σ) 0 F (by omega) (SW_weak hI) (by rw [e8]; exact hB2)
  refine mi_iload_n h dX0_search_0 (by rfl) ?_
  refine mi_aload_n h dX0_search_1 (by rfl) ?_
  refine gf_X0_4 h dX0_search_2 fl_RX0_55 ?_
  try simp only [up_app, upC_app, cm_app, Nat.reduceEqDiff, reduceIte, Nat.reduceLeDiff, and_self, and_true, true_and, and_false, false_and, or_self, or_true, true_or, or_false, false_or, Nat.add_eq_zero_iff, Nat.succ_ne_self, Nat.add_right_cancel_iff]
  refine mi_icmp_gt (tgt := 23) h dX0_search_5 (by decide) ⟨by omega, by omega⟩ ⟨by omega, by omega⟩ (fun e5 => ?_) (fun e5 => ?_)
  · exfalso; omega
  · refine mi_iload_n h dX0_search_8 (by rfl) ?_
    refine mi_aload_n h dX0_search_9 (by rfl) ?_
    refine gf_X0_9 h dX0_search_10 fl_RX0_32 ?_
    refine mi_iload_n h dX0_search_13 (by rfl) ?_
    refine mn_iaload (d) h dX0_search_14 (by rfl) (by omega) (by omega) (by decide) ?_
    try simp only [up_app, upC_app, cm_app, Nat.reduceEqDiff, reduceIte, Nat.reduceLeDiff, and_self, and_true, true_and, and_false, false_and, or_self, or_true, true_or, or_false, false_or, Nat.add_eq_zero_iff, Nat.succ_ne_self, Nat.add_right_cancel_iff]
    refine mi_iadd h dX0_search_15 ?_
    refine mi_aload_n h dX0_search_16 (by rfl) ?_
    refine gf_X0_8 h dX0_search_17 fl_RX0_49 ?_
    try simp only [up_app, upC_app, cm_app, Nat.reduceEqDiff, reduceIte, Nat.reduceLeDiff, and_self, and_true, true_and, and_false, false_and, or_self, or_true, true_or, or_false, false_or, Nat.add_eq_zero_iff, Nat.succ_ne_self, Nat.add_right_cancel_iff]
    refine mi_icmp_lt (tgt := 24) h dX0_search_20 (by decide) ⟨by omega, by omega⟩ ⟨by omega, by omega⟩ (fun e20 => ?_) (fun e20 => ?_)
    · refine mi_iload_n h dX0_search_24 (by rfl) ?_
      refine mi_aload_n h dX0_search_25 (by rfl) ?_
      refine gf_X0_4 h dX0_search_26 fl_RX0_55 ?_
      try simp only [up_app, upC_app, cm_app, Nat.reduceEqDiff, reduceIte, Nat.reduceLeDiff, and_self, and_true, true_and, and_false, false_and, or_self, or_true, true_or, or_false, false_or, Nat.add_eq_zero_iff, Nat.succ_ne_self, Nat.add_right_cancel_iff]
      refine mi_icmp_ne (tgt := 60) h dX0_search_29 (by decide) ⟨by omega, by omega⟩ ⟨by omega, by omega⟩ (fun e29 => ?_) (fun e29 => ?_)
      · refine mi_iload_n h dX0_search_60 (by rfl) ?_
        refine mi_aload_n h dX0_search_61 (by rfl) ?_
        refine gf_X0_4 h dX0_search_62 fl_RX0_55 ?_
        try simp only [up_app, upC_app, cm_app, Nat.reduceEqDiff, reduceIte, Nat.reduceLeDiff, and_self, and_true, true_and, and_false, false_and, or_self, or_true, true_or, or_false, false_or, Nat.add_eq_zero_iff, Nat.succ_ne_self, Nat.add_right_cancel_iff]
        refine mi_iconst h dX0_search_65 ?_
        refine mi_isub h dX0_search_66 ?_
        refine mi_icmp_ge (tgt := 79) h dX0_search_67 (by decide) ⟨by omega, by omega⟩ ⟨by omega, by omega⟩ (fun e67 => ?_) (fun e67 => ?_)
        · first | exact tail _ _ (by omega) (scr G P g g1 g2) (bscr G P g) | exact tail F _ (by omega) hI hB2
        · refine mi_aload_n h dX0_search_70 (by rfl) ?_
          refine mi_iconst h dX0_search_71 ?_
          refine mi_cV1i (hw := Nat.le_of_ble_eq_true rfl) (hlev := by omega) h dX0_search_72 ml_RX0_101 ym_yX0_areAllMet (by rfl) (by rfl) (c_X0_areAllMet (σ := cm σ F) (s := 0) hS0 hZ hP hQ hB (by omega) (fun e he => (hdr e he).1) (fun e he => (hdr e he).2) (by show 0 ≤ F 3 3 ∧ F 3 3 ≤ 6; omega) (by show 0 ≤ F 3 12 ∧ (F 3 12 < F 3 3 ∨ F 3 12 = 0); omega)) (fun r72 σ72 hp72 => ?_)
          obtain ⟨⟨G, P, g, rfl, g1, g2⟩, hb72, hc72⟩ := hp72
          rw [cm_upC _ _ (by decide), cm_upC _ _ (by decide), cm_up _ _ (by decide)]
          have g2 : g < σ 0 5 ∨ g = 0 := by rw [← q33]; exact g2
          refine mi_if_ne (tgt := 79) h dX0_search_75 (by decide) ⟨by omega, by omega⟩ (fun e75 => ?_) (fun e75 => ?_)
          · first | exact tail _ _ (by omega) (scr G P g g1 g2) (bscr G P g) | exact tail F _ (by omega) hI hB2
          · refine mi_return (x := 0) h hr dX0_search_78 ?_
            refine ⟨_, rfl, scr G P g g1 g2, skip _ (bscr G P g) (fun i h1 h2 hm9 => ?_)⟩
            exfalso
            have h9 : r72 = 1 := hc72.mpr (fun h9 hh => by
              have hh : (h9 : Int) < F 3 3 := hh
              show 0 ≤ lsG 0 σ (F 22) (F 23) h9
              rw [lsG_cong hS0 (fun e he => (qd e he (fun z => z)).1) (fun e he => (qd e he (fun z => z)).2)]
              have := ls_prune (h := h9) hS0 hZ hP hE hQ hB hd h1 h2
              have := hm9 h9 (by omega)
              omega)
            omega
      · refine mi_aload_n h dX0_search_32 (by rfl) ?_
        refine mi_iconst h dX0_search_33 ?_
        refine mi_cV1i (hw := Nat.le_of_ble_eq_true rfl) (hlev := by omega) h dX0_search_34 ml_RX0_101 ym_yX0_areAllMet (by rfl) (by rfl) (c_X0_areAllMet (σ := cm σ F) (s := 1) hS0 hZ hP hQ hB (by omega) (fun e he => (hdr e he).1) (fun e he => (hdr e he).2) (by show 0 ≤ F 3 3 ∧ F 3 3 ≤ 6; omega) (by show 0 ≤ F 3 12 ∧ (F 3 12 < F 3 3 ∨ F 3 12 = 0); omega)) (fun r34 σ34 hp34 => ?_)
        obtain ⟨⟨G, P, g, rfl, g1, g2⟩, hb34, hc34⟩ := hp34
        rw [cm_upC _ _ (by decide), cm_upC _ _ (by decide), cm_up _ _ (by decide)]
        have g2 : g < σ 0 5 ∨ g = 0 := by rw [← q33]; exact g2
        have hdc : d = cntC σ := by omega
        have hm0 : m = 0 := by omega
        have hc34 : r34 = 1 ↔ mtC σ a := by
          rw [hc34]
          have e9 := fun h9 => ls_leaf (h := h9) (a := a) (L := F 22) (H := F 23) hS0 hZ hP hE hQ hB (by rw [← hdc]; exact fun e he => (qd e he (fun z => z)).1) (by rw [← hdc]; exact fun e he => (qd e he (fun z => z)).2)
          refine ⟨fun z h9 hh => ?_, fun z h9 hh => ?_⟩
          · rw [← e9 h9]; exact z h9 (by show (h9 : Int) < F 3 3; omega)
          · have hh : (h9 : Int) < F 3 3 := hh
            show 0 ≤ lsG 1 σ (F 22) (F 23) h9
            rw [e9 h9]; exact z h9 (by omega)
        refine mi_if_eq (tgt := 59) h dX0_search_37 (by decide) ⟨by omega, by omega⟩ (fun e37 => ?_) (fun e37 => ?_)
        · refine mi_return (x := 0) h hr dX0_search_59 ?_
          first
          | (refine ⟨_, rfl, scr G P g g1 g2, skip _ (bscr G P g) (fun i h1 h2 hm9 => ?_)⟩
             rw [hm0, Nat.pow_zero, Nat.mul_one] at h1 h2
             exfalso
             have : i = a := by omega
             rw [this] at hm9
             have := hc34.mpr hm9
             omega)
          | (have hmt := hc34.mp (by omega)
             have e7 : fO (ppr σ f (cntC σ)) (mtC σ) ((a + 1) * zN σ ^ m) = some a := by
               rw [hm0, Nat.pow_zero, Nat.mul_one]
               rw [hm0, Nat.pow_zero, Nat.mul_one] at hB2
               refine fO_take hmt (fun b hb => ?_)
               have := (hB2.2 b hb).1
               rw [← hdc, ← hpr, hdc]
               omega
             refine ⟨_, rfl, ⟨q18, q21, q33, q34, ⟨g1, g2⟩, q19, qd⟩, fun z => ?_, fun b z => ?_⟩
             · rw [e7] at z; cases z
             · rw [e7] at z; cases z
               refine ⟨by rw [← hdc]; exact hpr, fun k hk => ?_⟩
               rw [upC_eq]
               show (if k < 5 then F 19 k else F 20 k) = _
               rw [if_pos (by omega), q19 k (by omega), hdc])
        · refine mi_aload_n h dX0_search_40 (by rfl) ?_
          refine mi_iload_n h dX0_search_41 (by rfl) ?_
          refine pf_X0_8 h dX0_search_42 fl_RX0_49 ?_
          refine mi_aload_n h dX0_search_45 (by rfl) ?_
          refine gf_X0_6 h dX0_search_46 fl_RX0_26 ?_
          refine mi_iconst h dX0_search_49 ?_
          refine mi_aload_n h dX0_search_50 (by rfl) ?_
          refine gf_X0_7 h dX0_search_51 fl_RX0_29 ?_
          refine mi_iconst h dX0_search_54 ?_
          refine mi_iconst h dX0_search_55 ?_
          refine mi_copy h dX0_search_56 rfl rfl rfl (by decide) (by omega) ?_
          rw [cm_up _ _ (by decide), cm_upC _ _ (by decide)]
          refine mi_return (x := 0) h hr dX0_search_59 ?_
          first
          | (refine ⟨_, rfl, scr G P g g1 g2, skip _ (bscr G P g) (fun i h1 h2 hm9 => ?_)⟩
             rw [hm0, Nat.pow_zero, Nat.mul_one] at h1 h2
             exfalso
             have : i = a := by omega
             rw [this] at hm9
             have := hc34.mpr hm9
             omega)
          | (have hmt := hc34.mp (by omega)
             have e7 : fO (ppr σ f (cntC σ)) (mtC σ) ((a + 1) * zN σ ^ m) = some a := by
               rw [hm0, Nat.pow_zero, Nat.mul_one]
               rw [hm0, Nat.pow_zero, Nat.mul_one] at hB2
               refine fO_take hmt (fun b hb => ?_)
               have := (hB2.2 b hb).1
               rw [← hdc, ← hpr, hdc]
               omega
             refine ⟨_, rfl, ⟨q18, q21, q33, q34, ⟨g1, g2⟩, q19, qd⟩, fun z => ?_, fun b z => ?_⟩
             · rw [e7] at z; cases z
             · rw [e7] at z; cases z
               refine ⟨by rw [← hdc]; exact hpr, fun k hk => ?_⟩
               rw [upC_eq]
               show (if k < 5 then F 19 k else F 20 k) = _
               rw [if_pos (by omega), q19 k (by omega), hdc])
    · refine mi_return (x := 0) h hr dX0_search_23 ?_
      refine ⟨F, rfl, hI, skip F hB2 (fun i h1 h2 _ => ?_)⟩
      have h9 := ppr_le hH hd h1 h2
      have h8 := ppr_rng hH (a := i) (Nat.le_refl (cntC σ))
      cases e : fO (ppr σ f (cntC σ)) (mtC σ) (a * zN σ ^ m) with
      | none => have := hB2.1 e; omega
      | some b => exact ⟨b, rfl, by have := (hB2.2 b e).1; omega⟩
theorem SR_all {σ : Mem} {f lr : Nat → Int} (hH : HS σ f lr) : ∀ m, SR σ f lr m
  | 0 => fun d a F pr h1 h2 h3 h4 => c_X0_search hH (fun m' z => by omega) h1 h2 h3 h4
  | m + 1 => fun d a F pr h1 h2 h3 h4 => c_X0_search hH (fun m' z => by cases z; exact SR_all hH m) h1 h2 h3 h4
