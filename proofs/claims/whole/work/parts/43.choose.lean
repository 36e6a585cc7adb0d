theorem FL_ext {fr f : Nat → Int} {p n : Nat} (h : FL fr p f) (hpn : p ≤ n) (he : rkN fr n = rkN fr p) : FL fr n f := by
  refine ⟨fun q hq h1 => ?_, fun k hk => ?_⟩
  · by_cases e : q < p
    · exact h.1 q e h1
    · have a1 := rkN_lt h1 hq
      have a2 := rkN_mono (fr := fr) (p := p) (q - p)
      rw [show p + (q - p) = q by omega] at a2
      omega
  · rw [he] at hk
    have := h.2 k hk
    exact ⟨this.1, by omega, this.2.2⟩
/-- the drags ahead of the search, the pipes below p being done -/
def dP (σ : Mem) (p : Nat) (w : Mem → Nat → Int) (e : Nat) : Int := if 0 < e ∧ bv (σ 1 11) (e - 1) = 1 ∧ e - 1 < p then w σ (e - 1) else σ 12 e
theorem dP_no {σ : Mem} {p : Nat} {w : Mem → Nat → Int} (h : ¬ bv (σ 1 11) p = 1) (e : Nat) : dP σ (p + 1) w e = dP σ p w e := by
  unfold dP
  by_cases q : 0 < e ∧ bv (σ 1 11) (e - 1) = 1 ∧ e - 1 < p
  · rw [if_pos q, if_pos ⟨q.1, q.2.1, by omega⟩]
  · rw [if_neg q, if_neg (fun z => by
      by_cases e9 : e - 1 = p
      · rw [e9] at z; exact h z.2.1
      · exact q ⟨z.1, z.2.1, by omega⟩)]
theorem dP_yes {σ : Mem} {p : Nat} {w : Mem → Nat → Int} (h : bv (σ 1 11) p = 1) (e : Nat) : dP σ (p + 1) w e = if e = p + 1 then w σ p else dP σ p w e := by
  unfold dP
  by_cases q : e = p + 1
  · subst q
    rw [if_pos rfl, Nat.add_sub_cancel, if_pos ⟨by omega, h, by omega⟩]
  · rw [if_neg q]
    by_cases q2 : 0 < e ∧ bv (σ 1 11) (e - 1) = 1 ∧ e - 1 < p
    · rw [if_pos q2, if_pos ⟨q2.1, q2.2.1, by omega⟩]
    · rw [if_neg q2, if_neg (fun z => q2 ⟨z.1, z.2.1, by omega⟩)]
set_option maxHeartbeats 4000000 in
set_option maxRecDepth 100000 in
theorem c_X0_listFreePipes {σ F0 : Mem} (hS0 : IS σ) (hZ : IZ σ) (hP : IP σ) (hE : IE σ) (hQ : IQ σ) (hB : IB σ) : Sp1 yX0_listFreePipes cX0_listFreePipes 2 none 0 2 [vr 3] (cm σ F0) (fun r σ' => ∃ F, cm σ F = σ' ∧ HS σ (F 18) (F 21) ∧ F 3 4 = (cntC σ : Int) ∧ F 3 3 = F0 3 3 ∧ F 3 8 = F0 3 8 ∧ F 3 12 = F0 3 12 ∧ (∀ e, e < 25 → F 22 e = dL σ 0 0 e ∧ F 23 e = dH σ 0 0 e)) := by
  refine Sp1_in RX0 rfl (by decide +kernel) (Nat.le_of_ble_eq_true rfl) [some (vr 3), none] rfl ?_
  intro K h hr
  obtain ⟨i1, i2, i3, i4, i5, i6, i7, i8⟩ := id hS0
  have h5 := cnt_le hS0 hB
  have lpr : ∀ p : Nat, (p : Int) < σ 1 4 → 0 ≤ lpC σ p ∧ lpC σ p ≤ 10000 := fun p hp => by
    have z6 := Z_pos hS0 hP hQ hp
    have hz : zN σ = (σ 1 1).toNat := rfl
    have hl := (hP p (by omega)).2.1
    have hr9 : ∀ z, z < (σ 1 1).toNat → 0 ≤ σ 9 p * σ 7 z ∧ σ 9 p * σ 7 z ≤ 10000 := fun z hz => ml_rng hl (hZ z (by omega)).2.1 rfl
    have a1 := mnF_rng (f := fun z => σ 9 p * σ 7 z) (B := 10000) (by decide) (n := (σ 1 1).toNat) hr9
    have a2 := a1.2.2 0 (by omega)
    have a3 := hr9 0 (by omega)
    exact ⟨a1.1, Int.le_trans a2 a3.2⟩
  -- the prices
  have loop2 : ∀ (k : Nat) (F : Mem), k ≤ cntC σ → FL (bv (σ 1 11)) (σ 1 4).toNat (F 18) → F 3 4 = (cntC σ : Int) → F 3 3 = F0 3 3 → F 3 8 = F0 3 8 → F 3 12 = F0 3 12 → (∀ e, e < 25 → F 22 e = dL σ 0 0 e ∧ F 23 e = dH σ 0 0 e) → (∀ j, k ≤ j → j ≤ cntC σ → F 21 j = sm (fun j => lpC σ (F 18 j).toNat) (cntC σ) - sm (fun j => lpC σ (F 18 j).toNat) j) → M K 128 [some (vr 3), some (vi ((k : Int) - 1))] [] (cm σ F) := by
    intro k
    induction k with
    | zero =>
      intro F hk hF h34 h33 h38 h312 hdr hlr
      refine mi_iload_n h dX0_listFreePipes_128 (by rfl) ?_
      refine mi_if_lt (tgt := 163) h dX0_listFreePipes_129 (by decide) ⟨by omega, by omega⟩ (fun e129 => ?_) (fun e129 => ?_)
      · refine mi_return (x := 0) h hr dX0_listFreePipes_163 ?_
        exact ⟨F, rfl, ⟨⟨hS0, hZ, hP, hE, hQ, hB⟩, hF, fun k hk => hlr k (by omega) hk⟩, h34, h33, h38, h312, hdr⟩
      · exfalso; omega
    | succ k ih =>
      intro F hk hF h34 h33 h38 h312 hdr hlr
      have c1 := hF.2 k (by unfold cntC at hk; omega)
      have e1 := hlr (k + 1) (Nat.le_refl _) hk
      refine mi_iload_n h dX0_listFreePipes_128 (by rfl) ?_
      refine mi_if_lt (tgt := 163) h dX0_listFreePipes_129 (by decide) ⟨by omega, by omega⟩ (fun e129 => ?_) (fun e129 => ?_)
      · exfalso; omega
      · rw [show ((k + 1 : Nat) : Int) - 1 = (k : Int) by omega]
        refine mi_aload_n h dX0_listFreePipes_132 (by rfl) ?_
        refine gf_X0_9 h dX0_listFreePipes_133 fl_RX0_32 ?_
        refine mi_iload_n h dX0_listFreePipes_136 (by rfl) ?_
        refine mi_aload_n h dX0_listFreePipes_137 (by rfl) ?_
        refine gf_X0_9 h dX0_listFreePipes_138 fl_RX0_32 ?_
        refine mi_iload_n h dX0_listFreePipes_141 (by rfl) ?_
        refine mi_iconst h dX0_listFreePipes_142 ?_
        refine mi_iadd h dX0_listFreePipes_143 ?_
        refine mn_iaload (k + 1) h dX0_listFreePipes_144 (by rfl) (by omega) (by omega) (by decide) ?_
        try simp only [up_app, upC_app, cm_app, Nat.reduceEqDiff, reduceIte, Nat.reduceLeDiff, and_self, and_true, true_and, and_false, false_and, or_self, or_true, true_or, or_false, false_or, Nat.add_eq_zero_iff, Nat.succ_ne_self, Nat.add_right_cancel_iff]
        refine mi_aload_n h dX0_listFreePipes_145 (by rfl) ?_
        refine mi_aload_n h dX0_listFreePipes_146 (by rfl) ?_
        refine gf_X0_5 h dX0_listFreePipes_147 fl_RX0_23 ?_
        refine mi_iload_n h dX0_listFreePipes_150 (by rfl) ?_
        refine mn_iaload (k) h dX0_listFreePipes_151 (by rfl) (by omega) (by omega) (by decide) ?_
        try simp only [up_app, upC_app, cm_app, Nat.reduceEqDiff, reduceIte, Nat.reduceLeDiff, and_self, and_true, true_and, and_false, false_and, or_self, or_true, true_or, or_false, false_or, Nat.add_eq_zero_iff, Nat.succ_ne_self, Nat.add_right_cancel_iff]
        refine mt_e (y := (((F 18 k).toNat : Nat) : Int)) (by omega) ?_
        refine mi_cV1i (hw := Nat.le_of_ble_eq_true rfl) h dX0_listFreePipes_152 ml_RX0_86 ym_yX0_leastPrice (by rfl) (by rfl) (c_X0_leastPrice (σ := cm σ F) (p := (F 18 k).toNat) hS0 hZ hP (by omega)) (fun r152 σ152 hp152 => ?_)
        obtain ⟨rfl, hv152⟩ := hp152
        have hv152 : r152 = lpC σ (F 18 k).toNat := hv152
        subst hv152
        refine mi_iadd h dX0_listFreePipes_155 ?_
        refine mn_iastore (k) h dX0_listFreePipes_156 (by rfl) (by omega) (by omega) (by decide) ?_
        refine mi_iinc h dX0_listFreePipes_157 (by rfl) ?_ (by decide)
        refine mi_goto (tgt := 128) h dX0_listFreePipes_160 (by decide) ?_
        rw [cm_up _ _ (by decide)]
        refine ih _ (by omega) hF h34 h33 h38 h312 hdr (fun j h1 h2 => ?_)
        have e9 : up F 21 k (F 21 (k + 1) + lpC σ (F 18 k).toNat) 18 = F 18 := rfl
        rw [up_at, e9]
        by_cases e8 : j = k
        · rw [if_pos e8, e8, e1, sm]; omega
        · rw [if_neg e8]; exact hlr j (by omega) h2
  have fin : ∀ (p : Nat) (F : Mem), (p : Int) ≤ σ 1 4 → rkN (bv (σ 1 11)) p = cntC σ → FL (bv (σ 1 11)) p (F 18) → F 3 4 = (cntC σ : Int) → F 3 3 = F0 3 3 → F 3 8 = F0 3 8 → F 3 12 = F0 3 12 → (∀ e, e < 25 → F 22 e = dP σ p loC e ∧ F 23 e = dP σ p hiC e) → M K 111 [some (vr 3), some (vi (p : Int))] [] (cm σ F) := by
    intro p F hp hr9 hF h34 h33 h38 h312 hdr
    have hF2 := FL_ext (n := (σ 1 4).toNat) hF (by omega) (by rw [hr9]; rfl)
    have hdr2 : ∀ e, e < 25 → F 22 e = dL σ 0 0 e ∧ F 23 e = dH σ 0 0 e := by
      intro e he
      rw [(hdr e he).1, (hdr e he).2]
      unfold dP dL dH
      by_cases q : 0 < e ∧ bv (σ 1 11) (e - 1) = 1
      · have q2 : e - 1 < p := by
          rcases Nat.lt_or_ge (e - 1) p with z | z
          · exact z
          · exfalso
            have a1 := rkN_lt (n := (σ 1 4).toNat) q.2 (by have := fr_lt hB q.2; omega)
            have a2 := rkN_mono (fr := bv (σ 1 11)) (p := p) (e - 1 - p)
            rw [show p + (e - 1 - p) = e - 1 by omega] at a2
            unfold cntC at hr9
            omega
        have q3 : 0 < e ∧ bv (σ 1 11) (e - 1) = 1 ∧ e - 1 < p := ⟨q.1, q.2, q2⟩
        have q4 : ¬ rkN (bv (σ 1 11)) (e - 1) < 0 := by omega
        simp only [if_pos q, if_pos q3, if_neg q4, and_self]
      · have q3 : ¬ (0 < e ∧ bv (σ 1 11) (e - 1) = 1 ∧ e - 1 < p) := fun z => q ⟨z.1, z.2.1⟩
        simp only [if_neg q, if_neg q3, and_self]
    refine mi_aload_n h dX0_listFreePipes_111 (by rfl) ?_
    refine gf_X0_9 h dX0_listFreePipes_112 fl_RX0_32 ?_
    refine mi_aload_n h dX0_listFreePipes_115 (by rfl) ?_
    refine gf_X0_4 h dX0_listFreePipes_116 fl_RX0_55 ?_
    try simp only [up_app, upC_app, cm_app, Nat.reduceEqDiff, reduceIte, Nat.reduceLeDiff, and_self, and_true, true_and, and_false, false_and, or_self, or_true, true_or, or_false, false_or, Nat.add_eq_zero_iff, Nat.succ_ne_self, Nat.add_right_cancel_iff]
    refine mi_iconst h dX0_listFreePipes_119 ?_
    refine mn_iastore (cntC σ) h dX0_listFreePipes_120 (by rfl) (by omega) (by omega) (by decide) ?_
    refine mi_aload_n h dX0_listFreePipes_121 (by rfl) ?_
    refine gf_X0_4 h dX0_listFreePipes_122 fl_RX0_55 ?_
    try simp only [up_app, upC_app, cm_app, Nat.reduceEqDiff, reduceIte, Nat.reduceLeDiff, and_self, and_true, true_and, and_false, false_and, or_self, or_true, true_or, or_false, false_or, Nat.add_eq_zero_iff, Nat.succ_ne_self, Nat.add_right_cancel_iff]
    rw [h34]
    refine mi_iconst h dX0_listFreePipes_125 ?_
    refine mi_isub h dX0_listFreePipes_126 ?_
    refine mi_istore_n h dX0_listFreePipes_127 (by decide) ?_
    rw [cm_up _ _ (by decide)]
    refine loop2 (cntC σ) _ (Nat.le_refl _) hF2 h34 h33 h38 h312 hdr2 (fun j h1 h2 => ?_)
    rw [up_at, if_pos (by omega), show j = cntC σ by omega]
    omega
  have loop1 : ∀ (j p : Nat) (F : Mem), (p : Int) + j = σ 1 4 → FL (bv (σ 1 11)) p (F 18) → F 3 4 = (rkN (bv (σ 1 11)) p : Int) → F 3 3 = F0 3 3 → F 3 8 = F0 3 8 → F 3 12 = F0 3 12 → (∀ e, e < 25 → F 22 e = dP σ p loC e ∧ F 23 e = dP σ p hiC e) → M K 43 [some (vr 3), some (vi (p : Int))] [] (cm σ F) := by
    intro j
    induction j with
    | zero =>
      intro p F hp hF h34 h33 h38 h312 hdr
      have e9 : cntC σ = rkN (bv (σ 1 11)) p := by unfold cntC; rw [show (σ 1 4).toNat = p by omega]
      refine mi_iload_n h dX0_listFreePipes_43 (by rfl) ?_
      refine mi_aload_n h dX0_listFreePipes_44 (by rfl) ?_
      refine gf_X0_0 h dX0_listFreePipes_45 fl_RX0_9 ?_
      refine gf_X1_4 h dX0_listFreePipes_48 fl_RX0_73 ?_
      try simp only [up_app, upC_app, cm_app, Nat.reduceEqDiff, reduceIte, Nat.reduceLeDiff, and_self, and_true, true_and, and_false, false_and, or_self, or_true, true_or, or_false, false_or, Nat.add_eq_zero_iff, Nat.succ_ne_self, Nat.add_right_cancel_iff]
      refine mi_icmp_ge (tgt := 111) h dX0_listFreePipes_51 (by decide) ⟨by omega, by omega⟩ ⟨by omega, by omega⟩ (fun e51 => ?_) (fun e51 => ?_)
      · exact fin p F (by omega) e9.symm hF (by rw [e9]; exact h34) h33 h38 h312 hdr
      · exfalso; omega
    | succ j ih =>
      intro p F hp hF h34 h33 h38 h312 hdr
      have a1 := rkN_mono (fr := bv (σ 1 11)) (p := p) ((σ 1 4).toNat - p)
      rw [show p + ((σ 1 4).toNat - p) = (σ 1 4).toNat by omega] at a1
      have a2 : rkN (bv (σ 1 11)) (σ 1 4).toNat = cntC σ := rfl
      have a3 := bv_01 (σ 1 11) p
      refine mi_iload_n h dX0_listFreePipes_43 (by rfl) ?_
      refine mi_aload_n h dX0_listFreePipes_44 (by rfl) ?_
      refine gf_X0_0 h dX0_listFreePipes_45 fl_RX0_9 ?_
      refine gf_X1_4 h dX0_listFreePipes_48 fl_RX0_73 ?_
      try simp only [up_app, upC_app, cm_app, Nat.reduceEqDiff, reduceIte, Nat.reduceLeDiff, and_self, and_true, true_and, and_false, false_and, or_self, or_true, true_or, or_false, false_or, Nat.add_eq_zero_iff, Nat.succ_ne_self, Nat.add_right_cancel_iff]
      refine mi_icmp_ge (tgt := 111) h dX0_listFreePipes_51 (by decide) ⟨by omega, by omega⟩ ⟨by omega, by omega⟩ (fun e51 => ?_) (fun e51 => ?_)
      · exfalso; omega
      · refine mi_aload_n h dX0_listFreePipes_54 (by rfl) ?_
        refine gf_X0_4 h dX0_listFreePipes_55 fl_RX0_55 ?_
        try simp only [up_app, upC_app, cm_app, Nat.reduceEqDiff, reduceIte, Nat.reduceLeDiff, and_self, and_true, true_and, and_false, false_and, or_self, or_true, true_or, or_false, false_or, Nat.add_eq_zero_iff, Nat.succ_ne_self, Nat.add_right_cancel_iff]
        refine mi_iconst h dX0_listFreePipes_58 ?_
        refine mi_icmp_ge (tgt := 111) h dX0_listFreePipes_59 (by decide) ⟨by omega, by omega⟩ ⟨by omega, by omega⟩ (fun e59 => ?_) (fun e59 => ?_)
        · exact fin p F (by omega) (by omega) hF (by omega) h33 h38 h312 hdr
        · refine mi_aload_n h dX0_listFreePipes_62 (by rfl) ?_
          refine gf_X0_0 h dX0_listFreePipes_63 fl_RX0_9 ?_
          refine gf_X1_11 h dX0_listFreePipes_66 fl_RX0_75 ?_
          try simp only [up_app, upC_app, cm_app, Nat.reduceEqDiff, reduceIte, Nat.reduceLeDiff, and_self, and_true, true_and, and_false, false_and, or_self, or_true, true_or, or_false, false_or, Nat.add_eq_zero_iff, Nat.succ_ne_self, Nat.add_right_cancel_iff]
          refine mi_iload_n h dX0_listFreePipes_69 (by rfl) ?_
          refine mi_cN2i (hw := Nat.le_of_ble_eq_true rfl) (host := "SprinklerHouse") h dX0_listFreePipes_70 (by decide) ym_yX5_bit (c_bit i5 (by omega)) (fun r70 σ70 hp70 => ?_)
          obtain ⟨rfl, rfl⟩ := hp70
          refine mi_iconst h dX0_listFreePipes_73 ?_
          refine mi_icmp_ne (tgt := 105) h dX0_listFreePipes_74 (by decide) ⟨by omega, by omega⟩ ⟨by omega, by omega⟩ (fun e74 => ?_) (fun e74 => ?_)
          · refine mi_iinc h dX0_listFreePipes_105 (by rfl) ?_ (by decide)
            refine mi_goto (tgt := 43) h dX0_listFreePipes_108 (by decide) ?_
            first
            | (have e70 : bv (σ 1 11) p = 1 := e74
               rw [cm_up _ _ (by decide)]
               refine ih (p + 1) _ (by omega) ?_ ?_ h33 h38 h312 (fun e he => ?_)
               · have z9 := FL_yes hF e70
                 rw [← up_st2] at z9
                 exact z9
               · show (rkN (bv (σ 1 11)) p : Int) + 1 = _
                 rw [rkN, if_pos e70]; omega
               · rw [dP_yes e70, dP_yes e70]
                 show (if e = p + 1 then loC σ p else F 22 e) = _ ∧ (if e = p + 1 then hiC σ p else F 23 e) = _
                 rw [(hdr e he).1, (hdr e he).2]; exact ⟨rfl, rfl⟩)
            | (refine ih (p + 1) F (by omega) (FL_no hF e74) ?_ h33 h38 h312 (fun e he => ?_)
               · rw [rkN, if_neg e74]; exact h34
               · rw [dP_no e74, dP_no e74]; exact hdr e he)
          · refine mi_aload_n h dX0_listFreePipes_77 (by rfl) ?_
            refine gf_X0_5 h dX0_listFreePipes_78 fl_RX0_23 ?_
            refine mi_aload_n h dX0_listFreePipes_81 (by rfl) ?_
            refine gf_X0_4 h dX0_listFreePipes_82 fl_RX0_55 ?_
            try simp only [up_app, upC_app, cm_app, Nat.reduceEqDiff, reduceIte, Nat.reduceLeDiff, and_self, and_true, true_and, and_false, false_and, or_self, or_true, true_or, or_false, false_or, Nat.add_eq_zero_iff, Nat.succ_ne_self, Nat.add_right_cancel_iff]
            refine mi_iload_n h dX0_listFreePipes_85 (by rfl) ?_
            refine mn_iastore (rkN (bv (σ 1 11)) p) h dX0_listFreePipes_86 (by rfl) (by omega) (by omega) (by decide) ?_
            refine mi_aload_n h dX0_listFreePipes_87 (by rfl) ?_
            refine mi_aload_n h dX0_listFreePipes_88 (by rfl) ?_
            refine gf_X0_4 h dX0_listFreePipes_89 fl_RX0_55 ?_
            try simp only [up_app, upC_app, cm_app, Nat.reduceEqDiff, reduceIte, Nat.reduceLeDiff, and_self, and_true, true_and, and_false, false_and, or_self, or_true, true_or, or_false, false_or, Nat.add_eq_zero_iff, Nat.succ_ne_self, Nat.add_right_cancel_iff]
            rw [h34]
            refine mi_cV1v (hw := Nat.le_of_ble_eq_true rfl) h dX0_listFreePipes_92 ml_RX0_82 ym_yX0_widen (by rfl) (by rfl) (c_X0_widen (k := rkN (bv (σ 1 11)) p) (p := p) hS0 hZ hP (by omega) (by omega) (by simp only [up_app, cm_app, Nat.reduceEqDiff, reduceIte])) (fun r92 σ92 hp92 => ?_)
            rw [cm_up _ _ (by decide), cm_up _ _ (by decide), cm_up _ _ (by decide)] at hp92
            subst hp92
            refine mi_aload_n h dX0_listFreePipes_95 (by rfl) ?_
            refine mi_dup h dX0_listFreePipes_96 (fun _ => rfl) ?_
            refine gf_X0_4 h dX0_listFreePipes_97 fl_RX0_55 ?_
            try simp only [up_app, upC_app, cm_app, Nat.reduceEqDiff, reduceIte, Nat.reduceLeDiff, and_self, and_true, true_and, and_false, false_and, or_self, or_true, true_or, or_false, false_or, Nat.add_eq_zero_iff, Nat.succ_ne_self, Nat.add_right_cancel_iff]
            rw [h34]
            refine mi_iconst h dX0_listFreePipes_100 ?_
            refine mi_iadd h dX0_listFreePipes_101 ?_
            refine pf_X0_4 h dX0_listFreePipes_102 fl_RX0_55 ?_
            refine mi_iinc h dX0_listFreePipes_105 (by rfl) ?_ (by decide)
            refine mi_goto (tgt := 43) h dX0_listFreePipes_108 (by decide) ?_
            first
            | (have e70 : bv (σ 1 11) p = 1 := e74
               rw [cm_up _ _ (by decide)]
               refine ih (p + 1) _ (by omega) ?_ ?_ h33 h38 h312 (fun e he => ?_)
               · have z9 := FL_yes hF e70
                 rw [← up_st2] at z9
                 exact z9
               · show (rkN (bv (σ 1 11)) p : Int) + 1 = _
                 rw [rkN, if_pos e70]; omega
               · rw [dP_yes e70, dP_yes e70]
                 show (if e = p + 1 then loC σ p else F 22 e) = _ ∧ (if e = p + 1 then hiC σ p else F 23 e) = _
                 rw [(hdr e he).1, (hdr e he).2]; exact ⟨rfl, rfl⟩)
            | (refine ih (p + 1) F (by omega) (FL_no hF e74) ?_ h33 h38 h312 (fun e he => ?_)
               · rw [rkN, if_neg e74]; exact h34
               · rw [dP_no e74, dP_no e74]; exact hdr e he)
  refine mi_aload_n h dX0_listFreePipes_0 (by rfl) ?_
  refine gf_X0_0 h dX0_listFreePipes_1 fl_RX0_9 ?_
  refine gf_X1_9 h dX0_listFreePipes_4 fl_RX0_64 ?_
  refine mi_iconst h dX0_listFreePipes_7 ?_
  refine mi_aload_n h dX0_listFreePipes_8 (by rfl) ?_
  refine gf_X0_10 h dX0_listFreePipes_9 fl_RX0_35 ?_
  refine mi_iconst h dX0_listFreePipes_12 ?_
  refine mi_bipush h dX0_listFreePipes_13 (by decide) ?_
  refine mi_copy h dX0_listFreePipes_15 rfl rfl rfl (by decide) (by decide) ?_
  rw [cm_upC _ _ (by decide)]
  refine mi_aload_n h dX0_listFreePipes_18 (by rfl) ?_
  refine gf_X0_0 h dX0_listFreePipes_19 fl_RX0_9 ?_
  refine gf_X1_9 h dX0_listFreePipes_22 fl_RX0_64 ?_
  refine mi_iconst h dX0_listFreePipes_25 ?_
  refine mi_aload_n h dX0_listFreePipes_26 (by rfl) ?_
  refine gf_X0_11 h dX0_listFreePipes_27 fl_RX0_38 ?_
  refine mi_iconst h dX0_listFreePipes_30 ?_
  refine mi_bipush h dX0_listFreePipes_31 (by decide) ?_
  refine mi_copy h dX0_listFreePipes_33 rfl rfl rfl (by decide) (by decide) ?_
  rw [cm_upC _ _ (by decide)]
  refine mi_aload_n h dX0_listFreePipes_36 (by rfl) ?_
  refine mi_iconst h dX0_listFreePipes_37 ?_
  refine pf_X0_4 h dX0_listFreePipes_38 fl_RX0_55 ?_
  refine mi_iconst h dX0_listFreePipes_41 ?_
  refine mi_istore_n h dX0_listFreePipes_42 (by decide) ?_
  rw [cm_up _ _ (by decide)]
  refine loop1 (σ 1 4).toNat 0 _ (by omega) FL_0 rfl rfl rfl rfl (fun e he => ?_)
  have e9 : ∀ w, dP σ 0 w e = σ 12 e := fun w => by unfold dP; rw [if_neg (by omega)]
  rw [e9, e9]
  show (if e < 25 then σ 12 e else _) = _ ∧ (if e < 25 then σ 12 e else _) = _
  rw [if_pos he, if_pos he]; exact ⟨rfl, rfl⟩
