def puM (σ : Mem) (h : Nat) (p : Nat) : Int := if σ 37 p = 1 then σ 49 (24 * h + p) else 0
theorem puM_01 {σ : Mem} (hB : JB σ) {h p : Nat} (hh : h < 6) (hp : p < 24) : puM σ h p = 0 ∨ puM σ h p = 1 := by
  have := hB.2 (24 * h + p) (by omega)
  unfold puM
  split <;> omega
def lsM (σ : Mem) (h : Nat) (q : Int) : Int := lsV (puM σ h) (sp0 σ (puM σ h) (fun p => PvM 0 q σ (puM σ h) (p + 1))) (σ 28 11).toNat
/-- spare of the scratch -/
theorem spM {σ F : Mem} {o : Nat → Int} {p : Nat} {q : Int} (hJ : JS σ) (hZ : JZ σ) (hP : JP σ) (hB : JB σ) (hQ : JQ σ) (hq : 0 ≤ q ∧ q ≤ 100000) (hp : (p : Int) < σ 28 11) (h42 : ∀ p : Nat, (p : Int) < σ 28 11 → F 42 p = o p) (ho : o p = 0 ∨ o p = 1) (hW : WK σ q o F) : Sp1 yX6_spare cX6_spare 2 (some .long) 2 3 [vr 28, vi (p : Int)] (wm σ F) (fun r σ' => wm σ F = σ' ∧ r = sp0 σ o (fun p => PvM 0 q σ o (p + 1)) p) := by
  obtain ⟨j1, j2, j3, j4, j5, j6, j7⟩ := id hJ
  have w := hW (p + 1) (by omega)
  rw [ix_s] at w
  have w0 : wm σ F 42 p = o p := h42 p hp
  have w1 : wm σ F 47 p = PvM 0 q σ o (p + 1) := w.2.2.2.2.1
  have w2 : wm σ F 48 p = PvM 1 q σ o (p + 1) := w.2.2.2.2.2
  have r1 := PvM_rng (s := 0) (q := q) (o := o) hJ hZ hP hQ hq (e := p + 1) (by omega)
  have r2 := PvM_rng (s := 1) (q := q) (o := o) hJ hZ hP hQ hq (e := p + 1) (by omega)
  refine Sp1_imp (c_X6_spare (σ := wm σ F) (p := p) hP hB (by omega) (by rw [w0]; exact ho) (by rw [w1]; exact r1) (by rw [w2]; exact r2)) (fun r σ' hp9 => ⟨hp9.1, ?_⟩)
  rw [hp9.2]
  unfold sp0
  rw [w0, w1]
  rfl
theorem sp0_r {σ : Mem} {o : Nat → Int} {p : Nat} {q : Int} (hJ : JS σ) (hZ : JZ σ) (hP : JP σ) (hQ : JQ σ) (hq : 0 ≤ q ∧ q ≤ 100000) (hp : (p : Int) < σ 28 11) : -30720000 ≤ sp0 σ o (fun p => PvM 0 q σ o (p + 1)) p ∧ sp0 σ o (fun p => PvM 0 q σ o (p + 1)) p ≤ 64800000 := by
  obtain ⟨j1, j2, j3, j4, j5, j6, j7⟩ := id hJ
  exact sp0_rng hP (by omega) (PvM_rng hJ hZ hP hQ hq (by omega))
set_option maxHeartbeats 4000000 in
set_option maxRecDepth 100000 in
theorem c_X6_worst {σ : Mem} (hJ : JS σ) (hZ : JZ σ) (hP : JP σ) (hB : JB σ) (hQ : JQ σ) : Sp1 yX6_worst cX6_worst 3 (some .int) 1 5 [vr 28] σ (fun r σ' => SM σ σ' ∧ r = wI (opM σ) (sp0 σ (opM σ) (fun p => PvM 0 (σ 28 0) σ (opM σ) (p + 1))) (σ 28 11).toNat) := by
  refine Sp1_in RX6 rfl (by decide +kernel) (Nat.le_of_ble_eq_true rfl) [some (vr 28), none, none] rfl ?_
  intro K h hr
  obtain ⟨j1, j2, j3, j4, j5, j6, j7⟩ := id hJ
  have loop : ∀ (F : Mem), (∀ p : Nat, (p : Int) < σ 28 11 → F 42 p = opM σ p) → WK σ (σ 28 0) (opM σ) F → ∀ (j k : Nat), (k : Int) + j = σ 28 11 → M K 9 [some (vr 28), some (vi (wI (opM σ) (sp0 σ (opM σ) (fun p => PvM 0 (σ 28 0) σ (opM σ) (p + 1))) k)), some (vi (k : Int))] [] (wm σ F) := by
    intro F h42 hW j
    induction j with
    | zero =>
      intro k hk
      refine mi_iload_n h dX6_worst_9 (by rfl) ?_
      refine mi_aload_n h dX6_worst_10 (by rfl) ?_
      refine gf_X6_11 h dX6_worst_11 fl_RX6_109 ?_
      try simp only [up_app, upC_app, wm_app, Nat.reduceEqDiff, reduceIte, Nat.reduceLeDiff, and_self, and_true, true_and, and_false, false_and, Nat.add_eq_zero_iff, Nat.succ_ne_self, Nat.add_right_cancel_iff]
      refine mi_icmp_ge (tgt := 52) h dX6_worst_14 (by decide) ⟨by omega, by omega⟩ ⟨by omega, by omega⟩ (fun e14 => ?_) (fun e14 => ?_)
      · refine mi_iload_n h dX6_worst_52 (by rfl) ?_
        refine mi_ireturn h hr dX6_worst_53 ?_
        exact ⟨⟨F, rfl⟩, by rw [show (σ 28 11).toNat = k by omega]⟩
      · exfalso; omega
    | succ j ih =>
      intro k hk
      have k1 := opM_01 hB (p := k) (by omega)
      have k2 := wI_rng (opM σ) (sp0 σ (opM σ) (fun p => PvM 0 (σ 28 0) σ (opM σ) (p + 1))) k
      have h9 := ih (k + 1) (by omega)
      rw [wI] at h9
      generalize hw : wI (opM σ) (sp0 σ (opM σ) (fun p => PvM 0 (σ 28 0) σ (opM σ) (p + 1))) k = w at h9 k2 ⊢
      have r1 := sp0_r (o := opM σ) (q := σ 28 0) hJ hZ hP hQ ⟨by omega, by omega⟩ (p := k) (by omega)
      have r2 := fun z : 0 ≤ w => sp0_r (o := opM σ) (q := σ 28 0) hJ hZ hP hQ ⟨by omega, by omega⟩ (p := w.toNat) (by omega)
      refine mi_iload_n h dX6_worst_9 (by rfl) ?_
      refine mi_aload_n h dX6_worst_10 (by rfl) ?_
      refine gf_X6_11 h dX6_worst_11 fl_RX6_109 ?_
      try simp only [up_app, upC_app, wm_app, Nat.reduceEqDiff, reduceIte, Nat.reduceLeDiff, and_self, and_true, true_and, and_false, false_and, Nat.add_eq_zero_iff, Nat.succ_ne_self, Nat.add_right_cancel_iff]
      refine mi_icmp_ge (tgt := 52) h dX6_worst_14 (by decide) ⟨by omega, by omega⟩ ⟨by omega, by omega⟩ (fun e14 => ?_) (fun e14 => ?_)
      · exfalso; omega
      · refine mi_aload_n h dX6_worst_17 (by rfl) ?_
        refine gf_X6_17 h dX6_worst_18 fl_RX6_54 ?_
        refine mi_iload_n h dX6_worst_21 (by rfl) ?_
        refine mn_baload (k) h dX6_worst_22 (by rfl) (by omega) (by omega) (by decide) ?_
        try simp only [up_app, upC_app, wm_app, Nat.reduceEqDiff, reduceIte, Nat.reduceLeDiff, and_self, and_true, true_and, and_false, false_and, Nat.add_eq_zero_iff, Nat.succ_ne_self, Nat.add_right_cancel_iff]
        rw [h42 k (by omega)]
        refine mi_if_eq (tgt := 46) h dX6_worst_23 (by decide) ⟨by omega, by omega⟩ (fun e23 => ?_) (fun e23 => ?_)
        · refine mi_iinc h dX6_worst_46 (by rfl) ?_ (by decide)
          refine mi_goto (tgt := 9) h dX6_worst_49 (by decide) ?_
          first | (rw [if_pos ⟨by omega, by omega⟩] at h9; exact h9) | (rw [if_neg (by omega)] at h9; exact h9)
        · refine mi_iload_n h dX6_worst_26 (by rfl) ?_
          refine mi_if_lt (tgt := 44) h dX6_worst_27 (by decide) ⟨by omega, by omega⟩ (fun e27 => ?_) (fun e27 => ?_)
          · refine mi_iload_n h dX6_worst_44 (by rfl) ?_
            refine mi_istore_n h dX6_worst_45 (by decide) ?_
            refine mi_iinc h dX6_worst_46 (by rfl) ?_ (by decide)
            refine mi_goto (tgt := 9) h dX6_worst_49 (by decide) ?_
            first | (rw [if_pos ⟨by omega, by omega⟩] at h9; exact h9) | (rw [if_neg (by omega)] at h9; exact h9)
          · refine mi_aload_n h dX6_worst_30 (by rfl) ?_
            refine mi_iload_n h dX6_worst_31 (by rfl) ?_
            refine mi_cV1l (hw := Nat.le_of_ble_eq_true rfl) h dX6_worst_32 ml_RX6_204 ym_yX6_spare (by rfl) (by rfl) (spM hJ hZ hP hB hQ ⟨by omega, by omega⟩ (by omega) h42 k1 hW) (fun r32 σ32 hp32 => ?_)
            obtain ⟨rfl, rfl⟩ := hp32
            have r3 := r2 (by omega)
            refine mi_aload_n h dX6_worst_35 (by rfl) ?_
            refine mi_iload_n h dX6_worst_36 (by rfl) ?_
            refine mt_e (y := ((w.toNat : Nat) : Int)) (by omega) ?_
            refine mi_cV1l (hw := Nat.le_of_ble_eq_true rfl) h dX6_worst_37 ml_RX6_204 ym_yX6_spare (by rfl) (by rfl) (spM hJ hZ hP hB hQ ⟨by omega, by omega⟩ (by omega) h42 (opM_01 hB (by omega)) hW) (fun r37 σ37 hp37 => ?_)
            obtain ⟨rfl, rfl⟩ := hp37
            refine mi_lcmp_ge (tgt := 46) h dX6_worst_40 dX6_worst_41 (by decide) ⟨by omega, by omega⟩ ⟨by omega, by omega⟩ (fun e40 => ?_) (fun e40 => ?_)
            · refine mi_iinc h dX6_worst_46 (by rfl) ?_ (by decide)
              refine mi_goto (tgt := 9) h dX6_worst_49 (by decide) ?_
              first | (rw [if_pos ⟨by omega, by omega⟩] at h9; exact h9) | (rw [if_neg (by omega)] at h9; exact h9)
            · refine mi_iload_n h dX6_worst_44 (by rfl) ?_
              refine mi_istore_n h dX6_worst_45 (by decide) ?_
              refine mi_iinc h dX6_worst_46 (by rfl) ?_ (by decide)
              refine mi_goto (tgt := 9) h dX6_worst_49 (by decide) ?_
              first | (rw [if_pos ⟨by omega, by omega⟩] at h9; exact h9) | (rw [if_neg (by omega)] at h9; exact h9)
  refine mi_aload_n h dX6_worst_0 (by rfl) ?_
  refine mi_cV0v (hw := Nat.le_of_ble_eq_true rfl) h dX6_worst_1 ml_RX6_193 ym_yX6_workNow (by rfl) (by rfl) (by have := c_X6_workNow (σ := σ) (F0 := σ) hJ hZ hP hB hQ; rw [wm_self] at this; exact this) (fun r1 σ1 hp1 => ?_)
  obtain ⟨F, rfl, h42, hW⟩ := hp1
  refine mi_bipush h dX6_worst_4 (by decide) ?_
  refine mi_istore_n h dX6_worst_6 (by decide) ?_
  refine mi_iconst h dX6_worst_7 ?_
  refine mi_istore_n h dX6_worst_8 (by decide) ?_
  exact loop F h42 hW (σ 28 11).toNat 0 (by omega)
set_option maxHeartbeats 4000000 in
set_option maxRecDepth 100000 in
theorem c_X6_leastOf {σ F0 : Mem} {g : Nat} {q : Int} (hJ : JS σ) (hZ : JZ σ) (hP : JP σ) (hB : JB σ) (hQ : JQ σ) (hg : g < 6) (hq : 1 ≤ q ∧ q ≤ 100000) : Sp1 yX6_leastOf cX6_leastOf 9 (some .long) 2 4 [vr 28, vi (g : Int), vi q] (wm σ F0) (fun r σ' => SM σ σ' ∧ r = lsM σ g q ∧ -30720000 ≤ r ∧ r ≤ 64800000) := by
  refine Sp1_in RX6 rfl (by decide +kernel) (Nat.le_of_ble_eq_true rfl) [some (vr 28), some (vi (g : Int)), some (vi q), none, none, none, none, none, none] rfl ?_
  intro K h hr
  obtain ⟨j1, j2, j3, j4, j5, j6, j7⟩ := id hJ
  have hr9 : -30720000 ≤ lsM σ g q ∧ lsM σ g q ≤ 64800000 := lsV_rng (fun k hk => sp0_r hJ hZ hP hQ ⟨by omega, by omega⟩ (by omega))
  have loop2 : ∀ (F : Mem), (∀ p : Nat, (p : Int) < σ 28 11 → F 42 p = puM σ g p) → WK σ q (puM σ g) F → ∀ (j k : Nat) (hs x : Int) (l7 l8 : Option MV), (k : Int) + j = σ 28 11 → R64 x → ((hs = 0 ∧ lsO (puM σ g) (sp0 σ (puM σ g) (fun p => PvM 0 q σ (puM σ g) (p + 1))) k = none ∧ x = 0) ∨ (hs = 1 ∧ lsO (puM σ g) (sp0 σ (puM σ g) (fun p => PvM 0 q σ (puM σ g) (p + 1))) k = some x)) → M K 63 [some (vr 28), some (vi (g : Int)), some (vi q), some (vi hs), some (vl x), none, some (vi (k : Int)), l7, l8] [] (wm σ F) := by
    intro F h42 hW j
    induction j with
    | zero =>
      intro k hs x l7 l8 hk hx hinv
      have e9 : lsM σ g q = x := by
        unfold lsM lsV
        rw [show (σ 28 11).toNat = k by omega]
        rcases hinv with ⟨-, a, b⟩ | ⟨-, a⟩
        · rw [a, b]; rfl
        · rw [a]; rfl
      refine mi_iload h dX6_leastOf_63 (by rfl) ?_
      refine mi_aload_n h dX6_leastOf_65 (by rfl) ?_
      refine gf_X6_11 h dX6_leastOf_66 fl_RX6_109 ?_
      try simp only [up_app, upC_app, wm_app, Nat.reduceEqDiff, reduceIte, Nat.reduceLeDiff, and_self, and_true, true_and, and_false, false_and, Nat.add_eq_zero_iff, Nat.succ_ne_self, Nat.add_right_cancel_iff]
      refine mi_icmp_ge (tgt := 119) h dX6_leastOf_69 (by decide) ⟨by omega, by omega⟩ ⟨by omega, by omega⟩ (fun e69 => ?_) (fun e69 => ?_)
      · refine mi_lload h dX6_leastOf_119 (by rfl) ?_
        refine mi_lreturn h hr dX6_leastOf_121 ?_
        exact ⟨⟨F, rfl⟩, e9.symm, by omega, by omega⟩
      · exfalso; omega
    | succ j ih =>
      intro k hs x l7 l8 hk hx hinv
      have k1 := puM_01 hB hg (p := k) (by omega)
      have r1 := sp0_r (o := puM σ g) (q := q) hJ hZ hP hQ ⟨by omega, by omega⟩ (p := k) (by omega)
      have hsv : hs = 0 ∨ hs = 1 := by rcases hinv with ⟨a, -⟩ | ⟨a, -⟩ <;> omega
      have keep : ¬ puM σ g k = 1 → ∀ l7 l8 : Option MV, M K 63 [some (vr 28), some (vi (g : Int)), some (vi q), some (vi hs), some (vl x), none, some (vi ((k : Int) + 1)), l7, l8] [] (wm σ F) := fun z l7 l8 => ih (k + 1) hs x l7 l8 (by omega) hx (by rw [lsO, if_neg z]; exact hinv)
      have take : puM σ g k = 1 → ∀ (y : Int) (l7 l8 : Option MV), (hs = 0 → y = sp0 σ (puM σ g) (fun p => PvM 0 q σ (puM σ g) (p + 1)) k) → (hs = 1 → y = min x (sp0 σ (puM σ g) (fun p => PvM 0 q σ (puM σ g) (p + 1)) k)) → R64 y → M K 63 [some (vr 28), some (vi (g : Int)), some (vi q), some (vi 1), some (vl y), none, some (vi ((k : Int) + 1)), l7, l8] [] (wm σ F) := fun z y l7 l8 h0 h1 h2 => ih (k + 1) 1 y l7 l8 (by omega) h2 (Or.inr ⟨rfl, by
        rw [lsO, if_pos z]
        rcases hinv with ⟨a, b, -⟩ | ⟨a, b⟩
        · rw [b, h0 a]
        · rw [b, h1 a]⟩)
      refine mi_iload h dX6_leastOf_63 (by rfl) ?_
      refine mi_aload_n h dX6_leastOf_65 (by rfl) ?_
      refine gf_X6_11 h dX6_leastOf_66 fl_RX6_109 ?_
      try simp only [up_app, upC_app, wm_app, Nat.reduceEqDiff, reduceIte, Nat.reduceLeDiff, and_self, and_true, true_and, and_false, false_and, Nat.add_eq_zero_iff, Nat.succ_ne_self, Nat.add_right_cancel_iff]
      refine mi_icmp_ge (tgt := 119) h dX6_leastOf_69 (by decide) ⟨by omega, by omega⟩ ⟨by omega, by omega⟩ (fun e69 => ?_) (fun e69 => ?_)
      · exfalso; omega
      · refine mi_aload_n h dX6_leastOf_72 (by rfl) ?_
        refine gf_X6_17 h dX6_leastOf_73 fl_RX6_54 ?_
        refine mi_iload h dX6_leastOf_76 (by rfl) ?_
        refine mn_baload (k) h dX6_leastOf_78 (by rfl) (by omega) (by omega) (by decide) ?_
        try simp only [up_app, upC_app, wm_app, Nat.reduceEqDiff, reduceIte, Nat.reduceLeDiff, and_self, and_true, true_and, and_false, false_and, Nat.add_eq_zero_iff, Nat.succ_ne_self, Nat.add_right_cancel_iff]
        rw [h42 k (by omega)]
        refine mi_if_eq (tgt := 113) h dX6_leastOf_79 (by decide) ⟨by omega, by omega⟩ (fun e79 => ?_) (fun e79 => ?_)
        · refine mi_iinc h dX6_leastOf_113 (by rfl) ?_ (by decide)
          refine mi_goto (tgt := 63) h dX6_leastOf_116 (by decide) ?_
          first | exact keep (by omega) _ _ | exact take (by omega) _ _ _ (fun z => by omega) (fun z => by omega) ⟨by omega, by omega⟩
        · refine mi_aload_n h dX6_leastOf_82 (by rfl) ?_
          refine mi_iload h dX6_leastOf_83 (by rfl) ?_
          refine mi_cV1l (hw := Nat.le_of_ble_eq_true rfl) h dX6_leastOf_85 ml_RX6_204 ym_yX6_spare (by rfl) (by rfl) (spM hJ hZ hP hB hQ ⟨by omega, by omega⟩ (by omega) h42 k1 hW) (fun r85 σ85 hp85 => ?_)
          obtain ⟨rfl, rfl⟩ := hp85
          refine mi_lstore h dX6_leastOf_88 (by decide) ?_
          refine mi_iload_n h dX6_leastOf_90 (by rfl) ?_
          refine mi_if_eq (tgt := 102) h dX6_leastOf_91 (by decide) ⟨by omega, by omega⟩ (fun e91 => ?_) (fun e91 => ?_)
          · refine mi_lload h dX6_leastOf_102 (by rfl) ?_
            refine mi_goto (tgt := 109) h dX6_leastOf_104 (by decide) ?_
            refine mi_lstore h dX6_leastOf_109 (by decide) ?_
            refine mi_iconst h dX6_leastOf_111 ?_
            refine mi_istore_n h dX6_leastOf_112 (by decide) ?_
            refine mi_iinc h dX6_leastOf_113 (by rfl) ?_ (by decide)
            refine mi_goto (tgt := 63) h dX6_leastOf_116 (by decide) ?_
            first | exact keep (by omega) _ _ | exact take (by omega) _ _ _ (fun z => by omega) (fun z => by omega) ⟨by omega, by omega⟩
          · refine mi_lload h dX6_leastOf_94 (by rfl) ?_
            refine mi_lload h dX6_leastOf_96 (by rfl) ?_
            refine mi_lcmp_ge (tgt := 107) h dX6_leastOf_98 dX6_leastOf_99 (by decide) ⟨by omega, by omega⟩ ⟨by omega, by omega⟩ (fun e98 => ?_) (fun e98 => ?_)
            · refine mi_lload h dX6_leastOf_107 (by rfl) ?_
              refine mi_lstore h dX6_leastOf_109 (by decide) ?_
              refine mi_iconst h dX6_leastOf_111 ?_
              refine mi_istore_n h dX6_leastOf_112 (by decide) ?_
              refine mi_iinc h dX6_leastOf_113 (by rfl) ?_ (by decide)
              refine mi_goto (tgt := 63) h dX6_leastOf_116 (by decide) ?_
              first | exact keep (by omega) _ _ | exact take (by omega) _ _ _ (fun z => by omega) (fun z => by omega) ⟨by omega, by omega⟩
            · refine mi_lload h dX6_leastOf_102 (by rfl) ?_
              refine mi_goto (tgt := 109) h dX6_leastOf_104 (by decide) ?_
              refine mi_lstore h dX6_leastOf_109 (by decide) ?_
              refine mi_iconst h dX6_leastOf_111 ?_
              refine mi_istore_n h dX6_leastOf_112 (by decide) ?_
              refine mi_iinc h dX6_leastOf_113 (by rfl) ?_ (by decide)
              refine mi_goto (tgt := 63) h dX6_leastOf_116 (by decide) ?_
              first | exact keep (by omega) _ _ | exact take (by omega) _ _ _ (fun z => by omega) (fun z => by omega) ⟨by omega, by omega⟩
  have loop1 : ∀ (j k : Nat) (F : Mem), (k : Int) + j = σ 28 11 → (∀ p : Nat, p < k → F 42 p = puM σ g p) → M K 2 [some (vr 28), some (vi (g : Int)), some (vi q), some (vi (k : Int)), none, none, none, none, none] [] (wm σ F) := by
    intro j
    induction j with
    | zero =>
      intro k F hk hF
      have hF2 : ∀ p : Nat, (p : Int) < σ 28 11 → F 42 p = puM σ g p := fun p hp => hF p (by omega)
      refine mi_iload_n h dX6_leastOf_2 (by rfl) ?_
      refine mi_aload_n h dX6_leastOf_3 (by rfl) ?_
      refine gf_X6_11 h dX6_leastOf_4 fl_RX6_109 ?_
      try simp only [up_app, upC_app, wm_app, Nat.reduceEqDiff, reduceIte, Nat.reduceLeDiff, and_self, and_true, true_and, and_false, false_and, Nat.add_eq_zero_iff, Nat.succ_ne_self, Nat.add_right_cancel_iff]
      refine mi_icmp_ge (tgt := 50) h dX6_leastOf_7 (by decide) ⟨by omega, by omega⟩ ⟨by omega, by omega⟩ (fun e7 => ?_) (fun e7 => ?_)
      · refine mi_aload_n h dX6_leastOf_50 (by rfl) ?_
        refine mi_iload_n h dX6_leastOf_51 (by rfl) ?_
        refine mi_cV1v (hw := Nat.le_of_ble_eq_true rfl) h dX6_leastOf_52 ml_RX6_186 ym_yX6_work (by rfl) (by rfl) (c_X6_work (σ := σ) (F0 := F) hJ hZ hP hB hQ hq (fun p hp => by rw [hF2 p hp]; exact puM_01 hB hg (by omega))) (fun r52 σ52 hp52 => ?_)
        obtain ⟨F2, rfl, h42, hW⟩ := hp52
        refine mi_iconst h dX6_leastOf_55 ?_
        refine mi_istore_n h dX6_leastOf_56 (by decide) ?_
        refine mi_lconst0 h dX6_leastOf_57 ?_
        refine mi_lstore h dX6_leastOf_58 (by decide) ?_
        refine mi_iconst h dX6_leastOf_60 ?_
        refine mi_istore h dX6_leastOf_61 (by decide) ?_
        exact loop2 F2 (fun p hp => by rw [h42]; exact hF2 p hp) (WK_o (fun p hp => hF2 p (by omega)) hW) (σ 28 11).toNat 0 0 0 _ _ (by omega) ⟨by omega, by omega⟩ (Or.inl ⟨rfl, rfl, rfl⟩)
      · exfalso; omega
    | succ j ih =>
      intro k F hk hF
      obtain ⟨z1, z2, z3, z4, z5⟩ := hB.1 k (by omega)
      have z6 := hB.2 (24 * g + k) (by omega)
      have nxt : ∀ v : Int, v = puM σ g k → M K 2 [some (vr 28), some (vi (g : Int)), some (vi q), some (vi ((k : Int) + 1)), none, none, none, none, none] [] (wm σ (up F 42 k v)) := fun v hv => ih (k + 1) _ (by omega) (fun p hp => by
        rw [up_at]
        by_cases e : p = k
        · rw [if_pos e, hv, e]
        · rw [if_neg e]; exact hF p (by omega))
      have q1 : σ 37 k = 1 → puM σ g k = σ 49 (24 * g + k) := fun q => by unfold puM; rw [if_pos q]
      have q2 : ¬ σ 37 k = 1 → puM σ g k = 0 := fun q => by unfold puM; rw [if_neg q]
      refine mi_iload_n h dX6_leastOf_2 (by rfl) ?_
      refine mi_aload_n h dX6_leastOf_3 (by rfl) ?_
      refine gf_X6_11 h dX6_leastOf_4 fl_RX6_109 ?_
      try simp only [up_app, upC_app, wm_app, Nat.reduceEqDiff, reduceIte, Nat.reduceLeDiff, and_self, and_true, true_and, and_false, false_and, Nat.add_eq_zero_iff, Nat.succ_ne_self, Nat.add_right_cancel_iff]
      refine mi_icmp_ge (tgt := 50) h dX6_leastOf_7 (by decide) ⟨by omega, by omega⟩ ⟨by omega, by omega⟩ (fun e7 => ?_) (fun e7 => ?_)
      · exfalso; omega
      · refine mi_aload_n h dX6_leastOf_10 (by rfl) ?_
        refine gf_X6_17 h dX6_leastOf_11 fl_RX6_54 ?_
        refine mi_iload_n h dX6_leastOf_14 (by rfl) ?_
        refine mi_aload_n h dX6_leastOf_15 (by rfl) ?_
        refine gf_X6_12 h dX6_leastOf_16 fl_RX6_39 ?_
        refine mi_iload_n h dX6_leastOf_19 (by rfl) ?_
        refine mn_baload (k) h dX6_leastOf_20 (by rfl) (by omega) (by omega) (by decide) ?_
        try simp only [up_app, upC_app, wm_app, Nat.reduceEqDiff, reduceIte, Nat.reduceLeDiff, and_self, and_true, true_and, and_false, false_and, Nat.add_eq_zero_iff, Nat.succ_ne_self, Nat.add_right_cancel_iff]
        refine mi_if_eq (tgt := 42) h dX6_leastOf_21 (by decide) ⟨by omega, by omega⟩ (fun e21 => ?_) (fun e21 => ?_)
        · refine mi_iconst h dX6_leastOf_42 ?_
          refine mn_bastore (k) h dX6_leastOf_43 (by rfl) (by omega) (by omega) (by decide) (by omega) ?_
          rw [wm_up _ _ (by decide)]
          refine mi_iinc h dX6_leastOf_44 (by rfl) ?_ (by decide)
          refine mi_goto (tgt := 2) h dX6_leastOf_47 (by decide) ?_
          exact nxt _ (by omega)
        · refine mi_aload_n h dX6_leastOf_24 (by rfl) ?_
          refine gf_X6_24 h dX6_leastOf_25 fl_RX6_76 ?_
          refine mi_bipush h dX6_leastOf_28 (by decide) ?_
          refine mi_iload_n h dX6_leastOf_30 (by rfl) ?_
          refine mi_imul h dX6_leastOf_31 ?_
          refine mi_iload_n h dX6_leastOf_32 (by rfl) ?_
          refine mi_iadd h dX6_leastOf_33 ?_
          refine mn_baload (24 * g + k) h dX6_leastOf_34 (by rfl) (by omega) (by omega) (by decide) ?_
          try simp only [up_app, upC_app, wm_app, Nat.reduceEqDiff, reduceIte, Nat.reduceLeDiff, and_self, and_true, true_and, and_false, false_and, Nat.add_eq_zero_iff, Nat.succ_ne_self, Nat.add_right_cancel_iff]
          refine mi_if_eq (tgt := 42) h dX6_leastOf_35 (by decide) ⟨by omega, by omega⟩ (fun e35 => ?_) (fun e35 => ?_)
          · refine mi_iconst h dX6_leastOf_42 ?_
            refine mn_bastore (k) h dX6_leastOf_43 (by rfl) (by omega) (by omega) (by decide) (by omega) ?_
            rw [wm_up _ _ (by decide)]
            refine mi_iinc h dX6_leastOf_44 (by rfl) ?_ (by decide)
            refine mi_goto (tgt := 2) h dX6_leastOf_47 (by decide) ?_
            exact nxt _ (by omega)
          · refine mi_iconst h dX6_leastOf_38 ?_
            refine mi_goto (tgt := 43) h dX6_leastOf_39 (by decide) ?_
            refine mn_bastore (k) h dX6_leastOf_43 (by rfl) (by omega) (by omega) (by decide) (by omega) ?_
            rw [wm_up _ _ (by decide)]
            refine mi_iinc h dX6_leastOf_44 (by rfl) ?_ (by decide)
            refine mi_goto (tgt := 2) h dX6_leastOf_47 (by decide) ?_
            exact nxt _ (by omega)
  refine mi_iconst h dX6_leastOf_0 ?_
  refine mi_istore_n h dX6_leastOf_1 (by decide) ?_
  exact loop1 (σ 28 11).toNat 0 F0 (by omega) (fun p hp => by omega)
set_option maxHeartbeats 4000000 in
set_option maxRecDepth 100000 in
theorem c_X6_least {σ : Mem} {g : Int} (hJ : JS σ) (hZ : JZ σ) (hP : JP σ) (hB : JB σ) (hQ : JQ σ) (hg : R32 g) : Sp1 yX6_least cX6_least 2 (some .long) 2 5 [vr 28, vi g] σ (fun r σ' => SM σ σ' ∧ ((r = -1000000000001 ∧ ¬ (0 ≤ g ∧ g < σ 28 25)) ∨ ((0 ≤ g ∧ g < σ 28 25) ∧ r = lsM σ g.toNat (σ 28 0)))) := by
  refine Sp1_in RX6 rfl (by decide +kernel) (Nat.le_of_ble_eq_true rfl) [some (vr 28), some (vi g)] rfl ?_
  intro K h hr
  obtain ⟨j1, j2, j3, j4, j5, j6, j7⟩ := id hJ
  refine mi_aload_n h dX6_least_0 (by rfl) ?_
  refine mi_iload_n h dX6_least_1 (by rfl) ?_
  refine mi_cV1i (hw := Nat.le_of_ble_eq_true rfl) h dX6_least_2 ml_RX6_211 ym_yX6_isHeap (by rfl) (by rfl) (c_X6_isHeap hJ ⟨by omega, by omega⟩) (fun r2 σ2 hp2 => ?_)
  obtain ⟨rfl, hb2, hc2⟩ := hp2
  refine mi_if_eq (tgt := 20) h dX6_least_5 (by decide) ⟨by omega, by omega⟩ (fun e5 => ?_) (fun e5 => ?_)
  · refine mi_ldc2 (z := -1000000000001) h dX6_least_20 kc_RX6_217 rfl ?_
    refine mi_lreturn h hr dX6_least_23 ?_
    first | exact ⟨SM_rf _, Or.inl ⟨rfl, by omega⟩⟩ | exact ⟨hsc, Or.inr ⟨by omega, rfl⟩⟩
  · refine mi_aload_n h dX6_least_8 (by rfl) ?_
    refine mi_iload_n h dX6_least_9 (by rfl) ?_
    refine mt_e (y := ((g.toNat : Nat) : Int)) (by omega) ?_
    refine mi_aload_n h dX6_least_10 (by rfl) ?_
    refine gf_X6_0 h dX6_least_11 fl_RX6_7 ?_
    refine mi_cV2l (hw := Nat.le_of_ble_eq_true rfl) h dX6_least_14 ml_RX6_214 ym_yX6_leastOf (by rfl) (by rfl) (by have := c_X6_leastOf (σ := σ) (F0 := σ) (g := g.toNat) (q := σ 28 0) hJ hZ hP hB hQ (by omega) j1; rw [wm_self] at this; exact this) (fun r14 σ14 hp14 => ?_)
    obtain ⟨hsc, rfl, -⟩ := hp14
    refine mi_goto (tgt := 23) h dX6_least_17 (by decide) ?_
    refine mi_lreturn h hr dX6_least_23 ?_
    first | exact ⟨SM_rf _, Or.inl ⟨rfl, by omega⟩⟩ | exact ⟨hsc, Or.inr ⟨by omega, rfl⟩⟩
set_option maxHeartbeats 4000000 in
set_option maxRecDepth 100000 in
theorem c_X6_thinnest {σ : Mem} (hJ : JS σ) (hZ : JZ σ) (hP : JP σ) (hB : JB σ) (hQ : JQ σ) : Sp1 yX6_thinnest cX6_thinnest 7 (some .int) 1 5 [vr 28] σ (fun r σ' => SM σ σ' ∧ r = wI (fun _ => 1) (fun h => lsM σ h (σ 28 0)) (σ 28 25).toNat) := by
  refine Sp1_in RX6 rfl (by decide +kernel) (Nat.le_of_ble_eq_true rfl) [some (vr 28), none, none, none, none, none, none] rfl ?_
  intro K h hr
  obtain ⟨j1, j2, j3, j4, j5, j6, j7⟩ := id hJ
  have loop : ∀ (j k : Nat) (x : Int) (l5 l6 : Option MV) (F : Mem), (k : Int) + j = σ 28 25 → (0 ≤ wI (fun _ => 1) (fun h => lsM σ h (σ 28 0)) k → x = lsM σ (wI (fun _ => 1) (fun h => lsM σ h (σ 28 0)) k).toNat (σ 28 0)) → R64 x → M K 8 [some (vr 28), some (vi (wI (fun _ => 1) (fun h => lsM σ h (σ 28 0)) k)), some (vl x), none, some (vi (k : Int)), l5, l6] [] (wm σ F) := by
    intro j
    induction j with
    | zero =>
      intro k x l5 l6 F hk hx hx2
      refine mi_iload h dX6_thinnest_8 (by rfl) ?_
      refine mi_aload_n h dX6_thinnest_10 (by rfl) ?_
      refine gf_X6_25 h dX6_thinnest_11 fl_RX6_208 ?_
      try simp only [up_app, upC_app, wm_app, Nat.reduceEqDiff, reduceIte, Nat.reduceLeDiff, and_self, and_true, true_and, and_false, false_and, Nat.add_eq_zero_iff, Nat.succ_ne_self, Nat.add_right_cancel_iff]
      refine mi_icmp_ge (tgt := 52) h dX6_thinnest_14 (by decide) ⟨by omega, by omega⟩ ⟨by omega, by omega⟩ (fun e14 => ?_) (fun e14 => ?_)
      · refine mi_iload_n h dX6_thinnest_52 (by rfl) ?_
        refine mi_ireturn h hr dX6_thinnest_53 ?_
        exact ⟨⟨F, rfl⟩, by rw [show (σ 28 25).toNat = k by omega]⟩
      · exfalso; omega
    | succ j ih =>
      intro k x l5 l6 F hk hx hx2
      have k2 := wI_rng (fun _ => 1) (fun h => lsM σ h (σ 28 0)) k
      have step : wI (fun _ => 1) (fun h => lsM σ h (σ 28 0)) (k + 1) = if (1 : Int) = 1 ∧ (wI (fun _ => 1) (fun h => lsM σ h (σ 28 0)) k < 0 ∨ lsM σ k (σ 28 0) < lsM σ (wI (fun _ => 1) (fun h => lsM σ h (σ 28 0)) k).toNat (σ 28 0)) then (k : Int) else wI (fun _ => 1) (fun h => lsM σ h (σ 28 0)) k := rfl
      have keep : ¬ ((1 : Int) = 1 ∧ (wI (fun _ => 1) (fun h => lsM σ h (σ 28 0)) k < 0 ∨ lsM σ k (σ 28 0) < lsM σ (wI (fun _ => 1) (fun h => lsM σ h (σ 28 0)) k).toNat (σ 28 0))) → ∀ (l5 l6 : Option MV) (F : Mem), M K 8 [some (vr 28), some (vi (wI (fun _ => 1) (fun h => lsM σ h (σ 28 0)) k)), some (vl x), none, some (vi ((k : Int) + 1)), l5, l6] [] (wm σ F) := fun q l5 l6 F => by
        have h9 := ih (k + 1) x l5 l6 F (by omega) (by rw [step, if_neg q]; exact hx) hx2
        rw [step, if_neg q] at h9
        exact h9
      have take : ((1 : Int) = 1 ∧ (wI (fun _ => 1) (fun h => lsM σ h (σ 28 0)) k < 0 ∨ lsM σ k (σ 28 0) < lsM σ (wI (fun _ => 1) (fun h => lsM σ h (σ 28 0)) k).toNat (σ 28 0))) → R64 (lsM σ k (σ 28 0)) → ∀ (l5 l6 : Option MV) (F : Mem), M K 8 [some (vr 28), some (vi (k : Int)), some (vl (lsM σ k (σ 28 0))), none, some (vi ((k : Int) + 1)), l5, l6] [] (wm σ F) := fun q q2 l5 l6 F => by
        have h9 := ih (k + 1) (lsM σ k (σ 28 0)) l5 l6 F (by omega) (by rw [step, if_pos q]; intro _; rfl) q2
        rw [step, if_pos q] at h9
        exact h9
      refine mi_iload h dX6_thinnest_8 (by rfl) ?_
      refine mi_aload_n h dX6_thinnest_10 (by rfl) ?_
      refine gf_X6_25 h dX6_thinnest_11 fl_RX6_208 ?_
      try simp only [up_app, upC_app, wm_app, Nat.reduceEqDiff, reduceIte, Nat.reduceLeDiff, and_self, and_true, true_and, and_false, false_and, Nat.add_eq_zero_iff, Nat.succ_ne_self, Nat.add_right_cancel_iff]
      refine mi_icmp_ge (tgt := 52) h dX6_thinnest_14 (by decide) ⟨by omega, by omega⟩ ⟨by omega, by omega⟩ (fun e14 => ?_) (fun e14 => ?_)
      · exfalso; omega
      · refine mi_aload_n h dX6_thinnest_17 (by rfl) ?_
        refine mi_iload h dX6_thinnest_18 (by rfl) ?_
        refine mi_aload_n h dX6_thinnest_20 (by rfl) ?_
        refine gf_X6_0 h dX6_thinnest_21 fl_RX6_7 ?_
        try simp only [up_app, upC_app, wm_app, Nat.reduceEqDiff, reduceIte, Nat.reduceLeDiff, and_self, and_true, true_and, and_false, false_and, Nat.add_eq_zero_iff, Nat.succ_ne_self, Nat.add_right_cancel_iff]
        refine mi_cV2l (hw := Nat.le_of_ble_eq_true rfl) h dX6_thinnest_24 ml_RX6_214 ym_yX6_leastOf (by rfl) (by rfl) (c_X6_leastOf (σ := σ) (F0 := F) hJ hZ hP hB hQ (by omega) j1) (fun r24 σ24 hp24 => ?_)
        obtain ⟨⟨F2, rfl⟩, rfl, k4⟩ := hp24
        refine mi_lstore h dX6_thinnest_27 (by decide) ?_
        refine mi_iload_n h dX6_thinnest_29 (by rfl) ?_
        refine mi_if_lt (tgt := 40) h dX6_thinnest_30 (by decide) ⟨by omega, by omega⟩ (fun e30 => ?_) (fun e30 => ?_)
        · refine mi_iload h dX6_thinnest_40 (by rfl) ?_
          refine mi_istore_n h dX6_thinnest_42 (by decide) ?_
          refine mi_lload h dX6_thinnest_43 (by rfl) ?_
          refine mi_lstore_n h dX6_thinnest_45 (by decide) ?_
          refine mi_iinc h dX6_thinnest_46 (by rfl) ?_ (by decide)
          refine mi_goto (tgt := 8) h dX6_thinnest_49 (by decide) ?_
          first | exact take ⟨rfl, by omega⟩ ⟨by omega, by omega⟩ _ _ _ | exact keep (by omega) _ _ _
        · refine mi_lload h dX6_thinnest_33 (by rfl) ?_
          refine mi_lload_n h dX6_thinnest_35 (by rfl) ?_
          refine mi_lcmp_ge (tgt := 46) h dX6_thinnest_36 dX6_thinnest_37 (by decide) ⟨by omega, by omega⟩ ⟨by omega, by omega⟩ (fun e36 => ?_) (fun e36 => ?_)
          · refine mi_iinc h dX6_thinnest_46 (by rfl) ?_ (by decide)
            refine mi_goto (tgt := 8) h dX6_thinnest_49 (by decide) ?_
            first | exact take ⟨rfl, by omega⟩ ⟨by omega, by omega⟩ _ _ _ | exact keep (by omega) _ _ _
          · refine mi_iload h dX6_thinnest_40 (by rfl) ?_
            refine mi_istore_n h dX6_thinnest_42 (by decide) ?_
            refine mi_lload h dX6_thinnest_43 (by rfl) ?_
            refine mi_lstore_n h dX6_thinnest_45 (by decide) ?_
            refine mi_iinc h dX6_thinnest_46 (by rfl) ?_ (by decide)
            refine mi_goto (tgt := 8) h dX6_thinnest_49 (by decide) ?_
            first | exact take ⟨rfl, by omega⟩ ⟨by omega, by omega⟩ _ _ _ | exact keep (by omega) _ _ _
  refine mi_bipush h dX6_thinnest_0 (by decide) ?_
  refine mi_istore_n h dX6_thinnest_2 (by decide) ?_
  refine mi_lconst0 h dX6_thinnest_3 ?_
  refine mi_lstore_n h dX6_thinnest_4 (by decide) ?_
  refine mi_iconst h dX6_thinnest_5 ?_
  refine mi_istore h dX6_thinnest_6 (by decide) ?_
  have h9 := loop (σ 28 25).toNat 0 0 none none σ (by omega) (fun q => by have q : (0 : Int) ≤ -6 := q; omega) ⟨by omega, by omega⟩
  rw [wm_self] at h9
  exact h9
set_option maxHeartbeats 4000000 in
set_option maxRecDepth 100000 in
theorem c_X6_areMet {σ F0 : Mem} (hJ : JS σ) (hZ : JZ σ) (hP : JP σ) (hB : JB σ) (hQ : JQ σ) : Sp1 yX6_areMet cX6_areMet 3 (some .boolean) 1 5 [vr 28] (wm σ F0) (fun r σ' => SM σ σ' ∧ (r = 0 ∨ r = 1) ∧ (r = 1 ↔ ∀ h : Nat, (h : Int) < σ 28 25 → 0 ≤ lsM σ h (σ 28 0))) := by
  refine Sp1_in RX6 rfl (by decide +kernel) (Nat.le_of_ble_eq_true rfl) [some (vr 28), none, none] rfl ?_
  intro K h hr
  obtain ⟨j1, j2, j3, j4, j5, j6, j7⟩ := id hJ
  have loop : ∀ (j k : Nat) (v : Int) (F : Mem), (k : Int) + j = σ 28 25 → (v = 0 ∨ v = 1) → (v = 1 ↔ ∀ h : Nat, h < k → 0 ≤ lsM σ h (σ 28 0)) → M K 4 [some (vr 28), some (vi v), some (vi (k : Int))] [] (wm σ F) := by
    intro j
    induction j with
    | zero =>
      intro k v F hk hv hv2
      refine mi_iload_n h dX6_areMet_4 (by rfl) ?_
      refine mi_aload_n h dX6_areMet_5 (by rfl) ?_
      refine gf_X6_25 h dX6_areMet_6 fl_RX6_208 ?_
      try simp only [up_app, upC_app, wm_app, Nat.reduceEqDiff, reduceIte, Nat.reduceLeDiff, and_self, and_true, true_and, and_false, false_and, Nat.add_eq_zero_iff, Nat.succ_ne_self, Nat.add_right_cancel_iff]
      refine mi_icmp_ge (tgt := 42) h dX6_areMet_9 (by decide) ⟨by omega, by omega⟩ ⟨by omega, by omega⟩ (fun e9 => ?_) (fun e9 => ?_)
      · refine mi_iload_n h dX6_areMet_42 (by rfl) ?_
        refine mi_zreturn h hr dX6_areMet_43 (by omega) ?_
        refine ⟨⟨F, rfl⟩, hv, ?_⟩
        rw [hv2]
        exact ⟨fun q g hg => q g (by omega), fun q g hg => q g (by omega)⟩
      · exfalso; omega
    | succ j ih =>
      intro k v F hk hv hv2
      refine mi_iload_n h dX6_areMet_4 (by rfl) ?_
      refine mi_aload_n h dX6_areMet_5 (by rfl) ?_
      refine gf_X6_25 h dX6_areMet_6 fl_RX6_208 ?_
      try simp only [up_app, upC_app, wm_app, Nat.reduceEqDiff, reduceIte, Nat.reduceLeDiff, and_self, and_true, true_and, and_false, false_and, Nat.add_eq_zero_iff, Nat.succ_ne_self, Nat.add_right_cancel_iff]
      refine mi_icmp_ge (tgt := 42) h dX6_areMet_9 (by decide) ⟨by omega, by omega⟩ ⟨by omega, by omega⟩ (fun e9 => ?_) (fun e9 => ?_)
      · exfalso; omega
      · refine mi_iload_n h dX6_areMet_12 (by rfl) ?_
        refine mi_if_eq (tgt := 42) h dX6_areMet_13 (by decide) ⟨by omega, by omega⟩ (fun e13 => ?_) (fun e13 => ?_)
        · refine mi_iload_n h dX6_areMet_42 (by rfl) ?_
          refine mi_zreturn h hr dX6_areMet_43 (by omega) ?_
          refine ⟨⟨F, rfl⟩, hv, ⟨fun q => by omega, fun q => ?_⟩⟩
          exact hv2.mpr (fun g hg => q g (by omega))
        · refine mi_aload_n h dX6_areMet_16 (by rfl) ?_
          refine mi_iload_n h dX6_areMet_17 (by rfl) ?_
          refine mi_aload_n h dX6_areMet_18 (by rfl) ?_
          refine gf_X6_0 h dX6_areMet_19 fl_RX6_7 ?_
          try simp only [up_app, upC_app, wm_app, Nat.reduceEqDiff, reduceIte, Nat.reduceLeDiff, and_self, and_true, true_and, and_false, false_and, Nat.add_eq_zero_iff, Nat.succ_ne_self, Nat.add_right_cancel_iff]
          refine mi_cV2l (hw := Nat.le_of_ble_eq_true rfl) h dX6_areMet_22 ml_RX6_214 ym_yX6_leastOf (by rfl) (by rfl) (c_X6_leastOf (σ := σ) (F0 := F) hJ hZ hP hB hQ (by omega) j1) (fun r22 σ22 hp22 => ?_)
          obtain ⟨⟨F2, rfl⟩, rfl, k4⟩ := hp22
          refine mi_lconst0 h dX6_areMet_25 ?_
          refine mi_lcmp_lt (tgt := 34) h dX6_areMet_26 dX6_areMet_27 (by decide) ⟨by omega, by omega⟩ ⟨by omega, by omega⟩ (fun e26 => ?_) (fun e26 => ?_)
          · refine mi_iconst h dX6_areMet_34 ?_
            refine mi_istore_n h dX6_areMet_35 (by decide) ?_
            refine mi_iinc h dX6_areMet_36 (by rfl) ?_ (by decide)
            refine mi_goto (tgt := 4) h dX6_areMet_39 (by decide) ?_
            first | exact ih (k + 1) _ F2 (by omega) (by omega) ⟨fun _ g hg => by
              by_cases e : g = k
              · subst e; omega
              · exact hv2.mp (by omega) g (by omega), fun _ => rfl⟩ | exact ih (k + 1) _ F2 (by omega) (by omega) ⟨fun z => by omega, fun z => by have := z k (by omega); omega⟩
          · refine mi_iconst h dX6_areMet_30 ?_
            refine mi_goto (tgt := 35) h dX6_areMet_31 (by decide) ?_
            refine mi_istore_n h dX6_areMet_35 (by decide) ?_
            refine mi_iinc h dX6_areMet_36 (by rfl) ?_ (by decide)
            refine mi_goto (tgt := 4) h dX6_areMet_39 (by decide) ?_
            first | exact ih (k + 1) _ F2 (by omega) (by omega) ⟨fun _ g hg => by
              by_cases e : g = k
              · subst e; omega
              · exact hv2.mp (by omega) g (by omega), fun _ => rfl⟩ | exact ih (k + 1) _ F2 (by omega) (by omega) ⟨fun z => by omega, fun z => by have := z k (by omega); omega⟩
  refine mi_iconst h dX6_areMet_0 ?_
  refine mi_istore_n h dX6_areMet_1 (by decide) ?_
  refine mi_iconst h dX6_areMet_2 ?_
  refine mi_istore_n h dX6_areMet_3 (by decide) ?_
  exact loop (σ 28 25).toNat 0 1 F0 (by omega) (by omega) ⟨fun _ g hg => by omega, fun _ => rfl⟩
set_option maxHeartbeats 4000000 in
set_option maxRecDepth 100000 in
theorem c_X6_margin {σ : Mem} {g : Int} (hJ : JS σ) (hZ : JZ σ) (hP : JP σ) (hB : JB σ) (hQ : JQ σ) (hg : R32 g) : Sp1 yX6_margin cX6_margin 4 (some .int) 1 5 [vr 28, vi g] σ (fun r σ' => SM σ σ' ∧ ((r = -1 ∧ ¬ (0 ≤ g ∧ g < σ 28 25)) ∨ ((0 ≤ g ∧ g < σ 28 25) ∧ ((r = -5 ∧ ¬ 0 ≤ lsM σ g.toNat (σ 28 0)) ∨ (0 ≤ lsM σ g.toNat (σ 28 0) ∧ ((r = -6 ∧ ∀ m : Int, 1 ≤ m → m ≤ 100 → 0 ≤ lsM σ g.toNat (lft (σ 28 0) m)) ∨ ((1 ≤ r ∧ r ≤ 100) ∧ ¬ 0 ≤ lsM σ g.toNat (lft (σ 28 0) r) ∧ ∀ m : Int, 1 ≤ m → m < r → 0 ≤ lsM σ g.toNat (lft (σ 28 0) m)))))))) := by
  refine Sp1_in RX6 rfl (by decide +kernel) (Nat.le_of_ble_eq_true rfl) [some (vr 28), some (vi g), none, none] rfl ?_
  intro K h hr
  obtain ⟨j1, j2, j3, j4, j5, j6, j7⟩ := id hJ
  have loop : (0 ≤ g ∧ g < σ 28 25) → 0 ≤ lsM σ g.toNat (σ 28 0) → ∀ (j : Nat) (m : Int) (l3 : Option MV) (F : Mem), m + j = 101 → 1 ≤ m → (∀ m' : Int, 1 ≤ m' → m' < m → 0 ≤ lsM σ g.toNat (lft (σ 28 0) m')) → M K 29 [some (vr 28), some (vi g), some (vi m), l3] [] (wm σ F) := by
    intro h1 h2 j
    induction j with
    | zero =>
      intro m l3 F hm hm1 hno
      refine mi_iload_n h dX6_margin_29 (by rfl) ?_
      refine mi_bipush h dX6_margin_30 (by decide) ?_
      refine mi_icmp_gt (tgt := 76) h dX6_margin_32 (by decide) ⟨by omega, by omega⟩ ⟨by omega, by omega⟩ (fun e32 => ?_) (fun e32 => ?_)
      · refine mi_bipush h dX6_margin_76 (by decide) ?_
        refine mi_ireturn h hr dX6_margin_78 ?_
        exact ⟨⟨F, rfl⟩, Or.inr ⟨h1, Or.inr ⟨h2, Or.inl ⟨rfl, fun m9 a1 a2 => hno m9 a1 (by omega)⟩⟩⟩⟩
      · exfalso; omega
    | succ j ih =>
      intro m l3 F hm hm1 hno
      have w := lft_rng j1 (x := m) ⟨by omega, by omega⟩
      have cal : ∀ x : Int, x = lft (σ 28 0) m → ∀ l3 : Option MV, M K 60 [some (vr 28), some (vi g), some (vi m), l3] [vi x, vi ((g.toNat : Nat) : Int), vr 28] (wm σ F) := by
        intro x hx l3
        subst hx
        refine mi_cV2l (hw := Nat.le_of_ble_eq_true rfl) h dX6_margin_60 ml_RX6_214 ym_yX6_leastOf (by rfl) (by rfl) (c_X6_leastOf (σ := σ) (F0 := F) (g := g.toNat) hJ hZ hP hB hQ (by omega) ⟨by omega, by omega⟩) (fun r60 σ60 hp60 => ?_)
        obtain ⟨⟨F2, rfl⟩, rfl, k4⟩ := hp60
        refine mi_lconst0 h dX6_margin_63 ?_
        refine mi_lcmp_ge (tgt := 70) h dX6_margin_64 dX6_margin_65 (by decide) ⟨by omega, by omega⟩ ⟨by omega, by omega⟩ (fun e64 => ?_) (fun e64 => ?_)
        · refine mi_iinc h dX6_margin_70 (by rfl) ?_ (by decide)
          refine mi_goto (tgt := 29) h dX6_margin_73 (by decide) ?_
          exact ih (m + 1) _ F2 (by omega) (by omega) (fun m9 a1 a2 => by
            by_cases e : m9 = m
            · subst e; exact e64
            · exact hno m9 a1 (by omega))
        · refine mi_iload_n h dX6_margin_68 (by rfl) ?_
          refine mi_ireturn h hr dX6_margin_69 ?_
          exact ⟨⟨F2, rfl⟩, Or.inr ⟨h1, Or.inr ⟨h2, Or.inr ⟨⟨by omega, by omega⟩, e64, hno⟩⟩⟩⟩
      have hlf : lft (σ 28 0) m = max 1 (σ 28 0 * (100 - m) / 100) := rfl
      refine mi_iload_n h dX6_margin_29 (by rfl) ?_
      refine mi_bipush h dX6_margin_30 (by decide) ?_
      refine mi_icmp_gt (tgt := 76) h dX6_margin_32 (by decide) ⟨by omega, by omega⟩ ⟨by omega, by omega⟩ (fun e32 => ?_) (fun e32 => ?_)
      · exfalso; omega
      · refine mi_aload_n h dX6_margin_35 (by rfl) ?_
        refine gf_X6_0 h dX6_margin_36 fl_RX6_7 ?_
        try simp only [up_app, upC_app, wm_app, Nat.reduceEqDiff, reduceIte, Nat.reduceLeDiff, and_self, and_true, true_and, and_false, false_and, Nat.add_eq_zero_iff, Nat.succ_ne_self, Nat.add_right_cancel_iff]
        refine mi_bipush h dX6_margin_39 (by decide) ?_
        refine mi_iload_n h dX6_margin_41 (by rfl) ?_
        refine mi_isub h dX6_margin_42 ?_
        refine mi_imul h dX6_margin_43 ?_
        refine mi_bipush h dX6_margin_44 (by decide) ?_
        refine mi_idiv h dX6_margin_46 ⟨by omega, by omega⟩ ⟨by omega, by omega⟩ ?_
        refine mi_istore_n h dX6_margin_47 (by decide) ?_
        refine mi_aload_n h dX6_margin_48 (by rfl) ?_
        refine mi_iload_n h dX6_margin_49 (by rfl) ?_
        refine mt_e (y := ((g.toNat : Nat) : Int)) (by omega) ?_
        refine mi_iload_n h dX6_margin_50 (by rfl) ?_
        refine mi_iconst h dX6_margin_51 ?_
        refine mi_icmp_ge (tgt := 59) h dX6_margin_52 (by decide) ⟨by omega, by omega⟩ ⟨by omega, by omega⟩ (fun e52 => ?_) (fun e52 => ?_)
        · refine mi_iload_n h dX6_margin_59 (by rfl) ?_
          exact cal _ (by omega) _
        · refine mi_iconst h dX6_margin_55 ?_
          refine mi_goto (tgt := 60) h dX6_margin_56 (by decide) ?_
          exact cal _ (by omega) _
  refine mi_aload_n h dX6_margin_0 (by rfl) ?_
  refine mi_iload_n h dX6_margin_1 (by rfl) ?_
  refine mi_cV1i (hw := Nat.le_of_ble_eq_true rfl) h dX6_margin_2 ml_RX6_211 ym_yX6_isHeap (by rfl) (by rfl) (c_X6_isHeap hJ ⟨by omega, by omega⟩) (fun r2 σ2 hp2 => ?_)
  obtain ⟨rfl, hb2, hc2⟩ := hp2
  refine mi_if_ne (tgt := 10) h dX6_margin_5 (by decide) ⟨by omega, by omega⟩ (fun e5 => ?_) (fun e5 => ?_)
  · refine mi_aload_n h dX6_margin_10 (by rfl) ?_
    refine mi_iload_n h dX6_margin_11 (by rfl) ?_
    refine mt_e (y := ((g.toNat : Nat) : Int)) (by omega) ?_
    refine mi_aload_n h dX6_margin_12 (by rfl) ?_
    refine gf_X6_0 h dX6_margin_13 fl_RX6_7 ?_
    refine mi_cV2l (hw := Nat.le_of_ble_eq_true rfl) h dX6_margin_16 ml_RX6_214 ym_yX6_leastOf (by rfl) (by rfl) (by have := c_X6_leastOf (σ := σ) (F0 := σ) (g := g.toNat) (q := σ 28 0) hJ hZ hP hB hQ (by omega) j1; rw [wm_self] at this; exact this) (fun r16 σ16 hp16 => ?_)
    obtain ⟨⟨F2, rfl⟩, rfl, k4⟩ := hp16
    refine mi_lconst0 h dX6_margin_19 ?_
    refine mi_lcmp_ge (tgt := 27) h dX6_margin_20 dX6_margin_21 (by decide) ⟨by omega, by omega⟩ ⟨by omega, by omega⟩ (fun e20 => ?_) (fun e20 => ?_)
    · refine mi_iconst h dX6_margin_27 ?_
      refine mi_istore_n h dX6_margin_28 (by decide) ?_
      exact loop (by omega) (by omega) 100 1 _ F2 (by omega) (by omega) (fun m9 a1 a2 => by omega)
    · refine mi_bipush h dX6_margin_24 (by decide) ?_
      refine mi_ireturn h hr dX6_margin_26 ?_
      exact ⟨⟨F2, rfl⟩, Or.inr ⟨by omega, Or.inl ⟨rfl, by omega⟩⟩⟩
  · refine mi_iconst h dX6_margin_8 ?_
    refine mi_ireturn h hr dX6_margin_9 ?_
    exact ⟨SM_rf _, Or.inl ⟨rfl, by omega⟩⟩
