theorem gath_hd {s : Int} {fr hd hd' dr cl : Nat → Int} : ∀ (p : Nat) (E : Nat → Int), (∀ q, q < p → hd q = hd' q) → gath s fr hd dr cl p E = gath s fr hd' dr cl p E
  | 0, E, _ => rfl
  | p + 1, E, h => by
    have e : gst s fr hd dr cl p E = gst s fr hd' dr cl p E := by unfold gst; rw [h p (by omega)]
    rw [gath, gath, e]
    exact gath_hd p _ (fun q hq => h q (by omega))
theorem hdM_o {σ : Mem} {o o' : Nat → Int} {p : Nat} (h : o p = o' p) : hdM σ o p = hdM σ o' p := by unfold hdM; rw [h]
theorem GvM_o {σ : Mem} {s : Int} {o o' : Nat → Int} (h : ∀ p, p < (σ 28 11).toNat → o p = o' p) : GvM s σ o = GvM s σ o' := by
  unfold GvM Gv
  exact gath_hd _ _ (fun q hq => hdM_o (h q hq))
theorem PvM_o {σ : Mem} {s q : Int} {o o' : Nat → Int} (h : ∀ p, p < (σ 28 11).toNat → o p = o' p) : PvM s q σ o = PvM s q σ o' := by
  have := GvM_o (s := 1 - s) h
  unfold GvM at this
  unfold PvM Pv
  rw [this]
theorem WK_o {σ : Mem} {q : Int} {o o' : Nat → Int} {F : Mem} (h : ∀ p, p < (σ 28 11).toNat → o p = o' p) (hW : WK σ q o F) : WK σ q o' F := by
  unfold WK at *
  rw [← GvM_o h, ← GvM_o (s := 1) h, ← PvM_o h, ← PvM_o (s := 1) h]
  exact hW
theorem opM_01 {σ : Mem} (hB : JB σ) {p : Nat} (hp : p < 24) : opM σ p = 0 ∨ opM σ p = 1 := by
  have := (hB.1 p hp).2.2.2.1
  unfold opM
  split <;> omega
set_option maxHeartbeats 4000000 in
set_option maxRecDepth 100000 in
theorem c_X6_workNow {σ : Mem} {F0 : Mem} (hJ : JS σ) (hZ : JZ σ) (hP : JP σ) (hB : JB σ) (hQ : JQ σ) : Sp1 yX6_workNow cX6_workNow 1 none 0 4 [vr 28] (wm σ F0) (fun r σ' => ∃ F, wm σ F = σ' ∧ (∀ p : Nat, (p : Int) < σ 28 11 → F 42 p = opM σ p) ∧ WK σ (σ 28 0) (opM σ) F) := by
  refine Sp1_in RX6 rfl (by decide +kernel) (Nat.le_of_ble_eq_true rfl) [some (vr 28)] rfl ?_
  intro K h hr
  obtain ⟨j1, j2, j3, j4, j5, j6, j7⟩ := id hJ
  refine mi_aload_n h dX6_workNow_0 (by rfl) ?_
  refine mi_cV0v (hw := Nat.le_of_ble_eq_true rfl) h dX6_workNow_1 ml_RX6_183 ym_yX6_openAsTold (by rfl) (by rfl) (c_X6_openAsTold (σ := wm σ F0) hJ hB) (fun r1 σ1 hp1 => ?_)
  obtain ⟨F1, rfl, hF1⟩ := hp1
  rw [wm_wm]
  have hF1 : ∀ p : Nat, (p : Int) < σ 28 11 → F1 42 p = opM σ p := hF1
  refine mi_aload_n h dX6_workNow_4 (by rfl) ?_
  refine mi_aload_n h dX6_workNow_5 (by rfl) ?_
  refine gf_X6_0 h dX6_workNow_6 fl_RX6_7 ?_
  try simp only [up_app, upC_app, wm_app, Nat.reduceEqDiff, reduceIte, Nat.reduceLeDiff, and_self, and_true, true_and, and_false, false_and, Nat.add_eq_zero_iff, Nat.succ_ne_self, Nat.add_right_cancel_iff]
  refine mi_cV1v (hw := Nat.le_of_ble_eq_true rfl) h dX6_workNow_9 ml_RX6_186 ym_yX6_work (by rfl) (by rfl) (c_X6_work (σ := σ) (F0 := F1) hJ hZ hP hB hQ j1 (fun p hp => by rw [hF1 p hp]; exact opM_01 hB (by omega))) (fun r9 σ9 hp9 => ?_)
  obtain ⟨F2, rfl, h42, hW⟩ := hp9
  refine mi_return (x := 0) h hr dX6_workNow_12 ?_
  exact ⟨F2, rfl, fun p hp => by rw [h42]; exact hF1 p hp, WK_o (fun p hp => hF1 p (by omega)) hW⟩
set_option maxHeartbeats 4000000 in
set_option maxRecDepth 100000 in
theorem c_X6_flowOf {σ : Mem} {p : Nat} {s : Int} (hP : JP σ) (hB : JB σ) (hp : p < 24) (hs : s = 0 ∨ s = 1) (ho : σ 42 p = 0 ∨ σ 42 p = 1) (hl : 0 ≤ σ 47 p ∧ σ 47 p ≤ 102400000) (hh : 0 ≤ σ 48 p ∧ σ 48 p ≤ 102400000) : Sp1 yX6_flowOf cX6_flowOf 5 (some .long) 2 2 [vr 28, vi (p : Int), vi s] σ (fun r σ' => σ = σ' ∧ r = if σ 42 p = 1 then fl s (fnM σ p) (if s = 0 then σ 47 p else σ 48 p) else 0) := by
  refine Sp1_in RX6 rfl (by decide +kernel) (Nat.le_of_ble_eq_true rfl) [some (vr 28), some (vi (p : Int)), some (vi s), none, none] rfl ?_
  intro K h hr
  have h9 := fnM_rng hP hp
  refine mi_aload_n h dX6_flowOf_0 (by rfl) ?_
  refine gf_X6_17 h dX6_flowOf_1 fl_RX6_54 ?_
  refine mi_iload_n h dX6_flowOf_4 (by rfl) ?_
  refine mn_baload (p) h dX6_flowOf_5 (by rfl) (by omega) (by omega) (by decide) ?_
  refine mi_if_ne (tgt := 11) h dX6_flowOf_6 (by decide) ⟨by omega, by omega⟩ (fun e6 => ?_) (fun e6 => ?_)
  · refine mi_aload_n h dX6_flowOf_11 (by rfl) ?_
    refine mi_iload_n h dX6_flowOf_12 (by rfl) ?_
    refine mi_cV1i (hw := Nat.le_of_ble_eq_true rfl) h dX6_flowOf_13 ml_RX6_172 ym_yX6_factorNow (by rfl) (by rfl) (c_X6_factorNow hP hB hp) (fun r13 σ13 hp13 => ?_)
    obtain ⟨rfl, rfl⟩ := hp13
    refine mi_i2l h dX6_flowOf_16 ⟨by omega, by omega⟩ ?_
    refine mi_lstore_n h dX6_flowOf_17 (by decide) ?_
    refine mi_iload_n h dX6_flowOf_18 (by rfl) ?_
    refine mi_if_ne (tgt := 40) h dX6_flowOf_19 (by decide) ⟨by omega, by omega⟩ (fun e19 => ?_) (fun e19 => ?_)
    · refine mi_lload_n h dX6_flowOf_40 (by rfl) ?_
      refine mi_aload_n h dX6_flowOf_41 (by rfl) ?_
      refine gf_X6_23 h dX6_flowOf_42 fl_RX6_73 ?_
      refine mi_iload_n h dX6_flowOf_45 (by rfl) ?_
      refine mn_laload (p) h dX6_flowOf_46 (by rfl) (by omega) (by omega) (by decide) ?_
      refine mi_ldc2 (z := 1024) h dX6_flowOf_47 kc_RX6_170 rfl ?_
      refine mi_lmul h dX6_flowOf_50 ?_
      refine mi_cS1l (hw := Nat.le_of_ble_eq_true rfl) h dX6_flowOf_51 ml_RX6_159 ym_yX6_rootUp (c_X6_rootUp ⟨by omega, by omega⟩) (fun r51 σ51 hp51 => ?_)
      obtain ⟨rfl, rfl⟩ := hp51
      refine mi_lmul h dX6_flowOf_54 ?_
      refine mi_lreturn h hr dX6_flowOf_55 ?_
      refine ⟨rfl, ?_⟩
      unfold fl
      first | (rw [if_neg (by omega)]; done) | (rw [if_pos (by omega), if_neg (by omega), if_pos (by omega)]; done) | (rw [if_pos (by omega), if_pos (by omega), if_neg (by omega)]; done)
    · refine mi_lload_n h dX6_flowOf_22 (by rfl) ?_
      refine mi_aload_n h dX6_flowOf_23 (by rfl) ?_
      refine gf_X6_22 h dX6_flowOf_24 fl_RX6_70 ?_
      refine mi_iload_n h dX6_flowOf_27 (by rfl) ?_
      refine mn_laload (p) h dX6_flowOf_28 (by rfl) (by omega) (by omega) (by decide) ?_
      refine mi_ldc2 (z := 1024) h dX6_flowOf_29 kc_RX6_170 rfl ?_
      refine mi_lmul h dX6_flowOf_32 ?_
      refine mi_cS1l (hw := Nat.le_of_ble_eq_true rfl) h dX6_flowOf_33 ml_RX6_149 ym_yX6_root (c_X6_root ⟨by omega, by omega⟩) (fun r33 σ33 hp33 => ?_)
      obtain ⟨rfl, rfl⟩ := hp33
      refine mi_lmul h dX6_flowOf_36 ?_
      refine mi_goto (tgt := 55) h dX6_flowOf_37 (by decide) ?_
      refine mi_lreturn h hr dX6_flowOf_55 ?_
      refine ⟨rfl, ?_⟩
      unfold fl
      first | (rw [if_neg (by omega)]; done) | (rw [if_pos (by omega), if_neg (by omega), if_pos (by omega)]; done) | (rw [if_pos (by omega), if_pos (by omega), if_neg (by omega)]; done)
  · refine mi_lconst0 h dX6_flowOf_9 ?_
    refine mi_lreturn h hr dX6_flowOf_10 ?_
    refine ⟨rfl, ?_⟩
    unfold fl
    first | (rw [if_neg (by omega)]; done) | (rw [if_pos (by omega), if_neg (by omega), if_pos (by omega)]; done) | (rw [if_pos (by omega), if_pos (by omega), if_neg (by omega)]; done)
def sp0 (σ : Mem) (o : Nat → Int) (P : Nat → Int) (p : Nat) : Int := (if o p = 1 then fl 0 (fnM σ p) (P p) else 0) - 1024 * σ 39 p
set_option maxHeartbeats 4000000 in
set_option maxRecDepth 100000 in
theorem c_X6_spare {σ : Mem} {p : Nat} (hP : JP σ) (hB : JB σ) (hp : p < 24) (ho : σ 42 p = 0 ∨ σ 42 p = 1) (hl : 0 ≤ σ 47 p ∧ σ 47 p ≤ 102400000) (hh : 0 ≤ σ 48 p ∧ σ 48 p ≤ 102400000) : Sp1 yX6_spare cX6_spare 2 (some .long) 2 3 [vr 28, vi (p : Int)] σ (fun r σ' => σ = σ' ∧ r = sp0 σ (σ 42) (σ 47) p) := by
  refine Sp1_in RX6 rfl (by decide +kernel) (Nat.le_of_ble_eq_true rfl) [some (vr 28), some (vi (p : Int))] rfl ?_
  intro K h hr
  obtain ⟨-, -, -, -, -, k1, -⟩ := hP p hp
  refine mi_aload_n h dX6_spare_0 (by rfl) ?_
  refine mi_iload_n h dX6_spare_1 (by rfl) ?_
  refine mi_iconst h dX6_spare_2 ?_
  refine mi_cV2l (hw := Nat.le_of_ble_eq_true rfl) h dX6_spare_3 ml_RX6_196 ym_yX6_flowOf (by rfl) (by rfl) (c_X6_flowOf (s := 0) hP hB hp (by omega) ho hl hh) (fun r3 σ3 hp3 => ?_)
  obtain ⟨rfl, hv3⟩ := hp3
  rw [if_pos rfl] at hv3
  subst hv3
  refine mi_ldc2 (z := 1024) h dX6_spare_6 kc_RX6_170 rfl ?_
  refine mi_aload_n h dX6_spare_9 (by rfl) ?_
  refine gf_X6_14 h dX6_spare_10 fl_RX6_45 ?_
  refine mi_iload_n h dX6_spare_13 (by rfl) ?_
  refine mn_iaload (p) h dX6_spare_14 (by rfl) (by omega) (by omega) (by decide) ?_
  refine mi_i2l h dX6_spare_15 ⟨by omega, by omega⟩ ?_
  refine mi_lmul h dX6_spare_16 ?_
  refine mi_lsub h dX6_spare_17 ?_
  refine mi_lreturn h hr dX6_spare_18 ?_
  exact ⟨rfl, rfl⟩
theorem sp0_rng {σ : Mem} {o P : Nat → Int} {p : Nat} (hP : JP σ) (hp : p < 24) (hl : 0 ≤ P p ∧ P p ≤ 102400000) : -30720000 ≤ sp0 σ o P p ∧ sp0 σ o P p ≤ 64800000 := by
  obtain ⟨-, -, -, -, -, k1, -⟩ := hP p hp
  have h1 := fnM_rng hP hp
  have h2 := fl_rng (s := 0) h1 hl
  unfold sp0
  split <;> omega
/-- the reference's conduct, pressure, flow -/
def SM (σ σ' : Mem) : Prop := ∃ F, wm σ F = σ'
theorem SM_rf (σ : Mem) : SM σ σ := ⟨σ, wm_self σ⟩
set_option maxHeartbeats 4000000 in
set_option maxRecDepth 100000 in
theorem c_X6_conduct {σ : Mem} {p s : Int} (hJ : JS σ) (hZ : JZ σ) (hP : JP σ) (hB : JB σ) (hQ : JQ σ) (hp : R32 p) (hs : R32 s) : Sp1 yX6_conduct cX6_conduct 4 (some .long) 2 5 [vr 28, vi p, vi s] σ (fun r σ' => SM σ σ' ∧ ((r = -1 ∧ ¬ (-1 ≤ p ∧ p < σ 28 11)) ∨ (r = -2 ∧ (-1 ≤ p ∧ p < σ 28 11) ∧ ¬ (s = 0 ∨ s = 1)) ∨ ((-1 ≤ p ∧ p < σ 28 11) ∧ (s = 0 ∨ s = 1) ∧ r = if 0 < (p + 1).toNat ∧ σ 35 ((p + 1).toNat - 1) = 1 then 0 else cnd s (drE σ (p + 1).toNat) (GvM s σ (opM σ) (p + 1).toNat)))) := by
  refine Sp1_in RX6 rfl (by decide +kernel) (Nat.le_of_ble_eq_true rfl) [some (vr 28), some (vi p), some (vi s), none] rfl ?_
  intro K h hr
  obtain ⟨j1, j2, j3, j4, j5, j6, j7⟩ := id hJ
  have fin : ∀ (F : Mem) (t : Nat), (-1 ≤ p ∧ p < σ 28 11) → (s = 0 ∨ s = 1) → WK σ (σ 28 0) (opM σ) F → t = ix (p + 1).toNat → t < 25 → M K 46 [some (vr 28), some (vi p), some (vi s), some (vi (t : Int))] [] (wm σ F) := by
    intro F t h1 h2 hW ht ht2
    have w := hW (p + 1).toNat (by omega)
    rw [← ht] at w
    refine mi_iload_n h dX6_conduct_46 (by rfl) ?_
    refine mi_if_ne (tgt := 59) h dX6_conduct_47 (by decide) ⟨by omega, by omega⟩ (fun e47 => ?_) (fun e47 => ?_)
    · refine mi_aload_n h dX6_conduct_59 (by rfl) ?_
      refine gf_X6_21 h dX6_conduct_60 fl_RX6_67 ?_
      refine mi_iload_n h dX6_conduct_63 (by rfl) ?_
      refine mn_laload (t) h dX6_conduct_64 (by rfl) (by omega) (by omega) (by decide) ?_
      try simp only [up_app, upC_app, wm_app, Nat.reduceEqDiff, reduceIte, Nat.reduceLeDiff, and_self, and_true, true_and, and_false, false_and, Nat.add_eq_zero_iff, Nat.succ_ne_self, Nat.add_right_cancel_iff]
      refine mi_lreturn h hr dX6_conduct_65 ?_
      refine ⟨⟨F, rfl⟩, Or.inr (Or.inr ⟨h1, h2, ?_⟩)⟩
      first | (rw [w.2.2.1, show s = 0 by omega]; done) | (rw [w.2.2.2.1, show s = 1 by omega]; done)
    · refine mi_aload_n h dX6_conduct_50 (by rfl) ?_
      refine gf_X6_20 h dX6_conduct_51 fl_RX6_64 ?_
      refine mi_iload_n h dX6_conduct_54 (by rfl) ?_
      refine mn_laload (t) h dX6_conduct_55 (by rfl) (by omega) (by omega) (by decide) ?_
      try simp only [up_app, upC_app, wm_app, Nat.reduceEqDiff, reduceIte, Nat.reduceLeDiff, and_self, and_true, true_and, and_false, false_and, Nat.add_eq_zero_iff, Nat.succ_ne_self, Nat.add_right_cancel_iff]
      refine mi_goto (tgt := 65) h dX6_conduct_56 (by decide) ?_
      refine mi_lreturn h hr dX6_conduct_65 ?_
      refine ⟨⟨F, rfl⟩, Or.inr (Or.inr ⟨h1, h2, ?_⟩)⟩
      first | (rw [w.2.2.1, show s = 0 by omega]; done) | (rw [w.2.2.2.1, show s = 1 by omega]; done)
  refine mi_iload_n h dX6_conduct_0 (by rfl) ?_
  refine mi_iconst h dX6_conduct_1 ?_
  refine mi_icmp_eq (tgt := 17) h dX6_conduct_2 (by decide) ⟨by omega, by omega⟩ ⟨by omega, by omega⟩ (fun e2 => ?_) (fun e2 => ?_)
  · refine mi_iload_n h dX6_conduct_17 (by rfl) ?_
    refine mi_i2l h dX6_conduct_18 ⟨by omega, by omega⟩ ?_
    refine mi_lconst0 h dX6_conduct_19 ?_
    refine mi_lconst1 h dX6_conduct_20 ?_
    refine mi_cS3i (hw := Nat.le_of_ble_eq_true rfl) h dX6_conduct_21 ml_RX6_112 ym_yX6_in (c_X6_in ⟨by omega, by omega⟩ ⟨by omega, by omega⟩ ⟨by omega, by omega⟩) (fun r21 σ21 hp21 => ?_)
    obtain ⟨rfl, hb21, hc21⟩ := hp21
    refine mi_if_ne (tgt := 31) h dX6_conduct_24 (by decide) ⟨by omega, by omega⟩ (fun e24 => ?_) (fun e24 => ?_)
    · refine mi_aload_n h dX6_conduct_31 (by rfl) ?_
      refine mi_cV0v (hw := Nat.le_of_ble_eq_true rfl) h dX6_conduct_32 ml_RX6_193 ym_yX6_workNow (by rfl) (by rfl) (by have := c_X6_workNow (σ := σ) (F0 := σ) hJ hZ hP hB hQ; rw [wm_self] at this; exact this) (fun r32 σ32 hp32 => ?_)
      obtain ⟨F, rfl, h42, hW⟩ := hp32
      refine mi_iload_n h dX6_conduct_35 (by rfl) ?_
      refine mi_if_ge (tgt := 44) h dX6_conduct_36 (by decide) ⟨by omega, by omega⟩ (fun e36 => ?_) (fun e36 => ?_)
      · refine mi_iload_n h dX6_conduct_44 (by rfl) ?_
        first | (refine mi_istore_n h dX6_conduct_45 (by decide) ?_; exact fin F 24 (by omega) (by omega) hW (by rw [show (p + 1).toNat = 0 by omega]; rfl) (by decide)) | (refine mt_e (y := ((p.toNat : Nat) : Int)) (by omega) ?_; refine mi_istore_n h dX6_conduct_45 (by decide) ?_; exact fin F p.toNat (by omega) (by omega) hW (by rw [show (p + 1).toNat = p.toNat + 1 by omega, ix_s]) (by omega))
      · refine mi_bipush h dX6_conduct_39 (by decide) ?_
        refine mi_goto (tgt := 45) h dX6_conduct_41 (by decide) ?_
        first | (refine mi_istore_n h dX6_conduct_45 (by decide) ?_; exact fin F 24 (by omega) (by omega) hW (by rw [show (p + 1).toNat = 0 by omega]; rfl) (by decide)) | (refine mt_e (y := ((p.toNat : Nat) : Int)) (by omega) ?_; refine mi_istore_n h dX6_conduct_45 (by decide) ?_; exact fin F p.toNat (by omega) (by omega) hW (by rw [show (p + 1).toNat = p.toNat + 1 by omega, ix_s]) (by omega))
    · refine mi_ldc2 (z := -2) h dX6_conduct_27 kc_RX6_191 rfl ?_
      refine mi_lreturn h hr dX6_conduct_30 ?_
      exact ⟨SM_rf _, Or.inr (Or.inl ⟨rfl, by omega, by omega⟩)⟩
  · refine mi_aload_n h dX6_conduct_5 (by rfl) ?_
    refine mi_iload_n h dX6_conduct_6 (by rfl) ?_
    refine mi_cV1i (hw := Nat.le_of_ble_eq_true rfl) h dX6_conduct_7 ml_RX6_116 ym_yX6_isPipe (by rfl) (by rfl) (c_X6_isPipe hJ ⟨by omega, by omega⟩) (fun r7 σ7 hp7 => ?_)
    obtain ⟨rfl, hb7, hc7⟩ := hp7
    refine mi_if_ne (tgt := 17) h dX6_conduct_10 (by decide) ⟨by omega, by omega⟩ (fun e10 => ?_) (fun e10 => ?_)
    · refine mi_iload_n h dX6_conduct_17 (by rfl) ?_
      refine mi_i2l h dX6_conduct_18 ⟨by omega, by omega⟩ ?_
      refine mi_lconst0 h dX6_conduct_19 ?_
      refine mi_lconst1 h dX6_conduct_20 ?_
      refine mi_cS3i (hw := Nat.le_of_ble_eq_true rfl) h dX6_conduct_21 ml_RX6_112 ym_yX6_in (c_X6_in ⟨by omega, by omega⟩ ⟨by omega, by omega⟩ ⟨by omega, by omega⟩) (fun r21 σ21 hp21 => ?_)
      obtain ⟨rfl, hb21, hc21⟩ := hp21
      refine mi_if_ne (tgt := 31) h dX6_conduct_24 (by decide) ⟨by omega, by omega⟩ (fun e24 => ?_) (fun e24 => ?_)
      · refine mi_aload_n h dX6_conduct_31 (by rfl) ?_
        refine mi_cV0v (hw := Nat.le_of_ble_eq_true rfl) h dX6_conduct_32 ml_RX6_193 ym_yX6_workNow (by rfl) (by rfl) (by have := c_X6_workNow (σ := σ) (F0 := σ) hJ hZ hP hB hQ; rw [wm_self] at this; exact this) (fun r32 σ32 hp32 => ?_)
        obtain ⟨F, rfl, h42, hW⟩ := hp32
        refine mi_iload_n h dX6_conduct_35 (by rfl) ?_
        refine mi_if_ge (tgt := 44) h dX6_conduct_36 (by decide) ⟨by omega, by omega⟩ (fun e36 => ?_) (fun e36 => ?_)
        · refine mi_iload_n h dX6_conduct_44 (by rfl) ?_
          first | (refine mi_istore_n h dX6_conduct_45 (by decide) ?_; exact fin F 24 (by omega) (by omega) hW (by rw [show (p + 1).toNat = 0 by omega]; rfl) (by decide)) | (refine mt_e (y := ((p.toNat : Nat) : Int)) (by omega) ?_; refine mi_istore_n h dX6_conduct_45 (by decide) ?_; exact fin F p.toNat (by omega) (by omega) hW (by rw [show (p + 1).toNat = p.toNat + 1 by omega, ix_s]) (by omega))
        · refine mi_bipush h dX6_conduct_39 (by decide) ?_
          refine mi_goto (tgt := 45) h dX6_conduct_41 (by decide) ?_
          first | (refine mi_istore_n h dX6_conduct_45 (by decide) ?_; exact fin F 24 (by omega) (by omega) hW (by rw [show (p + 1).toNat = 0 by omega]; rfl) (by decide)) | (refine mt_e (y := ((p.toNat : Nat) : Int)) (by omega) ?_; refine mi_istore_n h dX6_conduct_45 (by decide) ?_; exact fin F p.toNat (by omega) (by omega) hW (by rw [show (p + 1).toNat = p.toNat + 1 by omega, ix_s]) (by omega))
      · refine mi_ldc2 (z := -2) h dX6_conduct_27 kc_RX6_191 rfl ?_
        refine mi_lreturn h hr dX6_conduct_30 ?_
        exact ⟨SM_rf _, Or.inr (Or.inl ⟨rfl, by omega, by omega⟩)⟩
    · refine mi_ldc2 (z := -1) h dX6_conduct_13 kc_RX6_189 rfl ?_
      refine mi_lreturn h hr dX6_conduct_16 ?_
      exact ⟨SM_rf _, Or.inl ⟨rfl, by omega⟩⟩
set_option maxHeartbeats 4000000 in
set_option maxRecDepth 100000 in
theorem c_X6_pressure {σ : Mem} {p s : Int} (hJ : JS σ) (hZ : JZ σ) (hP : JP σ) (hB : JB σ) (hQ : JQ σ) (hp : R32 p) (hs : R32 s) : Sp1 yX6_pressure cX6_pressure 4 (some .long) 2 5 [vr 28, vi p, vi s] σ (fun r σ' => SM σ σ' ∧ ((r = -1 ∧ ¬ (-1 ≤ p ∧ p < σ 28 11)) ∨ (r = -2 ∧ (-1 ≤ p ∧ p < σ 28 11) ∧ ¬ (s = 0 ∨ s = 1)) ∨ ((-1 ≤ p ∧ p < σ 28 11) ∧ (s = 0 ∨ s = 1) ∧ r = PvM s (σ 28 0) σ (opM σ) (p + 1).toNat))) := by
  refine Sp1_in RX6 rfl (by decide +kernel) (Nat.le_of_ble_eq_true rfl) [some (vr 28), some (vi p), some (vi s), none] rfl ?_
  intro K h hr
  obtain ⟨j1, j2, j3, j4, j5, j6, j7⟩ := id hJ
  have fin : ∀ (F : Mem) (t : Nat), (-1 ≤ p ∧ p < σ 28 11) → (s = 0 ∨ s = 1) → WK σ (σ 28 0) (opM σ) F → t = ix (p + 1).toNat → t < 25 → M K 46 [some (vr 28), some (vi p), some (vi s), some (vi (t : Int))] [] (wm σ F) := by
    intro F t h1 h2 hW ht ht2
    have w := hW (p + 1).toNat (by omega)
    rw [← ht] at w
    refine mi_iload_n h dX6_pressure_46 (by rfl) ?_
    refine mi_if_ne (tgt := 59) h dX6_pressure_47 (by decide) ⟨by omega, by omega⟩ (fun e47 => ?_) (fun e47 => ?_)
    · refine mi_aload_n h dX6_pressure_59 (by rfl) ?_
      refine gf_X6_23 h dX6_pressure_60 fl_RX6_73 ?_
      refine mi_iload_n h dX6_pressure_63 (by rfl) ?_
      refine mn_laload (t) h dX6_pressure_64 (by rfl) (by omega) (by omega) (by decide) ?_
      try simp only [up_app, upC_app, wm_app, Nat.reduceEqDiff, reduceIte, Nat.reduceLeDiff, and_self, and_true, true_and, and_false, false_and, Nat.add_eq_zero_iff, Nat.succ_ne_self, Nat.add_right_cancel_iff]
      refine mi_lreturn h hr dX6_pressure_65 ?_
      refine ⟨⟨F, rfl⟩, Or.inr (Or.inr ⟨h1, h2, ?_⟩)⟩
      first | (rw [w.2.2.2.2.1, show s = 0 by omega]; done) | (rw [w.2.2.2.2.2, show s = 1 by omega]; done)
    · refine mi_aload_n h dX6_pressure_50 (by rfl) ?_
      refine gf_X6_22 h dX6_pressure_51 fl_RX6_70 ?_
      refine mi_iload_n h dX6_pressure_54 (by rfl) ?_
      refine mn_laload (t) h dX6_pressure_55 (by rfl) (by omega) (by omega) (by decide) ?_
      try simp only [up_app, upC_app, wm_app, Nat.reduceEqDiff, reduceIte, Nat.reduceLeDiff, and_self, and_true, true_and, and_false, false_and, Nat.add_eq_zero_iff, Nat.succ_ne_self, Nat.add_right_cancel_iff]
      refine mi_goto (tgt := 65) h dX6_pressure_56 (by decide) ?_
      refine mi_lreturn h hr dX6_pressure_65 ?_
      refine ⟨⟨F, rfl⟩, Or.inr (Or.inr ⟨h1, h2, ?_⟩)⟩
      first | (rw [w.2.2.2.2.1, show s = 0 by omega]; done) | (rw [w.2.2.2.2.2, show s = 1 by omega]; done)
  refine mi_iload_n h dX6_pressure_0 (by rfl) ?_
  refine mi_iconst h dX6_pressure_1 ?_
  refine mi_icmp_eq (tgt := 17) h dX6_pressure_2 (by decide) ⟨by omega, by omega⟩ ⟨by omega, by omega⟩ (fun e2 => ?_) (fun e2 => ?_)
  · refine mi_iload_n h dX6_pressure_17 (by rfl) ?_
    refine mi_i2l h dX6_pressure_18 ⟨by omega, by omega⟩ ?_
    refine mi_lconst0 h dX6_pressure_19 ?_
    refine mi_lconst1 h dX6_pressure_20 ?_
    refine mi_cS3i (hw := Nat.le_of_ble_eq_true rfl) h dX6_pressure_21 ml_RX6_112 ym_yX6_in (c_X6_in ⟨by omega, by omega⟩ ⟨by omega, by omega⟩ ⟨by omega, by omega⟩) (fun r21 σ21 hp21 => ?_)
    obtain ⟨rfl, hb21, hc21⟩ := hp21
    refine mi_if_ne (tgt := 31) h dX6_pressure_24 (by decide) ⟨by omega, by omega⟩ (fun e24 => ?_) (fun e24 => ?_)
    · refine mi_aload_n h dX6_pressure_31 (by rfl) ?_
      refine mi_cV0v (hw := Nat.le_of_ble_eq_true rfl) h dX6_pressure_32 ml_RX6_193 ym_yX6_workNow (by rfl) (by rfl) (by have := c_X6_workNow (σ := σ) (F0 := σ) hJ hZ hP hB hQ; rw [wm_self] at this; exact this) (fun r32 σ32 hp32 => ?_)
      obtain ⟨F, rfl, h42, hW⟩ := hp32
      refine mi_iload_n h dX6_pressure_35 (by rfl) ?_
      refine mi_if_ge (tgt := 44) h dX6_pressure_36 (by decide) ⟨by omega, by omega⟩ (fun e36 => ?_) (fun e36 => ?_)
      · refine mi_iload_n h dX6_pressure_44 (by rfl) ?_
        first | (refine mi_istore_n h dX6_pressure_45 (by decide) ?_; exact fin F 24 (by omega) (by omega) hW (by rw [show (p + 1).toNat = 0 by omega]; rfl) (by decide)) | (refine mt_e (y := ((p.toNat : Nat) : Int)) (by omega) ?_; refine mi_istore_n h dX6_pressure_45 (by decide) ?_; exact fin F p.toNat (by omega) (by omega) hW (by rw [show (p + 1).toNat = p.toNat + 1 by omega, ix_s]) (by omega))
      · refine mi_bipush h dX6_pressure_39 (by decide) ?_
        refine mi_goto (tgt := 45) h dX6_pressure_41 (by decide) ?_
        first | (refine mi_istore_n h dX6_pressure_45 (by decide) ?_; exact fin F 24 (by omega) (by omega) hW (by rw [show (p + 1).toNat = 0 by omega]; rfl) (by decide)) | (refine mt_e (y := ((p.toNat : Nat) : Int)) (by omega) ?_; refine mi_istore_n h dX6_pressure_45 (by decide) ?_; exact fin F p.toNat (by omega) (by omega) hW (by rw [show (p + 1).toNat = p.toNat + 1 by omega, ix_s]) (by omega))
    · refine mi_ldc2 (z := -2) h dX6_pressure_27 kc_RX6_191 rfl ?_
      refine mi_lreturn h hr dX6_pressure_30 ?_
      exact ⟨SM_rf _, Or.inr (Or.inl ⟨rfl, by omega, by omega⟩)⟩
  · refine mi_aload_n h dX6_pressure_5 (by rfl) ?_
    refine mi_iload_n h dX6_pressure_6 (by rfl) ?_
    refine mi_cV1i (hw := Nat.le_of_ble_eq_true rfl) h dX6_pressure_7 ml_RX6_116 ym_yX6_isPipe (by rfl) (by rfl) (c_X6_isPipe hJ ⟨by omega, by omega⟩) (fun r7 σ7 hp7 => ?_)
    obtain ⟨rfl, hb7, hc7⟩ := hp7
    refine mi_if_ne (tgt := 17) h dX6_pressure_10 (by decide) ⟨by omega, by omega⟩ (fun e10 => ?_) (fun e10 => ?_)
    · refine mi_iload_n h dX6_pressure_17 (by rfl) ?_
      refine mi_i2l h dX6_pressure_18 ⟨by omega, by omega⟩ ?_
      refine mi_lconst0 h dX6_pressure_19 ?_
      refine mi_lconst1 h dX6_pressure_20 ?_
      refine mi_cS3i (hw := Nat.le_of_ble_eq_true rfl) h dX6_pressure_21 ml_RX6_112 ym_yX6_in (c_X6_in ⟨by omega, by omega⟩ ⟨by omega, by omega⟩ ⟨by omega, by omega⟩) (fun r21 σ21 hp21 => ?_)
      obtain ⟨rfl, hb21, hc21⟩ := hp21
      refine mi_if_ne (tgt := 31) h dX6_pressure_24 (by decide) ⟨by omega, by omega⟩ (fun e24 => ?_) (fun e24 => ?_)
      · refine mi_aload_n h dX6_pressure_31 (by rfl) ?_
        refine mi_cV0v (hw := Nat.le_of_ble_eq_true rfl) h dX6_pressure_32 ml_RX6_193 ym_yX6_workNow (by rfl) (by rfl) (by have := c_X6_workNow (σ := σ) (F0 := σ) hJ hZ hP hB hQ; rw [wm_self] at this; exact this) (fun r32 σ32 hp32 => ?_)
        obtain ⟨F, rfl, h42, hW⟩ := hp32
        refine mi_iload_n h dX6_pressure_35 (by rfl) ?_
        refine mi_if_ge (tgt := 44) h dX6_pressure_36 (by decide) ⟨by omega, by omega⟩ (fun e36 => ?_) (fun e36 => ?_)
        · refine mi_iload_n h dX6_pressure_44 (by rfl) ?_
          first | (refine mi_istore_n h dX6_pressure_45 (by decide) ?_; exact fin F 24 (by omega) (by omega) hW (by rw [show (p + 1).toNat = 0 by omega]; rfl) (by decide)) | (refine mt_e (y := ((p.toNat : Nat) : Int)) (by omega) ?_; refine mi_istore_n h dX6_pressure_45 (by decide) ?_; exact fin F p.toNat (by omega) (by omega) hW (by rw [show (p + 1).toNat = p.toNat + 1 by omega, ix_s]) (by omega))
        · refine mi_bipush h dX6_pressure_39 (by decide) ?_
          refine mi_goto (tgt := 45) h dX6_pressure_41 (by decide) ?_
          first | (refine mi_istore_n h dX6_pressure_45 (by decide) ?_; exact fin F 24 (by omega) (by omega) hW (by rw [show (p + 1).toNat = 0 by omega]; rfl) (by decide)) | (refine mt_e (y := ((p.toNat : Nat) : Int)) (by omega) ?_; refine mi_istore_n h dX6_pressure_45 (by decide) ?_; exact fin F p.toNat (by omega) (by omega) hW (by rw [show (p + 1).toNat = p.toNat + 1 by omega, ix_s]) (by omega))
      · refine mi_ldc2 (z := -2) h dX6_pressure_27 kc_RX6_191 rfl ?_
        refine mi_lreturn h hr dX6_pressure_30 ?_
        exact ⟨SM_rf _, Or.inr (Or.inl ⟨rfl, by omega, by omega⟩)⟩
    · refine mi_ldc2 (z := -1) h dX6_pressure_13 kc_RX6_189 rfl ?_
      refine mi_lreturn h hr dX6_pressure_16 ?_
      exact ⟨SM_rf _, Or.inl ⟨rfl, by omega⟩⟩
/-- flows of the scratch -/
theorem flM {σ F : Mem} {p : Nat} {s : Int} (hJ : JS σ) (hZ : JZ σ) (hP : JP σ) (hB : JB σ) (hQ : JQ σ) (hp : (p : Int) < σ 28 11) (hs : s = 0 ∨ s = 1) (h42 : ∀ p : Nat, (p : Int) < σ 28 11 → F 42 p = opM σ p) (hW : WK σ (σ 28 0) (opM σ) F) : Sp1 yX6_flowOf cX6_flowOf 5 (some .long) 2 2 [vr 28, vi (p : Int), vi s] (wm σ F) (fun r σ' => wm σ F = σ' ∧ r = if opM σ p = 1 then fl s (fnM σ p) (PvM s (σ 28 0) σ (opM σ) (p + 1)) else 0) := by
  obtain ⟨j1, j2, j3, j4, j5, j6, j7⟩ := id hJ
  have w := hW (p + 1) (by omega)
  rw [ix_s] at w
  have w0 : wm σ F 42 p = opM σ p := h42 p hp
  have w1 : wm σ F 47 p = PvM 0 (σ 28 0) σ (opM σ) (p + 1) := w.2.2.2.2.1
  have w2 : wm σ F 48 p = PvM 1 (σ 28 0) σ (opM σ) (p + 1) := w.2.2.2.2.2
  have r1 := PvM_rng (s := 0) (q := σ 28 0) (o := opM σ) hJ hZ hP hQ ⟨by omega, by omega⟩ (e := p + 1) (by omega)
  have r2 := PvM_rng (s := 1) (q := σ 28 0) (o := opM σ) hJ hZ hP hQ ⟨by omega, by omega⟩ (e := p + 1) (by omega)
  refine Sp1_imp (c_X6_flowOf (σ := wm σ F) (p := p) (s := s) hP hB (by omega) hs (by rw [w0]; exact opM_01 hB (by omega)) (by rw [w1]; exact r1) (by rw [w2]; exact r2)) (fun r σ' hp9 => ⟨hp9.1, ?_⟩)
  rw [hp9.2, w0, w1, w2]
  have e : fnM (wm σ F) p = fnM σ p := rfl
  rw [e]
  rcases hs with rfl | rfl <;> rfl
set_option maxHeartbeats 4000000 in
set_option maxRecDepth 100000 in
theorem c_X6_flow {σ : Mem} {p s : Int} (hJ : JS σ) (hZ : JZ σ) (hP : JP σ) (hB : JB σ) (hQ : JQ σ) (hp : R32 p) (hs : R32 s) : Sp1 yX6_flow cX6_flow 3 (some .long) 2 5 [vr 28, vi p, vi s] σ (fun r σ' => SM σ σ' ∧ ((r = -1 ∧ ¬ (0 ≤ p ∧ p < σ 28 11 ∧ σ 37 p.toNat = 1)) ∨ (r = -2 ∧ (0 ≤ p ∧ p < σ 28 11 ∧ σ 37 p.toNat = 1) ∧ ¬ (s = 0 ∨ s = 1)) ∨ ((0 ≤ p ∧ p < σ 28 11 ∧ σ 37 p.toNat = 1) ∧ (s = 0 ∨ s = 1) ∧ r = if opM σ p.toNat = 1 then fl s (fnM σ p.toNat) (PvM s (σ 28 0) σ (opM σ) (p.toNat + 1)) else 0))) := by
  refine Sp1_in RX6 rfl (by decide +kernel) (Nat.le_of_ble_eq_true rfl) [some (vr 28), some (vi p), some (vi s)] rfl ?_
  intro K h hr
  obtain ⟨j1, j2, j3, j4, j5, j6, j7⟩ := id hJ
  refine mi_aload_n h dX6_flow_0 (by rfl) ?_
  refine mi_iload_n h dX6_flow_1 (by rfl) ?_
  refine mi_cV1i (hw := Nat.le_of_ble_eq_true rfl) h dX6_flow_2 ml_RX6_140 ym_yX6_isHead (by rfl) (by rfl) (c_X6_isHead hJ hB ⟨by omega, by omega⟩) (fun r2 σ2 hp2 => ?_)
  obtain ⟨rfl, hb2, hc2⟩ := hp2
  refine mi_if_ne (tgt := 12) h dX6_flow_5 (by decide) ⟨by omega, by omega⟩ (fun e5 => ?_) (fun e5 => ?_)
  · refine mi_iload_n h dX6_flow_12 (by rfl) ?_
    refine mi_i2l h dX6_flow_13 ⟨by omega, by omega⟩ ?_
    refine mi_lconst0 h dX6_flow_14 ?_
    refine mi_lconst1 h dX6_flow_15 ?_
    refine mi_cS3i (hw := Nat.le_of_ble_eq_true rfl) h dX6_flow_16 ml_RX6_112 ym_yX6_in (c_X6_in ⟨by omega, by omega⟩ ⟨by omega, by omega⟩ ⟨by omega, by omega⟩) (fun r16 σ16 hp16 => ?_)
    obtain ⟨rfl, hb16, hc16⟩ := hp16
    refine mi_if_ne (tgt := 26) h dX6_flow_19 (by decide) ⟨by omega, by omega⟩ (fun e19 => ?_) (fun e19 => ?_)
    · refine mi_aload_n h dX6_flow_26 (by rfl) ?_
      refine mi_cV0v (hw := Nat.le_of_ble_eq_true rfl) h dX6_flow_27 ml_RX6_193 ym_yX6_workNow (by rfl) (by rfl) (by have := c_X6_workNow (σ := σ) (F0 := σ) hJ hZ hP hB hQ; rw [wm_self] at this; exact this) (fun r27 σ27 hp27 => ?_)
      obtain ⟨F, rfl, h42, hW⟩ := hp27
      refine mi_aload_n h dX6_flow_30 (by rfl) ?_
      refine mi_iload_n h dX6_flow_31 (by rfl) ?_
      refine mt_e (y := ((p.toNat : Nat) : Int)) (by omega) ?_
      refine mi_iload_n h dX6_flow_32 (by rfl) ?_
      refine mi_cV2l (hw := Nat.le_of_ble_eq_true rfl) h dX6_flow_33 ml_RX6_196 ym_yX6_flowOf (by rfl) (by rfl) (flM (p := p.toNat) (s := s) hJ hZ hP hB hQ (by omega) (by omega) h42 hW) (fun r33 σ33 hp33 => ?_)
      obtain ⟨rfl, hv33⟩ := hp33
      refine mi_lreturn h hr dX6_flow_36 ?_
      exact ⟨⟨F, rfl⟩, Or.inr (Or.inr ⟨by omega, by omega, hv33⟩)⟩
    · refine mi_ldc2 (z := -2) h dX6_flow_22 kc_RX6_191 rfl ?_
      refine mi_lreturn h hr dX6_flow_25 ?_
      exact ⟨SM_rf _, Or.inr (Or.inl ⟨rfl, by omega, by omega⟩)⟩
  · refine mi_ldc2 (z := -1) h dX6_flow_8 kc_RX6_189 rfl ?_
    refine mi_lreturn h hr dX6_flow_11 ?_
    exact ⟨SM_rf _, Or.inl ⟨rfl, by omega⟩⟩
def flMm (s : Int) (σ : Mem) (p : Nat) : Int := if opM σ p = 1 then fl s (fnM σ p) (PvM s (σ 28 0) σ (opM σ) (p + 1)) else 0
set_option maxHeartbeats 4000000 in
set_option maxRecDepth 100000 in
theorem c_X6_total {σ : Mem} {s : Int} (hJ : JS σ) (hZ : JZ σ) (hP : JP σ) (hB : JB σ) (hQ : JQ σ) (hs : R32 s) : Sp1 yX6_total cX6_total 5 (some .long) 2 5 [vr 28, vi s] σ (fun r σ' => SM σ σ' ∧ ((r = -2 ∧ ¬ (s = 0 ∨ s = 1)) ∨ ((s = 0 ∨ s = 1) ∧ r = sm (flMm s σ) (σ 28 11).toNat))) := by
  refine Sp1_in RX6 rfl (by decide +kernel) (Nat.le_of_ble_eq_true rfl) [some (vr 28), some (vi s), none, none, none] rfl ?_
  intro K h hr
  obtain ⟨j1, j2, j3, j4, j5, j6, j7⟩ := id hJ
  have loop : ∀ (F : Mem), (s = 0 ∨ s = 1) → (∀ p : Nat, (p : Int) < σ 28 11 → F 42 p = opM σ p) → WK σ (σ 28 0) (opM σ) F → ∀ (j k : Nat), (k : Int) + j = σ 28 11 → M K 23 [some (vr 28), some (vi s), some (vl (sm (flMm s σ) k)), none, some (vi (k : Int))] [] (wm σ F) := by
    intro F hs2 h42 hW j
    induction j with
    | zero =>
      intro k hk
      refine mi_iload h dX6_total_23 (by rfl) ?_
      refine mi_aload_n h dX6_total_25 (by rfl) ?_
      refine gf_X6_11 h dX6_total_26 fl_RX6_109 ?_
      try simp only [up_app, upC_app, wm_app, Nat.reduceEqDiff, reduceIte, Nat.reduceLeDiff, and_self, and_true, true_and, and_false, false_and, Nat.add_eq_zero_iff, Nat.succ_ne_self, Nat.add_right_cancel_iff]
      refine mi_icmp_ge (tgt := 48) h dX6_total_29 (by decide) ⟨by omega, by omega⟩ ⟨by omega, by omega⟩ (fun e29 => ?_) (fun e29 => ?_)
      · refine mi_lload_n h dX6_total_48 (by rfl) ?_
        refine mi_lreturn h hr dX6_total_49 ?_
        exact ⟨⟨F, rfl⟩, Or.inr ⟨hs2, by rw [show (σ 28 11).toNat = k by omega]⟩⟩
      · exfalso; omega
    | succ j ih =>
      intro k hk
      refine mi_iload h dX6_total_23 (by rfl) ?_
      refine mi_aload_n h dX6_total_25 (by rfl) ?_
      refine gf_X6_11 h dX6_total_26 fl_RX6_109 ?_
      try simp only [up_app, upC_app, wm_app, Nat.reduceEqDiff, reduceIte, Nat.reduceLeDiff, and_self, and_true, true_and, and_false, false_and, Nat.add_eq_zero_iff, Nat.succ_ne_self, Nat.add_right_cancel_iff]
      refine mi_icmp_ge (tgt := 48) h dX6_total_29 (by decide) ⟨by omega, by omega⟩ ⟨by omega, by omega⟩ (fun e29 => ?_) (fun e29 => ?_)
      · exfalso; omega
      · refine mi_lload_n h dX6_total_32 (by rfl) ?_
        refine mi_aload_n h dX6_total_33 (by rfl) ?_
        refine mi_iload h dX6_total_34 (by rfl) ?_
        refine mi_iload_n h dX6_total_36 (by rfl) ?_
        refine mi_cV2l (hw := Nat.le_of_ble_eq_true rfl) h dX6_total_37 ml_RX6_196 ym_yX6_flowOf (by rfl) (by rfl) (flM (p := k) (s := s) hJ hZ hP hB hQ (by omega) hs2 h42 hW) (fun r37 σ37 hp37 => ?_)
        obtain ⟨rfl, hv37⟩ := hp37
        have hv37 : r37 = flMm s σ k := hv37
        subst hv37
        refine mi_ladd h dX6_total_40 ?_
        refine mi_lstore_n h dX6_total_41 (by decide) ?_
        refine mi_iinc h dX6_total_42 (by rfl) ?_ (by decide)
        refine mi_goto (tgt := 23) h dX6_total_45 (by decide) ?_
        exact ih (k + 1) (by omega)
  refine mi_iload_n h dX6_total_0 (by rfl) ?_
  refine mi_i2l h dX6_total_1 ⟨by omega, by omega⟩ ?_
  refine mi_lconst0 h dX6_total_2 ?_
  refine mi_lconst1 h dX6_total_3 ?_
  refine mi_cS3i (hw := Nat.le_of_ble_eq_true rfl) h dX6_total_4 ml_RX6_112 ym_yX6_in (c_X6_in ⟨by omega, by omega⟩ ⟨by omega, by omega⟩ ⟨by omega, by omega⟩) (fun r4 σ4 hp4 => ?_)
  obtain ⟨rfl, hb4, hc4⟩ := hp4
  refine mi_if_ne (tgt := 14) h dX6_total_7 (by decide) ⟨by omega, by omega⟩ (fun e7 => ?_) (fun e7 => ?_)
  · refine mi_aload_n h dX6_total_14 (by rfl) ?_
    refine mi_cV0v (hw := Nat.le_of_ble_eq_true rfl) h dX6_total_15 ml_RX6_193 ym_yX6_workNow (by rfl) (by rfl) (by have := c_X6_workNow (σ := σ) (F0 := σ) hJ hZ hP hB hQ; rw [wm_self] at this; exact this) (fun r15 σ15 hp15 => ?_)
    obtain ⟨F, rfl, h42, hW⟩ := hp15
    refine mi_lconst0 h dX6_total_18 ?_
    refine mi_lstore_n h dX6_total_19 (by decide) ?_
    refine mi_iconst h dX6_total_20 ?_
    refine mi_istore h dX6_total_21 (by decide) ?_
    exact loop F (by omega) h42 hW (σ 28 11).toNat 0 (by omega)
  · refine mi_ldc2 (z := -2) h dX6_total_10 kc_RX6_191 rfl ?_
    refine mi_lreturn h hr dX6_total_13 ?_
    exact ⟨SM_rf _, Or.inl ⟨rfl, by omega⟩⟩
