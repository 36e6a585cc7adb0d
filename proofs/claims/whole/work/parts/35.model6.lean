/-! the reference's ends: place 24 behind the supply, p behind the pipe p -/
def ix (e : Nat) : Nat := if e = 0 then 24 else e - 1
theorem ix_0 : ix 0 = 24 := rfl
theorem ix_s (p : Nat) : ix (p + 1) = p := rfl
def hdM (σ : Mem) (o : Nat → Int) (p : Nat) : Int := if o p = 1 then 1024 * fnM σ p else 0
def drE (σ : Mem) (e : Nat) : Int := drM σ (ix e)
def GvM (s : Int) (σ : Mem) (o : Nat → Int) : Nat → Int := Gv s (σ 28 11).toNat (σ 31) (hdM σ o) (drE σ) (σ 35)
def PvM (s q : Int) (σ : Mem) (o : Nat → Int) : Nat → Int := Pv s (σ 28 11).toNat (σ 31) (hdM σ o) (drE σ) (σ 35) (1024 * q)
theorem fnM_rng {σ : Mem} (hP : JP σ) {p : Nat} (hp : p < 24) : 0 ≤ fnM σ p ∧ fnM σ p ≤ 200 := by
  obtain ⟨-, -, -, -, k1, -, k2⟩ := hP p hp
  have := fnw_rng k1 k2
  unfold fnM
  split <;> omega
theorem hdM_rng {σ : Mem} {o : Nat → Int} (hP : JP σ) {p : Nat} (hp : p < 24) : 0 ≤ hdM σ o p ∧ hdM σ o p ≤ 204800 := by
  have := fnM_rng hP hp
  unfold hdM
  split <;> omega
theorem netokM {σ : Mem} {o : Nat → Int} (hJ : JS σ) (hZ : JZ σ) (hP : JP σ) (hQ : JQ σ) : NetOk (σ 28 11).toNat (σ 31) (hdM σ o) (drE σ) := by
  obtain ⟨j1, j2, j3, j4, j5, j6, j7⟩ := id hJ
  refine ⟨by omega, fun p hp => ⟨(hP p (by omega)).1.1, (hQ p (by omega)).1⟩, fun p hp => hdM_rng hP (by omega), fun e he => drM_rng hJ hZ hP ?_⟩
  unfold ix
  split <;> omega
theorem prs_up {n : Nat} {s : Int} {fr dr cl G : Nat → Int} {P0 : Int} {F : Nat → Int} {k : Nat} : ∀ m, ∀ e, e ≤ k → prs s fr dr cl G P0 (k + m) F e = prs s fr dr cl G P0 k F e
  | 0, e, he => rfl
  | m + 1, e, he => by
    rw [show k + (m + 1) = k + m + 1 by omega, prs, st_at, if_neg (by omega)]
    exact prs_up (n := n) m e he
theorem Pv_0 {s : Int} {n : Nat} {fr hd dr cl : Nat → Int} {P0 : Int} : Pv s n fr hd dr cl P0 0 = fln s (dr 0) (Gv (1 - s) n fr hd dr cl 0) P0 := by
  unfold Pv
  have := prs_up (n := n) (s := s) (fr := fr) (dr := dr) (cl := cl) (G := Gv (1 - s) n fr hd dr cl) (P0 := P0) (F := fun _ => 0) (k := 0) n 0 (Nat.le_refl _)
  rw [Nat.zero_add] at this
  rw [this]; rfl
theorem Pv_s {s : Int} {n : Nat} {fr hd dr cl : Nat → Int} {P0 : Int} {k : Nat} (hk : k < n) (hf : -1 ≤ fr k ∧ fr k < k) : Pv s n fr hd dr cl P0 (k + 1) = if cl k = 1 then 0 else fln s (dr (k + 1)) (Gv (1 - s) n fr hd dr cl (k + 1)) (Pv s n fr hd dr cl P0 (fr k + 1).toNat) := by
  unfold Pv
  have h1 := prs_up (n := n) (s := s) (fr := fr) (dr := dr) (cl := cl) (G := Gv (1 - s) n fr hd dr cl) (P0 := P0) (F := fun _ => 0) (k := k + 1) (n - (k + 1)) (k + 1) (Nat.le_refl _)
  have h2 := prs_up (n := n) (s := s) (fr := fr) (dr := dr) (cl := cl) (G := Gv (1 - s) n fr hd dr cl) (P0 := P0) (F := fun _ => 0) (k := k) (n - k) (fr k + 1).toNat (by omega)
  rw [show k + 1 + (n - (k + 1)) = n by omega] at h1
  rw [show k + (n - k) = n by omega] at h2
  rw [h1, h2, prs, st_at, if_pos rfl]
/-- the reference's ends beside those of the words, ahead of the pipes below p -/
def RE (n p : Nat) (hd E Em : Nat → Int) : Prop := Em 24 = E 0 ∧ ∀ q, q < n → Em q = E (q + 1) + if q < p then hd q else 0
theorem RE_step {n p : Nat} {s : Int} {fr hd dr cl E Em : Nat → Int} (hn : n ≤ 24) (hp : p < n) (hf : -1 ≤ fr p ∧ fr p < p) (h : RE n (p + 1) hd E Em) (v : Int) (hv : v = if cl p = 1 then 0 else cnd s (dr (p + 1)) (Em p)) : RE n p hd (gst s fr hd dr cl p E) (ad Em (if fr p < 0 then 24 else (fr p).toNat) v) := by
  obtain ⟨h1, h2⟩ := h
  have hp2 := h2 p hp
  rw [if_pos (by omega)] at hp2
  rw [hp2] at hv
  unfold gst
  rw [← hv]
  by_cases hneg : fr p < 0
  · rw [if_pos hneg, show (fr p + 1).toNat = 0 by omega]
    refine ⟨by rw [ad_at, ad_at, ad_at, if_pos rfl, if_pos rfl, if_neg (by omega), h1], fun q hq => ?_⟩
    simp only [ad_at]
    rw [h2 q hq]
    by_cases e : q = p
    · subst e; (repeat' split) <;> omega
    · (repeat' split) <;> omega
  · rw [if_neg hneg, show (fr p + 1).toNat = (fr p).toNat + 1 by omega]
    refine ⟨by rw [ad_at, ad_at, ad_at, if_neg (by omega), if_neg (by omega), if_neg (by omega), h1], fun q hq => ?_⟩
    simp only [ad_at]
    rw [h2 q hq]
    by_cases e : q = p
    · subst e; (repeat' split) <;> omega
    · (repeat' split) <;> omega
/-- what 'work' leaves in the scratch -/
def WK (σ : Mem) (q : Int) (o : Nat → Int) (F : Mem) : Prop := ∀ e : Nat, (e : Int) ≤ σ 28 11 → F 43 (ix e) = GvM 0 σ o e ∧ F 44 (ix e) = GvM 1 σ o e ∧ F 45 (ix e) = (if 0 < e ∧ σ 35 (e - 1) = 1 then 0 else cnd 0 (drE σ e) (GvM 0 σ o e)) ∧ F 46 (ix e) = (if 0 < e ∧ σ 35 (e - 1) = 1 then 0 else cnd 1 (drE σ e) (GvM 1 σ o e)) ∧ F 47 (ix e) = PvM 0 q σ o e ∧ F 48 (ix e) = PvM 1 q σ o e
theorem up_c {F : Mem} {c k c' : Nat} {z : Int} (h : c' ≠ c) : up F c k z c' = F c' := up_cell F c k z h
theorem up_st2 (F : Mem) (c k : Nat) (z : Int) : up F c k z c = st (F c) k z := by
  funext j
  rw [up_at, st_at]
theorem st_ad (E : Nat → Int) (k : Nat) (x : Int) : st E k (E k + x) = ad E k x := by
  funext j
  rw [st_at, ad_at]
  by_cases h : j = k
  · rw [if_pos h, if_pos h, h]
  · rw [if_neg h, if_neg h]
theorem PvM_rng {σ : Mem} {s q : Int} {o : Nat → Int} (hJ : JS σ) (hZ : JZ σ) (hP : JP σ) (hQ : JQ σ) (hq : 0 ≤ q ∧ q ≤ 100000) {e : Nat} (he : (e : Int) ≤ σ 28 11) : 0 ≤ PvM s q σ o e ∧ PvM s q σ o e ≤ 102400000 := by
  have hN := netokM (o := o) hJ hZ hP hQ
  have := prs_rng (s := s) (cl := σ 35) (G := GvM (1 - s) σ o) (P0 := 1024 * q) hN.1 hN.2.1 hN.2.2.2 (fun e he => Gv_rng hN he) (by omega) (fun _ => 0) (σ 28 11).toNat (Nat.le_refl _) e (by omega)
  exact ⟨this.1, Int.le_trans this.2 (by omega)⟩
set_option maxHeartbeats 4000000 in
set_option maxRecDepth 100000 in
theorem c_X6_work {σ : Mem} {F0 : Mem} {q : Int} (hJ : JS σ) (hZ : JZ σ) (hP : JP σ) (hB : JB σ) (hQ : JQ σ) (hq : 1 ≤ q ∧ q ≤ 100000) (ho : ∀ p : Nat, (p : Int) < σ 28 11 → F0 42 p = 0 ∨ F0 42 p = 1) : Sp1 yX6_work cX6_work 4 none 0 3 [vr 28, vi q] (wm σ F0) (fun r σ' => ∃ F, wm σ F = σ' ∧ F 42 = F0 42 ∧ WK σ q (F0 42) F) := by
  refine Sp1_in RX6 rfl (by decide +kernel) (Nat.le_of_ble_eq_true rfl) [some (vr 28), some (vi q), none, none] rfl ?_
  intro K h hr
  obtain ⟨j1, j2, j3, j4, j5, j6, j7⟩ := id hJ
  have hN := netokM (o := F0 42) hJ hZ hP hQ
  have hdr : ∀ p, p < 25 → 0 ≤ drM σ p ∧ drM σ p ≤ 4000 := fun p hp => drM_rng hJ hZ hP hp
  have hGr : ∀ (s : Int) (e : Nat), (e : Int) ≤ σ 28 11 → 0 ≤ GvM s σ (F0 42) e ∧ GvM s σ (F0 42) e ≤ 4915200 := fun s e he => Gv_rng hN (by omega)
  have hPr : ∀ (s : Int) (e : Nat), (e : Int) ≤ σ 28 11 → 0 ≤ PvM s q σ (F0 42) e ∧ PvM s q σ (F0 42) e ≤ 102400000 := fun s e he => PvM_rng hJ hZ hP hQ ⟨by omega, hq.2⟩ he
  -- the third loop
  have loopC : ∀ (j k : Nat) (F : Mem) (l3 : Option MV), (k : Int) + j = σ 28 11 → F 42 = F0 42 → (∀ e : Nat, (e : Int) ≤ σ 28 11 → F 43 (ix e) = GvM 0 σ (F0 42) e ∧ F 44 (ix e) = GvM 1 σ (F0 42) e ∧ F 45 (ix e) = (if 0 < e ∧ σ 35 (e - 1) = 1 then 0 else cnd 0 (drE σ e) (GvM 0 σ (F0 42) e)) ∧ F 46 (ix e) = (if 0 < e ∧ σ 35 (e - 1) = 1 then 0 else cnd 1 (drE σ e) (GvM 1 σ (F0 42) e))) → (∀ e : Nat, e ≤ k → F 47 (ix e) = PvM 0 q σ (F0 42) e ∧ F 48 (ix e) = PvM 1 q σ (F0 42) e) → M K 162 [some (vr 28), some (vi q), some (vi (k : Int)), l3] [] (wm σ F) := by
    intro j
    induction j with
    | zero =>
      intro k F l3 hk h42 hG hPv
      refine mi_iload_n h dX6_work_162 (by rfl) ?_
      refine mi_aload_n h dX6_work_163 (by rfl) ?_
      refine gf_X6_11 h dX6_work_164 fl_RX6_109 ?_
      try simp only [up_app, upC_app, wm_app, Nat.reduceEqDiff, reduceIte, Nat.reduceLeDiff, and_self, and_true, true_and, and_false, false_and, Nat.add_eq_zero_iff, Nat.succ_ne_self, Nat.add_right_cancel_iff]
      refine mi_icmp_ge (tgt := 214) h dX6_work_167 (by decide) ⟨by omega, by omega⟩ ⟨by omega, by omega⟩ (fun e167 => ?_) (fun e167 => ?_)
      · refine mi_return (x := 0) h hr dX6_work_214 ?_
        exact ⟨F, rfl, h42, fun e he => ⟨(hG e he).1, (hG e he).2.1, (hG e he).2.2.1, (hG e he).2.2.2, hPv e (by omega)⟩⟩
      · exfalso; omega
    | succ j ih =>
      intro k F l3 hk h42 hG hPv
      have c1 := hN.2.1 k (by omega)
      have g1 := hG (k + 1) (by omega)
      rw [ix_s] at g1
      have r1 := hGr 0 (k + 1) (by omega)
      have r2 := hGr 1 (k + 1) (by omega)
      have v1 := hPv (σ 31 k + 1).toNat (by omega)
      have v2 := hPr 0 (σ 31 k + 1).toNat (by omega)
      have v3 := hPr 1 (σ 31 k + 1).toNat (by omega)
      have ps0 : PvM 0 q σ (F0 42) (k + 1) = _ := Pv_s (by omega) c1
      have ps1 : PvM 1 q σ (F0 42) (k + 1) = _ := Pv_s (by omega) c1
      have tail : ∀ (t : Nat), t = ix (σ 31 k + 1).toNat → t < 25 → M K 191 [some (vr 28), some (vi q), some (vi (k : Int)), some (vi (t : Int))] [] (wm σ F) := by
        intro t ht ht2
        rw [← ht] at v1
        refine mi_aload_n h dX6_work_191 (by rfl) ?_
        refine mi_iload_n h dX6_work_192 (by rfl) ?_
        refine mi_aload_n h dX6_work_193 (by rfl) ?_
        refine gf_X6_22 h dX6_work_194 fl_RX6_70 ?_
        refine mi_iload_n h dX6_work_197 (by rfl) ?_
        refine mn_laload (t) h dX6_work_198 (by rfl) (by omega) (by omega) (by decide) ?_
        try simp only [up_app, upC_app, wm_app, Nat.reduceEqDiff, reduceIte, Nat.reduceLeDiff, and_self, and_true, true_and, and_false, false_and, Nat.add_eq_zero_iff, Nat.succ_ne_self, Nat.add_right_cancel_iff]
        refine mi_aload_n h dX6_work_199 (by rfl) ?_
        refine gf_X6_23 h dX6_work_200 fl_RX6_73 ?_
        refine mi_iload_n h dX6_work_203 (by rfl) ?_
        refine mn_laload (t) h dX6_work_204 (by rfl) (by omega) (by omega) (by decide) ?_
        try simp only [up_app, upC_app, wm_app, Nat.reduceEqDiff, reduceIte, Nat.reduceLeDiff, and_self, and_true, true_and, and_false, false_and, Nat.add_eq_zero_iff, Nat.succ_ne_self, Nat.add_right_cancel_iff]
        refine mi_cV3v (hw := Nat.le_of_ble_eq_true rfl) h dX6_work_205 ml_RX6_179 ym_yX6_pressureOf (by rfl) (by rfl) (c_X6_pressureOf (σ := wm σ F) (p := k) hP hB (by omega) (hdr k (by omega)) (by show 0 ≤ F 43 k ∧ F 43 k ≤ 4915200; rw [g1.1]; exact r1) (by show 0 ≤ F 44 k ∧ F 44 k ≤ 4915200; rw [g1.2.1]; exact r2) (by rw [v1.1]; exact v2) (by rw [v1.2]; exact v3)) (fun r205 σ205 hp205 => ?_)
        rw [wm_up _ _ (by decide), wm_up _ _ (by decide)] at hp205
        subst hp205
        refine mi_iinc h dX6_work_208 (by rfl) ?_ (by decide)
        refine mi_goto (tgt := 162) h dX6_work_211 (by decide) ?_
        refine ih (k + 1) _ _ (by omega) h42 hG (fun e he => ?_)
        by_cases e9 : e = k + 1
        · subst e9
          rw [ix_s, ps0, ps1]
          have w1 : wm σ F 44 k = GvM 1 σ (F0 42) (k + 1) := g1.2.1
          have w2 : wm σ F 43 k = GvM 0 σ (F0 42) (k + 1) := g1.1
          have w3 : wm σ F 35 k = σ 35 k := rfl
          have w4 : drM (wm σ F) k = drE σ (k + 1) := rfl
          rw [up_c (by decide), up_eq, up_eq, w1, w2, w3, w4, v1.1, v1.2]
          by_cases e8 : σ 35 k = 1
          · have e6 : k < 24 ∧ σ 35 k = 1 := ⟨by omega, e8⟩
            simp only [if_pos e8, if_pos e6, and_self]
          · have e6 : ¬ (k < 24 ∧ σ 35 k = 1) := fun z => e8 z.2
            simp only [if_neg e8, if_neg e6]; exact ⟨rfl, rfl⟩
        · have e7 : ix e ≠ k := by unfold ix; split <;> omega
          rw [up_c (by decide), up_nk _ _ _ _ e7, up_nk _ _ _ _ e7]
          exact hPv e (by omega)
      refine mi_iload_n h dX6_work_162 (by rfl) ?_
      refine mi_aload_n h dX6_work_163 (by rfl) ?_
      refine gf_X6_11 h dX6_work_164 fl_RX6_109 ?_
      try simp only [up_app, upC_app, wm_app, Nat.reduceEqDiff, reduceIte, Nat.reduceLeDiff, and_self, and_true, true_and, and_false, false_and, Nat.add_eq_zero_iff, Nat.succ_ne_self, Nat.add_right_cancel_iff]
      refine mi_icmp_ge (tgt := 214) h dX6_work_167 (by decide) ⟨by omega, by omega⟩ ⟨by omega, by omega⟩ (fun e167 => ?_) (fun e167 => ?_)
      · exfalso; omega
      · refine mi_aload_n h dX6_work_170 (by rfl) ?_
        refine gf_X6_5 h dX6_work_171 fl_RX6_20 ?_
        refine mi_iload_n h dX6_work_174 (by rfl) ?_
        refine mn_iaload (k) h dX6_work_175 (by rfl) (by omega) (by omega) (by decide) ?_
        try simp only [up_app, upC_app, wm_app, Nat.reduceEqDiff, reduceIte, Nat.reduceLeDiff, and_self, and_true, true_and, and_false, false_and, Nat.add_eq_zero_iff, Nat.succ_ne_self, Nat.add_right_cancel_iff]
        refine mi_if_ge (tgt := 184) h dX6_work_176 (by decide) ⟨by omega, by omega⟩ (fun e176 => ?_) (fun e176 => ?_)
        · refine mi_aload_n h dX6_work_184 (by rfl) ?_
          refine gf_X6_5 h dX6_work_185 fl_RX6_20 ?_
          refine mi_iload_n h dX6_work_188 (by rfl) ?_
          refine mn_iaload (k) h dX6_work_189 (by rfl) (by omega) (by omega) (by decide) ?_
          try simp only [up_app, upC_app, wm_app, Nat.reduceEqDiff, reduceIte, Nat.reduceLeDiff, and_self, and_true, true_and, and_false, false_and, Nat.add_eq_zero_iff, Nat.succ_ne_self, Nat.add_right_cancel_iff]
          first | (refine mi_istore_n h dX6_work_190 (by decide) ?_; exact tail 24 (by rw [show (σ 31 k + 1).toNat = 0 by omega]; rfl) (by decide)) | (refine mt_e (y := (((σ 31 k).toNat : Nat) : Int)) (by omega) ?_; refine mi_istore_n h dX6_work_190 (by decide) ?_; exact tail (σ 31 k).toNat (by rw [show (σ 31 k + 1).toNat = (σ 31 k).toNat + 1 by omega, ix_s]) (by omega))
        · refine mi_bipush h dX6_work_179 (by decide) ?_
          refine mi_goto (tgt := 190) h dX6_work_181 (by decide) ?_
          first | (refine mi_istore_n h dX6_work_190 (by decide) ?_; exact tail 24 (by rw [show (σ 31 k + 1).toNat = 0 by omega]; rfl) (by decide)) | (refine mt_e (y := (((σ 31 k).toNat : Nat) : Int)) (by omega) ?_; refine mi_istore_n h dX6_work_190 (by decide) ?_; exact tail (σ 31 k).toNat (by rw [show (σ 31 k + 1).toNat = (σ 31 k).toNat + 1 by omega, ix_s]) (by omega))
  -- the second loop
  have loopB : ∀ (p : Nat) (F : Mem) (EL EH : Nat → Int) (B : Int) (l3 : Option MV), (p : Int) ≤ σ 28 11 → F 42 = F0 42 → EOk p EL B → EOk p EH B → B + p * 204800 ≤ 4915200 → RE (σ 28 11).toNat p (hdM σ (F0 42)) EL (F 43) → RE (σ 28 11).toNat p (hdM σ (F0 42)) EH (F 44) → gath 0 (σ 31) (hdM σ (F0 42)) (drE σ) (σ 35) p EL = GvM 0 σ (F0 42) → gath 1 (σ 31) (hdM σ (F0 42)) (drE σ) (σ 35) p EH = GvM 1 σ (F0 42) → (∀ k, p ≤ k → (k : Int) < σ 28 11 → F 45 k = (if σ 35 k = 1 then 0 else cnd 0 (drE σ (k + 1)) (GvM 0 σ (F0 42) (k + 1))) ∧ F 46 k = (if σ 35 k = 1 then 0 else cnd 1 (drE σ (k + 1)) (GvM 1 σ (F0 42) (k + 1)))) → M K 70 [some (vr 28), some (vi q), some (vi ((p : Int) - 1)), l3] [] (wm σ F) := by
    intro p
    induction p with
    | zero =>
      intro F EL EH B l3 h1 h42 hEL hEH hB2 hRL hRH hGL hGH hcg
      have eL : EL = GvM 0 σ (F0 42) := hGL
      have eH : EH = GvM 1 σ (F0 42) := hGH
      subst eL
      subst eH
      have k1 : F 43 24 = GvM 0 σ (F0 42) 0 := hRL.1
      have k2 : F 44 24 = GvM 1 σ (F0 42) 0 := hRH.1
      have k3 : ∀ k : Nat, (k : Int) < σ 28 11 → F 43 k = GvM 0 σ (F0 42) (k + 1) := fun k hk => by have := hRL.2 k (by omega); rw [if_neg (by omega)] at this; omega
      have k4 : ∀ k : Nat, (k : Int) < σ 28 11 → F 44 k = GvM 1 σ (F0 42) (k + 1) := fun k hk => by have := hRH.2 k (by omega); rw [if_neg (by omega)] at this; omega
      have r1 := hGr 0 0 (by omega)
      have r2 := hGr 1 0 (by omega)
      refine mi_iload_n h dX6_work_70 (by rfl) ?_
      refine mi_if_lt (tgt := 136) h dX6_work_71 (by decide) ⟨by omega, by omega⟩ (fun e71 => ?_) (fun e71 => ?_)
      · refine mi_aload_n h dX6_work_136 (by rfl) ?_
        refine mi_bipush h dX6_work_137 (by decide) ?_
        refine mt_e (y := ((24 : Nat) : Int)) rfl ?_
        refine mi_cV1v (hw := Nat.le_of_ble_eq_true rfl) h dX6_work_139 ml_RX6_175 ym_yX6_conductOf (by rfl) (by rfl) (c_X6_conductOf (σ := wm σ F) (p := 24) hP hB (by omega) (hdr 24 (by omega)) (by show 0 ≤ F 43 24 ∧ F 43 24 ≤ 4915200; rw [k1]; exact r1) (by show 0 ≤ F 44 24 ∧ F 44 24 ≤ 4915200; rw [k2]; exact r2)) (fun r139 σ139 hp139 => ?_)
        rw [wm_up _ _ (by decide), wm_up _ _ (by decide), if_neg (by omega), if_neg (by omega)] at hp139
        have w1 : wm σ F 43 24 = GvM 0 σ (F0 42) 0 := k1
        have w2 : wm σ F 44 24 = GvM 1 σ (F0 42) 0 := k2
        have w4 : drM (wm σ F) 24 = drE σ 0 := rfl
        rw [w1, w2, w4] at hp139
        subst hp139
        refine mi_aload_n h dX6_work_142 (by rfl) ?_
        refine mi_bipush h dX6_work_143 (by decide) ?_
        refine mt_e (y := ((24 : Nat) : Int)) rfl ?_
        refine mi_ldc2 (z := 1024) h dX6_work_145 kc_RX6_170 rfl ?_
        refine mi_iload_n h dX6_work_148 (by rfl) ?_
        refine mi_i2l h dX6_work_149 ⟨by omega, by omega⟩ ?_
        refine mi_lmul h dX6_work_150 ?_
        refine mi_ldc2 (z := 1024) h dX6_work_151 kc_RX6_170 rfl ?_
        refine mi_iload_n h dX6_work_154 (by rfl) ?_
        refine mi_i2l h dX6_work_155 ⟨by omega, by omega⟩ ?_
        refine mi_lmul h dX6_work_156 ?_
        refine mi_cV3v (hw := Nat.le_of_ble_eq_true rfl) h dX6_work_157 ml_RX6_179 ym_yX6_pressureOf (by rfl) (by rfl) (c_X6_pressureOf (σ := wm σ (up (up F 45 24 (cnd 0 (drE σ 0) (GvM 0 σ (F0 42) 0))) 46 24 (cnd 1 (drE σ 0) (GvM 1 σ (F0 42) 0)))) (p := 24) hP hB (by omega) (hdr 24 (by omega)) (by show 0 ≤ F 43 24 ∧ F 43 24 ≤ 4915200; rw [k1]; exact r1) (by show 0 ≤ F 44 24 ∧ F 44 24 ≤ 4915200; rw [k2]; exact r2) ⟨by omega, by omega⟩ ⟨by omega, by omega⟩) (fun r157 σ157 hp157 => ?_)
        rw [wm_up _ _ (by decide), wm_up _ _ (by decide), if_neg (by omega), if_neg (by omega)] at hp157
        have w1 : wm σ (up (up F 45 24 (cnd 0 (drE σ 0) (GvM 0 σ (F0 42) 0))) 46 24 (cnd 1 (drE σ 0) (GvM 1 σ (F0 42) 0))) 43 24 = GvM 0 σ (F0 42) 0 := k1
        have w2 : wm σ (up (up F 45 24 (cnd 0 (drE σ 0) (GvM 0 σ (F0 42) 0))) 46 24 (cnd 1 (drE σ 0) (GvM 1 σ (F0 42) 0))) 44 24 = GvM 1 σ (F0 42) 0 := k2
        have w4 : drM (wm σ (up (up F 45 24 (cnd 0 (drE σ 0) (GvM 0 σ (F0 42) 0))) 46 24 (cnd 1 (drE σ 0) (GvM 1 σ (F0 42) 0)))) 24 = drE σ 0 := rfl
        rw [w1, w2, w4] at hp157
        subst hp157
        refine mi_iconst h dX6_work_160 ?_
        refine mi_istore_n h dX6_work_161 (by decide) ?_
        refine loopC (σ 28 11).toNat 0 _ _ (by omega) h42 (fun e he => ?_) (fun e he => ?_)
        · cases e with
          | zero =>
            refine ⟨?_, ?_, ?_, ?_⟩
            · simp only [up_app, Nat.reduceEqDiff, reduceIte, ix_0]; exact k1
            · simp only [up_app, Nat.reduceEqDiff, reduceIte, ix_0]; exact k2
            · simp only [up_app, Nat.reduceEqDiff, reduceIte, ix_0]; rw [if_neg (by omega)]
            · simp only [up_app, Nat.reduceEqDiff, reduceIte, ix_0]; rw [if_neg (by omega)]
          | succ k =>
            have hk : (k : Int) < σ 28 11 := by omega
            have c9 := hcg k (by omega) hk
            have h24 : ¬ k = 24 := by omega
            refine ⟨?_, ?_, ?_, ?_⟩
            · simp only [up_app, Nat.reduceEqDiff, reduceIte, ix_s]; exact k3 k hk
            · simp only [up_app, Nat.reduceEqDiff, reduceIte, ix_s]; exact k4 k hk
            · simp only [up_app, Nat.reduceEqDiff, reduceIte, ix_s, if_neg h24]
              rw [c9.1]; by_cases e8 : σ 35 k = 1
              · rw [if_pos e8, if_pos ⟨by omega, e8⟩]
              · rw [if_neg e8, if_neg (fun z => e8 z.2)]
            · simp only [up_app, Nat.reduceEqDiff, reduceIte, ix_s, if_neg h24]
              rw [c9.2]; by_cases e8 : σ 35 k = 1
              · rw [if_pos e8, if_pos ⟨by omega, e8⟩]
              · rw [if_neg e8, if_neg (fun z => e8 z.2)]
        · have e0 : e = 0 := by omega
          subst e0
          rw [ix_0, up_c (by decide), up_eq, up_eq]
          exact ⟨Pv_0.symm, Pv_0.symm⟩
      · exfalso; omega
    | succ p ih =>
      intro F EL EH B l3 h1 h42 hEL hEH hB2 hRL hRH hGL hGH hcg
      have c1 := hN.2.1 p (by omega)
      have k5 := hN.2.2.1 p (by omega)
      have k1 := EOk_at hEL
      have k2 := EOk_at hEH
      have k3 := hRL.2 p (by omega)
      have k4 := hRH.2 p (by omega)
      rw [if_pos (by omega)] at k3 k4
      have gL : F 43 p = GvM 0 σ (F0 42) (p + 1) := by
        rw [← hGL, gath, gath_lo p _ _ (fun k hk => (hN.2.1 k (by omega)).2) (by omega), k3]
        unfold gst
        rw [ad_at, ad_at, if_neg (by omega), if_pos rfl]
      have gH : F 44 p = GvM 1 σ (F0 42) (p + 1) := by
        rw [← hGH, gath, gath_lo p _ _ (fun k hk => (hN.2.1 k (by omega)).2) (by omega), k4]
        unfold gst
        rw [ad_at, ad_at, if_neg (by omega), if_pos rfl]
      generalize hvL : (if σ 35 p = 1 then 0 else cnd 0 (drE σ (p + 1)) (F 43 p)) = vL
      generalize hvH : (if σ 35 p = 1 then 0 else cnd 1 (drE σ (p + 1)) (F 44 p)) = vH
      have tail : ∀ (t : Nat), t = (if σ 31 p < 0 then 24 else (σ 31 p).toNat) → t < 25 → M K 100 [some (vr 28), some (vi q), some (vi (p : Int)), some (vi (t : Int))] [] (wm σ (up (up F 45 p vL) 46 p vH)) := by
        intro t ht ht2
        refine mi_aload_n h dX6_work_100 (by rfl) ?_
        refine gf_X6_18 h dX6_work_101 fl_RX6_57 ?_
        refine mi_iload_n h dX6_work_104 (by rfl) ?_
        refine mi_dup2 h dX6_work_105 (fun _ => rfl) (fun _ => rfl) ?_
        refine mn_laload (t) h dX6_work_106 (by rfl) (by omega) (by omega) (by decide) ?_
        try simp only [up_app, upC_app, wm_app, Nat.reduceEqDiff, reduceIte, Nat.reduceLeDiff, and_self, and_true, true_and, and_false, false_and, Nat.add_eq_zero_iff, Nat.succ_ne_self, Nat.add_right_cancel_iff]
        refine mi_aload_n h dX6_work_107 (by rfl) ?_
        refine gf_X6_20 h dX6_work_108 fl_RX6_64 ?_
        refine mi_iload_n h dX6_work_111 (by rfl) ?_
        refine mn_laload (p) h dX6_work_112 (by rfl) (by omega) (by omega) (by decide) ?_
        try simp only [up_app, upC_app, wm_app, Nat.reduceEqDiff, reduceIte, Nat.reduceLeDiff, and_self, and_true, true_and, and_false, false_and, Nat.add_eq_zero_iff, Nat.succ_ne_self, Nat.add_right_cancel_iff]
        refine mi_ladd h dX6_work_113 ?_
        refine mn_lastore (t) h dX6_work_114 (by rfl) (by omega) (by omega) (by decide) ?_
        rw [wm_up _ _ (by decide)]
        refine mi_aload_n h dX6_work_115 (by rfl) ?_
        refine gf_X6_19 h dX6_work_116 fl_RX6_61 ?_
        refine mi_iload_n h dX6_work_119 (by rfl) ?_
        refine mi_dup2 h dX6_work_120 (fun _ => rfl) (fun _ => rfl) ?_
        refine mn_laload (t) h dX6_work_121 (by rfl) (by omega) (by omega) (by decide) ?_
        try simp only [up_app, upC_app, wm_app, Nat.reduceEqDiff, reduceIte, Nat.reduceLeDiff, and_self, and_true, true_and, and_false, false_and, Nat.add_eq_zero_iff, Nat.succ_ne_self, Nat.add_right_cancel_iff]
        refine mi_aload_n h dX6_work_122 (by rfl) ?_
        refine gf_X6_21 h dX6_work_123 fl_RX6_67 ?_
        refine mi_iload_n h dX6_work_126 (by rfl) ?_
        refine mn_laload (p) h dX6_work_127 (by rfl) (by omega) (by omega) (by decide) ?_
        try simp only [up_app, upC_app, wm_app, Nat.reduceEqDiff, reduceIte, Nat.reduceLeDiff, and_self, and_true, true_and, and_false, false_and, Nat.add_eq_zero_iff, Nat.succ_ne_self, Nat.add_right_cancel_iff]
        refine mi_ladd h dX6_work_128 ?_
        refine mn_lastore (t) h dX6_work_129 (by rfl) (by omega) (by omega) (by decide) ?_
        rw [wm_up _ _ (by decide)]
        refine mi_iinc h dX6_work_130 (by rfl) ?_ (by decide)
        refine mi_goto (tgt := 70) h dX6_work_133 (by decide) ?_
        refine ih _ (gst 0 (σ 31) (hdM σ (F0 42)) (drE σ) (σ 35) p EL) (gst 1 (σ 31) (hdM σ (F0 42)) (drE σ) (σ 35) p EH) (B + 204800) _ (by omega) h42 (gst_ok hN (by omega) hEL (by omega)) (gst_ok hN (by omega) hEH (by omega)) (by omega) ?_ ?_ hGL hGH ?_
        · rw [up_c (by decide), up_st2, up_c (by decide), up_c (by decide), st_ad, ht]
          exact RE_step hN.1 (by omega) c1 hRL vL hvL.symm
        · rw [up_st2, up_c (by decide), up_c (by decide), up_c (by decide), st_ad, ht]
          exact RE_step hN.1 (by omega) c1 hRH vH hvH.symm
        · intro k hk1 hk2
          simp only [up_app, Nat.reduceEqDiff, reduceIte]
          by_cases e9 : k = p
          · subst e9
            rw [if_pos rfl, if_pos rfl, ← hvL, ← hvH, gL, gH]
            exact ⟨rfl, rfl⟩
          · rw [if_neg e9, if_neg e9]
            exact hcg k (by omega) hk2
      refine mi_iload_n h dX6_work_70 (by rfl) ?_
      refine mi_if_lt (tgt := 136) h dX6_work_71 (by decide) ⟨by omega, by omega⟩ (fun e71 => ?_) (fun e71 => ?_)
      · exfalso; omega
      · rw [show ((p + 1 : Nat) : Int) - 1 = (p : Int) by omega]
        refine mi_aload_n h dX6_work_74 (by rfl) ?_
        refine mi_iload_n h dX6_work_75 (by rfl) ?_
        refine mi_cV1v (hw := Nat.le_of_ble_eq_true rfl) h dX6_work_76 ml_RX6_175 ym_yX6_conductOf (by rfl) (by rfl) (c_X6_conductOf (σ := wm σ F) (p := p) hP hB (by omega) (hdr p (by omega)) (by show 0 ≤ F 43 p ∧ F 43 p ≤ 4915200; omega) (by show 0 ≤ F 44 p ∧ F 44 p ≤ 4915200; omega)) (fun r76 σ76 hp76 => ?_)
        rw [wm_up _ _ (by decide), wm_up _ _ (by decide)] at hp76
        have w1 : wm σ F 43 p = F 43 p := rfl
        have w2 : wm σ F 44 p = F 44 p := rfl
        have w3 : wm σ F 35 p = σ 35 p := rfl
        have w4 : drM (wm σ F) p = drE σ (p + 1) := rfl
        have w5 : (p < 24 ∧ σ 35 p = 1) ↔ σ 35 p = 1 := ⟨fun z => z.2, fun z => ⟨by omega, z⟩⟩
        rw [w1, w2, w3, w4] at hp76
        simp only [w5, hvL, hvH] at hp76
        subst hp76
        refine mi_aload_n h dX6_work_79 (by rfl) ?_
        refine gf_X6_5 h dX6_work_80 fl_RX6_20 ?_
        refine mi_iload_n h dX6_work_83 (by rfl) ?_
        refine mn_iaload (p) h dX6_work_84 (by rfl) (by omega) (by omega) (by decide) ?_
        try simp only [up_app, upC_app, wm_app, Nat.reduceEqDiff, reduceIte, Nat.reduceLeDiff, and_self, and_true, true_and, and_false, false_and, Nat.add_eq_zero_iff, Nat.succ_ne_self, Nat.add_right_cancel_iff]
        refine mi_if_ge (tgt := 93) h dX6_work_85 (by decide) ⟨by omega, by omega⟩ (fun e85 => ?_) (fun e85 => ?_)
        · refine mi_aload_n h dX6_work_93 (by rfl) ?_
          refine gf_X6_5 h dX6_work_94 fl_RX6_20 ?_
          refine mi_iload_n h dX6_work_97 (by rfl) ?_
          refine mn_iaload (p) h dX6_work_98 (by rfl) (by omega) (by omega) (by decide) ?_
          try simp only [up_app, upC_app, wm_app, Nat.reduceEqDiff, reduceIte, Nat.reduceLeDiff, and_self, and_true, true_and, and_false, false_and, Nat.add_eq_zero_iff, Nat.succ_ne_self, Nat.add_right_cancel_iff]
          first | (refine mi_istore_n h dX6_work_99 (by decide) ?_; exact tail 24 (by rw [if_pos (by omega)]) (by decide)) | (refine mt_e (y := (((σ 31 p).toNat : Nat) : Int)) (by omega) ?_; refine mi_istore_n h dX6_work_99 (by decide) ?_; exact tail (σ 31 p).toNat (by rw [if_neg (by omega)]) (by omega))
        · refine mi_bipush h dX6_work_88 (by decide) ?_
          refine mi_goto (tgt := 99) h dX6_work_90 (by decide) ?_
          first | (refine mi_istore_n h dX6_work_99 (by decide) ?_; exact tail 24 (by rw [if_pos (by omega)]) (by decide)) | (refine mt_e (y := (((σ 31 p).toNat : Nat) : Int)) (by omega) ?_; refine mi_istore_n h dX6_work_99 (by decide) ?_; exact tail (σ 31 p).toNat (by rw [if_neg (by omega)]) (by omega))
  -- the first loop
  have loopA : ∀ (j i : Nat) (F : Mem), i + j = 25 → F 42 = F0 42 → (∀ k, k < i → F 43 k = (if (k : Int) < σ 28 11 then hdM σ (F0 42) k else 0) ∧ F 44 k = (if (k : Int) < σ 28 11 then hdM σ (F0 42) k else 0)) → M K 2 [some (vr 28), some (vi q), some (vi (i : Int)), none] [] (wm σ F) := by
    intro j
    induction j with
    | zero =>
      intro i F hi h42 hA
      have k24 := hA 24 (by omega)
      rw [if_neg (by omega)] at k24
      refine mi_iload_n h dX6_work_2 (by rfl) ?_
      refine mi_bipush h dX6_work_3 (by decide) ?_
      refine mi_icmp_gt (tgt := 63) h dX6_work_5 (by decide) ⟨by omega, by omega⟩ ⟨by omega, by omega⟩ (fun e5 => ?_) (fun e5 => ?_)
      · refine mi_aload_n h dX6_work_63 (by rfl) ?_
        refine gf_X6_11 h dX6_work_64 fl_RX6_109 ?_
        try simp only [up_app, upC_app, wm_app, Nat.reduceEqDiff, reduceIte, Nat.reduceLeDiff, and_self, and_true, true_and, and_false, false_and, Nat.add_eq_zero_iff, Nat.succ_ne_self, Nat.add_right_cancel_iff]
        refine mt_e (y := (((σ 28 11).toNat : Nat) : Int)) (by omega) ?_
        refine mi_iconst h dX6_work_67 ?_
        refine mi_isub h dX6_work_68 ?_
        refine mi_istore_n h dX6_work_69 (by decide) ?_
        refine loopB (σ 28 11).toNat F (fun _ => 0) (fun _ => 0) 0 _ (by omega) h42 (EOk_0 (fun _ _ => rfl)) (EOk_0 (fun _ _ => rfl)) (by omega) ⟨k24.1, fun k hk => ?_⟩ ⟨k24.2, fun k hk => ?_⟩ rfl rfl (fun k a1 a2 => by omega)
        · have := (hA k (by omega)).1
          rw [if_pos (by omega)] at this
          rw [this, if_pos hk]; exact (Int.zero_add _).symm
        · have := (hA k (by omega)).2
          rw [if_pos (by omega)] at this
          rw [this, if_pos hk]; exact (Int.zero_add _).symm
      · exfalso; omega
    | succ j ih =>
      intro i F hi h42 hA
      have k1 := fun z : i < 24 => fnM_rng hP (p := i) z
      have tail : ∀ v : Int, v = (if (i : Int) < σ 28 11 then hdM σ (F0 42) i else 0) → M K 44 [some (vr 28), some (vi q), some (vi (i : Int)), none] [vl v, vi (i : Int), vr 43] (wm σ F) := by
        intro v hv
        refine mn_lastore (i) h dX6_work_44 (by rfl) (by omega) (by omega) (by decide) ?_
        rw [wm_up _ _ (by decide)]
        refine mi_aload_n h dX6_work_45 (by rfl) ?_
        refine gf_X6_19 h dX6_work_46 fl_RX6_61 ?_
        refine mi_iload_n h dX6_work_49 (by rfl) ?_
        refine mi_aload_n h dX6_work_50 (by rfl) ?_
        refine gf_X6_18 h dX6_work_51 fl_RX6_57 ?_
        refine mi_iload_n h dX6_work_54 (by rfl) ?_
        refine mn_laload (i) h dX6_work_55 (by rfl) (by omega) (by omega) (by decide) ?_
        try simp only [up_app, upC_app, wm_app, Nat.reduceEqDiff, reduceIte, Nat.reduceLeDiff, and_self, and_true, true_and, and_false, false_and, Nat.add_eq_zero_iff, Nat.succ_ne_self, Nat.add_right_cancel_iff]
        refine mt_el (y := v) (by first | rfl | simp) ?_
        refine mn_lastore (i) h dX6_work_56 (by rfl) (by omega) (by omega) (by decide) ?_
        rw [wm_up _ _ (by decide)]
        refine mi_iinc h dX6_work_57 (by rfl) ?_ (by decide)
        refine mi_goto (tgt := 2) h dX6_work_60 (by decide) ?_
        refine ih (i + 1) _ (by omega) h42 (fun k hk => ?_)
        simp only [up_app, Nat.reduceEqDiff, reduceIte]
        by_cases e9 : k = i
        · subst e9; rw [if_pos rfl, if_pos rfl]; exact ⟨hv, hv⟩
        · rw [if_neg e9, if_neg e9]; exact hA k (by omega)
      have o9 := fun z : (i : Int) < σ 28 11 => ho i z
      have q1 : (i : Int) < σ 28 11 → F0 42 i = 1 → (1024 * fnM σ i) = (if (i : Int) < σ 28 11 then hdM σ (F0 42) i else 0) := fun a1 a2 => by rw [if_pos a1]; unfold hdM; rw [if_pos a2]
      have q2 : ¬ ((i : Int) < σ 28 11 ∧ F0 42 i = 1) → (0 : Int) = (if (i : Int) < σ 28 11 then hdM σ (F0 42) i else 0) := fun a1 => by
        by_cases a2 : (i : Int) < σ 28 11
        · rw [if_pos a2]; unfold hdM; rw [if_neg (fun z => a1 ⟨a2, z⟩)]
        · rw [if_neg a2]
      refine mi_iload_n h dX6_work_2 (by rfl) ?_
      refine mi_bipush h dX6_work_3 (by decide) ?_
      refine mi_icmp_gt (tgt := 63) h dX6_work_5 (by decide) ⟨by omega, by omega⟩ ⟨by omega, by omega⟩ (fun e5 => ?_) (fun e5 => ?_)
      · exfalso; omega
      · refine mi_aload_n h dX6_work_8 (by rfl) ?_
        refine gf_X6_18 h dX6_work_9 fl_RX6_57 ?_
        refine mi_iload_n h dX6_work_12 (by rfl) ?_
        refine mi_iload_n h dX6_work_13 (by rfl) ?_
        refine mi_aload_n h dX6_work_14 (by rfl) ?_
        refine gf_X6_11 h dX6_work_15 fl_RX6_109 ?_
        try simp only [up_app, upC_app, wm_app, Nat.reduceEqDiff, reduceIte, Nat.reduceLeDiff, and_self, and_true, true_and, and_false, false_and, Nat.add_eq_zero_iff, Nat.succ_ne_self, Nat.add_right_cancel_iff]
        refine mi_icmp_ge (tgt := 43) h dX6_work_18 (by decide) ⟨by omega, by omega⟩ ⟨by omega, by omega⟩ (fun e18 => ?_) (fun e18 => ?_)
        · refine mi_lconst0 h dX6_work_43 ?_
          first | exact tail _ (q2 (by omega)) | exact tail _ (q1 (by omega) (by omega))
        · refine mi_aload_n h dX6_work_21 (by rfl) ?_
          refine gf_X6_17 h dX6_work_22 fl_RX6_54 ?_
          refine mi_iload_n h dX6_work_25 (by rfl) ?_
          refine mn_baload (i) h dX6_work_26 (by rfl) (by omega) (by omega) (by decide) ?_
          try simp only [up_app, upC_app, wm_app, Nat.reduceEqDiff, reduceIte, Nat.reduceLeDiff, and_self, and_true, true_and, and_false, false_and, Nat.add_eq_zero_iff, Nat.succ_ne_self, Nat.add_right_cancel_iff]
          rw [h42]
          refine mi_if_eq (tgt := 43) h dX6_work_27 (by decide) ⟨by omega, by omega⟩ (fun e27 => ?_) (fun e27 => ?_)
          · refine mi_lconst0 h dX6_work_43 ?_
            first | exact tail _ (q2 (by omega)) | exact tail _ (q1 (by omega) (by omega))
          · refine mi_ldc2 (z := 1024) h dX6_work_30 kc_RX6_170 rfl ?_
            refine mi_aload_n h dX6_work_33 (by rfl) ?_
            refine mi_iload_n h dX6_work_34 (by rfl) ?_
            refine mi_cV1i (hw := Nat.le_of_ble_eq_true rfl) h dX6_work_35 ml_RX6_172 ym_yX6_factorNow (by rfl) (by rfl) (c_X6_factorNow (σ := wm σ F) hP hB (by omega)) (fun r35 σ35 hp35 => ?_)
            obtain ⟨rfl, hv35⟩ := hp35
            have hv35 : r35 = fnM σ i := hv35
            subst hv35
            have k9 := k1 (by omega)
            refine mi_i2l h dX6_work_38 ⟨by omega, by omega⟩ ?_
            refine mi_lmul h dX6_work_39 ?_
            refine mi_goto (tgt := 44) h dX6_work_40 (by decide) ?_
            first | exact tail _ (q2 (by omega)) | exact tail _ (q1 (by omega) (by omega))
  refine mi_iconst h dX6_work_0 ?_
  refine mi_istore_n h dX6_work_1 (by decide) ?_
  exact loopA 25 0 F0 (by omega) rfl (fun k hk => by omega)
