/-! both memories beside each other -/
def XLS (σ : Mem) : Prop := σ 28 0 = σ 1 0 ∧ σ 28 1 = σ 12 0 ∧ σ 28 4 = σ 1 1 ∧ σ 28 11 = σ 1 4 ∧ σ 28 25 = σ 0 5 ∧ σ 28 29 = σ 4 0 ∧ σ 28 30 = σ 4 1 ∧ σ 11 0 = 0
def XLZ (σ : Mem) : Prop := ∀ i : Nat, i < 6 → σ 29 i = σ 6 i ∧ σ 30 i = σ 7 i
def XLP (σ : Mem) : Prop := ∀ p : Nat, p < 24 → σ 31 p = σ 8 p ∧ σ 32 p = σ 9 p ∧ σ 33 p = σ 10 p ∧ σ 34 p = σ 11 (p + 1)
def XLB (σ : Mem) : Prop := ∀ p : Nat, p < 24 → σ 35 p = bv (σ 1 10) p ∧ σ 36 p = bv (σ 1 11) p ∧ σ 37 p = bv (σ 1 12) p ∧ σ 40 p = bv (σ 1 13) p
def XLH (σ : Mem) : Prop := ∀ p : Nat, p < 24 → σ 38 p = σ 13 p ∧ σ 39 p = σ 14 p ∧ σ 41 p = σ 15 p
def XLM (σ : Mem) : Prop := ∀ h p : Nat, h < 6 → p < 24 → σ 49 (24 * h + p) = bv (σ 5 h) p
def XLF (σ : Mem) : Prop := (∀ k : Nat, k < 256 → σ 53 k = σ 24 k) ∧ ∀ p : Nat, p < 24 → σ 54 p = bv (σ 4 3) p ∧ σ 55 p = σ 25 p ∧ σ 56 p = σ 26 p ∧ σ 57 p = σ 27 p
def LK9 (σ : Mem) : Prop := XLS σ ∧ XLZ σ ∧ XLP σ ∧ XLB σ ∧ XLH σ ∧ XLM σ ∧ XLF σ
def RR (σ : Mem) : Prop := IC σ ∧ LK9 σ
def JJ (σ : Mem) : Prop := JS σ ∧ JZ σ ∧ JP σ ∧ JB σ ∧ JQ σ ∧ JF σ ∧ JT σ ∧ cntM σ ≤ 5
theorem rkN_cong {f g : Nat → Int} : ∀ {n : Nat}, (∀ k, k < n → f k = g k) → rkN f n = rkN g n
  | 0, _ => rfl
  | n + 1, h => by rw [rkN, rkN, rkN_cong (fun k hk => h k (by omega)), h n (by omega)]
theorem RR_cnt {σ : Mem} (h : RR σ) : cntM σ = cntC σ ∧ zM σ = zN σ := by
  obtain ⟨⟨hS0, -⟩, ⟨l1, l2, l3, l4, l5, l6, l7, l8⟩, -, -, hB, -⟩ := h
  obtain ⟨i1, i2, i3, -⟩ := hS0
  unfold cntM cntC zM zN
  rw [l3, l4]
  exact ⟨rkN_cong (fun k hk => (hB k (by omega)).2.1), rfl⟩
theorem RR_J {σ : Mem} (h : RR σ) : JJ σ := by
  have hc := RR_cnt h
  obtain ⟨⟨hS0, hZ, hP, hE, hQ, hB, hF⟩, ⟨l1, l2, l3, l4, l5, l6, l7, l8⟩, lz, lp, lb, lh, lm, lf⟩ := h
  have h5 := cnt_le hS0 hB
  obtain ⟨i1, i2, i3, i4, i5, i6, i7, i8⟩ := id hS0
  have hE0 := (hE 0 (by omega)).2
  refine ⟨?_, ?_, ?_, ?_, ?_, ?_, ?_, by omega⟩
  · unfold JS
    rw [l1, l2, l3, l4, l5, l6, l7]
    exact ⟨i1, hE0, i2, i3, i8, hF.1, hF.2.1⟩
  · intro i hi
    rw [(lz i hi).1, (lz i hi).2]
    exact ⟨(hZ i hi).1, (hZ i hi).2.1⟩
  · intro p hp
    obtain ⟨a1, a2, a3, a4⟩ := lp p hp
    obtain ⟨b1, b2, b3⟩ := lh p hp
    obtain ⟨c1, c2, c3, c4, c5, c6⟩ := hP p hp
    rw [a1, a2, a3, a4, b1, b2, b3]
    exact ⟨c1, c2, c3, (hE (p + 1) (by omega)).1, c4, c5, c6⟩
  · refine ⟨fun p hp => ?_, fun k hk => ?_⟩
    · obtain ⟨a1, a2, a3, a4⟩ := lb p hp
      rw [a1, a2, a3, a4, (lf.2 p hp).1]
      exact ⟨bv_01 _ _, bv_01 _ _, bv_01 _ _, bv_01 _ _, bv_01 _ _⟩
    · have := lm (k / 24) (k % 24) (by omega) (by omega)
      rw [show 24 * (k / 24) + k % 24 = k by omega] at this
      rw [this]
      exact bv_01 _ _
  · intro p hp
    rw [l4] at hp
    obtain ⟨a1, a2, a3, a4⟩ := lp p (by omega)
    rw [a1, a3, l3]
    exact ⟨(hQ p hp).1, (hQ p hp).2.1⟩
  · refine ⟨fun k hk => ?_, fun p hp => ?_⟩
    · rw [lf.1 k hk]; exact hF.2.2.2.1 k hk
    · obtain ⟨a1, a2, a3, a4⟩ := lf.2 p hp
      rw [a2, a3, a4]; exact hF.2.2.2.2.1 p hp
  · intro p hp hs
    rw [(lf.2 p hp).1] at hs
    rw [l4]
    exact hB.1 p (hF.2.2.2.2.2 p hs)
/-- the class's calls leave the reference's cells -/
def SMM (σ τ : Mem) : Prop := ∀ c, 28 ≤ c → τ c = σ c
theorem JJ_same {σ τ : Mem} (hs : SMM σ τ) (h : JJ σ) : JJ τ := by
  have e : ∀ c, 28 ≤ c → τ c = σ c := hs
  unfold JJ JS JZ JP JB JQ JF JT cntM at *
  rw [e 28 (by decide), e 29 (by decide), e 30 (by decide), e 31 (by decide), e 32 (by decide), e 33 (by decide), e 34 (by decide), e 35 (by decide), e 36 (by decide), e 37 (by decide), e 38 (by decide), e 39 (by decide), e 40 (by decide), e 41 (by decide), e 49 (by decide), e 53 (by decide), e 54 (by decide), e 55 (by decide), e 56 (by decide), e 57 (by decide)]
  exact h
theorem SMM_rf (σ : Mem) : SMM σ σ := fun _ _ => rfl
theorem SMM_up {σ τ : Mem} (h : SMM σ τ) {c : Nat} (hc : c < 28) (k : Nat) (z : Int) : SMM σ (up τ c k z) := fun c' hc' => by
  rw [up_cell _ _ _ _ (by omega)]; exact h c' hc'
theorem SMM_upC {σ τ : Mem} (h : SMM σ τ) {c : Nat} (hc : c < 28) (f : Nat → Int) : SMM σ (upC τ c f) := fun c' hc' => by
  rw [upC_ne _ _ _ (by omega)]; exact h c' hc'
theorem SMM_SC {σ τ : Mem} (h : SC σ τ) : SMM σ τ := by
  obtain ⟨G, P, rfl⟩ := h
  exact SMM_upC (SMM_upC (SMM_rf σ) (by decide) G) (by decide) P
theorem SMM_cm {σ τ F : Mem} (h : SMM σ τ) : SMM σ (cm τ F) := fun c hc => by
  unfold cm
  rw [if_neg (by omega)]
  exact h c hc
theorem SMM_rsz {σ : Mem} {z : Nat → Nat} : SMM σ (rsz σ z) := fun c hc => by
  funext k
  unfold rsz
  rw [if_neg (by omega), if_neg (by omega)]
/-! water of both -/
theorem gath_cg {s : Int} {fr fr' hd hd' dr dr' cl cl' : Nat → Int} : ∀ (p : Nat) (E : Nat → Int), (∀ q, q < p → fr q = fr' q ∧ hd q = hd' q ∧ dr (q + 1) = dr' (q + 1) ∧ cl q = cl' q) → gath s fr hd dr cl p E = gath s fr' hd' dr' cl' p E
  | 0, E, _ => rfl
  | p + 1, E, h => by
    have h1 := h p (by omega)
    rw [gath, gath, gath_cg p _ (fun q hq => h q (by omega))]
    unfold gst
    rw [h1.1, h1.2.1, h1.2.2.1, h1.2.2.2]
theorem prs_cg {s : Int} {fr fr' dr dr' cl cl' G : Nat → Int} {P0 : Int} {F : Nat → Int} : ∀ (k : Nat), (∀ q, q < k → fr q = fr' q ∧ cl q = cl' q) → (∀ e, e ≤ k → dr e = dr' e) → prs s fr dr cl G P0 k F = prs s fr' dr' cl' G P0 k F
  | 0, _, h => by rw [prs, prs, h 0 (by omega)]
  | k + 1, h1, h => by
    have h2 := h1 k (by omega)
    rw [prs, prs, prs_cg k (fun q hq => h1 q (by omega)) (fun e he => h e (by omega)), h (k + 1) (by omega), h2.1, h2.2]
theorem RR_net {σ : Mem} (h : RR σ) : (∀ p : Nat, (p : Int) < σ 1 4 → σ 8 p = σ 31 p ∧ σ 12 (p + 1) = drE σ (p + 1) ∧ bv (σ 1 10) p = σ 35 p) ∧ σ 12 0 = drE σ 0 := by
  obtain ⟨⟨hS0, hZ, hP, hE, hQ, hB, hF⟩, ⟨l1, l2, l3, l4, l5, l6, l7, l8⟩, lz, lp, lb, lh, lm, lf⟩ := h
  obtain ⟨i1, i2, i3, i4, i5, i6, i7, i8⟩ := id hS0
  refine ⟨fun p hp => ?_, ?_⟩
  · obtain ⟨a1, a2, a3, a4⟩ := lp p (by omega)
    have hz := (hP p (by omega)).2.2.1
    refine ⟨a1.symm, ?_, (lb p (by omega)).1.symm⟩
    unfold drE
    rw [ix_s]
    unfold drM
    rw [if_neg (by omega), a2, a3, (lz (σ 10 p).toNat (by omega)).1]
    exact (hQ p hp).2.2
  · unfold drE
    rw [ix_0]
    unfold drM
    rw [if_pos rfl, l2]
theorem RR_fn {σ : Mem} (h : RR σ) {p : Nat} (hp : p < 24) : fnw (σ 13 p) (σ 15 p) = fnM σ p := by
  obtain ⟨⟨hS0, hZ, hP, hE, hQ, hB, hF⟩, ls, lz, lp, lb, lh, lm, lf⟩ := h
  obtain ⟨a1, a2, a3⟩ := lh p hp
  have b3 := (lb p hp).2.2.1
  unfold fnM
  rw [a1, a3, b3]
  rcases bv_01 (σ 1 12) p with q | q
  · have := hB.2.2.2.2.2.2 p hp q
    rw [q, if_neg (by decide), this.1, this.2.2]
    decide
  · rw [if_pos q]
theorem RR_op {σ : Mem} (h : RR σ) {p : Nat} (hp : p < 24) : bv (σ 1 13) p = opM σ p := by
  obtain ⟨⟨hS0, hZ, hP, hE, hQ, hB, hF⟩, ls, lz, lp, lb, lh, lm, lf⟩ := h
  obtain ⟨b1, b2, b3, b4⟩ := lb p hp
  unfold opM
  rw [b3, b4]
  rcases bv_01 (σ 1 13) p with q | q
  · rw [q]; split <;> rfl
  · rw [if_pos (hB.2.1 p q)]
theorem RR_pu {σ : Mem} (h : RR σ) {g p : Nat} (hg : g < 6) (hp : p < 24) : bv (σ 5 g) p = puM σ g p := by
  obtain ⟨⟨hS0, hZ, hP, hE, hQ, hB, hF⟩, ls, lz, lp, lb, lh, lm, lf⟩ := h
  obtain ⟨b1, b2, b3, b4⟩ := lb p hp
  unfold puM
  rw [b3, lm g p hg hp]
  rcases bv_01 (σ 5 g) p with q | q
  · rw [q]; split <;> rfl
  · rw [if_pos (hB.2.2.2.2.2.1 g p hg q)]
theorem RR_hd {σ : Mem} (h : RR σ) {m : Int} {o : Nat → Int} (ho : ∀ p : Nat, (p : Int) < σ 1 4 → bv m p = o p) {p : Nat} (hp : (p : Int) < σ 1 4) : hdV m σ p = hdM σ o p := by
  have h3 : p < 24 := by have := h.1.1.2.2.1; omega
  unfold hdV hdM
  rw [ho p hp, RR_fn h h3]
theorem RR_n {σ : Mem} (h : RR σ) : σ 28 11 = σ 1 4 ∧ 0 ≤ σ 1 4 ∧ σ 1 4 ≤ 24 := ⟨h.2.1.2.2.2.1, h.1.1.2.2.1.1, h.1.1.2.2.1.2⟩
theorem RR_G {σ : Mem} (h : RR σ) {s m : Int} {o : Nat → Int} (ho : ∀ p : Nat, (p : Int) < σ 1 4 → bv m p = o p) : GvC s m σ = GvM s σ o := by
  have hn := RR_n h
  have hN := RR_net h
  unfold GvC GvM Gv
  rw [hn.1]
  exact gath_cg _ _ (fun q hq => ⟨(hN.1 q (by omega)).1, RR_hd h ho (by omega), (hN.1 q (by omega)).2.1, (hN.1 q (by omega)).2.2⟩)
theorem RR_P {σ : Mem} (h : RR σ) {s m q : Int} {o : Nat → Int} (ho : ∀ p : Nat, (p : Int) < σ 1 4 → bv m p = o p) : PvC s m q σ = PvM s q σ o := by
  have hn := RR_n h
  have hN := RR_net h
  have hG := RR_G (s := 1 - s) h ho
  unfold GvC GvM at hG
  unfold PvC PvM Pv
  rw [hG, hn.1]
  exact prs_cg _ (fun q hq => ⟨(hN.1 q (by omega)).1, (hN.1 q (by omega)).2.2⟩) (fun e he => by
    cases e with
    | zero => exact hN.2
    | succ p => exact (hN.1 p (by omega)).2.1)
theorem RR_ls {σ : Mem} (h : RR σ) {g : Nat} (hg : g < 6) (q : Int) : lsC σ g q = lsM σ g q := by
  have hn := RR_n h
  have ho : ∀ p : Nat, (p : Int) < σ 1 4 → bv (σ 5 g) p = puM σ g p := fun p hp => RR_pu h hg (by omega)
  have hP := RR_P (s := 0) (q := q) h ho
  unfold lsC lsM lsV
  rw [hn.1]
  refine congrArg (fun z => Option.getD z 0) (lsO_cong (fun k hk => ho k (by omega)) (fun k hk hb => ?_))
  unfold spC sp0
  rw [← ho k (by omega), if_pos hb, hP, RR_fn h (by omega), (h.2.2.2.2.2.1 k (by omega)).2.1]
theorem RR_sp {σ : Mem} (h : RR σ) {p : Nat} (hp : (p : Int) < σ 1 4) (hb : bv (σ 1 13) p = 1) : spC (σ 1 13) (σ 1 0) σ p = sp0 σ (opM σ) (fun p => PvM 0 (σ 28 0) σ (opM σ) (p + 1)) p := by
  have hn := RR_n h
  have ho : ∀ p : Nat, (p : Int) < σ 1 4 → bv (σ 1 13) p = opM σ p := fun p hp => RR_op h (by omega)
  have hP := RR_P (s := 0) (q := σ 1 0) h ho
  unfold spC sp0
  rw [← ho p hp, if_pos hb, hP, RR_fn h (by omega), (h.2.2.2.2.2.1 p (by omega)).2.1, h.2.1.1]
theorem wI_b {b sp : Nat → Int} : ∀ {n : Nat}, 0 ≤ wI b sp n → b (wI b sp n).toNat = 1
  | 0, h => by have : (0 : Int) ≤ -6 := h; omega
  | n + 1, h => by
    rw [wI] at h ⊢
    by_cases q : b n = 1 ∧ (wI b sp n < 0 ∨ sp n < sp (wI b sp n).toNat)
    · rw [if_pos q, Int.toNat_natCast]; exact q.1
    · rw [if_neg q] at h ⊢; exact wI_b h
theorem wI_cong1 {b b' sp sp' : Nat → Int} : ∀ {n : Nat}, (∀ k, k < n → b k = b' k) → (∀ k, k < n → b k = 1 → sp k = sp' k) → wI b sp n = wI b' sp' n
  | 0, _, _ => rfl
  | n + 1, h, h2 => by
    have e := wI_cong1 (b := b) (b' := b') (sp := sp) (sp' := sp') (n := n) (fun k hk => h k (by omega)) (fun k hk => h2 k (by omega))
    have r := wI_rng b sp n
    rw [wI, wI, ← e, ← h n (by omega)]
    by_cases q : b n = 1
    · rw [h2 n (by omega) q]
      rcases r with r | r
      · rw [r]; simp
      · rw [h2 (wI b sp n).toNat (by omega) (wI_b r.1)]
    · rw [if_neg (fun z => q z.1), if_neg (fun z => q z.1)]
