/-! the chooser's scratch -/
def cm (σ F : Mem) : Mem := fun c => if c = 3 ∨ (16 ≤ c ∧ c ≤ 23) then F c else σ c
theorem cm_app (σ F : Mem) (c k : Nat) : cm σ F c k = if c = 3 ∨ (16 ≤ c ∧ c ≤ 23) then F c k else σ c k := by
  unfold cm
  split <;> rfl
theorem cm_up (σ F : Mem) {c : Nat} (hc : c = 3 ∨ (16 ≤ c ∧ c ≤ 23)) (k : Nat) (z : Int) : up (cm σ F) c k z = cm σ (up F c k z) := by
  funext c' j
  simp only [up_app, cm_app]
  by_cases h1 : c' = c
  · subst h1; simp [hc]
  · simp [h1]
theorem cm_upC (σ F : Mem) {c : Nat} (hc : c = 3 ∨ (16 ≤ c ∧ c ≤ 23)) (f : Nat → Int) : upC (cm σ F) c f = cm σ (upC F c f) := by
  funext c' j
  simp only [upC_app, cm_app]
  by_cases h1 : c' = c
  · subst h1; simp [hc]
  · simp [h1]
theorem cm_self (σ : Mem) : cm σ σ = σ := by
  funext c k
  rw [cm_app]
  split <;> rfl
def cntC (σ : Mem) : Nat := rkN (bv (σ 1 11)) (σ 1 4).toNat
def zN (σ : Mem) : Nat := (σ 1 1).toNat
/-- the memory with other sizes of the free pipes -/
def rsz (σ : Mem) (z : Nat → Nat) : Mem := fun c k => if c = 10 then (if bv (σ 1 11) k = 1 then (z k : Int) else σ 10 k) else if c = 12 then (if 0 < k ∧ bv (σ 1 11) (k - 1) = 1 then σ 9 (k - 1) * σ 6 (z (k - 1)) else σ 12 k) else σ c k
def zi (σ : Mem) (i p : Nat) : Nat := dg (zN σ) (cntC σ) i (rkN (bv (σ 1 11)) p)
def mtC (σ : Mem) (i : Nat) : Prop := ∀ h : Nat, (h : Int) < σ 0 5 → 0 ≤ lsC (rsz σ (zi σ i)) h (σ 1 0)
def ppr (σ : Mem) (f : Nat → Int) (d a : Nat) : Int := sm (fun k => σ 9 (f k).toNat * σ 7 (dg (zN σ) d a k)) d
def HS (σ : Mem) (f lr : Nat → Int) : Prop := (IS σ ∧ IZ σ ∧ IP σ ∧ IE σ ∧ IQ σ ∧ IB σ) ∧ FL (bv (σ 1 11)) (σ 1 4).toNat f ∧ (∀ k, k ≤ cntC σ → lr k = sm (fun j => lpC σ (f j).toNat) (cntC σ) - sm (fun j => lpC σ (f j).toNat) k)
theorem cnt_le {σ : Mem} (hS0 : IS σ) (hB : IB σ) : cntC σ ≤ 5 := by
  obtain ⟨i1, i2, i3, -⟩ := hS0
  have h1 := hB.2.2.2.2.1
  rw [← rkN_sm (bv_01 _)] at h1
  have h2 := rkN_mono (fr := bv (σ 1 11)) (p := (σ 1 4).toNat) (24 - (σ 1 4).toNat)
  rw [show (σ 1 4).toNat + (24 - (σ 1 4).toNat) = 24 by omega] at h2
  unfold cntC
  omega
theorem Z_pos {σ : Mem} (hS0 : IS σ) (hP : IP σ) (hQ : IQ σ) {p : Nat} (hp : (p : Int) < σ 1 4) : 0 < zN σ ∧ zN σ ≤ 6 := by
  obtain ⟨i1, i2, i3, -⟩ := hS0
  have h1 := (hP p (by omega)).2.2.1
  have h2 := (hQ p hp).2.1
  unfold zN
  omega
theorem fr_lt {σ : Mem} (hB : IB σ) {p : Nat} (h : bv (σ 1 11) p = 1) : (p : Int) < σ 1 4 := hB.2.2.2.1 p h
/-- the drags between which the pipes may come -/
def dL (σ : Mem) (d a e : Nat) : Int := if 0 < e ∧ bv (σ 1 11) (e - 1) = 1 then (if rkN (bv (σ 1 11)) (e - 1) < d then σ 9 (e - 1) * σ 6 (dg (zN σ) d a (rkN (bv (σ 1 11)) (e - 1))) else loC σ (e - 1)) else σ 12 e
def dH (σ : Mem) (d a e : Nat) : Int := if 0 < e ∧ bv (σ 1 11) (e - 1) = 1 then (if rkN (bv (σ 1 11)) (e - 1) < d then σ 9 (e - 1) * σ 6 (dg (zN σ) d a (rkN (bv (σ 1 11)) (e - 1))) else hiC σ (e - 1)) else σ 12 e
theorem lohi {σ : Mem} (hS0 : IS σ) (hZ : IZ σ) (hP : IP σ) {p : Nat} (hp : p < 24) (z : Nat) (hz : z < zN σ) : 0 ≤ loC σ p ∧ loC σ p ≤ σ 9 p * σ 6 z ∧ σ 9 p * σ 6 z ≤ hiC σ p ∧ hiC σ p ≤ 4000 := by
  obtain ⟨i1, i2, i3, -⟩ := hS0
  have hl := (hP p hp).2.1
  have hr9 : ∀ z, z < (σ 1 1).toNat → 0 ≤ σ 9 p * σ 6 z ∧ σ 9 p * σ 6 z ≤ 4000 := fun z hz => ml_rng hl (hZ z (by omega)).1 rfl
  have a1 := mnF_rng (f := fun z => σ 9 p * σ 6 z) (B := 4000) (by decide) (n := (σ 1 1).toNat) hr9
  have a3 := mxF_rng (f := fun z => σ 9 p * σ 6 z) (B := 4000) (by decide) (n := (σ 1 1).toNat) hr9
  exact ⟨a1.1, a1.2.2 z hz, a3.2.2 z hz, a3.2.1⟩
theorem dLH {σ : Mem} (hS0 : IS σ) (hZ : IZ σ) (hP : IP σ) (hE : IE σ) (hQ : IQ σ) (hB : IB σ) {d m a i : Nat} (hd : d + m = cntC σ) (h1 : a * zN σ ^ m ≤ i) (h2 : i < (a + 1) * zN σ ^ m) {e : Nat} (he : e < 25) : 0 ≤ dL σ d a e ∧ dL σ d a e ≤ rsz σ (zi σ i) 12 e ∧ rsz σ (zi σ i) 12 e ≤ dH σ d a e ∧ dH σ d a e ≤ 4000 := by
  have e12 : rsz σ (zi σ i) 12 e = if 0 < e ∧ bv (σ 1 11) (e - 1) = 1 then σ 9 (e - 1) * σ 6 (zi σ i (e - 1)) else σ 12 e := rfl
  rw [e12]
  unfold dL dH
  by_cases q : 0 < e ∧ bv (σ 1 11) (e - 1) = 1
  · simp only [if_pos q]
    obtain ⟨z1, z2⟩ := Z_pos hS0 hP hQ (fr_lt hB q.2)
    have hz : zi σ i (e - 1) < zN σ := dg_lt z1
    by_cases q2 : rkN (bv (σ 1 11)) (e - 1) < d
    · simp only [if_pos q2]
      have e1 : zi σ i (e - 1) = dg (zN σ) d a (rkN (bv (σ 1 11)) (e - 1)) := by
        unfold zi
        rw [← hd]
        exact dg_pre z1 q2 h1 h2
      rw [e1] at hz ⊢
      have := lohi hS0 hZ hP (p := e - 1) (by omega) _ hz
      omega
    · simp only [if_neg q2]
      exact lohi hS0 hZ hP (p := e - 1) (by omega) _ hz
  · simp only [if_neg q]
    have := (hE e he).2
    omega
theorem pw_pos {σ : Mem} (hS0 : IS σ) (hP : IP σ) (hQ : IQ σ) (m : Nat) (hm : m ≤ cntC σ) : 0 < zN σ ^ m := by
  by_cases h : 0 < zN σ
  · exact Nat.pow_pos h
  · have : cntC σ = 0 := by
      unfold cntC
      by_cases hn : 0 < σ 1 4
      · have := Z_pos hS0 hP hQ (p := 0) hn; omega
      · rw [show (σ 1 4).toNat = 0 by omega]; rfl
    rw [show m = 0 by omega]; exact Nat.one_pos
/-- while some sizes are not fixed: no choice can do better -/
theorem ls_prune {σ : Mem} (hS0 : IS σ) (hZ : IZ σ) (hP : IP σ) (hE : IE σ) (hQ : IQ σ) (hB : IB σ) {d m a i h : Nat} (hd : d + m = cntC σ) (h1 : a * zN σ ^ m ≤ i) (h2 : i < (a + 1) * zN σ ^ m) : lsC (rsz σ (zi σ i)) h (σ 1 0) ≤ lsG 0 σ (dL σ d a) (dH σ d a) h := by
  obtain ⟨i1, i2, i3, -⟩ := id hS0
  have hD := fun e (he : e < 25) => dLH hS0 hZ hP hE hQ hB hd h1 h2 he
  have hA : ∀ e, e < 25 → 0 ≤ rsz σ (zi σ i) 12 e ∧ rsz σ (zi σ i) 12 e ≤ 4000 := fun e he => by have := hD e he; omega
  have hN := netok (m := σ 5 h) hS0 hP hQ (dr := dH σ d a) (fun e he => by have := hD e he; omega)
  have hNA := netok (m := σ 5 h) hS0 hP hQ hA
  have key : ∀ k, k < (σ 1 4).toNat → bv (σ 5 h) k = 1 → spC (σ 5 h) (σ 1 0) (rsz σ (zi σ i)) k ≤ spG 0 σ (σ 5 h) (dL σ d a) (dH σ d a) k := by
    intro k hk _
    obtain ⟨-, -, -, k1, k3, k2⟩ := hP k (by omega)
    have g1 := fnw_rng k1 k2
    have g2 : PvC 0 (σ 5 h) (σ 1 0) (rsz σ (zi σ i)) (k + 1) ≤ PG 0 σ (σ 5 h) (dL σ d a) (dH σ d a) (k + 1) :=
      prs_mono (drA := rsz σ (zi σ i) 12) (drL := dL σ d a) (GA := Gv 1 (σ 1 4).toNat (σ 8) (hdV (σ 5 h) σ) (rsz σ (zi σ i) 12) (bv (σ 1 10))) (GL := Gv 0 (σ 1 4).toNat (σ 8) (hdV (σ 5 h) σ) (dH σ d a) (bv (σ 1 10))) hN.1 hN.2.1 (fun e he => by have := hD e he; omega) (fun e he => (hA e he).2) (fun e he => ⟨(Gv_rng hN he).1, Gv_mono hN (fun e he => by have := hD e he; omega) e⟩) (fun e he => (Gv_rng hNA he).2) (by omega) (Int.le_refl _) _ _ _ (Nat.le_refl _) _ (by omega)
    have g3 : 0 ≤ PvC 0 (σ 5 h) (σ 1 0) (rsz σ (zi σ i)) (k + 1) :=
      (prs_rng (s := 0) (dr := rsz σ (zi σ i) 12) (G := Gv 1 (σ 1 4).toNat (σ 8) (hdV (σ 5 h) σ) (rsz σ (zi σ i) 12) (bv (σ 1 10))) (P0 := 1024 * σ 1 0) hN.1 hN.2.1 hA (fun e he => Gv_rng hNA he) (by omega) _ (σ 1 4).toNat (Nat.le_refl _) (k + 1) (by omega)).1
    have g4 := fl_mono (k := fnw (σ 13 k) (σ 15 k)) g1.2.2.1 g3 g2
    show fl 0 (fnw (σ 13 k) (σ 15 k)) (PvC 0 (σ 5 h) (σ 1 0) (rsz σ (zi σ i)) (k + 1)) - 1024 * σ 14 k ≤ fl 0 (fnw (σ 13 k) (σ 15 k)) (PG 0 σ (σ 5 h) (dL σ d a) (dH σ d a) (k + 1)) - 1024 * σ 14 k
    omega
  exact lsV_mono (n := (σ 1 4).toNat) key
theorem gath_dr {s : Int} {fr hd dr dr' cl : Nat → Int} : ∀ (p : Nat) (E : Nat → Int), (∀ q, q < p → dr (q + 1) = dr' (q + 1)) → gath s fr hd dr cl p E = gath s fr hd dr' cl p E
  | 0, E, _ => rfl
  | p + 1, E, h => by
    rw [gath, gath, gath_dr p _ (fun q hq => h q (by omega))]
    unfold gst
    rw [h p (by omega)]
theorem prs_dr {s : Int} {fr dr dr' cl G : Nat → Int} {P0 : Int} {F : Nat → Int} : ∀ (k : Nat), (∀ e, e ≤ k → dr e = dr' e) → prs s fr dr cl G P0 k F = prs s fr dr' cl G P0 k F
  | 0, h => by rw [prs, prs, h 0 (by omega)]
  | k + 1, h => by rw [prs, prs, prs_dr k (fun e he => h e (by omega)), h (k + 1) (by omega)]
theorem lsG_cong {s : Int} {σ : Mem} {L L' H H' : Nat → Int} {h : Nat} (hS0 : IS σ) (hL : ∀ e, e < 25 → L e = L' e) (hH : ∀ e, e < 25 → H e = H' e) : lsG s σ L H h = lsG s σ L' H' h := by
  obtain ⟨i1, i2, i3, -⟩ := id hS0
  have e1 : PG s σ (σ 5 h) L H = PG s σ (σ 5 h) L' H' := by
    unfold PG Gv
    rw [gath_dr _ _ (fun q hq => hH (q + 1) (by omega)), prs_dr _ (fun e he => hL e (by omega))]
  unfold lsG
  refine congrArg (fun z => lsV (bv (σ 5 h)) z (σ 1 4).toNat) ?_
  funext p
  unfold spG
  rw [e1]
theorem ls_leaf {σ : Mem} (hS0 : IS σ) (hZ : IZ σ) (hP : IP σ) (hE : IE σ) (hQ : IQ σ) (hB : IB σ) {a h : Nat} {L H : Nat → Int} (hL : ∀ e, e < 25 → L e = dL σ (cntC σ) a e) (hH : ∀ e, e < 25 → H e = dH σ (cntC σ) a e) : lsG 1 σ L H h = lsC (rsz σ (zi σ a)) h (σ 1 0) := by
  have e1 : ∀ e, dL σ (cntC σ) a e = rsz σ (zi σ a) 12 e ∧ dH σ (cntC σ) a e = rsz σ (zi σ a) 12 e := by
    intro e
    have e12 : rsz σ (zi σ a) 12 e = if 0 < e ∧ bv (σ 1 11) (e - 1) = 1 then σ 9 (e - 1) * σ 6 (zi σ a (e - 1)) else σ 12 e := rfl
    rw [e12]
    unfold dL dH
    by_cases q : 0 < e ∧ bv (σ 1 11) (e - 1) = 1
    · have q2 : rkN (bv (σ 1 11)) (e - 1) < cntC σ := rkN_lt q.2 (by have := fr_lt hB q.2; omega)
      simp only [if_pos q, if_pos q2]
      exact ⟨rfl, rfl⟩
    · simp only [if_neg q]
      exact ⟨trivial, trivial⟩
  rw [lsG_cong hS0 (fun e he => by rw [hL e he, (e1 e).1]) (fun e he => by rw [hH e he, (e1 e).2])]
  rfl
/-! prices -/
theorem ppr_0 {σ : Mem} {f : Nat → Int} {a : Nat} : ppr σ f 0 a = 0 := rfl
theorem pr_rng {σ : Mem} {f lr : Nat → Int} (hH : HS σ f lr) {d k z : Nat} (hk : k < cntC σ) (hz : z < zN σ) : 0 ≤ lpC σ (f k).toNat ∧ lpC σ (f k).toNat ≤ σ 9 (f k).toNat * σ 7 z ∧ σ 9 (f k).toNat * σ 7 z ≤ 10000 := by
  obtain ⟨⟨hS0, hZ, hP, hE, hQ, hB⟩, hF, -⟩ := hH
  obtain ⟨i1, i2, i3, -⟩ := id hS0
  have c1 := hF.2 k hk
  have hl := (hP (f k).toNat (by omega)).2.1
  have hr9 : ∀ z, z < (σ 1 1).toNat → 0 ≤ σ 9 (f k).toNat * σ 7 z ∧ σ 9 (f k).toNat * σ 7 z ≤ 10000 := fun z hz => ml_rng hl (hZ z (by omega)).2.1 rfl
  have a1 := mnF_rng (f := fun z => σ 9 (f k).toNat * σ 7 z) (B := 10000) (by decide) (n := (σ 1 1).toNat) hr9
  exact ⟨a1.1, a1.2.2 z hz, (hr9 z hz).2⟩
theorem Z_cnt {σ : Mem} {f lr : Nat → Int} (hH : HS σ f lr) {k : Nat} (hk : k < cntC σ) : 0 < zN σ ∧ zN σ ≤ 6 := by
  obtain ⟨⟨hS0, hZ, hP, hE, hQ, hB⟩, hF, -⟩ := hH
  have c1 := hF.2 k hk
  exact Z_pos hS0 hP hQ (p := (f k).toNat) (by omega)
theorem ppr_rng {σ : Mem} {f lr : Nat → Int} (hH : HS σ f lr) {d a : Nat} (hd : d ≤ cntC σ) : 0 ≤ ppr σ f d a ∧ ppr σ f d a ≤ d * 10000 := by
  have key : ∀ k, k < d → 0 ≤ σ 9 (f k).toNat * σ 7 (dg (zN σ) d a k) ∧ σ 9 (f k).toNat * σ 7 (dg (zN σ) d a k) ≤ 10000 := fun k hk => by
    have := pr_rng hH (d := d) (k := k) (by omega) (dg_lt (d := d) (a := a) (k := k) (Z_cnt hH (k := k) (by omega)).1)
    omega
  refine ⟨sm_nn (fun k hk => (key k hk).1), ?_⟩
  rw [← sm_c 10000 d]
  exact sm_le (fun k hk => (key k hk).2)
theorem lr_rng {σ : Mem} {f lr : Nat → Int} (hH : HS σ f lr) {d : Nat} (hd : d ≤ cntC σ) : 0 ≤ lr d ∧ lr d ≤ 50000 := by
  have h5 := cnt_le hH.1.1 hH.1.2.2.2.2.2
  rw [hH.2.2 d hd]
  have key : ∀ k, k < cntC σ → 0 ≤ lpC σ (f k).toNat ∧ lpC σ (f k).toNat ≤ 10000 := fun k hk => by
    have := pr_rng hH (d := d) (k := k) hk (z := 0) (Z_cnt hH hk).1
    omega
  have a1 := sm_dif (f := fun j => lpC σ (f j).toNat) (g := fun _ => 0) (d := d) (cntC σ - d) (fun k _ h2 => (key k (by omega)).1)
  have a2 := sm_dif (g := fun j => lpC σ (f j).toNat) (f := fun _ => 10000) (d := d) (cntC σ - d) (fun k _ h2 => (key k (by omega)).2)
  rw [show d + (cntC σ - d) = cntC σ by omega] at a1 a2
  rw [sm_c, sm_c] at a1 a2
  omega
theorem ppr_le {σ : Mem} {f lr : Nat → Int} (hH : HS σ f lr) {d m a i : Nat} (hd : d + m = cntC σ) (h1 : a * zN σ ^ m ≤ i) (h2 : i < (a + 1) * zN σ ^ m) : ppr σ f d a + lr d ≤ ppr σ f (cntC σ) i := by
  rw [hH.2.2 d (by omega)]
  have e1 : ppr σ f d a = sm (fun k => σ 9 (f k).toNat * σ 7 (dg (zN σ) (cntC σ) i k)) d := sm_cong (fun k hk => by
    rw [← hd, dg_pre (Z_cnt hH (k := k) (by omega)).1 hk h1 h2])
  have a1 := sm_dif (g := fun j => lpC σ (f j).toNat) (f := fun k => σ 9 (f k).toNat * σ 7 (dg (zN σ) (cntC σ) i k)) (d := d) m (fun k h3 h4 => (pr_rng hH (d := d) (k := k) (by omega) (dg_lt (Z_cnt hH (k := k) (by omega)).1)).2.1)
  rw [hd] at a1
  rw [e1]
  unfold ppr
  omega
/-! what holds while the search goes on -/
def SW (σ : Mem) (f lr : Nat → Int) (d a : Nat) (X : Nat → Prop) (F : Mem) : Prop := F 18 = f ∧ F 21 = lr ∧ F 3 3 = σ 0 5 ∧ F 3 4 = (cntC σ : Int) ∧ (0 ≤ F 3 12 ∧ (F 3 12 < σ 0 5 ∨ F 3 12 = 0)) ∧ (∀ k, k < d → F 19 k = (dg (zN σ) d a k : Int)) ∧ (∀ e, e < 25 → ¬ X e → F 22 e = dL σ d a e ∧ F 23 e = dH σ d a e)
abbrev SI (σ : Mem) (f lr : Nat → Int) (d a : Nat) (F : Mem) : Prop := SW σ f lr d a (fun _ => False) F
def BI (σ : Mem) (f : Nat → Int) (N : Nat) (F : Mem) : Prop := (fO (ppr σ f (cntC σ)) (mtC σ) N = none → F 3 8 = 2000000000) ∧ ∀ b, fO (ppr σ f (cntC σ)) (mtC σ) N = some b → F 3 8 = ppr σ f (cntC σ) b ∧ ∀ k, k < cntC σ → F 20 k = (dg (zN σ) (cntC σ) b k : Int)
theorem BI_rng {σ : Mem} {f lr : Nat → Int} (hH : HS σ f lr) {N : Nat} {F : Mem} (h : BI σ f N F) : 0 ≤ F 3 8 ∧ F 3 8 ≤ 2000000000 := by
  have h5 := cnt_le hH.1.1 hH.1.2.2.2.2.2
  cases e : fO (ppr σ f (cntC σ)) (mtC σ) N with
  | none => have := h.1 e; omega
  | some b => have := (h.2 b e).1; have := ppr_rng hH (a := b) (Nat.le_refl (cntC σ)); omega
theorem SW_fix {σ : Mem} {f lr : Nat → Int} (hH : HS σ f lr) {d a s : Nat} {F : Mem} (hd : d < cntC σ) (hs : s < zN σ) (h : SW σ f lr d a (fun e => e = (f d).toNat + 1) F) : SI σ f lr (d + 1) (a * zN σ + s) (up (up (up F 19 d s) 22 ((f d).toNat + 1) (σ 9 (f d).toNat * σ 6 s)) 23 ((f d).toNat + 1) (σ 9 (f d).toNat * σ 6 s)) := by
  obtain ⟨h1, h2, h3, h4, h5, h6, h7⟩ := h
  obtain ⟨⟨hS0, hZ, hP, hE, hQ, hB⟩, hF, -⟩ := id hH
  have c1 := hF.2 d hd
  refine ⟨h1, h2, h3, h4, h5, fun k hk => ?_, fun e he _ => ?_⟩
  · have e9 : up (up (up F 19 d s) 22 ((f d).toNat + 1) (σ 9 (f d).toNat * σ 6 s)) 23 ((f d).toNat + 1) (σ 9 (f d).toNat * σ 6 s) 19 k = if k = d then (s : Int) else F 19 k := rfl
    rw [e9]
    by_cases q : k = d
    · rw [if_pos q, q, dg_new hs]
    · rw [if_neg q, dg_old hs (by omega)]; exact h6 k (by omega)
  · have e9 : up (up (up F 19 d s) 22 ((f d).toNat + 1) (σ 9 (f d).toNat * σ 6 s)) 23 ((f d).toNat + 1) (σ 9 (f d).toNat * σ 6 s) 22 e = if e = (f d).toNat + 1 then σ 9 (f d).toNat * σ 6 s else F 22 e := rfl
    have e8 : up (up (up F 19 d s) 22 ((f d).toNat + 1) (σ 9 (f d).toNat * σ 6 s)) 23 ((f d).toNat + 1) (σ 9 (f d).toNat * σ 6 s) 23 e = if e = (f d).toNat + 1 then σ 9 (f d).toNat * σ 6 s else F 23 e := rfl
    rw [e9, e8]
    by_cases q : e = (f d).toNat + 1
    · rw [if_pos q, if_pos q]
      subst q
      unfold dL dH
      rw [Nat.add_sub_cancel, c1.2.2.2]
      have q1 : 0 < (f d).toNat + 1 ∧ bv (σ 1 11) (f d).toNat = 1 := ⟨by omega, c1.2.2.1⟩
      rw [if_pos q1, if_pos q1, if_pos (by omega), if_pos (by omega), dg_new hs]
      exact ⟨rfl, rfl⟩
    · rw [if_neg q, if_neg q, (h7 e he q).1, (h7 e he q).2]
      unfold dL dH
      by_cases q1 : 0 < e ∧ bv (σ 1 11) (e - 1) = 1
      · have q3 : rkN (bv (σ 1 11)) (e - 1) ≠ d := fun z => q (by
          have := hF.1 (e - 1) (by have := fr_lt hB q1.2; omega) q1.2
          rw [z] at this
          omega)
        simp only [if_pos q1]
        by_cases q2 : rkN (bv (σ 1 11)) (e - 1) < d
        · rw [if_pos q2, if_pos q2, if_pos (by omega), if_pos (by omega), dg_old hs q2]; exact ⟨rfl, rfl⟩
        · rw [if_neg q2, if_neg q2, if_neg (by omega), if_neg (by omega)]; exact ⟨rfl, rfl⟩
      · simp only [if_neg q1, and_self]
theorem SW_back {σ : Mem} {f lr : Nat → Int} (hH : HS σ f lr) {d a s : Nat} {F : Mem} (hd : d < cntC σ) (hs : s < zN σ) (h : SI σ f lr (d + 1) (a * zN σ + s) F) : SW σ f lr d a (fun e => e = (f d).toNat + 1) F := by
  obtain ⟨h1, h2, h3, h4, h5, h6, h7⟩ := h
  obtain ⟨⟨hS0, hZ, hP, hE, hQ, hB⟩, hF, -⟩ := id hH
  refine ⟨h1, h2, h3, h4, h5, fun k hk => ?_, fun e he q => ?_⟩
  · rw [h6 k (by omega), dg_old hs hk]
  · rw [(h7 e he (fun z => z)).1, (h7 e he (fun z => z)).2]
    unfold dL dH
    by_cases q1 : 0 < e ∧ bv (σ 1 11) (e - 1) = 1
    · have q3 : rkN (bv (σ 1 11)) (e - 1) ≠ d := fun z => q (by
        have := hF.1 (e - 1) (by have := fr_lt hB q1.2; omega) q1.2
        rw [z] at this
        omega)
      simp only [if_pos q1]
      by_cases q2 : rkN (bv (σ 1 11)) (e - 1) < d
      · rw [if_pos q2, if_pos q2, if_pos (by omega), if_pos (by omega), dg_old hs q2]; exact ⟨rfl, rfl⟩
      · rw [if_neg q2, if_neg q2, if_neg (by omega), if_neg (by omega)]; exact ⟨rfl, rfl⟩
    · simp only [if_neg q1, and_self]
theorem SW_weak {σ : Mem} {f lr : Nat → Int} {d a : Nat} {X : Nat → Prop} {F : Mem} (h : SI σ f lr d a F) : SW σ f lr d a X F :=
  ⟨h.1, h.2.1, h.2.2.1, h.2.2.2.1, h.2.2.2.2.1, h.2.2.2.2.2.1, fun e he _ => h.2.2.2.2.2.2 e he (fun z => z)⟩
theorem SW_widen {σ : Mem} {f lr : Nat → Int} (hH : HS σ f lr) {d a : Nat} {F : Mem} (hd : d < cntC σ) (h : SW σ f lr d a (fun e => e = (f d).toNat + 1) F) : SI σ f lr d a (up (up F 22 ((f d).toNat + 1) (loC σ (f d).toNat)) 23 ((f d).toNat + 1) (hiC σ (f d).toNat)) := by
  obtain ⟨h1, h2, h3, h4, h5, h6, h7⟩ := h
  obtain ⟨⟨hS0, hZ, hP, hE, hQ, hB⟩, hF, -⟩ := id hH
  have c1 := hF.2 d hd
  refine ⟨h1, h2, h3, h4, h5, h6, fun e he _ => ?_⟩
  have e9 : up (up F 22 ((f d).toNat + 1) (loC σ (f d).toNat)) 23 ((f d).toNat + 1) (hiC σ (f d).toNat) 22 e = if e = (f d).toNat + 1 then loC σ (f d).toNat else F 22 e := rfl
  have e8 : up (up F 22 ((f d).toNat + 1) (loC σ (f d).toNat)) 23 ((f d).toNat + 1) (hiC σ (f d).toNat) 23 e = if e = (f d).toNat + 1 then hiC σ (f d).toNat else F 23 e := rfl
  rw [e9, e8]
  by_cases q : e = (f d).toNat + 1
  · rw [if_pos q, if_pos q]
    subst q
    unfold dL dH
    rw [Nat.add_sub_cancel, c1.2.2.2]
    have q1 : 0 < (f d).toNat + 1 ∧ bv (σ 1 11) (f d).toNat = 1 := ⟨by omega, c1.2.2.1⟩
    rw [if_pos q1, if_pos q1, if_neg (by omega), if_neg (by omega)]
    exact ⟨rfl, rfl⟩
  · rw [if_neg q, if_neg q]
    exact h7 e he q
