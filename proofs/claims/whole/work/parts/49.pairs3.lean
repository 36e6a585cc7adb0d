theorem pA_bill {σ σ1 : Mem} {r : Int}  (h5 : σ = σ1 ∧ r = sm (prc σ) (σ 1 4).toNat) : SMM σ σ1 := by
  obtain ⟨rfl, -⟩ := h5
  exact SMM_rf _
theorem RR_prc {τ : Mem} (h : RR τ) : sm (prc τ) (τ 1 4).toNat = sm (prcM τ) (τ 28 11).toNat := by
  have hn := RR_n h
  obtain ⟨⟨hS0, hZ, hP, hE, hQ, hB, hF⟩, ⟨l1, l2, l3, l4, l5, l6, l7, l8⟩, lz, lp, lb, lh, lm, lf⟩ := id h
  rw [hn.1]
  refine sm_cong (fun q hq => ?_)
  have := (hP q (by omega)).2.2.1
  unfold prc prcM
  rw [(lp q (by omega)).2.1, (lp q (by omega)).2.2.1, (lz (τ 10 q).toNat (by omega)).2]
set_option maxHeartbeats 4000000 in
theorem pB_bill {σ σ1 σ2 : Mem} {r r' : Int}  (hR : RR σ) (h5 : σ = σ1 ∧ r = sm (prc σ) (σ 1 4).toNat) (h6 : σ1 = σ2 ∧ r' = sm (prcM σ1) (σ1 28 11).toNat) : r = r' ∧ RR σ2 := by
  obtain ⟨rfl, rfl⟩ := h5
  obtain ⟨rfl, rfl⟩ := h6
  exact ⟨RR_prc hR, hR⟩
theorem pA_about {σ σ1 : Mem} {r : Int} {p w : Int} (h5 : σ = σ1 ∧ (¬ (0 ≤ p ∧ p < σ 1 4) → r = -1) ∧ (0 ≤ p ∧ p < σ 1 4 → (w < 0 ∨ 10 < w → r = -2) ∧ (w = 0 → r = σ 8 p.toNat) ∧ (w = 1 → r = σ 9 p.toNat) ∧ (w = 2 → r = σ 10 p.toNat) ∧ (w = 3 → r = bv (σ 1 10) p.toNat) ∧ (w = 4 → r = bv (σ 1 12) p.toNat) ∧ (w = 5 → r = fnw (σ 13 p.toNat) (σ 15 p.toNat)) ∧ (w = 6 → r = σ 14 p.toNat) ∧ (w = 7 → r = bv (σ 1 13) p.toNat) ∧ (w = 8 → r = σ 15 p.toNat) ∧ (w = 9 → r = bv (σ 1 11) p.toNat) ∧ (w = 10 → r = sm (cfr σ p.toNat) (σ 1 4).toNat))) : SMM σ σ1 := by
  obtain ⟨rfl, -⟩ := h5
  exact SMM_rf _
set_option maxHeartbeats 4000000 in
theorem pB_about {σ σ1 σ2 : Mem} {r r' : Int} {p w : Int} (hR : RR σ) (h5 : σ = σ1 ∧ (¬ (0 ≤ p ∧ p < σ 1 4) → r = -1) ∧ (0 ≤ p ∧ p < σ 1 4 → (w < 0 ∨ 10 < w → r = -2) ∧ (w = 0 → r = σ 8 p.toNat) ∧ (w = 1 → r = σ 9 p.toNat) ∧ (w = 2 → r = σ 10 p.toNat) ∧ (w = 3 → r = bv (σ 1 10) p.toNat) ∧ (w = 4 → r = bv (σ 1 12) p.toNat) ∧ (w = 5 → r = fnw (σ 13 p.toNat) (σ 15 p.toNat)) ∧ (w = 6 → r = σ 14 p.toNat) ∧ (w = 7 → r = bv (σ 1 13) p.toNat) ∧ (w = 8 → r = σ 15 p.toNat) ∧ (w = 9 → r = bv (σ 1 11) p.toNat) ∧ (w = 10 → r = sm (cfr σ p.toNat) (σ 1 4).toNat))) (h6 : σ1 = σ2 ∧ (¬ (0 ≤ p ∧ p < σ1 28 11) → r' = -1) ∧ (0 ≤ p ∧ p < σ1 28 11 → (w < 0 ∨ 10 < w → r' = -2) ∧ (w = 0 → r' = σ1 31 p.toNat) ∧ (w = 1 → r' = σ1 32 p.toNat) ∧ (w = 2 → r' = σ1 33 p.toNat) ∧ (w = 3 → r' = σ1 35 p.toNat) ∧ (w = 4 → r' = σ1 37 p.toNat) ∧ (w = 5 → r' = fnM σ1 p.toNat) ∧ (w = 6 → r' = if σ1 37 p.toNat = 1 then σ1 39 p.toNat else 0) ∧ (w = 7 → r' = if σ1 37 p.toNat = 1 then σ1 40 p.toNat else 0) ∧ (w = 8 → r' = if σ1 37 p.toNat = 1 then σ1 41 p.toNat else 0) ∧ (w = 9 → r' = σ1 36 p.toNat) ∧ (w = 10 → r' = sm (cfM σ1 p.toNat) (σ1 28 11).toNat))) : r = r' ∧ RR σ2 := by
  obtain ⟨⟨hS0, hZ, hP, hE, hQ, hB, hF⟩, ⟨l1, l2, l3, l4, l5, l6, l7, l8⟩, lz, lp, lb, lh, lm, lf⟩ := id hR
  obtain ⟨i1, i2, i3, i4, i5, i6, i7, i8⟩ := id hS0
  obtain ⟨rfl, a5, b5⟩ := h5
  obtain ⟨rfl, a6, b6⟩ := h6
  rw [l4] at a6 b6
  refine ⟨?_, hR⟩
  by_cases q : 0 ≤ p ∧ p < σ 1 4
  · obtain ⟨x0, x1, x2, x3, x4, x5, x6, x7, x8, x9, x10, x11⟩ := b5 q
    obtain ⟨y0, y1, y2, y3, y4, y5, y6, y7, y8, y9, y10, y11⟩ := b6 q
    have hp24 : p.toNat < 24 := by omega
    obtain ⟨p1, p2, p3, p4⟩ := lp p.toNat hp24
    obtain ⟨b1, b2, b3, b4⟩ := lb p.toNat hp24
    obtain ⟨h1, h2, h3⟩ := lh p.toNat hp24
    have hz := hB.2.2.2.2.2.2 p.toNat hp24
    have h01 := bv_01 (σ 1 12) p.toNat
    rcases (show (w < 0 ∨ 10 < w) ∨ w = 0 ∨ w = 1 ∨ w = 2 ∨ w = 3 ∨ w = 4 ∨ w = 5 ∨ w = 6 ∨ w = 7 ∨ w = 8 ∨ w = 9 ∨ w = 10 by omega) with e | e | e | e | e | e | e | e | e | e | e | e
    · rw [x0 e, y0 e]
    · rw [x1 e, y1 e, p1]
    · rw [x2 e, y2 e, p2]
    · rw [x3 e, y3 e, p3]
    · rw [x4 e, y4 e, b1]
    · rw [x5 e, y5 e, b3]
    · rw [x6 e, y6 e, RR_fn hR hp24]
    · rw [x7 e, y7 e, b3, h2]
      rcases h01 with z | z
      · rw [if_neg (by omega), (hz z).2.1]
      · rw [if_pos z]
    · rw [x8 e, y8 e]
      exact RR_op hR hp24
    · rw [x9 e, y9 e, b3, h3]
      rcases h01 with z | z
      · rw [if_neg (by omega), (hz z).2.2]
      · rw [if_pos z]
    · rw [x10 e, y10 e, b2]
    · rw [x11 e, y11 e]
      refine sm_cong (fun k hk => ?_)
      unfold cfr cfM
      rw [(lp k (by omega)).1]
  · rw [a5 q, a6 q]
theorem pA_conduct {σ σ1 : Mem} {r : Int} {p s : Int} (h5 : SC σ σ1 ∧ ((r = -1 ∧ ¬ (-1 ≤ p ∧ p < σ 1 4)) ∨ (r = -2 ∧ (-1 ≤ p ∧ p < σ 1 4) ∧ ¬ (s = 0 ∨ s = 1)) ∨ ((-1 ≤ p ∧ p < σ 1 4) ∧ (s = 0 ∨ s = 1) ∧ r = if 0 < (p + 1).toNat ∧ bv (σ 1 10) ((p + 1).toNat - 1) = 1 then 0 else cnd s (σ 12 (p + 1).toNat) (GvC s (σ 1 13) σ (p + 1).toNat)))) : SMM σ σ1 := by
  exact SMM_SC h5.1
theorem RR_cd {τ : Mem} (h : RR τ) {s : Int} {e : Nat} (he : (e : Int) ≤ τ 1 4) : (if 0 < e ∧ bv (τ 1 10) (e - 1) = 1 then 0 else cnd s (τ 12 e) (GvC s (τ 1 13) τ e)) = if 0 < e ∧ τ 35 (e - 1) = 1 then 0 else cnd s (drE τ e) (GvM s τ (opM τ) e) := by
  have hn := RR_n h
  have hN := RR_net h
  rw [RR_G h (fun p hp => RR_op h (by omega))]
  cases e with
  | zero => rw [if_neg (by omega), if_neg (by omega), hN.2]
  | succ k =>
    have h1 := hN.1 k (by omega)
    rw [Nat.add_sub_cancel, h1.2.2, h1.2.1]
set_option maxHeartbeats 4000000 in
theorem pB_conduct {σ σ1 σ2 : Mem} {r r' : Int} {p s : Int} (hR : RR σ) (h5 : SC σ σ1 ∧ ((r = -1 ∧ ¬ (-1 ≤ p ∧ p < σ 1 4)) ∨ (r = -2 ∧ (-1 ≤ p ∧ p < σ 1 4) ∧ ¬ (s = 0 ∨ s = 1)) ∨ ((-1 ≤ p ∧ p < σ 1 4) ∧ (s = 0 ∨ s = 1) ∧ r = if 0 < (p + 1).toNat ∧ bv (σ 1 10) ((p + 1).toNat - 1) = 1 then 0 else cnd s (σ 12 (p + 1).toNat) (GvC s (σ 1 13) σ (p + 1).toNat)))) (h6 : SM σ1 σ2 ∧ ((r' = -1 ∧ ¬ (-1 ≤ p ∧ p < σ1 28 11)) ∨ (r' = -2 ∧ (-1 ≤ p ∧ p < σ1 28 11) ∧ ¬ (s = 0 ∨ s = 1)) ∨ ((-1 ≤ p ∧ p < σ1 28 11) ∧ (s = 0 ∨ s = 1) ∧ r' = if 0 < (p + 1).toNat ∧ σ1 35 ((p + 1).toNat - 1) = 1 then 0 else cnd s (drE σ1 (p + 1).toNat) (GvM s σ1 (opM σ1) (p + 1).toNat)))) : r = r' ∧ RR σ2 := by
  obtain ⟨l1, l2, l3, l4, l5, l6, l7, l8⟩ := hR.2.1
  obtain ⟨hsc, h5⟩ := h5
  obtain ⟨hsm, h6⟩ := h6
  have hR2 := RR_scr hR hsc hsm
  obtain ⟨e28, -⟩ := opq (SMM_SC hsc)
  rw [e28, l4] at h6
  refine ⟨?_, hR2⟩
  rcases h5 with ⟨rfl, c5⟩ | ⟨rfl, c5, d5⟩ | ⟨c5, d5, rfl⟩ <;> rcases h6 with ⟨rfl, c6⟩ | ⟨rfl, c6, d6⟩ | ⟨c6, d6, rfl⟩ <;> first | rfl | (exfalso; omega) | skip
  obtain ⟨G, P, rfl⟩ := hsc
  exact RR_cd (τ := upC (upC σ 16 G) 17 P) hR (by show _ ≤ σ 1 4; omega)
theorem pA_pressure {σ σ1 : Mem} {r : Int} {p s : Int} (h5 : SC σ σ1 ∧ ((r = -1 ∧ ¬ (-1 ≤ p ∧ p < σ 1 4)) ∨ (r = -2 ∧ (-1 ≤ p ∧ p < σ 1 4) ∧ ¬ (s = 0 ∨ s = 1)) ∨ ((-1 ≤ p ∧ p < σ 1 4) ∧ (s = 0 ∨ s = 1) ∧ r = PvC s (σ 1 13) (σ 1 0) σ (p + 1).toNat))) : SMM σ σ1 := by
  exact SMM_SC h5.1
set_option maxHeartbeats 4000000 in
theorem pB_pressure {σ σ1 σ2 : Mem} {r r' : Int} {p s : Int} (hR : RR σ) (h5 : SC σ σ1 ∧ ((r = -1 ∧ ¬ (-1 ≤ p ∧ p < σ 1 4)) ∨ (r = -2 ∧ (-1 ≤ p ∧ p < σ 1 4) ∧ ¬ (s = 0 ∨ s = 1)) ∨ ((-1 ≤ p ∧ p < σ 1 4) ∧ (s = 0 ∨ s = 1) ∧ r = PvC s (σ 1 13) (σ 1 0) σ (p + 1).toNat))) (h6 : SM σ1 σ2 ∧ ((r' = -1 ∧ ¬ (-1 ≤ p ∧ p < σ1 28 11)) ∨ (r' = -2 ∧ (-1 ≤ p ∧ p < σ1 28 11) ∧ ¬ (s = 0 ∨ s = 1)) ∨ ((-1 ≤ p ∧ p < σ1 28 11) ∧ (s = 0 ∨ s = 1) ∧ r' = PvM s (σ1 28 0) σ1 (opM σ1) (p + 1).toNat))) : r = r' ∧ RR σ2 := by
  obtain ⟨l1, l2, l3, l4, l5, l6, l7, l8⟩ := hR.2.1
  have hn := RR_n hR
  obtain ⟨hsc, h5⟩ := h5
  obtain ⟨hsm, h6⟩ := h6
  have hR2 := RR_scr hR hsc hsm
  obtain ⟨e28, -⟩ := opq (SMM_SC hsc)
  rw [e28, l4, l1] at h6
  refine ⟨?_, hR2⟩
  rcases h5 with ⟨rfl, c5⟩ | ⟨rfl, c5, d5⟩ | ⟨c5, d5, rfl⟩ <;> rcases h6 with ⟨rfl, c6⟩ | ⟨rfl, c6, d6⟩ | ⟨c6, d6, rfl⟩ <;> first | rfl | (exfalso; omega) | skip
  obtain ⟨G, P, rfl⟩ := hsc
  exact congrFun (RR_P (σ := upC (upC σ 16 G) 17 P) (m := σ 1 13) hR (fun q hq => RR_op (σ := upC (upC σ 16 G) 17 P) hR (by have : (q : Int) < σ 1 4 := hq; omega))) _
theorem pA_flow {σ σ1 : Mem} {r : Int} {p s : Int} (h5 : SC σ σ1 ∧ ((r = -1 ∧ ¬ (0 ≤ p ∧ p < σ 1 4 ∧ bv (σ 1 12) p.toNat = 1)) ∨ (r = -2 ∧ (0 ≤ p ∧ p < σ 1 4 ∧ bv (σ 1 12) p.toNat = 1) ∧ ¬ (s = 0 ∨ s = 1)) ∨ ((0 ≤ p ∧ p < σ 1 4 ∧ bv (σ 1 12) p.toNat = 1) ∧ (s = 0 ∨ s = 1) ∧ r = if bv (σ 1 13) p.toNat = 1 then fl s (fnw (σ 13 p.toNat) (σ 15 p.toNat)) (PvC s (σ 1 13) (σ 1 0) σ (p.toNat + 1)) else 0))) : SMM σ σ1 := by
  exact SMM_SC h5.1
theorem RR_fl {τ : Mem} (h : RR τ) {s : Int} {p : Nat} (hp : (p : Int) < τ 1 4) : flC s τ p = flMm s τ p := by
  have hn := RR_n h
  unfold flC flMm
  rw [RR_P h (fun q hq => RR_op h (by omega)), RR_op h (by omega), RR_fn h (by omega), h.2.1.1]
set_option maxHeartbeats 4000000 in
theorem pB_flow {σ σ1 σ2 : Mem} {r r' : Int} {p s : Int} (hR : RR σ) (h5 : SC σ σ1 ∧ ((r = -1 ∧ ¬ (0 ≤ p ∧ p < σ 1 4 ∧ bv (σ 1 12) p.toNat = 1)) ∨ (r = -2 ∧ (0 ≤ p ∧ p < σ 1 4 ∧ bv (σ 1 12) p.toNat = 1) ∧ ¬ (s = 0 ∨ s = 1)) ∨ ((0 ≤ p ∧ p < σ 1 4 ∧ bv (σ 1 12) p.toNat = 1) ∧ (s = 0 ∨ s = 1) ∧ r = if bv (σ 1 13) p.toNat = 1 then fl s (fnw (σ 13 p.toNat) (σ 15 p.toNat)) (PvC s (σ 1 13) (σ 1 0) σ (p.toNat + 1)) else 0))) (h6 : SM σ1 σ2 ∧ ((r' = -1 ∧ ¬ (0 ≤ p ∧ p < σ1 28 11 ∧ σ1 37 p.toNat = 1)) ∨ (r' = -2 ∧ (0 ≤ p ∧ p < σ1 28 11 ∧ σ1 37 p.toNat = 1) ∧ ¬ (s = 0 ∨ s = 1)) ∨ ((0 ≤ p ∧ p < σ1 28 11 ∧ σ1 37 p.toNat = 1) ∧ (s = 0 ∨ s = 1) ∧ r' = if opM σ1 p.toNat = 1 then fl s (fnM σ1 p.toNat) (PvM s (σ1 28 0) σ1 (opM σ1) (p.toNat + 1)) else 0))) : r = r' ∧ RR σ2 := by
  obtain ⟨⟨hS0, hZ, hP, hE, hQ, hB, hF⟩, ⟨l1, l2, l3, l4, l5, l6, l7, l8⟩, lz, lp, lb, lh, lm, lf⟩ := id hR
  obtain ⟨i1, i2, i3, i4, i5, i6, i7, i8⟩ := id hS0
  obtain ⟨hsc, h5⟩ := h5
  obtain ⟨hsm, h6⟩ := h6
  have hR2 := RR_scr hR hsc hsm
  obtain ⟨e28, e29, e30, e31, e32, e33, e34, e35, e36, e37, -⟩ := opq (SMM_SC hsc)
  rw [e28, l4, e37] at h6
  have hb : (0 ≤ p ∧ p < σ 1 4 ∧ σ 37 p.toNat = 1) ↔ (0 ≤ p ∧ p < σ 1 4 ∧ bv (σ 1 12) p.toNat = 1) := by
    by_cases q : 0 ≤ p ∧ p < σ 1 4
    · rw [(lb p.toNat (by omega)).2.2.1]
    · exact ⟨fun z => absurd ⟨z.1, z.2.1⟩ q, fun z => absurd ⟨z.1, z.2.1⟩ q⟩
  rw [hb] at h6
  refine ⟨?_, hR2⟩
  rcases h5 with ⟨rfl, c5⟩ | ⟨rfl, c5, d5⟩ | ⟨c5, d5, rfl⟩ <;> rcases h6 with ⟨rfl, c6⟩ | ⟨rfl, c6, d6⟩ | ⟨c6, d6, rfl⟩ <;> first | rfl | exact absurd c5 c6 | exact absurd c6 c5 | exact absurd d5 d6 | exact absurd d6 d5 | skip
  obtain ⟨G, P, rfl⟩ := hsc
  exact RR_fl (τ := upC (upC σ 16 G) 17 P) hR (by show (p.toNat : Int) < σ 1 4; omega)
theorem pA_total {σ σ1 : Mem} {r : Int} {s : Int} (h5 : SC σ σ1 ∧ ((r = -2 ∧ ¬ (s = 0 ∨ s = 1)) ∨ ((s = 0 ∨ s = 1) ∧ r = sm (flC s σ) (σ 1 4).toNat))) : SMM σ σ1 := by
  exact SMM_SC h5.1
set_option maxHeartbeats 4000000 in
theorem pB_total {σ σ1 σ2 : Mem} {r r' : Int} {s : Int} (hR : RR σ) (h5 : SC σ σ1 ∧ ((r = -2 ∧ ¬ (s = 0 ∨ s = 1)) ∨ ((s = 0 ∨ s = 1) ∧ r = sm (flC s σ) (σ 1 4).toNat))) (h6 : SM σ1 σ2 ∧ ((r' = -2 ∧ ¬ (s = 0 ∨ s = 1)) ∨ ((s = 0 ∨ s = 1) ∧ r' = sm (flMm s σ1) (σ1 28 11).toNat))) : r = r' ∧ RR σ2 := by
  obtain ⟨l1, l2, l3, l4, l5, l6, l7, l8⟩ := hR.2.1
  have hn := RR_n hR
  obtain ⟨hsc, h5⟩ := h5
  obtain ⟨hsm, h6⟩ := h6
  have hR2 := RR_scr hR hsc hsm
  obtain ⟨e28, -⟩ := opq (SMM_SC hsc)
  rw [e28, l4] at h6
  refine ⟨?_, hR2⟩
  rcases h5 with ⟨rfl, c5⟩ | ⟨c5, rfl⟩ <;> rcases h6 with ⟨rfl, c6⟩ | ⟨c6, rfl⟩
  · rfl
  · exact absurd c6 c5
  · exact absurd c5 c6
  · obtain ⟨G, P, rfl⟩ := hsc
    exact sm_cong (fun q hq => RR_fl (τ := upC (upC σ 16 G) 17 P) hR (by show (q : Int) < σ 1 4; omega))
theorem pA_worst {σ σ1 : Mem} {r : Int}  (h5 : SC σ σ1 ∧ r = wI (bv (σ 1 13)) (spC (σ 1 13) (σ 1 0) σ) (σ 1 4).toNat) : SMM σ σ1 := by
  exact SMM_SC h5.1
set_option maxHeartbeats 4000000 in
theorem pB_worst {σ σ1 σ2 : Mem} {r r' : Int}  (hR : RR σ) (h5 : SC σ σ1 ∧ r = wI (bv (σ 1 13)) (spC (σ 1 13) (σ 1 0) σ) (σ 1 4).toNat) (h6 : SM σ1 σ2 ∧ r' = wI (opM σ1) (sp0 σ1 (opM σ1) (fun p => PvM 0 (σ1 28 0) σ1 (opM σ1) (p + 1))) (σ1 28 11).toNat) : r = r' ∧ RR σ2 := by
  obtain ⟨l1, l2, l3, l4, l5, l6, l7, l8⟩ := hR.2.1
  have hn := RR_n hR
  obtain ⟨hsc, h5⟩ := h5
  obtain ⟨hsm, h6⟩ := h6
  have hR2 := RR_scr hR hsc hsm
  refine ⟨?_, hR2⟩
  obtain ⟨G, P, rfl⟩ := hsc
  rw [h5, h6]
  have e9 : (upC (upC σ 16 G) 17 P 28 11).toNat = (σ 1 4).toNat := by show (σ 28 11).toNat = _; rw [l4]
  rw [e9]
  exact wI_cong1 (fun q hq => RR_op (σ := upC (upC σ 16 G) 17 P) hR (by omega)) (fun q hq hb => RR_sp (σ := upC (upC σ 16 G) 17 P) hR (by show (q : Int) < σ 1 4; omega) hb)
theorem pA_least {σ σ1 : Mem} {r : Int} {g : Int} (h5 : SC σ σ1 ∧ ((r = -1000000000001 ∧ ¬ (0 ≤ g ∧ g < σ 0 5)) ∨ ((0 ≤ g ∧ g < σ 0 5) ∧ r = lsC σ g.toNat (σ 1 0)))) : SMM σ σ1 := by
  exact SMM_SC h5.1
set_option maxHeartbeats 4000000 in
theorem pB_least {σ σ1 σ2 : Mem} {r r' : Int} {g : Int} (hR : RR σ) (h5 : SC σ σ1 ∧ ((r = -1000000000001 ∧ ¬ (0 ≤ g ∧ g < σ 0 5)) ∨ ((0 ≤ g ∧ g < σ 0 5) ∧ r = lsC σ g.toNat (σ 1 0)))) (h6 : SM σ1 σ2 ∧ ((r' = -1000000000001 ∧ ¬ (0 ≤ g ∧ g < σ1 28 25)) ∨ ((0 ≤ g ∧ g < σ1 28 25) ∧ r' = lsM σ1 g.toNat (σ1 28 0)))) : r = r' ∧ RR σ2 := by
  obtain ⟨l1, l2, l3, l4, l5, l6, l7, l8⟩ := hR.2.1
  have i8 : 0 ≤ σ 0 5 ∧ σ 0 5 ≤ 6 := hR.1.1.2.2.2.2.2.2.2
  obtain ⟨hsc, h5⟩ := h5
  obtain ⟨hsm, h6⟩ := h6
  have hR2 := RR_scr hR hsc hsm
  obtain ⟨e28, -⟩ := opq (SMM_SC hsc)
  rw [e28, l5, l1] at h6
  refine ⟨?_, hR2⟩
  rcases h5 with ⟨rfl, c5⟩ | ⟨c5, rfl⟩ <;> rcases h6 with ⟨rfl, c6⟩ | ⟨c6, rfl⟩
  · rfl
  · exact absurd c6 c5
  · exact absurd c5 c6
  · obtain ⟨G, P, rfl⟩ := hsc
    exact RR_ls (σ := upC (upC σ 16 G) 17 P) hR (by omega) _
theorem pA_thinnest {σ σ1 : Mem} {r : Int}  (h5 : SC σ σ1 ∧ r = wI (fun _ => 1) (fun h => lsC σ h (σ 1 0)) (σ 0 5).toNat) : SMM σ σ1 := by
  exact SMM_SC h5.1
set_option maxHeartbeats 4000000 in
theorem pB_thinnest {σ σ1 σ2 : Mem} {r r' : Int}  (hR : RR σ) (h5 : SC σ σ1 ∧ r = wI (fun _ => 1) (fun h => lsC σ h (σ 1 0)) (σ 0 5).toNat) (h6 : SM σ1 σ2 ∧ r' = wI (fun _ => 1) (fun h => lsM σ1 h (σ1 28 0)) (σ1 28 25).toNat) : r = r' ∧ RR σ2 := by
  obtain ⟨l1, l2, l3, l4, l5, l6, l7, l8⟩ := hR.2.1
  have i8 : 0 ≤ σ 0 5 ∧ σ 0 5 ≤ 6 := hR.1.1.2.2.2.2.2.2.2
  obtain ⟨hsc, h5⟩ := h5
  obtain ⟨hsm, h6⟩ := h6
  have hR2 := RR_scr hR hsc hsm
  obtain ⟨e28, -⟩ := opq (SMM_SC hsc)
  rw [e28, l5, l1] at h6
  refine ⟨?_, hR2⟩
  obtain ⟨G, P, rfl⟩ := hsc
  rw [h5, h6]
  exact wI_cong (fun _ _ => rfl) (fun q hq => RR_ls (σ := upC (upC σ 16 G) 17 P) hR (by omega) _)
theorem pA_margin {σ σ1 : Mem} {r : Int} {g : Int} (h5 : SC σ σ1 ∧ ((r = -1 ∧ ¬ (0 ≤ g ∧ g < σ 0 5)) ∨ ((0 ≤ g ∧ g < σ 0 5) ∧ ((r = -5 ∧ ¬ metC σ g.toNat 0) ∨ (metC σ g.toNat 0 ∧ metC σ g.toNat 100 ∧ r = -6) ∨ (metC σ g.toNat 0 ∧ ¬ metC σ g.toNat 100 ∧ (1 ≤ r ∧ r ≤ 100) ∧ metC σ g.toNat (r - 1) ∧ ¬ metC σ g.toNat r))))) : SMM σ σ1 := by
  exact SMM_SC h5.1
set_option maxHeartbeats 4000000 in
theorem pB_margin {σ σ1 σ2 : Mem} {r r' : Int} {g : Int} (hR : RR σ) (h5 : SC σ σ1 ∧ ((r = -1 ∧ ¬ (0 ≤ g ∧ g < σ 0 5)) ∨ ((0 ≤ g ∧ g < σ 0 5) ∧ ((r = -5 ∧ ¬ metC σ g.toNat 0) ∨ (metC σ g.toNat 0 ∧ metC σ g.toNat 100 ∧ r = -6) ∨ (metC σ g.toNat 0 ∧ ¬ metC σ g.toNat 100 ∧ (1 ≤ r ∧ r ≤ 100) ∧ metC σ g.toNat (r - 1) ∧ ¬ metC σ g.toNat r))))) (h6 : SM σ1 σ2 ∧ ((r' = -1 ∧ ¬ (0 ≤ g ∧ g < σ1 28 25)) ∨ ((0 ≤ g ∧ g < σ1 28 25) ∧ ((r' = -5 ∧ ¬ 0 ≤ lsM σ1 g.toNat (σ1 28 0)) ∨ (0 ≤ lsM σ1 g.toNat (σ1 28 0) ∧ ((r' = -6 ∧ ∀ m : Int, 1 ≤ m → m ≤ 100 → 0 ≤ lsM σ1 g.toNat (lft (σ1 28 0) m)) ∨ ((1 ≤ r' ∧ r' ≤ 100) ∧ ¬ 0 ≤ lsM σ1 g.toNat (lft (σ1 28 0) r') ∧ ∀ m : Int, 1 ≤ m → m < r' → 0 ≤ lsM σ1 g.toNat (lft (σ1 28 0) m)))))))) : r = r' ∧ RR σ2 := by
  obtain ⟨⟨hS0, hZ, hP, hE, hQ, hB, hF⟩, ⟨l1, l2, l3, l4, l5, l6, l7, l8⟩, -⟩ := id hR
  obtain ⟨i1, i2, i3, i4, i5, i6, i7, i8⟩ := id hS0
  obtain ⟨hsc, h5⟩ := h5
  obtain ⟨hsm, h6⟩ := h6
  have hR2 := RR_scr hR hsc hsm
  obtain ⟨e28, -⟩ := opq (SMM_SC hsc)
  rw [e28, l5, l1] at h6
  refine ⟨?_, hR2⟩
  by_cases hg : 0 ≤ g ∧ g < σ 0 5
  · have hls : ∀ q, lsM σ1 g.toNat q = lsC σ g.toNat q := fun q => by
      obtain ⟨G, P, rfl⟩ := hsc
      exact (RR_ls (σ := upC (upC σ 16 G) 17 P) hR (by omega) _).symm
    have hm : ∀ x : Int, 0 ≤ lsM σ1 g.toNat (lft (σ 1 0) x) ↔ metC σ g.toNat x := fun x => by rw [hls]; exact Iff.rfl
    have hm0 : 0 ≤ lsM σ1 g.toNat (σ 1 0) ↔ metC σ g.toNat 0 := by
      rw [← hm 0]
      have : lft (σ 1 0) 0 = σ 1 0 := by unfold lft; omega
      rw [this]
    have anti := fun x y => metC_anti (σ := σ) (h := g.toNat) (x := x) (y := y) hS0 hP hE hQ
    rw [hm0] at h6
    rcases h5 with ⟨rfl, c5⟩ | ⟨-, h5⟩
    · exact absurd hg c5
    · rcases h6 with ⟨rfl, c6⟩ | ⟨-, h6⟩
      · exact absurd hg c6
      · rcases h5 with ⟨rfl, a5⟩ | ⟨a5, b5, rfl⟩ | ⟨a5, b5, c5, d5, f5⟩
        · rcases h6 with ⟨rfl, a6⟩ | ⟨a6, -⟩
          · rfl
          · exact absurd a6 a5
        · rcases h6 with ⟨rfl, a6⟩ | ⟨a6, ⟨rfl, -⟩ | ⟨c6, d6, -⟩⟩
          · exact absurd a5 a6
          · rfl
          · exfalso
            rw [hm] at d6
            exact d6 (anti r' 100 (by omega) (by omega) (by omega) b5)
        · rcases h6 with ⟨rfl, a6⟩ | ⟨a6, ⟨rfl, b6⟩ | ⟨c6, d6, f6⟩⟩
          · exact absurd a5 a6
          · exfalso
            have := b6 r (by omega) (by omega)
            rw [hm] at this
            exact f5 this
          · rw [hm] at d6
            rcases Int.lt_trichotomy r r' with z | z | z
            · exfalso
              have := f6 r (by omega) z
              rw [hm] at this
              exact f5 this
            · exact z
            · exfalso
              exact d6 (anti r' (r - 1) (by omega) (by omega) (by omega) d5)
  · rcases h5 with ⟨rfl, -⟩ | ⟨c5, -⟩
    · rcases h6 with ⟨rfl, -⟩ | ⟨c6, -⟩
      · rfl
      · exact absurd c6 hg
    · exact absurd c5 hg
