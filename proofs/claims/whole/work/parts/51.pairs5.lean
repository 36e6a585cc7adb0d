/-! the floor's answers of both -/
theorem bwP_cg {kd kd' : Nat → Int} (h : ∀ k, k < 256 → kd k = kd' k) {r1 c1 r c : Int} (h1 : r1 ≤ 15) (h2 : c1 ≤ 15) (h3 : r ≤ 15) (h4 : c ≤ 15) : bwP kd r1 c1 r c ↔ bwP kd' r1 c1 r c := by
  refine ⟨fun ⟨i, j, a, b, c, d⟩ => ⟨i, j, a, b, ?_, d⟩, fun ⟨i, j, a, b, c, d⟩ => ⟨i, j, a, b, ?_, d⟩⟩
  · rw [← h _ (by omega)]; exact c
  · rw [h _ (by omega)]; exact c
theorem wetP_cg {kd kd' : Nat → Int} (h : ∀ k, k < 256 → kd k = kd' k) {r1 c1 re : Int} {r c : Nat} (h1 : r1 ≤ 15) (h2 : c1 ≤ 15) (h3 : r < 16) (h4 : c < 16) : wetP kd r1 c1 re r c ↔ wetP kd' r1 c1 re r c := by
  unfold wetP
  rw [h (r * 16 + c) (by omega), bwP_cg h h1 h2 (by omega) (by omega)]
theorem b2i_cg {P Q : Prop} (h : P ↔ Q) : b2i P = b2i Q := by rw [propext h]
theorem pA_wets {σ σ1 : Mem} {r : Int} {p a b : Int} (h5 : σ = σ1 ∧ ((r = -1 ∧ ¬ ((0 ≤ p ∧ p < σ 1 4 ∧ bv (σ 1 12) p.toNat = 1) ∧ ((0 ≤ a ∧ a < σ 4 0) ∧ (0 ≤ b ∧ b < σ 4 1)))) ∨ (((0 ≤ p ∧ p < σ 1 4 ∧ bv (σ 1 12) p.toNat = 1) ∧ ((0 ≤ a ∧ a < σ 4 0) ∧ (0 ≤ b ∧ b < σ 4 1))) ∧ ((r = -3 ∧ bv (σ 4 3) p.toNat = 0) ∨ (bv (σ 4 3) p.toNat = 1 ∧ r = b2i (wetP (σ 24) (σ 25 p.toNat) (σ 26 p.toNat) (σ 27 p.toNat) a.toNat b.toNat)))))) : SMM σ σ1 := by
  obtain ⟨rfl, -⟩ := h5
  exact SMM_rf _
set_option maxHeartbeats 4000000 in
theorem pB_wets {σ σ1 σ2 : Mem} {r r' : Int} {p a b : Int} (hR : RR σ) (h5 : σ = σ1 ∧ ((r = -1 ∧ ¬ ((0 ≤ p ∧ p < σ 1 4 ∧ bv (σ 1 12) p.toNat = 1) ∧ ((0 ≤ a ∧ a < σ 4 0) ∧ (0 ≤ b ∧ b < σ 4 1)))) ∨ (((0 ≤ p ∧ p < σ 1 4 ∧ bv (σ 1 12) p.toNat = 1) ∧ ((0 ≤ a ∧ a < σ 4 0) ∧ (0 ≤ b ∧ b < σ 4 1))) ∧ ((r = -3 ∧ bv (σ 4 3) p.toNat = 0) ∨ (bv (σ 4 3) p.toNat = 1 ∧ r = b2i (wetP (σ 24) (σ 25 p.toNat) (σ 26 p.toNat) (σ 27 p.toNat) a.toNat b.toNat)))))) (h6 : σ1 = σ2 ∧ ((r' = -1 ∧ ¬ ((0 ≤ p ∧ p < σ1 28 11 ∧ σ1 37 p.toNat = 1) ∧ ((0 ≤ a ∧ a < σ1 28 29) ∧ (0 ≤ b ∧ b < σ1 28 30)))) ∨ (((0 ≤ p ∧ p < σ1 28 11 ∧ σ1 37 p.toNat = 1) ∧ ((0 ≤ a ∧ a < σ1 28 29) ∧ (0 ≤ b ∧ b < σ1 28 30))) ∧ ((r' = -3 ∧ σ1 54 p.toNat = 0) ∨ (σ1 54 p.toNat = 1 ∧ r' = b2i (wetP (σ1 53) (σ1 55 p.toNat) (σ1 56 p.toNat) (σ1 57 p.toNat) a.toNat b.toNat)))))) : r = r' ∧ RR σ2 := by
  obtain ⟨⟨hS0, hZ, hP, hE, hQ, hB, hF⟩, ⟨l1, l2, l3, l4, l5, l6, l7, l8⟩, lz, lp, lb, lh, lm, lf⟩ := id hR
  have hn := RR_n hR
  obtain ⟨rfl, h5⟩ := h5
  obtain ⟨rfl, h6⟩ := h6
  refine ⟨?_, hR⟩
  rw [l4, l6, l7, RR_hb hR] at h6
  rcases h5 with ⟨rfl, c5⟩ | ⟨c5, h5⟩ <;> rcases h6 with ⟨rfl, c6⟩ | ⟨c6, h6⟩
  · rfl
  · exact absurd c6 c5
  · exact absurd c5 c6
  · have hp24 : p.toNat < 24 := by omega
    obtain ⟨f1, f2, f3, f4⟩ := lf.2 _ hp24
    have g1 := hF.2.2.2.2.1 _ hp24
    have hF1 := hF.1
    have hF2 := hF.2.1
    rw [f1, f2, f3, f4] at h6
    rcases h5 with ⟨rfl, d5⟩ | ⟨d5, rfl⟩ <;> rcases h6 with ⟨rfl, d6⟩ | ⟨d6, rfl⟩
    · rfl
    · omega
    · omega
    · exact b2i_cg (wetP_cg (fun k hk => (lf.1 k hk).symm) (by omega) (by omega) (by omega) (by omega))
theorem RR_dry {σ : Mem} (hR : RR σ) {a b : Nat} (ha : a < 16) (hb : b < 16) : dryC σ a b = dryM σ a b := by
  obtain ⟨⟨hS0, hZ, hP, hE, hQ, hB, hF⟩, ls, lz, lp, lb, lh, lm, lf⟩ := id hR
  refine b2i_cg ?_
  unfold dryP
  rw [lf.1 _ (by omega)]
  refine and_congr Iff.rfl ⟨fun h p hp hs => ?_, fun h p hp hs => ?_⟩
  · obtain ⟨f1, f2, f3, f4⟩ := lf.2 p hp
    have g1 := hF.2.2.2.2.1 _ hp
    rw [f1] at hs
    rw [f2, f3, f4, wetP_cg lf.1 (by omega) (by omega) ha hb]
    exact h p hp hs
  · obtain ⟨f1, f2, f3, f4⟩ := lf.2 p hp
    have g1 := hF.2.2.2.2.1 _ hp
    have := h p hp (by rw [f1]; exact hs)
    rw [f2, f3, f4, wetP_cg lf.1 (by omega) (by omega) ha hb] at this
    exact this
theorem cntV_cg {dv dv' : Nat → Nat → Int} (h : ∀ i j, i < 16 → j < 16 → dv i j = dv' i j) {cs a b : Nat} (hc : cs ≤ 16) (ha : a ≤ 16) (hb : b ≤ 16) (hab : a < 16 ∨ b = 0) : cntV dv cs a b = cntV dv' cs a b := by
  unfold cntV
  rw [sm_cong (f := fun i => sm (dv i) cs) (g := fun i => sm (dv' i) cs) (fun k hk => sm_cong (fun j hj => h k j (by omega) (by omega))), sm_cong (f := dv a) (g := dv' a) (fun k hk => h a k (by omega) (by omega))]
theorem fC_eq {hit hit' : Nat → Nat → Prop} {rs cs : Nat} {N r r' : Int} (h1 : firstC hit rs cs N r) (h2 : firstC hit' rs cs N r') (e : ∀ a b, a < rs → b < cs → (hit a b ↔ hit' a b)) : r = r' := by
  rcases h1 with ⟨a, b, a1, a2, a3, a4, rfl⟩ | ⟨a1, rfl⟩ <;> rcases h2 with ⟨c, d, b1, b2, b3, b4, rfl⟩ | ⟨b1, rfl⟩
  · rcases (show (a < c ∨ a = c ∧ b < d) ∨ (a = c ∧ b = d) ∨ (c < a ∨ c = a ∧ d < b) by omega) with z | z | z
    · exact absurd ((e a b a1 a2).mp a3) (b4 a b a1 a2 z)
    · rw [z.1, z.2]
    · exact absurd ((e c d b1 b2).mpr b3) (a4 c d b1 b2 z)
  · exact absurd ((e a b a1 a2).mp a3) (b1 a b a1 a2)
  · exact absurd ((e c d b1 b2).mpr b3) (a1 c d b1 b2)
  · rfl
theorem pA_dry {σ σ1 : Mem} {r : Int} {i : Int} (h5 : σ = σ1 ∧ firstC (fun a b => dryC σ a b = 1 ∧ cntV (dryC σ) (σ 4 1).toNat a b = i) (σ 4 0).toNat (σ 4 1).toNat (if i = -1 then cntV (dryC σ) (σ 4 1).toNat (σ 4 0).toNat 0 else -6) r) : SMM σ σ1 := by
  obtain ⟨rfl, -⟩ := h5
  exact SMM_rf _
set_option maxHeartbeats 4000000 in
theorem pB_dry {σ σ1 σ2 : Mem} {r r' : Int} {i : Int} (hR : RR σ) (h5 : σ = σ1 ∧ firstC (fun a b => dryC σ a b = 1 ∧ cntV (dryC σ) (σ 4 1).toNat a b = i) (σ 4 0).toNat (σ 4 1).toNat (if i = -1 then cntV (dryC σ) (σ 4 1).toNat (σ 4 0).toNat 0 else -6) r) (h6 : σ1 = σ2 ∧ firstC (fun a b => dryM σ1 a b = 1 ∧ cntV (dryM σ1) (σ1 28 30).toNat a b = i) (σ1 28 29).toNat (σ1 28 30).toNat (if i = -1 then cntV (dryM σ1) (σ1 28 30).toNat (σ1 28 29).toNat 0 else -6) r') : r = r' ∧ RR σ2 := by
  obtain ⟨⟨hS0, hZ, hP, hE, hQ, hB, hF⟩, ⟨l1, l2, l3, l4, l5, l6, l7, l8⟩, lz, lp, lb, lh, lm, lf⟩ := id hR
  obtain ⟨rfl, h5⟩ := h5
  obtain ⟨rfl, h6⟩ := h6
  have hF1 := hF.1
  have hF2 := hF.2.1
  rw [l6, l7] at h6
  have hd : ∀ a b, a < 16 → b < 16 → dryC σ a b = dryM σ a b := fun a b ha hb => RR_dry hR ha hb
  rw [← cntV_cg hd (cs := (σ 4 1).toNat) (a := (σ 4 0).toNat) (b := 0) (by omega) (by omega) (by omega) (Or.inr rfl)] at h6
  refine ⟨fC_eq h5 h6 (fun a b ha hb => ?_), hR⟩
  show (dryC σ a b = 1 ∧ cntV (dryC σ) (σ 4 1).toNat a b = i) ↔ (dryM σ a b = 1 ∧ cntV (dryM σ) (σ 4 1).toNat a b = i)
  rw [hd a b (by omega) (by omega), cntV_cg hd (by omega) (by omega) (by omega) (Or.inl (by omega))]
theorem pA_near {σ σ1 : Mem} {r : Int} {d : Int} (h5 : σ = σ1 ∧ ((r = -2 ∧ ¬ (1 ≤ d ∧ d ≤ 30)) ∨ ((1 ≤ d ∧ d ≤ 30) ∧ firstP (nearP (bv (σ 4 3)) (σ 25) (σ 26) (d * d)) 24 (-6) r))) : SMM σ σ1 := by
  obtain ⟨rfl, -⟩ := h5
  exact SMM_rf _
set_option maxHeartbeats 4000000 in
theorem pB_near {σ σ1 σ2 : Mem} {r r' : Int} {d : Int} (hR : RR σ) (h5 : σ = σ1 ∧ ((r = -2 ∧ ¬ (1 ≤ d ∧ d ≤ 30)) ∨ ((1 ≤ d ∧ d ≤ 30) ∧ firstP (nearP (bv (σ 4 3)) (σ 25) (σ 26) (d * d)) 24 (-6) r))) (h6 : σ1 = σ2 ∧ ((r' = -2 ∧ ¬ (1 ≤ d ∧ d ≤ 30)) ∨ ((1 ≤ d ∧ d ≤ 30) ∧ firstP (nearP (σ1 54) (σ1 55) (σ1 56) (d * d)) (σ1 28 11).toNat (-6) r'))) : r = r' ∧ RR σ2 := by
  obtain ⟨⟨hS0, hZ, hP, hE, hQ, hB, hF⟩, ⟨l1, l2, l3, l4, l5, l6, l7, l8⟩, lz, lp, lb, lh, lm, lf⟩ := id hR
  have hn := RR_n hR
  obtain ⟨rfl, h5⟩ := h5
  obtain ⟨rfl, h6⟩ := h6
  refine ⟨?_, hR⟩
  rw [l4] at h6
  rcases h5 with ⟨rfl, c5⟩ | ⟨c5, h5⟩ <;> rcases h6 with ⟨rfl, c6⟩ | ⟨c6, h6⟩
  · rfl
  · exact absurd c6 c5
  · exact absurd c5 c6
  · refine fP_eq h5 h6 (fun p hp => ?_) (by omega) (fun p hp hh => ?_)
    · obtain ⟨f1, f2, f3, f4⟩ := lf.2 p hp
      unfold nearP
      rw [f1, f2, f3]
      refine and_congr Iff.rfl ⟨fun ⟨q, q1, q2, q3, q4⟩ => ⟨q, q1, q2, ?_⟩, fun ⟨q, q1, q2, q3, q4⟩ => ⟨q, q1, q2, ?_⟩⟩
      · obtain ⟨g1, g2, g3, g4⟩ := lf.2 q q1
        rw [g1, g2, g3]; exact ⟨q3, q4⟩
      · obtain ⟨g1, g2, g3, g4⟩ := lf.2 q q1
        rw [g1] at q3
        rw [g2, g3] at q4
        exact ⟨q3, q4⟩
    · have := hB.1 p (hF.2.2.2.2.2 p hh.1)
      omega
theorem sm_app (f : Nat → Int) (n : Nat) : ∀ m, sm f (n + m) = sm f n + sm (fun j => f (n + j)) m
  | 0 => by rw [Nat.add_zero, sm]; omega
  | m + 1 => by rw [show n + (m + 1) = n + m + 1 by omega, sm, sm_app f n m, sm]; omega
theorem sm_rows (f : Nat → Int) : ∀ n, sm f (n * 16) = sm (fun i => sm (fun j => f (i * 16 + j)) 16) n
  | 0 => by rw [Nat.zero_mul]; rfl
  | n + 1 => by rw [show (n + 1) * 16 = n * 16 + 16 by omega, sm_app, sm_rows f n]; rfl
theorem ce_op {σ : Mem} (hR : RR σ) : sm (ceM σ) 256 = sm (fun i => sm (opV (σ 24) i) (σ 4 1).toNat) (σ 4 0).toNat := by
  obtain ⟨⟨hS0, hZ, hP, hE, hQ, hB, hF⟩, ⟨l1, l2, l3, l4, l5, l6, l7, l8⟩, lz, lp, lb, lh, lm, lf⟩ := id hR
  have hF1 := hF.1
  have hF2 := hF.2.1
  have e1 := sm_rows (ceM σ) 16
  rw [show 16 * 16 = 256 by rfl] at e1
  rw [e1]
  have e2 : ∀ i, i < 16 → ∀ j, j < 16 → ceM σ (i * 16 + j) = if (i : Int) < σ 4 0 ∧ (j : Int) < σ 4 1 then opV (σ 24) i j else 0 := fun i hi j hj => by
    unfold ceM opV
    rw [lf.1 _ (by omega), l6, l7, show (((i * 16 + j : Nat) : Int) / 16 = i) by omega, show (((i * 16 + j : Nat) : Int) % 16 = j) by omega]
    by_cases q : (i : Int) < σ 4 0 ∧ (j : Int) < σ 4 1
    · rw [if_pos q]
      by_cases q2 : σ 24 (i * 16 + j) = 0
      · rw [if_pos ⟨q, q2⟩, if_pos q2]
      · rw [if_neg (fun z => q2 z.2), if_neg q2]
    · rw [if_neg (fun z => q z.1), if_neg q]
  have e3 := sm_ext (f := fun i => sm (fun j => ceM σ (i * 16 + j)) 16) (n := (σ 4 0).toNat) (16 - (σ 4 0).toNat) (fun k h1 h2 => sm_0 (fun j hj => by rw [e2 k (by omega) j hj, if_neg (by omega)]))
  rw [show (σ 4 0).toNat + (16 - (σ 4 0).toNat) = 16 by omega] at e3
  rw [e3]
  refine sm_cong (fun i hi => ?_)
  have e4 := sm_ext (f := fun j => ceM σ (i * 16 + j)) (n := (σ 4 1).toNat) (16 - (σ 4 1).toNat) (fun k h1 h2 => by
    show ceM σ (i * 16 + k) = 0
    rw [e2 i (by omega) k (by omega), if_neg (by omega)])
  rw [show (σ 4 1).toNat + (16 - (σ 4 1).toNat) = 16 by omega] at e4
  rw [e4]
  refine sm_cong (fun j hj => ?_)
  show ceM σ (i * 16 + j) = _
  rw [e2 i (by omega) j (by omega), if_pos (by omega)]
theorem pA_told {σ σ1 : Mem} {r : Int} {w : Int} (h5 : σ = σ1 ∧ (w < 0 ∨ 9 < w → r = -2) ∧ (w = 0 → r = σ 1 1) ∧ (w = 1 → r = σ 1 4) ∧ (w = 2 → r = (pop (σ 1 12).toNat : Int)) ∧ (w = 3 → r = (pop (σ 1 13).toNat : Int)) ∧ (w = 4 → r = σ 0 5) ∧ (w = 5 → r = (pop (σ 1 11).toNat : Int)) ∧ (w = 6 → r = (pop (σ 4 3).toNat : Int)) ∧ (w = 7 → r = sm (fun i => sm (opV (σ 24) i) (σ 4 1).toNat) (σ 4 0).toNat) ∧ (w = 8 → r = σ 4 0) ∧ (w = 9 → r = σ 4 1)) : SMM σ σ1 := by
  obtain ⟨rfl, -⟩ := h5
  exact SMM_rf _
set_option maxHeartbeats 4000000 in
theorem pB_told {σ σ1 σ2 : Mem} {r r' : Int} {w : Int} (hR : RR σ) (h5 : σ = σ1 ∧ (w < 0 ∨ 9 < w → r = -2) ∧ (w = 0 → r = σ 1 1) ∧ (w = 1 → r = σ 1 4) ∧ (w = 2 → r = (pop (σ 1 12).toNat : Int)) ∧ (w = 3 → r = (pop (σ 1 13).toNat : Int)) ∧ (w = 4 → r = σ 0 5) ∧ (w = 5 → r = (pop (σ 1 11).toNat : Int)) ∧ (w = 6 → r = (pop (σ 4 3).toNat : Int)) ∧ (w = 7 → r = sm (fun i => sm (opV (σ 24) i) (σ 4 1).toNat) (σ 4 0).toNat) ∧ (w = 8 → r = σ 4 0) ∧ (w = 9 → r = σ 4 1)) (h6 : σ1 = σ2 ∧ (w < 0 ∨ 9 < w → r' = -2) ∧ (w = 0 → r' = σ1 28 4) ∧ (w = 1 → r' = σ1 28 11) ∧ (w = 2 → r' = sm (σ1 37) (σ1 28 11).toNat) ∧ (w = 3 → r' = sm (opM σ1) (σ1 28 11).toNat) ∧ (w = 4 → r' = σ1 28 25) ∧ (w = 5 → r' = sm (σ1 36) (σ1 28 11).toNat) ∧ (w = 6 → r' = sm (σ1 54) (σ1 28 11).toNat) ∧ (w = 7 → r' = sm (ceM σ1) 256) ∧ (w = 8 → r' = σ1 28 29) ∧ (w = 9 → r' = σ1 28 30)) : r = r' ∧ RR σ2 := by
  obtain ⟨⟨hS0, hZ, hP, hE, hQ, hB, hF⟩, ⟨l1, l2, l3, l4, l5, l6, l7, l8⟩, lz, lp, lb, lh, lm, lf⟩ := id hR
  have hn := RR_n hR
  obtain ⟨rfl, x, x0, x1, x2, x3, x4, x5, x6, x7, x8, x9⟩ := h5
  obtain ⟨rfl, y, y0, y1, y2, y3, y4, y5, y6, y7, y8, y9⟩ := h6
  rw [l4] at y1 y2 y3 y5 y6
  refine ⟨?_, hR⟩
  rcases (show (w < 0 ∨ 9 < w) ∨ w = 0 ∨ w = 1 ∨ w = 2 ∨ w = 3 ∨ w = 4 ∨ w = 5 ∨ w = 6 ∨ w = 7 ∨ w = 8 ∨ w = 9 by omega) with e | e | e | e | e | e | e | e | e | e | e
  · rw [x e, y e]
  · rw [x0 e, y0 e, l3]
  · rw [x1 e, y1 e]
  · rw [x2 e, y2 e, pop_n (n := (σ 1 4).toNat) (by omega) (fun q hq => by have := hB.1 q hq; omega)]
    exact sm_cong (fun q hq => (lb q (by omega)).2.2.1.symm)
  · rw [x3 e, y3 e, pop_n (n := (σ 1 4).toNat) (by omega) (fun q hq => by have := hB.1 q (hB.2.1 q hq); omega)]
    exact sm_cong (fun q hq => RR_op hR (by omega))
  · rw [x4 e, y4 e, l5]
  · rw [x5 e, y5 e, pop_n (n := (σ 1 4).toNat) (by omega) (fun q hq => by have := hB.2.2.2.1 q hq; omega)]
    exact sm_cong (fun q hq => (lb q (by omega)).2.1.symm)
  · rw [x6 e, y6 e, pop_n (n := (σ 1 4).toNat) (by omega) (fun q hq => by have := hB.1 q (hF.2.2.2.2.2 q hq); omega)]
    exact sm_cong (fun q hq => (lf.2 q (by omega)).1.symm)
  · rw [x7 e, y7 e, ce_op hR]
  · rw [x8 e, y8 e, l6]
  · rw [x9 e, y9 e, l7]
