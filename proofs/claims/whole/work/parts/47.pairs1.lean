theorem RR_scr {σ σ1 σ2 : Mem} (h : RR σ) (h1 : SC σ σ1) (h2 : SM σ1 σ2) : RR σ2 := by
  obtain ⟨G, P, rfl⟩ := h1
  obtain ⟨F, rfl⟩ := h2
  exact h
theorem opq {σ σ1 : Mem} (hs : SMM σ σ1) : σ1 28 = σ 28 ∧ σ1 29 = σ 29 ∧ σ1 30 = σ 30 ∧ σ1 31 = σ 31 ∧ σ1 32 = σ 32 ∧ σ1 33 = σ 33 ∧ σ1 34 = σ 34 ∧ σ1 35 = σ 35 ∧ σ1 36 = σ 36 ∧ σ1 37 = σ 37 ∧ σ1 38 = σ 38 ∧ σ1 39 = σ 39 ∧ σ1 40 = σ 40 ∧ σ1 41 = σ 41 ∧ σ1 49 = σ 49 ∧ σ1 53 = σ 53 ∧ σ1 54 = σ 54 ∧ σ1 55 = σ 55 ∧ σ1 56 = σ 56 ∧ σ1 57 = σ 57 :=
  ⟨hs 28 (by decide), hs 29 (by decide), hs 30 (by decide), hs 31 (by decide), hs 32 (by decide), hs 33 (by decide), hs 34 (by decide), hs 35 (by decide), hs 36 (by decide), hs 37 (by decide), hs 38 (by decide), hs 39 (by decide), hs 40 (by decide), hs 41 (by decide), hs 49 (by decide), hs 53 (by decide), hs 54 (by decide), hs 55 (by decide), hs 56 (by decide), hs 57 (by decide)⟩
theorem pA_supply {σ σ1 : Mem} {r : Int} {p d : Int} (h5 : (r = -2 ∧ σ = σ1 ∧ ¬ ((1 ≤ p ∧ p ≤ 100000) ∧ (0 ≤ d ∧ d ≤ 4000))) ∨ (r = 1 ∧ up (up σ 1 0 p) 12 0 d = σ1 ∧ (1 ≤ p ∧ p ≤ 100000) ∧ (0 ≤ d ∧ d ≤ 4000))) : SMM σ σ1 := by
  rcases h5 with ⟨-, rfl, -⟩ | ⟨-, rfl, -⟩
  · exact SMM_rf _
  · exact SMM_up (SMM_up (SMM_rf _) (by decide) _ _) (by decide) _ _
set_option maxHeartbeats 4000000 in
theorem pB_supply {σ σ1 σ2 : Mem} {r r' : Int} {p d : Int} (hR : RR σ) (h5 : (r = -2 ∧ σ = σ1 ∧ ¬ ((1 ≤ p ∧ p ≤ 100000) ∧ (0 ≤ d ∧ d ≤ 4000))) ∨ (r = 1 ∧ up (up σ 1 0 p) 12 0 d = σ1 ∧ (1 ≤ p ∧ p ≤ 100000) ∧ (0 ≤ d ∧ d ≤ 4000))) (h6 : (r' = -2 ∧ σ1 = σ2 ∧ ¬ ((1 ≤ p ∧ p ≤ 100000) ∧ (0 ≤ d ∧ d ≤ 4000))) ∨ (r' = 1 ∧ up (up σ1 28 0 p) 28 1 d = σ2 ∧ (1 ≤ p ∧ p ≤ 100000) ∧ (0 ≤ d ∧ d ≤ 4000))) : r = r' ∧ RR σ2 := by
  obtain ⟨⟨hS0, hZ, hP, hE, hQ, hB, hF⟩, ⟨l1, l2, l3, l4, l5, l6, l7, l8⟩, lz, lp, lb, lh, lm, lf⟩ := id hR
  obtain ⟨i1, i2, i3, i4, i5, i6, i7, i8⟩ := id hS0
  rcases h5 with ⟨rfl, rfl, c5⟩ | ⟨rfl, rfl, c5, d5⟩ <;> rcases h6 with ⟨rfl, rfl, c6⟩ | ⟨rfl, rfl, c6, d6⟩
  · exact ⟨rfl, hR⟩
  · exfalso; omega
  · exfalso; omega
  · refine ⟨rfl, ⟨⟨c5, i2, i3, i4, i5, i6, i7, i8⟩, hZ, hP, fun e he => ⟨(hE e he).1, ?_⟩, fun q hq => ⟨(hQ q hq).1, (hQ q hq).2.1, ?_⟩, hB, hF⟩, ⟨rfl, rfl, l3, l4, l5, l6, l7, l8⟩, lz, lp, lb, lh, lm, lf⟩
    · show 0 ≤ (if e = 0 then d else σ 12 e) ∧ (if e = 0 then d else σ 12 e) ≤ 4000
      have := (hE e he).2
      split <;> omega
    · show (if q + 1 = 0 then d else σ 12 (q + 1)) = _
      rw [if_neg (by omega)]
      exact (hQ q hq).2.2
theorem pA_size {σ σ1 : Mem} {r : Int} {d p : Int} (h5 : (r = -2 ∧ σ = σ1 ∧ ¬ ((1 ≤ d ∧ d ≤ 400) ∧ (1 ≤ p ∧ p ≤ 1000))) ∨ (r = -4 ∧ σ = σ1 ∧ ((1 ≤ d ∧ d ≤ 400) ∧ (1 ≤ p ∧ p ≤ 1000)) ∧ σ 1 1 = 6) ∨ (r = σ 1 1 ∧ up (up (up σ 6 (σ 1 1).toNat d) 7 (σ 1 1).toNat p) 1 1 (σ 1 1 + 1) = σ1 ∧ ((1 ≤ d ∧ d ≤ 400) ∧ (1 ≤ p ∧ p ≤ 1000)) ∧ σ 1 1 < 6)) : SMM σ σ1 := by
  rcases h5 with ⟨-, rfl, -⟩ | ⟨-, rfl, -⟩ | ⟨-, rfl, -⟩
  · exact SMM_rf _
  · exact SMM_rf _
  · exact SMM_up (SMM_up (SMM_up (SMM_rf _) (by decide) _ _) (by decide) _ _) (by decide) _ _
set_option maxHeartbeats 4000000 in
theorem pB_size {σ σ1 σ2 : Mem} {r r' : Int} {d p : Int} (hR : RR σ) (h5 : (r = -2 ∧ σ = σ1 ∧ ¬ ((1 ≤ d ∧ d ≤ 400) ∧ (1 ≤ p ∧ p ≤ 1000))) ∨ (r = -4 ∧ σ = σ1 ∧ ((1 ≤ d ∧ d ≤ 400) ∧ (1 ≤ p ∧ p ≤ 1000)) ∧ σ 1 1 = 6) ∨ (r = σ 1 1 ∧ up (up (up σ 6 (σ 1 1).toNat d) 7 (σ 1 1).toNat p) 1 1 (σ 1 1 + 1) = σ1 ∧ ((1 ≤ d ∧ d ≤ 400) ∧ (1 ≤ p ∧ p ≤ 1000)) ∧ σ 1 1 < 6)) (h6 : (r' = -2 ∧ σ1 = σ2 ∧ ¬ ((1 ≤ d ∧ d ≤ 400) ∧ (1 ≤ p ∧ p ≤ 1000))) ∨ (r' = -4 ∧ σ1 = σ2 ∧ ((1 ≤ d ∧ d ≤ 400) ∧ (1 ≤ p ∧ p ≤ 1000)) ∧ σ1 28 4 = 6) ∨ (r' = σ1 28 4 ∧ up (up (up σ1 29 (σ1 28 4).toNat d) 30 (σ1 28 4).toNat p) 28 4 (σ1 28 4 + 1) = σ2 ∧ ((1 ≤ d ∧ d ≤ 400) ∧ (1 ≤ p ∧ p ≤ 1000)) ∧ σ1 28 4 < 6)) : r = r' ∧ RR σ2 := by
  obtain ⟨⟨hS0, hZ, hP, hE, hQ, hB, hF⟩, ⟨l1, l2, l3, l4, l5, l6, l7, l8⟩, lz, lp, lb, lh, lm, lf⟩ := id hR
  obtain ⟨i1, i2, i3, i4, i5, i6, i7, i8⟩ := id hS0
  have hs := pA_size h5
  obtain ⟨e28, -⟩ := opq hs
  rw [e28, l3] at h6
  rcases h5 with ⟨rfl, rfl, c5⟩ | ⟨rfl, rfl, c5, d5⟩ | ⟨rfl, rfl, c5, d5⟩ <;> rcases h6 with ⟨rfl, rfl, c6⟩ | ⟨rfl, rfl, c6, d6⟩ | ⟨rfl, rfl, c6, d6⟩
  · exact ⟨rfl, hR⟩
  · exfalso; omega
  · exfalso; omega
  · exfalso; omega
  · exact ⟨rfl, hR⟩
  · exfalso; omega
  · exfalso; omega
  · exfalso; omega
  · refine ⟨rfl, ⟨⟨i1, ?_, i3, i4, i5, i6, i7, i8⟩, fun i hi => ⟨?_, ?_, (hZ i hi).2.2⟩, hP, hE, fun q hq => ⟨(hQ q hq).1, ?_, ?_⟩, hB, hF⟩, ⟨l1, l2, rfl, l4, l5, l6, l7, l8⟩, fun i hi => ⟨?_, ?_⟩, lp, lb, lh, lm, lf⟩
    · show 0 ≤ σ 1 1 + 1 ∧ σ 1 1 + 1 ≤ 6
      omega
    · show 0 ≤ (if i = (σ 1 1).toNat then d else σ 6 i) ∧ (if i = (σ 1 1).toNat then d else σ 6 i) ≤ 400
      have := (hZ i hi).1
      split <;> omega
    · show 0 ≤ (if i = (σ 1 1).toNat then p else σ 7 i) ∧ (if i = (σ 1 1).toNat then p else σ 7 i) ≤ 1000
      have := (hZ i hi).2.1
      split <;> omega
    · show σ 10 q < σ 1 1 + 1
      have := (hQ q hq).2.1
      omega
    · show σ 12 (q + 1) = σ 9 q * (if (σ 10 q).toNat = (σ 1 1).toNat then d else σ 6 (σ 10 q).toNat)
      have hq' : (q : Int) < σ 1 4 := hq
      have h1 := (hQ q hq).2.1
      have h2 := (hP q (by omega)).2.2.1
      rw [if_neg (by omega)]
      exact (hQ q hq).2.2
    · show (if i = (σ 1 1).toNat then d else σ 29 i) = if i = (σ 1 1).toNat then d else σ 6 i
      rw [(lz i hi).1]
    · show (if i = (σ 1 1).toNat then p else σ 30 i) = if i = (σ 1 1).toNat then p else σ 7 i
      rw [(lz i hi).2]
theorem pA_pipe {σ σ1 : Mem} {r : Int} {f l z : Int} (h5 : (r = -1 ∧ σ = σ1 ∧ ¬ ((-1 ≤ f ∧ f < σ 1 4) ∧ (0 ≤ z ∧ z < σ 1 1))) ∨ (r = -2 ∧ σ = σ1 ∧ ((-1 ≤ f ∧ f < σ 1 4) ∧ (0 ≤ z ∧ z < σ 1 1)) ∧ ¬ (1 ≤ l ∧ l ≤ 10)) ∨ (r = -4 ∧ σ = σ1 ∧ ((-1 ≤ f ∧ f < σ 1 4) ∧ (0 ≤ z ∧ z < σ 1 1)) ∧ (1 ≤ l ∧ l ≤ 10) ∧ σ 1 4 = 24) ∨ (r = -5 ∧ σ = σ1 ∧ ((-1 ≤ f ∧ f < σ 1 4) ∧ (0 ≤ z ∧ z < σ 1 1)) ∧ (1 ≤ l ∧ l ≤ 10) ∧ σ 1 4 < 24 ∧ σ 11 (f + 1).toNat = 8) ∨ (r = σ 1 4 ∧ up (up (up (up (up (up σ 8 (σ 1 4).toNat f) 9 (σ 1 4).toNat l) 11 ((σ 1 4).toNat + 1) (σ 11 (f + 1).toNat + 1)) 10 (σ 1 4).toNat z) 12 ((σ 1 4).toNat + 1) (l * σ 6 z.toNat)) 1 4 (σ 1 4 + 1) = σ1 ∧ ((-1 ≤ f ∧ f < σ 1 4) ∧ (0 ≤ z ∧ z < σ 1 1)) ∧ (1 ≤ l ∧ l ≤ 10) ∧ σ 1 4 < 24 ∧ σ 11 (f + 1).toNat < 8)) : SMM σ σ1 := by
  rcases h5 with ⟨-, rfl, -⟩ | ⟨-, rfl, -⟩ | ⟨-, rfl, -⟩ | ⟨-, rfl, -⟩ | ⟨-, rfl, -⟩
  · exact SMM_rf _
  · exact SMM_rf _
  · exact SMM_rf _
  · exact SMM_rf _
  · exact SMM_up (SMM_up (SMM_up (SMM_up (SMM_up (SMM_up (SMM_rf _) (by decide) _ _) (by decide) _ _) (by decide) _ _) (by decide) _ _) (by decide) _ _) (by decide) _ _
set_option maxHeartbeats 4000000 in
theorem pB_pipe {σ σ1 σ2 : Mem} {r r' : Int} {f l z : Int} (hR : RR σ) (h5 : (r = -1 ∧ σ = σ1 ∧ ¬ ((-1 ≤ f ∧ f < σ 1 4) ∧ (0 ≤ z ∧ z < σ 1 1))) ∨ (r = -2 ∧ σ = σ1 ∧ ((-1 ≤ f ∧ f < σ 1 4) ∧ (0 ≤ z ∧ z < σ 1 1)) ∧ ¬ (1 ≤ l ∧ l ≤ 10)) ∨ (r = -4 ∧ σ = σ1 ∧ ((-1 ≤ f ∧ f < σ 1 4) ∧ (0 ≤ z ∧ z < σ 1 1)) ∧ (1 ≤ l ∧ l ≤ 10) ∧ σ 1 4 = 24) ∨ (r = -5 ∧ σ = σ1 ∧ ((-1 ≤ f ∧ f < σ 1 4) ∧ (0 ≤ z ∧ z < σ 1 1)) ∧ (1 ≤ l ∧ l ≤ 10) ∧ σ 1 4 < 24 ∧ σ 11 (f + 1).toNat = 8) ∨ (r = σ 1 4 ∧ up (up (up (up (up (up σ 8 (σ 1 4).toNat f) 9 (σ 1 4).toNat l) 11 ((σ 1 4).toNat + 1) (σ 11 (f + 1).toNat + 1)) 10 (σ 1 4).toNat z) 12 ((σ 1 4).toNat + 1) (l * σ 6 z.toNat)) 1 4 (σ 1 4 + 1) = σ1 ∧ ((-1 ≤ f ∧ f < σ 1 4) ∧ (0 ≤ z ∧ z < σ 1 1)) ∧ (1 ≤ l ∧ l ≤ 10) ∧ σ 1 4 < 24 ∧ σ 11 (f + 1).toNat < 8)) (h6 : (r' = -1 ∧ σ1 = σ2 ∧ ¬ ((-1 ≤ f ∧ f < σ1 28 11) ∧ (0 ≤ z ∧ z < σ1 28 4))) ∨ (r' = -2 ∧ σ1 = σ2 ∧ ((-1 ≤ f ∧ f < σ1 28 11) ∧ (0 ≤ z ∧ z < σ1 28 4)) ∧ ¬ (1 ≤ l ∧ l ≤ 10)) ∨ (r' = -4 ∧ σ1 = σ2 ∧ ((-1 ≤ f ∧ f < σ1 28 11) ∧ (0 ≤ z ∧ z < σ1 28 4)) ∧ (1 ≤ l ∧ l ≤ 10) ∧ σ1 28 11 = 24) ∨ (r' = -5 ∧ σ1 = σ2 ∧ ((-1 ≤ f ∧ f < σ1 28 11) ∧ (0 ≤ z ∧ z < σ1 28 4)) ∧ (1 ≤ l ∧ l ≤ 10) ∧ σ1 28 11 < 24 ∧ (0 ≤ f ∧ σ1 34 f.toNat = 8)) ∨ (r' = σ1 28 11 ∧ up (up (up (up (up σ1 31 (σ1 28 11).toNat f) 32 (σ1 28 11).toNat l) 33 (σ1 28 11).toNat z) 34 (σ1 28 11).toNat (if f < 0 then 1 else σ1 34 f.toNat + 1)) 28 11 (σ1 28 11 + 1) = σ2 ∧ ((-1 ≤ f ∧ f < σ1 28 11) ∧ (0 ≤ z ∧ z < σ1 28 4)) ∧ (1 ≤ l ∧ l ≤ 10) ∧ σ1 28 11 < 24 ∧ ¬ (0 ≤ f ∧ σ1 34 f.toNat = 8))) : r = r' ∧ RR σ2 := by
  obtain ⟨⟨hS0, hZ, hP, hE, hQ, hB, hF⟩, ⟨l1, l2, l3, l4, l5, l6, l7, l8⟩, lz, lp, lb, lh, lm, lf⟩ := id hR
  obtain ⟨i1, i2, i3, i4, i5, i6, i7, i8⟩ := id hS0
  have hs := pA_pipe h5
  obtain ⟨e28, e29, e30, e31, e32, e33, e34, -⟩ := opq hs
  rw [e28, e34, l3, l4] at h6
  have k1 : -1 ≤ f ∧ f < σ 1 4 → (if f < 0 then 1 else σ 34 f.toNat + 1) = σ 11 (f + 1).toNat + 1 := fun q => by
    by_cases q2 : f < 0
    · rw [if_pos q2, show (f + 1).toNat = 0 by omega, l8]; rfl
    · rw [if_neg q2, (lp f.toNat (by omega)).2.2.2, show (f + 1).toNat = f.toNat + 1 by omega]
  have k2 : -1 ≤ f ∧ f < σ 1 4 → (0 ≤ f ∧ σ 34 f.toNat = 8 ↔ σ 11 (f + 1).toNat = 8) := fun q => by
    by_cases q2 : f < 0
    · rw [show (f + 1).toNat = 0 by omega, l8]; omega
    · rw [(lp f.toNat (by omega)).2.2.2, show (f + 1).toNat = f.toNat + 1 by omega]; omega
  rcases h5 with ⟨rfl, rfl, c5⟩ | ⟨rfl, rfl, c5, d5⟩ | ⟨rfl, rfl, c5, d5, f5⟩ | ⟨rfl, rfl, c5, d5, f5, g5⟩ | ⟨rfl, rfl, c5, d5, f5, g5⟩
  · rcases h6 with ⟨rfl, rfl, c6⟩ | ⟨rfl, rfl, c6, d6⟩ | ⟨rfl, rfl, c6, d6, f6⟩ | ⟨rfl, rfl, c6, d6, f6, g6⟩ | ⟨rfl, rfl, c6, d6, f6, g6⟩ <;> first | exact ⟨rfl, hR⟩ | (exfalso; omega)
  · rcases h6 with ⟨rfl, rfl, c6⟩ | ⟨rfl, rfl, c6, d6⟩ | ⟨rfl, rfl, c6, d6, f6⟩ | ⟨rfl, rfl, c6, d6, f6, g6⟩ | ⟨rfl, rfl, c6, d6, f6, g6⟩ <;> first | exact ⟨rfl, hR⟩ | (exfalso; omega)
  · rcases h6 with ⟨rfl, rfl, c6⟩ | ⟨rfl, rfl, c6, d6⟩ | ⟨rfl, rfl, c6, d6, f6⟩ | ⟨rfl, rfl, c6, d6, f6, g6⟩ | ⟨rfl, rfl, c6, d6, f6, g6⟩ <;> first | exact ⟨rfl, hR⟩ | (exfalso; omega)
  · rcases h6 with ⟨rfl, rfl, c6⟩ | ⟨rfl, rfl, c6, d6⟩ | ⟨rfl, rfl, c6, d6, f6⟩ | ⟨rfl, rfl, c6, d6, f6, g6⟩ | ⟨rfl, rfl, c6, d6, f6, g6⟩
    · exfalso; omega
    · exfalso; omega
    · exfalso; omega
    · exact ⟨rfl, hR⟩
    · exfalso; exact g6 ((k2 c5.1).mpr g5)
  · rcases h6 with ⟨rfl, rfl, c6⟩ | ⟨rfl, rfl, c6, d6⟩ | ⟨rfl, rfl, c6, d6, f6⟩ | ⟨rfl, rfl, c6, d6, f6, g6⟩ | ⟨rfl, h62, c6, d6, f6, g6⟩
    · exfalso; omega
    · exfalso; omega
    · exfalso; omega
    · exfalso; have := (k2 c5.1).mp g6; omega
    · rw [k1 c5.1] at h62
      obtain ⟨n, hn⟩ : ∃ n : Nat, σ 1 4 = (n : Int) := ⟨(σ 1 4).toNat, by omega⟩
      have hn2 : (σ 1 4).toNat = n := by omega
      rw [hn2] at h62
      subst h62
      have hz9 := (hZ z.toNat (by omega)).1
      have hl9 := ml_rng (l := l) (d := σ 6 z.toNat) (B := 400) (C := 4000) (by omega) hz9 rfl
      have hst : 0 ≤ σ 11 (f + 1).toNat := (hE (f + 1).toNat (by omega)).1.1
      refine ⟨rfl, ⟨⟨i1, i2, ?_, i4, i5, i6, i7, i8⟩, hZ, fun q hq => ⟨?_, ?_, ?_, (hP q hq).2.2.2⟩, fun e he => ⟨?_, ?_⟩, fun q hq => ⟨?_, ?_, ?_⟩, ⟨fun q hq => ?_, hB.2.1, fun q hq => ?_, fun q hq => ?_, hB.2.2.2.2⟩, hF⟩, ⟨l1, l2, l3, rfl, l5, l6, l7, l8⟩, lz, fun q hq => ⟨?_, ?_, ?_, ?_⟩, lb, lh, lm, lf⟩
      · show 0 ≤ σ 1 4 + 1 ∧ σ 1 4 + 1 ≤ 24
        omega
      · show -1 ≤ (if q = n then f else σ 8 q) ∧ (if q = n then f else σ 8 q) ≤ 23
        have := (hP q hq).1
        split <;> omega
      · show 0 ≤ (if q = n then l else σ 9 q) ∧ (if q = n then l else σ 9 q) ≤ 10
        have := (hP q hq).2.1
        split <;> omega
      · show 0 ≤ (if q = n then z else σ 10 q) ∧ (if q = n then z else σ 10 q) ≤ 5
        have := (hP q hq).2.2.1
        split <;> omega
      · show 0 ≤ (if e = n + 1 then σ 11 (f + 1).toNat + 1 else σ 11 e) ∧ (if e = n + 1 then σ 11 (f + 1).toNat + 1 else σ 11 e) ≤ 8
        have := (hE e he).1
        split <;> omega
      · show 0 ≤ (if e = n + 1 then l * σ 6 z.toNat else σ 12 e) ∧ (if e = n + 1 then l * σ 6 z.toNat else σ 12 e) ≤ 4000
        have := (hE e he).2
        split <;> omega
      · have hq : (q : Int) < σ 1 4 + 1 := hq
        show (if q = n then f else σ 8 q) < q
        by_cases e : q = n
        · rw [if_pos e]; omega
        · rw [if_neg e]; exact (hQ q (by omega)).1
      · have hq : (q : Int) < σ 1 4 + 1 := hq
        show (if q = n then z else σ 10 q) < σ 1 1
        by_cases e : q = n
        · rw [if_pos e]; omega
        · rw [if_neg e]; exact (hQ q (by omega)).2.1
      · have hq : (q : Int) < σ 1 4 + 1 := hq
        show (if q + 1 = n + 1 then l * σ 6 z.toNat else σ 12 (q + 1)) = (if q = n then l else σ 9 q) * σ 6 (if q = n then z else σ 10 q).toNat
        by_cases e : q = n
        · rw [if_pos e, if_pos e, if_pos (by omega)]
        · rw [if_neg e, if_neg e, if_neg (by omega)]; exact (hQ q (by omega)).2.2
      · have := hB.1 q hq
        show (q : Int) < σ 1 4 + 1
        omega
      · have := hB.2.2.1 q hq
        show (q : Int) < σ 1 4 + 1
        omega
      · have := hB.2.2.2.1 q hq
        show (q : Int) < σ 1 4 + 1
        omega
      · show (if q = n then f else σ 31 q) = if q = n then f else σ 8 q
        rw [(lp q hq).1]
      · show (if q = n then l else σ 32 q) = if q = n then l else σ 9 q
        rw [(lp q hq).2.1]
      · show (if q = n then z else σ 33 q) = if q = n then z else σ 10 q
        rw [(lp q hq).2.2.1]
      · show (if q = n then σ 11 (f + 1).toNat + 1 else σ 34 q) = if q + 1 = n + 1 then σ 11 (f + 1).toNat + 1 else σ 11 (q + 1)
        rw [(lp q hq).2.2.2]
        by_cases e : q = n
        · rw [if_pos e, if_pos (by omega)]
        · rw [if_neg e, if_neg (by omega)]
