theorem sm_st {f : Nat → Int} {p : Nat} {v : Int} : ∀ n, sm (st f p v) n = sm f n + if p < n then v - f p else 0
  | 0 => by simp [sm]
  | n + 1 => by
    rw [sm, sm, sm_st n, st_at]
    by_cases h1 : n = p
    · subst h1
      rw [if_pos rfl, if_neg (by omega), if_pos (by omega)]; omega
    · rw [if_neg h1]
      by_cases h2 : p < n
      · rw [if_pos h2, if_pos (by omega)]; omega
      · rw [if_neg h2, if_neg (by omega)]; omega
theorem bv_st {b v : Int} {i : Nat} (hb : 0 ≤ b ∧ b < 16777216) (hi : i < 24) (hv : v = 0 ∨ v = 1) : bv (wb b i v) = st (bv b) i v := by
  funext j
  rw [bv_wb hb hi hv, st_at]
theorem pop_n {b : Int} {n : Nat} (hn : n ≤ 24) (h : ∀ q, bv b q = 1 → q < n) : (pop b.toNat : Int) = sm (bv b) n := by
  rw [pop_sm]
  have := sm_ext (f := bv b) (n := n) (24 - n) (fun k h1 h2 => by
    rcases bv_01 b k with q | q
    · exact q
    · have := h k q; omega)
  rw [show n + (24 - n) = 24 by omega] at this
  exact this
theorem pA_head {σ σ1 : Mem} {r : Int} {p f n : Int} (h5 : (r = -1 ∧ σ = σ1 ∧ ¬ (0 ≤ p ∧ p < σ 1 4)) ∨ (r = -2 ∧ σ = σ1 ∧ (0 ≤ p ∧ p < σ 1 4) ∧ ¬ ((1 ≤ f ∧ f ≤ 200) ∧ (0 ≤ n ∧ n ≤ 30000))) ∨ (r = 1 ∧ up (up (up (up (up σ 1 12 (wb (σ 1 12) p.toNat 1)) 1 13 (wb (σ 1 13) p.toNat 0)) 13 p.toNat f) 14 p.toNat n) 15 p.toNat 0 = σ1 ∧ (0 ≤ p ∧ p < σ 1 4) ∧ ((1 ≤ f ∧ f ≤ 200) ∧ (0 ≤ n ∧ n ≤ 30000)))) : SMM σ σ1 := by
  rcases h5 with ⟨-, rfl, -⟩ | ⟨-, rfl, -⟩ | ⟨-, rfl, -⟩
  · exact SMM_rf _
  · exact SMM_rf _
  · exact SMM_up (SMM_up (SMM_up (SMM_up (SMM_up (SMM_rf _) (by decide) _ _) (by decide) _ _) (by decide) _ _) (by decide) _ _) (by decide) _ _
set_option maxHeartbeats 4000000 in
theorem pB_head {σ σ1 σ2 : Mem} {r r' : Int} {p f n : Int} (hR : RR σ) (h5 : (r = -1 ∧ σ = σ1 ∧ ¬ (0 ≤ p ∧ p < σ 1 4)) ∨ (r = -2 ∧ σ = σ1 ∧ (0 ≤ p ∧ p < σ 1 4) ∧ ¬ ((1 ≤ f ∧ f ≤ 200) ∧ (0 ≤ n ∧ n ≤ 30000))) ∨ (r = 1 ∧ up (up (up (up (up σ 1 12 (wb (σ 1 12) p.toNat 1)) 1 13 (wb (σ 1 13) p.toNat 0)) 13 p.toNat f) 14 p.toNat n) 15 p.toNat 0 = σ1 ∧ (0 ≤ p ∧ p < σ 1 4) ∧ ((1 ≤ f ∧ f ≤ 200) ∧ (0 ≤ n ∧ n ≤ 30000)))) (h6 : (r' = -1 ∧ σ1 = σ2 ∧ ¬ (0 ≤ p ∧ p < σ1 28 11)) ∨ (r' = -2 ∧ σ1 = σ2 ∧ (0 ≤ p ∧ p < σ1 28 11) ∧ ¬ ((1 ≤ f ∧ f ≤ 200) ∧ (0 ≤ n ∧ n ≤ 30000))) ∨ (r' = 1 ∧ up (up (up (up (up σ1 37 p.toNat 1) 38 p.toNat f) 39 p.toNat n) 40 p.toNat 0) 41 p.toNat 0 = σ2 ∧ (0 ≤ p ∧ p < σ1 28 11) ∧ ((1 ≤ f ∧ f ≤ 200) ∧ (0 ≤ n ∧ n ≤ 30000)))) : r = r' ∧ RR σ2 := by
  obtain ⟨⟨hS0, hZ, hP, hE, hQ, hB, hF⟩, ⟨l1, l2, l3, l4, l5, l6, l7, l8⟩, lz, lp, lb, lh, lm, lf⟩ := id hR
  obtain ⟨i1, i2, i3, i4, i5, i6, i7, i8⟩ := id hS0
  have hs := pA_head h5
  obtain ⟨e28, -⟩ := opq hs
  rw [e28, l4] at h6
  rcases h5 with ⟨rfl, rfl, c5⟩ | ⟨rfl, rfl, c5, d5⟩ | ⟨rfl, rfl, c5, d5⟩
  · rcases h6 with ⟨rfl, rfl, c6⟩ | ⟨rfl, rfl, c6, d6⟩ | ⟨rfl, rfl, c6, d6⟩ <;> first | exact ⟨rfl, hR⟩ | (exfalso; omega)
  · rcases h6 with ⟨rfl, rfl, c6⟩ | ⟨rfl, rfl, c6, d6⟩ | ⟨rfl, rfl, c6, d6⟩ <;> first | exact ⟨rfl, hR⟩ | (exfalso; omega)
  · rcases h6 with ⟨rfl, rfl, c6⟩ | ⟨rfl, rfl, c6, d6⟩ | ⟨rfl, h62, c6, d6⟩
    · exfalso; omega
    · exfalso; omega
    · obtain ⟨q0, hq0⟩ : ∃ q0 : Nat, p = (q0 : Int) := ⟨p.toNat, by omega⟩
      have hq1 : p.toNat = q0 := by omega
      rw [hq1] at h62
      subst h62
      have b12 := bv_wb (v := 1) i6 (show q0 < 24 by omega) (by omega)
      have b13 := bv_wb (v := 0) i7 (show q0 < 24 by omega) (by omega)
      have w12 := wb_rng (v := 1) i6 (show q0 < 24 by omega)
      have w13 := wb_rng (v := 0) i7 (show q0 < 24 by omega)
      have key : ∀ q, bv (σ 1 12) q = 1 → bv (wb (σ 1 12) q0 1) q = 1 := fun q hq => by
        rw [b12]
        by_cases e : q = q0
        · rw [if_pos e]
        · rw [if_neg e]; exact hq
      refine ⟨rfl, ⟨⟨i1, i2, i3, i4, i5, w12, w13, i8⟩, hZ, fun q hq => ⟨(hP q hq).1, (hP q hq).2.1, (hP q hq).2.2.1, ?_, ?_, ?_⟩, hE, hQ, ⟨fun q hq => ?_, fun q hq => ?_, hB.2.2.1, hB.2.2.2.1, hB.2.2.2.2.1, fun h q hh hq => key q (hB.2.2.2.2.2.1 h q hh hq), fun q hq hz => ?_⟩, ⟨hF.1, hF.2.1, hF.2.2.1, hF.2.2.2.1, hF.2.2.2.2.1, fun q hq => key q (hF.2.2.2.2.2 q hq)⟩⟩, ⟨l1, l2, l3, l4, l5, l6, l7, l8⟩, lz, lp, fun q hq => ⟨(lb q hq).1, (lb q hq).2.1, ?_, ?_⟩, fun q hq => ⟨?_, ?_, ?_⟩, lm, lf⟩
      · show 0 ≤ (if q = q0 then f else σ 13 q) ∧ (if q = q0 then f else σ 13 q) ≤ 200
        have := (hP q hq).2.2.2.1
        split <;> omega
      · show 0 ≤ (if q = q0 then n else σ 14 q) ∧ (if q = q0 then n else σ 14 q) ≤ 30000
        have := (hP q hq).2.2.2.2.1
        split <;> omega
      · show 0 ≤ (if q = q0 then 0 else σ 15 q) ∧ (if q = q0 then 0 else σ 15 q) ≤ 100
        have := (hP q hq).2.2.2.2.2
        split <;> omega
      · have hq : bv (wb (σ 1 12) q0 1) q = 1 := hq
        show (q : Int) < σ 1 4
        rw [b12] at hq
        by_cases e : q = q0
        · omega
        · rw [if_neg e] at hq; exact hB.1 q hq
      · have hq : bv (wb (σ 1 13) q0 0) q = 1 := hq
        show bv (wb (σ 1 12) q0 1) q = 1
        rw [b13] at hq
        by_cases e : q = q0
        · rw [if_pos e] at hq; omega
        · rw [if_neg e] at hq; exact key q (hB.2.1 q hq)
      · have hz : bv (wb (σ 1 12) q0 1) q = 0 := hz
        rw [b12] at hz
        by_cases e : q = q0
        · rw [if_pos e] at hz; omega
        · rw [if_neg e] at hz
          have := hB.2.2.2.2.2.2 q hq hz
          show (if q = q0 then f else σ 13 q) = 0 ∧ (if q = q0 then n else σ 14 q) = 0 ∧ (if q = q0 then 0 else σ 15 q) = 0
          rw [if_neg e, if_neg e, if_neg e]; exact this
      · show (if q = q0 then 1 else σ 37 q) = bv (wb (σ 1 12) q0 1) q
        rw [b12, (lb q hq).2.2.1]
      · show (if q = q0 then 0 else σ 40 q) = bv (wb (σ 1 13) q0 0) q
        rw [b13, (lb q hq).2.2.2]
      · show (if q = q0 then f else σ 38 q) = if q = q0 then f else σ 13 q
        rw [(lh q hq).1]
      · show (if q = q0 then n else σ 39 q) = if q = q0 then n else σ 14 q
        rw [(lh q hq).2.1]
      · show (if q = q0 then 0 else σ 41 q) = if q = q0 then 0 else σ 15 q
        rw [(lh q hq).2.2]
theorem pA_open {σ σ1 : Mem} {r : Int} {p v : Int} (h5 : (r = -1 ∧ σ = σ1 ∧ ¬ (0 ≤ p ∧ p < σ 1 4 ∧ bv (σ 1 12) p.toNat = 1)) ∨ (r = bv (σ 1 13) p.toNat ∧ up σ 1 13 (wb (σ 1 13) p.toNat v) = σ1 ∧ (0 ≤ p ∧ p < σ 1 4 ∧ bv (σ 1 12) p.toNat = 1))) : SMM σ σ1 := by
  rcases h5 with ⟨-, rfl, -⟩ | ⟨-, rfl, -⟩
  · exact SMM_rf _
  · exact SMM_up (SMM_rf _) (by decide) _ _
set_option maxHeartbeats 4000000 in
theorem pB_open {σ σ1 σ2 : Mem} {r r' : Int} {p v : Int} (hR : RR σ) (h5 : (r = -1 ∧ σ = σ1 ∧ ¬ (0 ≤ p ∧ p < σ 1 4 ∧ bv (σ 1 12) p.toNat = 1)) ∨ (r = bv (σ 1 13) p.toNat ∧ up σ 1 13 (wb (σ 1 13) p.toNat v) = σ1 ∧ (0 ≤ p ∧ p < σ 1 4 ∧ bv (σ 1 12) p.toNat = 1))) (h6 : (r' = -1 ∧ σ1 = σ2 ∧ ¬ (0 ≤ p ∧ p < σ1 28 11 ∧ σ1 37 p.toNat = 1)) ∨ (r' = σ1 40 p.toNat ∧ up σ1 40 p.toNat v = σ2 ∧ (0 ≤ p ∧ p < σ1 28 11 ∧ σ1 37 p.toNat = 1))) (hv : v = 0 ∨ v = 1) : r = r' ∧ RR σ2 := by
  obtain ⟨⟨hS0, hZ, hP, hE, hQ, hB, hF⟩, ⟨l1, l2, l3, l4, l5, l6, l7, l8⟩, lz, lp, lb, lh, lm, lf⟩ := id hR
  obtain ⟨i1, i2, i3, i4, i5, i6, i7, i8⟩ := id hS0
  have hs := pA_open h5
  obtain ⟨e28, e29, e30, e31, e32, e33, e34, e35, e36, e37, e38, e39, e40, -⟩ := opq hs
  rw [e28, e37, e40, l4] at h6
  have hb : 0 ≤ p ∧ p < σ 1 4 → σ 37 p.toNat = bv (σ 1 12) p.toNat ∧ σ 40 p.toNat = bv (σ 1 13) p.toNat := fun q => ⟨(lb p.toNat (by omega)).2.2.1, (lb p.toNat (by omega)).2.2.2⟩
  rcases h5 with ⟨rfl, rfl, c5⟩ | ⟨rfl, rfl, c5⟩ <;> rcases h6 with ⟨rfl, rfl, c6⟩ | ⟨rfl, rfl, c6⟩
  · exact ⟨rfl, hR⟩
  · exfalso; exact c5 ⟨c6.1, c6.2.1, by rw [← (hb ⟨c6.1, c6.2.1⟩).1]; exact c6.2.2⟩
  · exfalso; exact c6 ⟨c5.1, c5.2.1, by rw [(hb ⟨c5.1, c5.2.1⟩).1]; exact c5.2.2⟩
  · have b13 := bv_wb (v := v) i7 (show p.toNat < 24 by omega) hv
    refine ⟨(hb ⟨c5.1, c5.2.1⟩).2.symm, ⟨⟨i1, i2, i3, i4, i5, i6, wb_rng i7 (by omega), i8⟩, hZ, hP, hE, hQ, ⟨hB.1, fun q hq => ?_, hB.2.2⟩, hF⟩, ⟨l1, l2, l3, l4, l5, l6, l7, l8⟩, lz, lp, fun q hq => ⟨(lb q hq).1, (lb q hq).2.1, (lb q hq).2.2.1, ?_⟩, lh, lm, lf⟩
    · have hq : bv (wb (σ 1 13) p.toNat v) q = 1 := hq
      show bv (σ 1 12) q = 1
      rw [b13] at hq
      by_cases e : q = p.toNat
      · rw [e]; exact c5.2.2
      · rw [if_neg e] at hq; exact hB.2.1 q hq
    · show (if q = p.toNat then v else σ 40 q) = bv (wb (σ 1 13) p.toNat v) q
      rw [b13, (lb q hq).2.2.2]
theorem pA_shut {σ σ1 : Mem} {r : Int} {p v : Int} (h5 : (r = -1 ∧ σ = σ1 ∧ ¬ (0 ≤ p ∧ p < σ 1 4)) ∨ (r = bv (σ 1 10) p.toNat ∧ up σ 1 10 (wb (σ 1 10) p.toNat v) = σ1 ∧ (0 ≤ p ∧ p < σ 1 4))) : SMM σ σ1 := by
  rcases h5 with ⟨-, rfl, -⟩ | ⟨-, rfl, -⟩
  · exact SMM_rf _
  · exact SMM_up (SMM_rf _) (by decide) _ _
set_option maxHeartbeats 4000000 in
theorem pB_shut {σ σ1 σ2 : Mem} {r r' : Int} {p v : Int} (hR : RR σ) (h5 : (r = -1 ∧ σ = σ1 ∧ ¬ (0 ≤ p ∧ p < σ 1 4)) ∨ (r = bv (σ 1 10) p.toNat ∧ up σ 1 10 (wb (σ 1 10) p.toNat v) = σ1 ∧ (0 ≤ p ∧ p < σ 1 4))) (h6 : (r' = -1 ∧ σ1 = σ2 ∧ ¬ (0 ≤ p ∧ p < σ1 28 11)) ∨ (r' = σ1 35 p.toNat ∧ up σ1 35 p.toNat v = σ2 ∧ (0 ≤ p ∧ p < σ1 28 11))) (hv : v = 0 ∨ v = 1) : r = r' ∧ RR σ2 := by
  obtain ⟨⟨hS0, hZ, hP, hE, hQ, hB, hF⟩, ⟨l1, l2, l3, l4, l5, l6, l7, l8⟩, lz, lp, lb, lh, lm, lf⟩ := id hR
  obtain ⟨i1, i2, i3, i4, i5, i6, i7, i8⟩ := id hS0
  have hs := pA_shut h5
  obtain ⟨e28, e29, e30, e31, e32, e33, e34, e35, -⟩ := opq hs
  rw [e28, e35, l4] at h6
  rcases h5 with ⟨rfl, rfl, c5⟩ | ⟨rfl, rfl, c5⟩ <;> rcases h6 with ⟨rfl, rfl, c6⟩ | ⟨rfl, rfl, c6⟩
  · exact ⟨rfl, hR⟩
  · exfalso; omega
  · exfalso; omega
  · have b10 := bv_wb (v := v) i4 (show p.toNat < 24 by omega) hv
    refine ⟨(lb p.toNat (by omega)).1.symm, ⟨⟨i1, i2, i3, wb_rng i4 (by omega), i5, i6, i7, i8⟩, hZ, hP, hE, hQ, ⟨hB.1, hB.2.1, fun q hq => ?_, hB.2.2.2⟩, hF⟩, ⟨l1, l2, l3, l4, l5, l6, l7, l8⟩, lz, lp, fun q hq => ⟨?_, (lb q hq).2⟩, lh, lm, lf⟩
    · have hq : bv (wb (σ 1 10) p.toNat v) q = 1 := hq
      show (q : Int) < σ 1 4
      rw [b10] at hq
      by_cases e : q = p.toNat
      · omega
      · rw [if_neg e] at hq; exact hB.2.2.1 q hq
    · show (if q = p.toNat then v else σ 35 q) = bv (wb (σ 1 10) p.toNat v) q
      rw [b10, (lb q hq).1]
theorem pA_clog {σ σ1 : Mem} {r : Int} {p c : Int} (h5 : (r = -1 ∧ σ = σ1 ∧ ¬ (0 ≤ p ∧ p < σ 1 4 ∧ bv (σ 1 12) p.toNat = 1)) ∨ (r = -2 ∧ σ = σ1 ∧ (0 ≤ p ∧ p < σ 1 4 ∧ bv (σ 1 12) p.toNat = 1) ∧ ¬ (0 ≤ c ∧ c ≤ 100)) ∨ (r = σ 15 p.toNat ∧ up σ 15 p.toNat c = σ1 ∧ (0 ≤ p ∧ p < σ 1 4 ∧ bv (σ 1 12) p.toNat = 1) ∧ (0 ≤ c ∧ c ≤ 100))) : SMM σ σ1 := by
  rcases h5 with ⟨-, rfl, -⟩ | ⟨-, rfl, -⟩ | ⟨-, rfl, -⟩
  · exact SMM_rf _
  · exact SMM_rf _
  · exact SMM_up (SMM_rf _) (by decide) _ _
set_option maxHeartbeats 4000000 in
theorem pB_clog {σ σ1 σ2 : Mem} {r r' : Int} {p c : Int} (hR : RR σ) (h5 : (r = -1 ∧ σ = σ1 ∧ ¬ (0 ≤ p ∧ p < σ 1 4 ∧ bv (σ 1 12) p.toNat = 1)) ∨ (r = -2 ∧ σ = σ1 ∧ (0 ≤ p ∧ p < σ 1 4 ∧ bv (σ 1 12) p.toNat = 1) ∧ ¬ (0 ≤ c ∧ c ≤ 100)) ∨ (r = σ 15 p.toNat ∧ up σ 15 p.toNat c = σ1 ∧ (0 ≤ p ∧ p < σ 1 4 ∧ bv (σ 1 12) p.toNat = 1) ∧ (0 ≤ c ∧ c ≤ 100))) (h6 : (r' = -1 ∧ σ1 = σ2 ∧ ¬ (0 ≤ p ∧ p < σ1 28 11 ∧ σ1 37 p.toNat = 1)) ∨ (r' = -2 ∧ σ1 = σ2 ∧ (0 ≤ p ∧ p < σ1 28 11 ∧ σ1 37 p.toNat = 1) ∧ ¬ (0 ≤ c ∧ c ≤ 100)) ∨ (r' = σ1 41 p.toNat ∧ up σ1 41 p.toNat c = σ2 ∧ (0 ≤ p ∧ p < σ1 28 11 ∧ σ1 37 p.toNat = 1) ∧ (0 ≤ c ∧ c ≤ 100))) : r = r' ∧ RR σ2 := by
  obtain ⟨⟨hS0, hZ, hP, hE, hQ, hB, hF⟩, ⟨l1, l2, l3, l4, l5, l6, l7, l8⟩, lz, lp, lb, lh, lm, lf⟩ := id hR
  obtain ⟨i1, i2, i3, i4, i5, i6, i7, i8⟩ := id hS0
  have hs := pA_clog h5
  obtain ⟨e28, e29, e30, e31, e32, e33, e34, e35, e36, e37, e38, e39, e40, e41, -⟩ := opq hs
  rw [e28, e37, e41, l4] at h6
  have hb : (0 ≤ p ∧ p < σ 1 4 ∧ σ 37 p.toNat = 1) ↔ (0 ≤ p ∧ p < σ 1 4 ∧ bv (σ 1 12) p.toNat = 1) := by
    by_cases q : 0 ≤ p ∧ p < σ 1 4
    · rw [(lb p.toNat (by omega)).2.2.1]
    · exact ⟨fun z => absurd ⟨z.1, z.2.1⟩ q, fun z => absurd ⟨z.1, z.2.1⟩ q⟩
  rw [hb] at h6
  rcases h5 with ⟨rfl, rfl, c5⟩ | ⟨rfl, rfl, c5, d5⟩ | ⟨rfl, rfl, c5, d5⟩
  · rcases h6 with ⟨rfl, rfl, c6⟩ | ⟨rfl, rfl, c6, d6⟩ | ⟨rfl, rfl, c6, d6⟩ <;> first | exact ⟨rfl, hR⟩ | exact absurd c6 c5
  · rcases h6 with ⟨rfl, rfl, c6⟩ | ⟨rfl, rfl, c6, d6⟩ | ⟨rfl, rfl, c6, d6⟩ <;> first | exact ⟨rfl, hR⟩ | exact absurd c5 c6 | (exfalso; omega)
  · rcases h6 with ⟨rfl, rfl, c6⟩ | ⟨rfl, rfl, c6, d6⟩ | ⟨rfl, rfl, c6, d6⟩
    · exact absurd c5 c6
    · exfalso; omega
    · refine ⟨(lh p.toNat (by omega)).2.2.symm, ⟨hS0, hZ, fun q hq => ⟨(hP q hq).1, (hP q hq).2.1, (hP q hq).2.2.1, (hP q hq).2.2.2.1, (hP q hq).2.2.2.2.1, ?_⟩, hE, hQ, ⟨hB.1, hB.2.1, hB.2.2.1, hB.2.2.2.1, hB.2.2.2.2.1, hB.2.2.2.2.2.1, fun q hq hz => ?_⟩, hF⟩, ⟨l1, l2, l3, l4, l5, l6, l7, l8⟩, lz, lp, lb, fun q hq => ⟨(lh q hq).1, (lh q hq).2.1, ?_⟩, lm, lf⟩
      · show 0 ≤ (if q = p.toNat then c else σ 15 q) ∧ (if q = p.toNat then c else σ 15 q) ≤ 100
        have := (hP q hq).2.2.2.2.2
        split <;> omega
      · have hz : bv (σ 1 12) q = 0 := hz
        have := hB.2.2.2.2.2.2 q hq hz
        show σ 13 q = 0 ∧ σ 14 q = 0 ∧ (if q = p.toNat then c else σ 15 q) = 0
        by_cases e : q = p.toNat
        · rw [e] at hz; omega
        · rw [if_neg e]; exact this
      · show (if q = p.toNat then c else σ 41 q) = if q = p.toNat then c else σ 15 q
        rw [(lh q hq).2.2]
theorem pA_resize {σ σ1 : Mem} {r : Int} {p z : Int} (h5 : (r = -1 ∧ σ = σ1 ∧ ¬ ((0 ≤ p ∧ p < σ 1 4) ∧ (0 ≤ z ∧ z < σ 1 1))) ∨ (r = σ 10 p.toNat ∧ up (up σ 10 p.toNat z) 12 (p.toNat + 1) (σ 9 p.toNat * σ 6 z.toNat) = σ1 ∧ (0 ≤ p ∧ p < σ 1 4) ∧ (0 ≤ z ∧ z < σ 1 1))) : SMM σ σ1 := by
  rcases h5 with ⟨-, rfl, -⟩ | ⟨-, rfl, -⟩
  · exact SMM_rf _
  · exact SMM_up (SMM_up (SMM_rf _) (by decide) _ _) (by decide) _ _
set_option maxHeartbeats 4000000 in
theorem pB_resize {σ σ1 σ2 : Mem} {r r' : Int} {p z : Int} (hR : RR σ) (h5 : (r = -1 ∧ σ = σ1 ∧ ¬ ((0 ≤ p ∧ p < σ 1 4) ∧ (0 ≤ z ∧ z < σ 1 1))) ∨ (r = σ 10 p.toNat ∧ up (up σ 10 p.toNat z) 12 (p.toNat + 1) (σ 9 p.toNat * σ 6 z.toNat) = σ1 ∧ (0 ≤ p ∧ p < σ 1 4) ∧ (0 ≤ z ∧ z < σ 1 1))) (h6 : (r' = -1 ∧ σ1 = σ2 ∧ ¬ ((0 ≤ p ∧ p < σ1 28 11) ∧ (0 ≤ z ∧ z < σ1 28 4))) ∨ (r' = σ1 33 p.toNat ∧ up σ1 33 p.toNat z = σ2 ∧ (0 ≤ p ∧ p < σ1 28 11) ∧ (0 ≤ z ∧ z < σ1 28 4))) : r = r' ∧ RR σ2 := by
  obtain ⟨⟨hS0, hZ, hP, hE, hQ, hB, hF⟩, ⟨l1, l2, l3, l4, l5, l6, l7, l8⟩, lz, lp, lb, lh, lm, lf⟩ := id hR
  obtain ⟨i1, i2, i3, i4, i5, i6, i7, i8⟩ := id hS0
  have hs := pA_resize h5
  obtain ⟨e28, e29, e30, e31, e32, e33, -⟩ := opq hs
  rw [e28, e33, l3, l4] at h6
  rcases h5 with ⟨rfl, rfl, c5⟩ | ⟨rfl, rfl, c5, d5⟩ <;> rcases h6 with ⟨rfl, rfl, c6⟩ | ⟨rfl, h62, c6, d6⟩
  · exact ⟨rfl, hR⟩
  · exfalso; omega
  · exfalso; omega
  · obtain ⟨q0, hq0⟩ : ∃ q0 : Nat, p = (q0 : Int) := ⟨p.toNat, by omega⟩
    have hq1 : p.toNat = q0 := by omega
    rw [hq1] at h62 ⊢
    subst h62
    have hl9 := ml_rng (l := σ 9 q0) (d := σ 6 z.toNat) (B := 400) (C := 4000) (hP q0 (by omega)).2.1 (hZ z.toNat (by omega)).1 rfl
    refine ⟨(lp q0 (by omega)).2.2.1.symm, ⟨hS0, hZ, fun q hq => ⟨(hP q hq).1, (hP q hq).2.1, ?_, (hP q hq).2.2.2⟩, fun e he => ⟨(hE e he).1, ?_⟩, fun q hq => ⟨(hQ q hq).1, ?_, ?_⟩, hB, hF⟩, ⟨l1, ?_, l3, l4, l5, l6, l7, l8⟩, lz, fun q hq => ⟨(lp q hq).1, (lp q hq).2.1, ?_, (lp q hq).2.2.2⟩, lb, lh, lm, lf⟩
    · show 0 ≤ (if q = q0 then z else σ 10 q) ∧ (if q = q0 then z else σ 10 q) ≤ 5
      have := (hP q hq).2.2.1
      split <;> omega
    · show 0 ≤ (if e = q0 + 1 then σ 9 q0 * σ 6 z.toNat else σ 12 e) ∧ (if e = q0 + 1 then σ 9 q0 * σ 6 z.toNat else σ 12 e) ≤ 4000
      have := (hE e he).2
      split <;> omega
    · show (if q = q0 then z else σ 10 q) < σ 1 1
      have := (hQ q hq).2.1
      split <;> omega
    · show (if q + 1 = q0 + 1 then σ 9 q0 * σ 6 z.toNat else σ 12 (q + 1)) = σ 9 q * σ 6 (if q = q0 then z else σ 10 q).toNat
      by_cases e : q = q0
      · rw [if_pos e, if_pos (by omega), e]
      · rw [if_neg e, if_neg (by omega)]; exact (hQ q hq).2.2
    · show σ 28 1 = if 0 = q0 + 1 then σ 9 q0 * σ 6 z.toNat else σ 12 0
      rw [if_neg (by omega)]; exact l2
    · show (if q = q0 then z else σ 33 q) = if q = q0 then z else σ 10 q
      rw [(lp q hq).2.2.1]
theorem pA_heap {σ σ1 : Mem} {r : Int}  (h5 : (r = -4 ∧ σ = σ1 ∧ σ 0 5 = 6) ∨ (r = σ 0 5 ∧ up σ 0 5 (σ 0 5 + 1) = σ1 ∧ σ 0 5 < 6)) : SMM σ σ1 := by
  rcases h5 with ⟨-, rfl, -⟩ | ⟨-, rfl, -⟩
  · exact SMM_rf _
  · exact SMM_up (SMM_rf _) (by decide) _ _
set_option maxHeartbeats 4000000 in
theorem pB_heap {σ σ1 σ2 : Mem} {r r' : Int}  (hR : RR σ) (h5 : (r = -4 ∧ σ = σ1 ∧ σ 0 5 = 6) ∨ (r = σ 0 5 ∧ up σ 0 5 (σ 0 5 + 1) = σ1 ∧ σ 0 5 < 6)) (h6 : (r' = -4 ∧ σ1 = σ2 ∧ σ1 28 25 = 6) ∨ (r' = σ1 28 25 ∧ up σ1 28 25 (σ1 28 25 + 1) = σ2 ∧ σ1 28 25 < 6)) : r = r' ∧ RR σ2 := by
  obtain ⟨⟨hS0, hZ, hP, hE, hQ, hB, hF⟩, ⟨l1, l2, l3, l4, l5, l6, l7, l8⟩, lz, lp, lb, lh, lm, lf⟩ := id hR
  obtain ⟨i1, i2, i3, i4, i5, i6, i7, i8⟩ := id hS0
  have hs := pA_heap h5
  obtain ⟨e28, -⟩ := opq hs
  rw [e28, l5] at h6
  rcases h5 with ⟨rfl, rfl, c5⟩ | ⟨rfl, rfl, c5⟩ <;> rcases h6 with ⟨rfl, rfl, c6⟩ | ⟨rfl, rfl, c6⟩
  · exact ⟨rfl, hR⟩
  · exfalso; omega
  · exfalso; omega
  · refine ⟨rfl, ⟨⟨i1, i2, i3, i4, i5, i6, i7, ?_⟩, hZ, hP, hE, hQ, hB, hF⟩, ⟨l1, l2, l3, l4, rfl, l6, l7, l8⟩, lz, lp, lb, lh, lm, lf⟩
    show 0 ≤ σ 0 5 + 1 ∧ σ 0 5 + 1 ≤ 6
    omega
theorem pA_put {σ σ1 : Mem} {r : Int} {g p v : Int} (h5 : (r = -1 ∧ σ = σ1 ∧ ¬ ((0 ≤ g ∧ g < σ 0 5) ∧ (0 ≤ p ∧ p < σ 1 4 ∧ bv (σ 1 12) p.toNat = 1))) ∨ (r = (pop (wb (σ 5 g.toNat) p.toNat v).toNat : Int) ∧ up σ 5 g.toNat (wb (σ 5 g.toNat) p.toNat v) = σ1 ∧ (0 ≤ g ∧ g < σ 0 5) ∧ (0 ≤ p ∧ p < σ 1 4 ∧ bv (σ 1 12) p.toNat = 1))) : SMM σ σ1 := by
  rcases h5 with ⟨-, rfl, -⟩ | ⟨-, rfl, -⟩
  · exact SMM_rf _
  · exact SMM_up (SMM_rf _) (by decide) _ _
set_option maxHeartbeats 4000000 in
theorem pB_put {σ σ1 σ2 : Mem} {r r' : Int} {g p v : Int} (hR : RR σ) (h5 : (r = -1 ∧ σ = σ1 ∧ ¬ ((0 ≤ g ∧ g < σ 0 5) ∧ (0 ≤ p ∧ p < σ 1 4 ∧ bv (σ 1 12) p.toNat = 1))) ∨ (r = (pop (wb (σ 5 g.toNat) p.toNat v).toNat : Int) ∧ up σ 5 g.toNat (wb (σ 5 g.toNat) p.toNat v) = σ1 ∧ (0 ≤ g ∧ g < σ 0 5) ∧ (0 ≤ p ∧ p < σ 1 4 ∧ bv (σ 1 12) p.toNat = 1))) (h6 : (r' = -1 ∧ σ1 = σ2 ∧ ¬ ((0 ≤ g ∧ g < σ1 28 25) ∧ (0 ≤ p ∧ p < σ1 28 11 ∧ σ1 37 p.toNat = 1))) ∨ (r' = sm (fun q => up σ1 49 (24 * g.toNat + p.toNat) v 49 (24 * g.toNat + q)) (σ1 28 11).toNat ∧ up σ1 49 (24 * g.toNat + p.toNat) v = σ2 ∧ (0 ≤ g ∧ g < σ1 28 25) ∧ (0 ≤ p ∧ p < σ1 28 11 ∧ σ1 37 p.toNat = 1))) (hv : v = 0 ∨ v = 1) : r = r' ∧ RR σ2 := by
  obtain ⟨⟨hS0, hZ, hP, hE, hQ, hB, hF⟩, ⟨l1, l2, l3, l4, l5, l6, l7, l8⟩, lz, lp, lb, lh, lm, lf⟩ := id hR
  obtain ⟨i1, i2, i3, i4, i5, i6, i7, i8⟩ := id hS0
  have hs := pA_put h5
  obtain ⟨e28, e29, e30, e31, e32, e33, e34, e35, e36, e37, e38, e39, e40, e41, e49, -⟩ := opq hs
  rw [e28, e37, l4, l5] at h6
  have hb : (0 ≤ p ∧ p < σ 1 4 ∧ σ 37 p.toNat = 1) ↔ (0 ≤ p ∧ p < σ 1 4 ∧ bv (σ 1 12) p.toNat = 1) := by
    by_cases q : 0 ≤ p ∧ p < σ 1 4
    · rw [(lb p.toNat (by omega)).2.2.1]
    · exact ⟨fun z => absurd ⟨z.1, z.2.1⟩ q, fun z => absurd ⟨z.1, z.2.1⟩ q⟩
  rw [hb] at h6
  rcases h5 with ⟨rfl, rfl, c5⟩ | ⟨rfl, rfl, c5, d5⟩ <;> rcases h6 with ⟨rfl, rfl, c6⟩ | ⟨rfl, rfl, c6, d6⟩
  · exact ⟨rfl, hR⟩
  · exfalso; exact c5 ⟨c6, d6⟩
  · exfalso; exact c6 ⟨c5, d5⟩
  · have hg6 : g.toNat < 6 := by omega
    have hp24 : p.toNat < 24 := by omega
    have hm := (hZ g.toNat hg6).2.2
    have hbs := bv_st (v := v) hm hp24 hv
    have hhd : ∀ q, bv (wb (σ 5 g.toNat) p.toNat v) q = 1 → bv (σ 1 12) q = 1 := fun q hq => by
      rw [hbs, st_at] at hq
      by_cases e : q = p.toNat
      · rw [e]; exact d5.2.2
      · rw [if_neg e] at hq; exact hB.2.2.2.2.2.1 g.toNat q hg6 hq
    refine ⟨?_, ⟨hS0, fun i hi => ⟨(hZ i hi).1, (hZ i hi).2.1, ?_⟩, hP, hE, hQ, ⟨hB.1, hB.2.1, hB.2.2.1, hB.2.2.2.1, hB.2.2.2.2.1, fun h q hh hq => ?_, hB.2.2.2.2.2.2⟩, hF⟩, ⟨l1, l2, l3, l4, l5, l6, l7, l8⟩, lz, lp, lb, lh, fun h q hh hq => ?_, lf⟩
    · rw [pop_n (n := (σ 1 4).toNat) (by omega) (fun q hq => by have := hB.1 q (hhd q hq); omega)]
      refine sm_cong (fun q hq => ?_)
      show _ = if 24 * g.toNat + q = 24 * g.toNat + p.toNat then v else σ 49 (24 * g.toNat + q)
      rw [hbs, st_at, lm g.toNat q hg6 (by omega)]
      by_cases e : q = p.toNat
      · rw [if_pos e, if_pos (by omega)]
      · rw [if_neg e, if_neg (by omega)]
    · show 0 ≤ (if i = g.toNat then wb (σ 5 g.toNat) p.toNat v else σ 5 i) ∧ (if i = g.toNat then wb (σ 5 g.toNat) p.toNat v else σ 5 i) < 16777216
      have := (hZ i hi).2.2
      have := wb_rng (v := v) hm hp24
      split <;> omega
    · have hq : bv (if h = g.toNat then wb (σ 5 g.toNat) p.toNat v else σ 5 h) q = 1 := hq
      show bv (σ 1 12) q = 1
      by_cases e : h = g.toNat
      · rw [if_pos e] at hq; exact hhd q hq
      · rw [if_neg e] at hq; exact hB.2.2.2.2.2.1 h q hh hq
    · show (if 24 * h + q = 24 * g.toNat + p.toNat then v else σ 49 (24 * h + q)) = bv (if h = g.toNat then wb (σ 5 g.toNat) p.toNat v else σ 5 h) q
      by_cases e : h = g.toNat
      · rw [if_pos e, hbs, st_at]
        by_cases e2 : q = p.toNat
        · rw [if_pos e2, if_pos (by omega)]
        · rw [if_neg e2, if_neg (by omega), e]; exact lm g.toNat q hg6 hq
      · rw [if_neg e, if_neg (by omega)]; exact lm h q hh hq
theorem pA_free {σ σ1 : Mem} {r : Int} {p v : Int} (h5 : (r = -1 ∧ σ = σ1 ∧ ¬ (0 ≤ p ∧ p < σ 1 4)) ∨ (r = -4 ∧ σ = σ1 ∧ (0 ≤ p ∧ p < σ 1 4) ∧ 5 < (pop (wb (σ 1 11) p.toNat v).toNat : Int)) ∨ (r = (pop (wb (σ 1 11) p.toNat v).toNat : Int) ∧ up σ 1 11 (wb (σ 1 11) p.toNat v) = σ1 ∧ (0 ≤ p ∧ p < σ 1 4) ∧ (pop (wb (σ 1 11) p.toNat v).toNat : Int) ≤ 5)) : SMM σ σ1 := by
  rcases h5 with ⟨-, rfl, -⟩ | ⟨-, rfl, -⟩ | ⟨-, rfl, -⟩
  · exact SMM_rf _
  · exact SMM_rf _
  · exact SMM_up (SMM_rf _) (by decide) _ _
set_option maxHeartbeats 4000000 in
theorem pB_free {σ σ1 σ2 : Mem} {r r' : Int} {p v : Int} (hR : RR σ) (h5 : (r = -1 ∧ σ = σ1 ∧ ¬ (0 ≤ p ∧ p < σ 1 4)) ∨ (r = -4 ∧ σ = σ1 ∧ (0 ≤ p ∧ p < σ 1 4) ∧ 5 < (pop (wb (σ 1 11) p.toNat v).toNat : Int)) ∨ (r = (pop (wb (σ 1 11) p.toNat v).toNat : Int) ∧ up σ 1 11 (wb (σ 1 11) p.toNat v) = σ1 ∧ (0 ≤ p ∧ p < σ 1 4) ∧ (pop (wb (σ 1 11) p.toNat v).toNat : Int) ≤ 5)) (h6 : (r' = -1 ∧ σ1 = σ2 ∧ ¬ (0 ≤ p ∧ p < σ1 28 11)) ∨ (r' = -4 ∧ σ1 = σ2 ∧ (0 ≤ p ∧ p < σ1 28 11) ∧ (v = 1 ∧ σ1 36 p.toNat = 0 ∧ sm (σ1 36) (σ1 28 11).toNat = 5)) ∨ (r' = sm (up σ1 36 p.toNat v 36) (σ1 28 11).toNat ∧ up σ1 36 p.toNat v = σ2 ∧ (0 ≤ p ∧ p < σ1 28 11) ∧ ¬ (v = 1 ∧ σ1 36 p.toNat = 0 ∧ sm (σ1 36) (σ1 28 11).toNat = 5))) (hv : v = 0 ∨ v = 1) : r = r' ∧ RR σ2 := by
  obtain ⟨⟨hS0, hZ, hP, hE, hQ, hB, hF⟩, ⟨l1, l2, l3, l4, l5, l6, l7, l8⟩, lz, lp, lb, lh, lm, lf⟩ := id hR
  obtain ⟨i1, i2, i3, i4, i5, i6, i7, i8⟩ := id hS0
  have hs := pA_free h5
  obtain ⟨e28, e29, e30, e31, e32, e33, e34, e35, e36, -⟩ := opq hs
  rw [e28, l4, e36] at h6
  have hS9 : sm (σ 36) (σ 1 4).toNat = sm (bv (σ 1 11)) (σ 1 4).toNat := sm_cong (fun q hq => (lb q (by omega)).2.1)
  have hS8 : sm (bv (σ 1 11)) (σ 1 4).toNat = sm (bv (σ 1 11)) 24 := by
    have := pop_n (b := σ 1 11) (n := (σ 1 4).toNat) (by omega) (fun q hq => by have := hB.2.2.2.1 q hq; omega)
    rw [← this, pop_sm]
  have h5c := hB.2.2.2.2.1
  have hpop : 0 ≤ p ∧ p < σ 1 4 → (pop (wb (σ 1 11) p.toNat v).toNat : Int) = sm (bv (σ 1 11)) (σ 1 4).toNat + (v - bv (σ 1 11) p.toNat) := fun q => by
    rw [pop_n (n := (σ 1 4).toNat) (by omega) (fun q2 hq2 => by
      rw [bv_st i5 (by omega) hv, st_at] at hq2
      by_cases e : q2 = p.toNat
      · omega
      · rw [if_neg e] at hq2; have := hB.2.2.2.1 q2 hq2; omega), bv_st i5 (by omega) hv, sm_st, if_pos (by omega)]
  have hb36 : 0 ≤ p ∧ p < σ 1 4 → σ 36 p.toNat = bv (σ 1 11) p.toNat := fun q => (lb p.toNat (by omega)).2.1
  have b01 := bv_01 (σ 1 11) p.toNat
  rw [hS9] at h6
  have hp9 : 0 ≤ p ∧ p < σ 1 4 → sm (up σ1 36 p.toNat v 36) (σ 1 4).toNat = sm (bv (σ 1 11)) (σ 1 4).toNat + (v - bv (σ 1 11) p.toNat) := fun q => by
    rw [up_st2, e36, sm_st, if_pos (by omega), hS9, hb36 q]
  rcases h5 with ⟨rfl, rfl, c5⟩ | ⟨rfl, rfl, c5, d5⟩ | ⟨rfl, h52, c5, d5⟩
  · rcases h6 with ⟨rfl, rfl, c6⟩ | ⟨rfl, rfl, c6, d6⟩ | ⟨rfl, rfl, c6, d6⟩ <;> first | exact ⟨rfl, hR⟩ | (exfalso; omega)
  · have a1 := hpop c5
    have a2 := hb36 c5
    rcases h6 with ⟨rfl, rfl, c6⟩ | ⟨rfl, rfl, c6, d6⟩ | ⟨rfl, rfl, c6, d6⟩ <;> first | exact ⟨rfl, hR⟩ | (exfalso; omega)
  · have a1 := hpop c5
    have a2 := hb36 c5
    have a3 := hp9 c5
    rcases h6 with ⟨rfl, rfl, c6⟩ | ⟨rfl, rfl, c6, d6⟩ | ⟨rfl, rfl, c6, d6⟩
    · exfalso; omega
    · exfalso; omega
    · refine ⟨by omega, ?_⟩
      subst h52
      have b11 := bv_wb (v := v) i5 (show p.toNat < 24 by omega) hv
      refine ⟨⟨⟨i1, i2, i3, i4, wb_rng i5 (by omega), i6, i7, i8⟩, hZ, hP, hE, hQ, ⟨hB.1, hB.2.1, hB.2.2.1, fun q hq => ?_, ?_, hB.2.2.2.2.2⟩, hF⟩, ⟨l1, l2, l3, l4, l5, l6, l7, l8⟩, lz, lp, fun q hq => ⟨(lb q hq).1, ?_, (lb q hq).2.2⟩, lh, lm, lf⟩
      · have hq : bv (wb (σ 1 11) p.toNat v) q = 1 := hq
        show (q : Int) < σ 1 4
        rw [b11] at hq
        by_cases e : q = p.toNat
        · omega
        · rw [if_neg e] at hq; exact hB.2.2.2.1 q hq
      · show sm (bv (wb (σ 1 11) p.toNat v)) 24 ≤ 5
        rw [← pop_sm]; exact d5
      · show (if q = p.toNat then v else σ 36 q) = bv (wb (σ 1 11) p.toNat v) q
        rw [b11, (lb q hq).2.1]
