/-! choose of both -/
def mix (σ τ : Mem) : Mem := fun c => if 28 ≤ c then σ c else τ c
theorem mix_eq {σ τ : Mem} (h : SMM σ τ) : mix σ τ = τ := by
  funext c
  unfold mix
  by_cases q : 28 ≤ c
  · rw [if_pos q, h c q]
  · rw [if_neg q]
theorem cM_same0 (σ τ : Mem) : cstM (mix σ τ) = cstM σ ∧ mtM (mix σ τ) = mtM σ ∧ zM (mix σ τ) = zM σ ∧ cntM (mix σ τ) = cntM σ ∧ ziM (mix σ τ) = ziM σ := ⟨rfl, rfl, rfl, rfl, rfl⟩
theorem cM_same {σ τ : Mem} (h : SMM σ τ) : cstM τ = cstM σ ∧ mtM τ = mtM σ ∧ zM τ = zM σ ∧ cntM τ = cntM σ ∧ ziM τ = ziM σ := by
  have := cM_same0 σ τ
  rw [mix_eq h] at this
  exact this
theorem RR_rz {σ : Mem} {z z' : Nat → Nat} (hR : RR σ) (hz : ∀ p, bv (σ 1 11) p = 1 → z p < zN σ ∧ zN σ ≤ 6) (hzz : ∀ p, p < 24 → z p = z' p) : RR (rzM (rsz σ z) z') := by
  have hI : IC (rsz σ z) := IC_rsz hR.1 hz
  obtain ⟨⟨hS0, hZ, hP, hE, hQ, hB, hF⟩, ⟨l1, l2, l3, l4, l5, l6, l7, l8⟩, lz, lp, lb, lh, lm, lf⟩ := id hR
  refine ⟨hI, ⟨l1, ?_, l3, l4, l5, l6, l7, l8⟩, lz, fun p hp => ⟨(lp p hp).1, (lp p hp).2.1, ?_, (lp p hp).2.2.2⟩, lb, lh, lm, lf⟩
  · show σ 28 1 = (if 0 < 0 ∧ bv (σ 1 11) (0 - 1) = 1 then σ 9 (0 - 1) * σ 6 (z (0 - 1)) else σ 12 0)
    rw [if_neg (by omega)]
    exact l2
  · show (if (p : Int) < σ 28 11 ∧ σ 36 p = 1 then (z' p : Int) else σ 33 p) = (if bv (σ 1 11) p = 1 then (z p : Int) else σ 10 p)
    rw [(lb p hp).2.1, l4, hzz p hp, (lp p hp).2.2.1]
    by_cases q : bv (σ 1 11) p = 1
    · rw [if_pos ⟨hB.2.2.2.1 p q, q⟩, if_pos q]
    · rw [if_neg (fun z => q z.2), if_neg q]
theorem RR_zi {σ : Mem} (hR : RR σ) (i p : Nat) (hp : p < 24) : zi σ i p = ziM σ i p := by
  have hc := RR_cnt hR
  have lb := hR.2.2.2.2.1
  unfold zi ziM
  rw [hc.1, hc.2, rkN_cong (f := σ 36) (g := bv (σ 1 11)) (fun k hk => (lb k (by omega)).2.1)]
theorem RR_rzi {σ : Mem} (hR : RR σ) (i : Nat) : RR (rzM (rsz σ (zi σ i)) (ziM σ i)) :=
  RR_rz hR (fun p q => zi_lt hR.1.1 hR.1.2.2.1 hR.1.2.2.2.2.1 hR.1.2.2.2.2.2.1 q) (fun p hp => RR_zi hR i p hp)
theorem RR_cst {σ : Mem} (hR : RR σ) (i : Nat) : cst σ i = cstM σ i := RR_prc (RR_rzi hR i)
theorem RR_mt {σ : Mem} (hR : RR σ) (i : Nat) : mtC σ i ↔ mtM σ i := by
  have i8 : 0 ≤ σ 0 5 ∧ σ 0 5 ≤ 6 := hR.1.1.2.2.2.2.2.2.2
  obtain ⟨l1, l2, l3, l4, l5, l6, l7, l8⟩ := hR.2.1
  have e : ∀ h : Nat, (h : Int) < σ 0 5 → lsC (rsz σ (zi σ i)) h (σ 1 0) = lsM (rzM σ (ziM σ i)) h (σ 1 0) := fun h hh => RR_ls (RR_rzi hR i) (by omega) _
  unfold mtC mtM
  rw [l5, l1]
  exact ⟨fun q h hh => (e h hh) ▸ q h hh, fun q h hh => (e h hh).symm ▸ q h hh⟩
theorem pA_choose {σ σ1 : Mem} {r : Int}  (h5 : (r = -5 ∧ fO (cst σ) (mtC σ) (zN σ ^ cntC σ) = none ∧ ∃ F, cm σ F = σ1) ∨ (∃ b F, fO (cst σ) (mtC σ) (zN σ ^ cntC σ) = some b ∧ cm (rsz σ (zi σ b)) F = σ1 ∧ r = cst σ b)) : SMM σ σ1 := by
  rcases h5 with ⟨-, -, F, rfl⟩ | ⟨b, F, -, rfl, -⟩
  · exact SMM_cm (SMM_rf _)
  · exact SMM_cm SMM_rsz
set_option maxHeartbeats 4000000 in
theorem pB_choose {σ σ1 σ2 : Mem} {r r' : Int}  (hR : RR σ) (h5 : (r = -5 ∧ fO (cst σ) (mtC σ) (zN σ ^ cntC σ) = none ∧ ∃ F, cm σ F = σ1) ∨ (∃ b F, fO (cst σ) (mtC σ) (zN σ ^ cntC σ) = some b ∧ cm (rsz σ (zi σ b)) F = σ1 ∧ r = cst σ b)) (h6 : (r' = -5 ∧ fO (cstM σ1) (mtM σ1) (zM σ1 ^ cntM σ1) = none ∧ ∃ F, em σ1 F = σ2) ∨ (∃ b F, fO (cstM σ1) (mtM σ1) (zM σ1 ^ cntM σ1) = some b ∧ em (rzM σ1 (ziM σ1 b)) F = σ2 ∧ r' = cstM σ1 b)) : r = r' ∧ RR σ2 := by
  have hs := pA_choose h5
  obtain ⟨m1, m2, m3, m4, m5⟩ := cM_same hs
  have hc := RR_cnt hR
  rw [m1, m2, m3, m4, m5, hc.1, hc.2] at h6
  have hf : fO (cstM σ) (mtM σ) (zN σ ^ cntC σ) = fO (cst σ) (mtC σ) (zN σ ^ cntC σ) := (fO_cong (C := 0) (fun i _ => by rw [RR_cst hR i]; omega) (fun i _ => RR_mt hR i)).symm
  rw [hf] at h6
  rcases h5 with ⟨rfl, n5, F, rfl⟩ | ⟨b, F, n5, rfl, rfl⟩
  · rcases h6 with ⟨rfl, n6, F', rfl⟩ | ⟨b', F', n6, rfl, rfl⟩
    · exact ⟨rfl, hR⟩
    · rw [n5] at n6; cases n6
  · rcases h6 with ⟨rfl, n6, F', rfl⟩ | ⟨b', F', n6, rfl, rfl⟩
    · rw [n5] at n6; cases n6
    · rw [n5] at n6
      cases n6
      exact ⟨RR_cst hR b, RR_rzi hR b⟩
theorem pA_floor {σ σ1 : Mem} {r : Int} {a b : Int} (h5 : (r = -2 ∧ σ = σ1 ∧ ¬ ((2 ≤ a ∧ a ≤ 16) ∧ (2 ≤ b ∧ b ≤ 16))) ∨ (r = a * b ∧ upC (up (up (up σ 4 0 a) 4 1 b) 4 3 0) 24 (flF (σ 24) 0 256) = σ1 ∧ (2 ≤ a ∧ a ≤ 16) ∧ (2 ≤ b ∧ b ≤ 16))) : SMM σ σ1 := by
  rcases h5 with ⟨-, rfl, -⟩ | ⟨-, rfl, -⟩
  · exact SMM_rf _
  · exact SMM_upC (SMM_up (SMM_up (SMM_up (SMM_rf _) (by decide) _ _) (by decide) _ _) (by decide) _ _) (by decide) _
set_option maxHeartbeats 4000000 in
theorem pB_floor {σ σ1 σ2 : Mem} {r r' : Int} {a b : Int} (hR : RR σ) (h5 : (r = -2 ∧ σ = σ1 ∧ ¬ ((2 ≤ a ∧ a ≤ 16) ∧ (2 ≤ b ∧ b ≤ 16))) ∨ (r = a * b ∧ upC (up (up (up σ 4 0 a) 4 1 b) 4 3 0) 24 (flF (σ 24) 0 256) = σ1 ∧ (2 ≤ a ∧ a ≤ 16) ∧ (2 ≤ b ∧ b ≤ 16))) (h6 : (r' = -2 ∧ σ1 = σ2 ∧ ¬ ((2 ≤ a ∧ a ≤ 16) ∧ (2 ≤ b ∧ b ≤ 16))) ∨ (r' = a * b ∧ upC (upC (up (up σ1 28 29 a) 28 30 b) 53 (flF (σ1 53) 0 256)) 54 (flF (σ1 54) 0 24) = σ2 ∧ (2 ≤ a ∧ a ≤ 16) ∧ (2 ≤ b ∧ b ≤ 16))) : r = r' ∧ RR σ2 := by
  obtain ⟨⟨hS0, hZ, hP, hE, hQ, hB, hF⟩, ⟨l1, l2, l3, l4, l5, l6, l7, l8⟩, lz, lp, lb, lh, lm, lf⟩ := id hR
  rcases h5 with ⟨rfl, rfl, c5⟩ | ⟨rfl, rfl, c5⟩ <;> rcases h6 with ⟨rfl, rfl, c6⟩ | ⟨rfl, rfl, c6⟩
  · exact ⟨rfl, hR⟩
  · exact absurd c6 c5
  · exact absurd c5 c6
  · refine ⟨rfl, ⟨hS0, hZ, hP, hE, hQ, hB, ⟨c5.1, c5.2, ⟨Int.le_refl 0, (show (0 : Int) < 16777216 by decide)⟩, fun k hk => ?_, hF.2.2.2.2.1, fun p hp => ?_⟩⟩, ⟨l1, l2, l3, l4, l5, rfl, rfl, l8⟩, lz, lp, lb, lh, lm, ⟨fun k hk => ?_, fun p hp => ⟨?_, (lf.2 p hp).2⟩⟩⟩
    · show 0 ≤ (if k < 256 then (0 : Int) else σ 24 k) ∧ (if k < 256 then (0 : Int) else σ 24 k) ≤ 2
      rw [if_pos hk]; omega
    · have hp : bv 0 p = 1 := hp
      rw [bv_0] at hp; omega
    · show (if k < 256 then (0 : Int) else σ 53 k) = (if k < 256 then (0 : Int) else σ 24 k)
      rw [if_pos hk, if_pos hk]
    · show (if p < 24 then (0 : Int) else σ 54 p) = bv 0 p
      rw [if_pos hp, bv_0]
theorem fP_eq {hit hit' : Nat → Prop} {n m : Nat} {N r r' : Int} (h1 : firstP hit n N r) (h2 : firstP hit' m N r') (e : ∀ p, p < n → (hit p ↔ hit' p)) (hm : m ≤ n) (hb : ∀ p, p < n → hit p → p < m) : r = r' := by
  rcases h1 with ⟨p, a1, a2, a3, rfl⟩ | ⟨a1, rfl⟩ <;> rcases h2 with ⟨q, b1, b2, b3, rfl⟩ | ⟨b1, rfl⟩
  · rcases Nat.lt_trichotomy p q with z | z | z
    · exact absurd ((e p a1).mp a2) (b3 p z)
    · rw [z]
    · exact absurd ((e q (by omega)).mpr b2) (a3 q z)
  · exact absurd ((e p a1).mp a2) (b1 p (hb p a1 a2))
  · exact absurd ((e q (by omega)).mpr b2) (a1 q (by omega))
  · rfl
/-- who stands where, both -/
theorem RR_who {σ : Mem} (hR : RR σ) {a b t t' : Int} (h1 : firstP (fun p => bv (σ 4 3) p = 1 ∧ σ 25 p = a ∧ σ 26 p = b) 24 (-6) t) (h2 : firstP (fun p => σ 54 p = 1 ∧ σ 55 p = a ∧ σ 56 p = b) (σ 1 4).toNat (-6) t') : t = t' := by
  have hn := RR_n hR
  obtain ⟨⟨hS0, hZ, hP, hE, hQ, hB, hF⟩, ls, lz, lp, lb, lh, lm, lf⟩ := id hR
  refine fP_eq h1 h2 (fun p hp => ?_) (by omega) (fun p hp hh => ?_)
  · obtain ⟨f1, f2, f3, f4⟩ := lf.2 p hp
    show (bv (σ 4 3) p = 1 ∧ σ 25 p = a ∧ σ 26 p = b) ↔ (σ 54 p = 1 ∧ σ 55 p = a ∧ σ 56 p = b)
    rw [f1, f2, f3]
  · have := hB.1 p (hF.2.2.2.2.2 p hh.1)
    omega
theorem pA_cell {σ σ1 : Mem} {r : Int} {a b k : Int} (h5 : (r = -1 ∧ σ = σ1 ∧ ¬ ((0 ≤ a ∧ a < σ 4 0) ∧ (0 ≤ b ∧ b < σ 4 1))) ∨ (r = -2 ∧ σ = σ1 ∧ ((0 ≤ a ∧ a < σ 4 0) ∧ (0 ≤ b ∧ b < σ 4 1)) ∧ ¬ (0 ≤ k ∧ k ≤ 2)) ∨ (∃ t, firstP (fun p => bv (σ 4 3) p = 1 ∧ σ 25 p = a ∧ σ 26 p = b) 24 (-6) t ∧ ((0 ≤ a ∧ a < σ 4 0) ∧ (0 ≤ b ∧ b < σ 4 1)) ∧ (0 ≤ k ∧ k ≤ 2) ∧ ((r = -3 ∧ σ = σ1 ∧ ¬ t = -6) ∨ (r = σ 24 (a.toNat * 16 + b.toNat) ∧ up σ 24 (a.toNat * 16 + b.toNat) k = σ1 ∧ t = -6)))) : SMM σ σ1 := by
  rcases h5 with ⟨-, rfl, -⟩ | ⟨-, rfl, -⟩ | ⟨t, -, -, -, ⟨-, rfl, -⟩ | ⟨-, rfl, -⟩⟩
  · exact SMM_rf _
  · exact SMM_rf _
  · exact SMM_rf _
  · exact SMM_up (SMM_rf _) (by decide) _ _
set_option maxHeartbeats 4000000 in
theorem pB_cell {σ σ1 σ2 : Mem} {r r' : Int} {a b k : Int} (hR : RR σ) (h5 : (r = -1 ∧ σ = σ1 ∧ ¬ ((0 ≤ a ∧ a < σ 4 0) ∧ (0 ≤ b ∧ b < σ 4 1))) ∨ (r = -2 ∧ σ = σ1 ∧ ((0 ≤ a ∧ a < σ 4 0) ∧ (0 ≤ b ∧ b < σ 4 1)) ∧ ¬ (0 ≤ k ∧ k ≤ 2)) ∨ (∃ t, firstP (fun p => bv (σ 4 3) p = 1 ∧ σ 25 p = a ∧ σ 26 p = b) 24 (-6) t ∧ ((0 ≤ a ∧ a < σ 4 0) ∧ (0 ≤ b ∧ b < σ 4 1)) ∧ (0 ≤ k ∧ k ≤ 2) ∧ ((r = -3 ∧ σ = σ1 ∧ ¬ t = -6) ∨ (r = σ 24 (a.toNat * 16 + b.toNat) ∧ up σ 24 (a.toNat * 16 + b.toNat) k = σ1 ∧ t = -6)))) (h6 : (r' = -1 ∧ σ1 = σ2 ∧ ¬ ((0 ≤ a ∧ a < σ1 28 29) ∧ (0 ≤ b ∧ b < σ1 28 30))) ∨ (r' = -2 ∧ σ1 = σ2 ∧ ((0 ≤ a ∧ a < σ1 28 29) ∧ (0 ≤ b ∧ b < σ1 28 30)) ∧ ¬ (0 ≤ k ∧ k ≤ 2)) ∨ (∃ t, firstP (fun p => σ1 54 p = 1 ∧ σ1 55 p = a ∧ σ1 56 p = b) (σ1 28 11).toNat (-6) t ∧ ((0 ≤ a ∧ a < σ1 28 29) ∧ (0 ≤ b ∧ b < σ1 28 30)) ∧ (0 ≤ k ∧ k ≤ 2) ∧ ((r' = -3 ∧ σ1 = σ2 ∧ ¬ t = -6) ∨ (r' = σ1 53 (a.toNat * 16 + b.toNat) ∧ up σ1 53 (a.toNat * 16 + b.toNat) k = σ2 ∧ t = -6)))) : r = r' ∧ RR σ2 := by
  obtain ⟨⟨hS0, hZ, hP, hE, hQ, hB, hF⟩, ⟨l1, l2, l3, l4, l5, l6, l7, l8⟩, lz, lp, lb, lh, lm, lf⟩ := id hR
  have hs := pA_cell h5
  obtain ⟨e28, e29, e30, e31, e32, e33, e34, e35, e36, e37, e38, e39, e40, e41, e49, e53, e54, e55, e56, e57⟩ := opq hs
  rw [e28, e53, e54, e55, e56, l4, l6, l7] at h6
  rcases h5 with ⟨rfl, rfl, c5⟩ | ⟨rfl, rfl, c5, d5⟩ | ⟨t, f5, c5, d5, h5⟩ <;> rcases h6 with ⟨rfl, rfl, c6⟩ | ⟨rfl, rfl, c6, d6⟩ | ⟨t', f6, c6, d6, h6⟩
  · exact ⟨rfl, hR⟩
  · exact absurd c6 c5
  · exact absurd c6 c5
  · exact absurd c5 c6
  · exact ⟨rfl, hR⟩
  · exact absurd d6 d5
  · exact absurd c5 c6
  · exact absurd d5 d6
  · have ht := RR_who hR f5 f6
    subst ht
    have hk9 : a.toNat * 16 + b.toNat < 256 := by have := hF.1; have := hF.2.1; omega
    rcases h5 with ⟨rfl, rfl, g5⟩ | ⟨rfl, rfl, g5⟩ <;> rcases h6 with ⟨rfl, rfl, g6⟩ | ⟨rfl, rfl, g6⟩
    · exact ⟨rfl, hR⟩
    · exact absurd g6 g5
    · exact absurd g5 g6
    · refine ⟨(lf.1 _ hk9).symm, ⟨hS0, hZ, hP, hE, hQ, hB, ⟨hF.1, hF.2.1, hF.2.2.1, fun j hj => ?_, hF.2.2.2.2.1, hF.2.2.2.2.2⟩⟩, ⟨l1, l2, l3, l4, l5, l6, l7, l8⟩, lz, lp, lb, lh, lm, ⟨fun j hj => ?_, lf.2⟩⟩
      · show 0 ≤ (if j = a.toNat * 16 + b.toNat then k else σ 24 j) ∧ (if j = a.toNat * 16 + b.toNat then k else σ 24 j) ≤ 2
        have := hF.2.2.2.1 j hj
        split <;> omega
      · show (if j = a.toNat * 16 + b.toNat then k else σ 53 j) = (if j = a.toNat * 16 + b.toNat then k else σ 24 j)
        rw [lf.1 j hj]
theorem pA_stand {σ σ1 : Mem} {r : Int} {p a b e : Int} (h5 : (r = -1 ∧ σ = σ1 ∧ ¬ ((0 ≤ p ∧ p < σ 1 4 ∧ bv (σ 1 12) p.toNat = 1) ∧ ((0 ≤ a ∧ a < σ 4 0) ∧ (0 ≤ b ∧ b < σ 4 1)))) ∨ (r = -2 ∧ σ = σ1 ∧ ((0 ≤ p ∧ p < σ 1 4 ∧ bv (σ 1 12) p.toNat = 1) ∧ ((0 ≤ a ∧ a < σ 4 0) ∧ (0 ≤ b ∧ b < σ 4 1))) ∧ ¬ (1 ≤ e ∧ e ≤ 12)) ∨ (∃ t, firstP (fun p => bv (σ 4 3) p = 1 ∧ σ 25 p = a ∧ σ 26 p = b) 24 (-6) t ∧ ((0 ≤ p ∧ p < σ 1 4 ∧ bv (σ 1 12) p.toNat = 1) ∧ ((0 ≤ a ∧ a < σ 4 0) ∧ (0 ≤ b ∧ b < σ 4 1))) ∧ (1 ≤ e ∧ e ≤ 12) ∧ ((r = -5 ∧ σ = σ1 ∧ (¬ σ 24 (a.toNat * 16 + b.toNat) = 0 ∨ (¬ t = -6 ∧ ¬ t = p))) ∨ (r = 1 ∧ up (up (up (up σ 4 3 (wb (σ 4 3) p.toNat 1)) 25 p.toNat a) 26 p.toNat b) 27 p.toNat e = σ1 ∧ σ 24 (a.toNat * 16 + b.toNat) = 0 ∧ (t = -6 ∨ t = p))))) : SMM σ σ1 := by
  rcases h5 with ⟨-, rfl, -⟩ | ⟨-, rfl, -⟩ | ⟨t, -, -, -, ⟨-, rfl, -⟩ | ⟨-, rfl, -⟩⟩
  · exact SMM_rf _
  · exact SMM_rf _
  · exact SMM_rf _
  · exact SMM_up (SMM_up (SMM_up (SMM_up (SMM_rf _) (by decide) _ _) (by decide) _ _) (by decide) _ _) (by decide) _ _
theorem RR_hb {σ : Mem} (hR : RR σ) (p : Int) : (0 ≤ p ∧ p < σ 1 4 ∧ σ 37 p.toNat = 1) ↔ (0 ≤ p ∧ p < σ 1 4 ∧ bv (σ 1 12) p.toNat = 1) := by
  have hn := RR_n hR
  have lb := hR.2.2.2.2.1
  by_cases q : 0 ≤ p ∧ p < σ 1 4
  · rw [(lb p.toNat (by omega)).2.2.1]
  · exact ⟨fun z => absurd ⟨z.1, z.2.1⟩ q, fun z => absurd ⟨z.1, z.2.1⟩ q⟩
set_option maxHeartbeats 4000000 in
theorem pB_stand {σ σ1 σ2 : Mem} {r r' : Int} {p a b e : Int} (hR : RR σ) (h5 : (r = -1 ∧ σ = σ1 ∧ ¬ ((0 ≤ p ∧ p < σ 1 4 ∧ bv (σ 1 12) p.toNat = 1) ∧ ((0 ≤ a ∧ a < σ 4 0) ∧ (0 ≤ b ∧ b < σ 4 1)))) ∨ (r = -2 ∧ σ = σ1 ∧ ((0 ≤ p ∧ p < σ 1 4 ∧ bv (σ 1 12) p.toNat = 1) ∧ ((0 ≤ a ∧ a < σ 4 0) ∧ (0 ≤ b ∧ b < σ 4 1))) ∧ ¬ (1 ≤ e ∧ e ≤ 12)) ∨ (∃ t, firstP (fun p => bv (σ 4 3) p = 1 ∧ σ 25 p = a ∧ σ 26 p = b) 24 (-6) t ∧ ((0 ≤ p ∧ p < σ 1 4 ∧ bv (σ 1 12) p.toNat = 1) ∧ ((0 ≤ a ∧ a < σ 4 0) ∧ (0 ≤ b ∧ b < σ 4 1))) ∧ (1 ≤ e ∧ e ≤ 12) ∧ ((r = -5 ∧ σ = σ1 ∧ (¬ σ 24 (a.toNat * 16 + b.toNat) = 0 ∨ (¬ t = -6 ∧ ¬ t = p))) ∨ (r = 1 ∧ up (up (up (up σ 4 3 (wb (σ 4 3) p.toNat 1)) 25 p.toNat a) 26 p.toNat b) 27 p.toNat e = σ1 ∧ σ 24 (a.toNat * 16 + b.toNat) = 0 ∧ (t = -6 ∨ t = p))))) (h6 : (r' = -1 ∧ σ1 = σ2 ∧ ¬ ((0 ≤ p ∧ p < σ1 28 11 ∧ σ1 37 p.toNat = 1) ∧ ((0 ≤ a ∧ a < σ1 28 29) ∧ (0 ≤ b ∧ b < σ1 28 30)))) ∨ (r' = -2 ∧ σ1 = σ2 ∧ ((0 ≤ p ∧ p < σ1 28 11 ∧ σ1 37 p.toNat = 1) ∧ ((0 ≤ a ∧ a < σ1 28 29) ∧ (0 ≤ b ∧ b < σ1 28 30))) ∧ ¬ (1 ≤ e ∧ e ≤ 12)) ∨ (∃ t, firstP (fun p => σ1 54 p = 1 ∧ σ1 55 p = a ∧ σ1 56 p = b) (σ1 28 11).toNat (-6) t ∧ ((0 ≤ p ∧ p < σ1 28 11 ∧ σ1 37 p.toNat = 1) ∧ ((0 ≤ a ∧ a < σ1 28 29) ∧ (0 ≤ b ∧ b < σ1 28 30))) ∧ (1 ≤ e ∧ e ≤ 12) ∧ ((r' = -5 ∧ σ1 = σ2 ∧ (¬ σ1 53 (a.toNat * 16 + b.toNat) = 0 ∨ (¬ t = -6 ∧ ¬ t = p))) ∨ (r' = 1 ∧ up (up (up (up σ1 54 p.toNat 1) 55 p.toNat a) 56 p.toNat b) 57 p.toNat e = σ2 ∧ σ1 53 (a.toNat * 16 + b.toNat) = 0 ∧ (t = -6 ∨ t = p))))) : r = r' ∧ RR σ2 := by
  obtain ⟨⟨hS0, hZ, hP, hE, hQ, hB, hF⟩, ⟨l1, l2, l3, l4, l5, l6, l7, l8⟩, lz, lp, lb, lh, lm, lf⟩ := id hR
  have hs := pA_stand h5
  have hn := RR_n hR
  obtain ⟨e28, e29, e30, e31, e32, e33, e34, e35, e36, e37, e38, e39, e40, e41, e49, e53, e54, e55, e56, e57⟩ := opq hs
  rw [e28, e37, e53, e54, e55, e56, l4, l6, l7, RR_hb hR] at h6
  rcases h5 with ⟨rfl, rfl, c5⟩ | ⟨rfl, rfl, c5, d5⟩ | ⟨t, f5, c5, d5, h5⟩ <;> rcases h6 with ⟨rfl, rfl, c6⟩ | ⟨rfl, rfl, c6, d6⟩ | ⟨t', f6, c6, d6, h6⟩
  · exact ⟨rfl, hR⟩
  · exact absurd c6 c5
  · exact absurd c6 c5
  · exact absurd c5 c6
  · exact ⟨rfl, hR⟩
  · exact absurd d6 d5
  · exact absurd c5 c6
  · exact absurd d5 d6
  · have ht := RR_who hR f5 f6
    subst ht
    have hk9 : a.toNat * 16 + b.toNat < 256 := by have := hF.1; have := hF.2.1; omega
    rw [lf.1 _ hk9] at h6
    rcases h5 with ⟨rfl, rfl, g5⟩ | ⟨rfl, rfl, g5, k5⟩ <;> rcases h6 with ⟨rfl, rfl, g6⟩ | ⟨rfl, rfl, g6, k6⟩
    · exact ⟨rfl, hR⟩
    · exfalso; omega
    · exfalso; omega
    · have hp24 : p.toNat < 24 := by omega
      have hbs := bv_st (v := 1) hF.2.2.1 hp24 (by omega)
      have hF1 := hF.1
      have hF2 := hF.2.1
      refine ⟨rfl, ⟨hS0, hZ, hP, hE, hQ, hB, ⟨hF.1, hF.2.1, wb_rng (v := 1) hF.2.2.1 hp24, hF.2.2.2.1, fun j hj => ?_, fun j hj => ?_⟩⟩, ⟨l1, l2, l3, l4, l5, l6, l7, l8⟩, lz, lp, lb, lh, lm, ⟨lf.1, fun j hj => ?_⟩⟩
      · show (0 ≤ (if j = p.toNat then a else σ 25 j) ∧ (if j = p.toNat then a else σ 25 j) ≤ 15) ∧ (0 ≤ (if j = p.toNat then b else σ 26 j) ∧ (if j = p.toNat then b else σ 26 j) ≤ 15) ∧ (0 ≤ (if j = p.toNat then e else σ 27 j) ∧ (if j = p.toNat then e else σ 27 j) ≤ 12)
        have := hF.2.2.2.2.1 j hj
        by_cases z : j = p.toNat
        · simp only [if_pos z]; omega
        · simp only [if_neg z]; exact this
      · have hj : bv (wb (σ 4 3) p.toNat 1) j = 1 := hj
        show bv (σ 1 12) j = 1
        rw [hbs, st_at] at hj
        by_cases z : j = p.toNat
        · rw [z]; exact c5.1.2.2
        · rw [if_neg z] at hj; exact hF.2.2.2.2.2 j hj
      · show (if j = p.toNat then 1 else σ 54 j) = bv (wb (σ 4 3) p.toNat 1) j ∧ (if j = p.toNat then a else σ 55 j) = (if j = p.toNat then a else σ 25 j) ∧ (if j = p.toNat then b else σ 56 j) = (if j = p.toNat then b else σ 26 j) ∧ (if j = p.toNat then e else σ 57 j) = (if j = p.toNat then e else σ 27 j)
        obtain ⟨f1, f2, f3, f4⟩ := lf.2 j hj
        rw [hbs, st_at, f1, f2, f3, f4]
        exact ⟨rfl, rfl, rfl, rfl⟩
theorem pA_lift {σ σ1 : Mem} {r : Int} {p : Int} (h5 : (r = -1 ∧ σ = σ1 ∧ ¬ (0 ≤ p ∧ p < σ 1 4 ∧ bv (σ 1 12) p.toNat = 1)) ∨ (r = bv (σ 4 3) p.toNat ∧ up σ 4 3 (wb (σ 4 3) p.toNat 0) = σ1 ∧ (0 ≤ p ∧ p < σ 1 4 ∧ bv (σ 1 12) p.toNat = 1))) : SMM σ σ1 := by
  rcases h5 with ⟨-, rfl, -⟩ | ⟨-, rfl, -⟩
  · exact SMM_rf _
  · exact SMM_up (SMM_rf _) (by decide) _ _
set_option maxHeartbeats 4000000 in
theorem pB_lift {σ σ1 σ2 : Mem} {r r' : Int} {p : Int} (hR : RR σ) (h5 : (r = -1 ∧ σ = σ1 ∧ ¬ (0 ≤ p ∧ p < σ 1 4 ∧ bv (σ 1 12) p.toNat = 1)) ∨ (r = bv (σ 4 3) p.toNat ∧ up σ 4 3 (wb (σ 4 3) p.toNat 0) = σ1 ∧ (0 ≤ p ∧ p < σ 1 4 ∧ bv (σ 1 12) p.toNat = 1))) (h6 : (r' = -1 ∧ σ1 = σ2 ∧ ¬ (0 ≤ p ∧ p < σ1 28 11 ∧ σ1 37 p.toNat = 1)) ∨ (r' = σ1 54 p.toNat ∧ up σ1 54 p.toNat 0 = σ2 ∧ (0 ≤ p ∧ p < σ1 28 11 ∧ σ1 37 p.toNat = 1))) : r = r' ∧ RR σ2 := by
  obtain ⟨⟨hS0, hZ, hP, hE, hQ, hB, hF⟩, ⟨l1, l2, l3, l4, l5, l6, l7, l8⟩, lz, lp, lb, lh, lm, lf⟩ := id hR
  have hs := pA_lift h5
  have hn := RR_n hR
  obtain ⟨e28, e29, e30, e31, e32, e33, e34, e35, e36, e37, e38, e39, e40, e41, e49, e53, e54, e55, e56, e57⟩ := opq hs
  rw [e28, e37, e54, l4, RR_hb hR] at h6
  rcases h5 with ⟨rfl, rfl, c5⟩ | ⟨rfl, rfl, c5⟩ <;> rcases h6 with ⟨rfl, rfl, c6⟩ | ⟨rfl, rfl, c6⟩
  · exact ⟨rfl, hR⟩
  · exact absurd c6 c5
  · exact absurd c5 c6
  · have hp24 : p.toNat < 24 := by omega
    have hbs := bv_st (v := 0) hF.2.2.1 hp24 (by omega)
    refine ⟨(lf.2 _ hp24).1.symm, ⟨hS0, hZ, hP, hE, hQ, hB, ⟨hF.1, hF.2.1, wb_rng (v := 0) hF.2.2.1 hp24, hF.2.2.2.1, hF.2.2.2.2.1, fun j hj => ?_⟩⟩, ⟨l1, l2, l3, l4, l5, l6, l7, l8⟩, lz, lp, lb, lh, lm, ⟨lf.1, fun j hj => ⟨?_, (lf.2 j hj).2⟩⟩⟩
    · have hj : bv (wb (σ 4 3) p.toNat 0) j = 1 := hj
      show bv (σ 1 12) j = 1
      rw [hbs, st_at] at hj
      by_cases z : j = p.toNat
      · rw [z]; exact c5.2.2
      · rw [if_neg z] at hj; exact hF.2.2.2.2.2 j hj
    · show (if j = p.toNat then 0 else σ 54 j) = bv (wb (σ 4 3) p.toNat 0) j
      rw [hbs, st_at, (lf.2 j hj).1]
