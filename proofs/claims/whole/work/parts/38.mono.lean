/-! monotony: greater drags and a LOW G never make less of P -/
theorem rtu_le {n : Int} (h : 0 ≤ n) : n ≤ rtu n * rtu n := by
  have h1 := rt_lt h
  unfold rtu
  split
  · omega
  · omega
theorem sq_lt_of {a b : Int} (hb : 0 ≤ b) (h : a * a ≤ b * b) : a ≤ b := by
  rcases Int.lt_or_le b a with q | q
  · have h1 := sq_le (a := b + 1) (b := a) (by omega) (by omega)
    have h2 : (b + 1) * (b + 1) = b * b + 2 * b + 1 := by rw [Int.add_mul, Int.mul_add]; omega
    omega
  · exact q
theorem rt_mono {a b : Int} (ha : 0 ≤ a) (h : a ≤ b) : rt a ≤ rt b := by
  have h1 := rt_le ha
  have h2 := rt_lt (n := b) (by omega)
  have h3 := rt_nn b
  have h4 := rt_nn a
  rcases Int.lt_or_le (rt b) (rt a) with q | q
  · have := sq_le (a := rt b + 1) (b := rt a) (by omega) (by omega)
    omega
  · exact q
theorem mul3 (a b c : Int) : a * b * (c * c) = a * c * (b * c) := by
  rw [Int.mul_assoc, Int.mul_assoc, Int.mul_left_comm b c c]
theorem cnd_mono {rH rA gL gA : Int} (hrH : 0 ≤ rH ∧ rH ≤ 4000) (hrA : 0 ≤ rA ∧ rA ≤ rH) (hgA : 0 ≤ gA ∧ gA ≤ 4915200) (hgL : 0 ≤ gL ∧ gL ≤ gA) : cnd 0 rH gL ≤ cnd 1 rA gA := by
  have a1 := rgg (r := rH) (g := gL) hrH (by omega)
  have a2 := rgg (r := rA) (g := gA) (by omega) hgA
  unfold cnd
  rw [if_pos rfl, if_neg (by decide)]
  have u1 := rtu_le (n := 1125899906842624 + rH * gL * gL) (by omega)
  have u2 := rt_25 (D := 1125899906842624 + rH * gL * gL) (by omega)
  have u3 := rtu_ge (1125899906842624 + rH * gL * gL)
  have v1 := rt_le (n := 1125899906842624 + rA * gA * gA) (by omega)
  have v2 := rt_25 (D := 1125899906842624 + rA * gA * gA) (by omega)
  generalize rtu (1125899906842624 + rH * gL * gL) = u at *
  generalize rt (1125899906842624 + rA * gA * gA) = v at *
  -- gL v ≤ gA u
  have k1 : gL * v ≤ gA * u := by
    refine sq_lt_of (Int.mul_nonneg hgA.1 (by omega)) ?_
    have e1 : gL * v * (gL * v) = gL * gL * (v * v) := by rw [mul3]
    have e2 : gA * u * (gA * u) = gA * gA * (u * u) := by rw [mul3]
    rw [e1, e2]
    have s1 : 0 ≤ gL * gL := Int.mul_nonneg hgL.1 hgL.1
    have s2 : gL * gL ≤ gA * gA := sq_le hgL.1 hgL.2
    have t1 : gL * gL * (v * v) ≤ gL * gL * (1125899906842624 + rA * gA * gA) := Int.mul_le_mul_of_nonneg_left v1 s1
    have t2 : gA * gA * (1125899906842624 + rH * gL * gL) ≤ gA * gA * (u * u) := Int.mul_le_mul_of_nonneg_left u1 (by omega)
    have t3 : gL * gL * (1125899906842624 + rA * gA * gA) = gL * gL * 1125899906842624 + rA * (gL * gL * (gA * gA)) := by
      rw [Int.mul_add, Int.mul_assoc rA, Int.mul_left_comm (gL * gL) rA]
    have t4 : gA * gA * (1125899906842624 + rH * gL * gL) = gA * gA * 1125899906842624 + rH * (gL * gL * (gA * gA)) := by
      rw [Int.mul_add, Int.mul_assoc rH, Int.mul_left_comm (gA * gA) rH, Int.mul_comm (gA * gA) (gL * gL)]
    have t5 : rA * (gL * gL * (gA * gA)) ≤ rH * (gL * gL * (gA * gA)) := Int.mul_le_mul_of_nonneg_right hrA.2 (Int.mul_nonneg s1 (by omega))
    omega
  -- floor ≤ ceil
  have k2 : gL * 33554432 / u * u ≤ gL * 33554432 := Int.ediv_mul_le _ (by omega)
  have k3 : gA * 33554432 ≤ qu (gA * 33554432) v * v := by
    unfold qu
    have := Int.lt_ediv_add_one_mul_self (gA * 33554432 + v - 1) (b := v) (by omega)
    rw [Int.add_mul] at this
    omega
  rcases Int.lt_or_le (qu (gA * 33554432) v) (gL * 33554432 / u) with q | q
  · exfalso
    generalize gL * 33554432 / u = x at *
    generalize qu (gA * 33554432) v = y at *
    -- x u ≤ gL C, gA C ≤ y v, y < x, gL v ≤ gA u
    have m1 : x * u * v ≤ gL * 33554432 * v := Int.mul_le_mul_of_nonneg_right k2 (by omega)
    have m2 : gA * 33554432 * u ≤ y * v * u := Int.mul_le_mul_of_nonneg_right k3 (by omega)
    have m3 : gL * 33554432 * v = 33554432 * (gL * v) := by rw [Int.mul_comm gL, Int.mul_assoc]
    have m4 : gA * 33554432 * u = 33554432 * (gA * u) := by rw [Int.mul_comm gA, Int.mul_assoc]
    have m5 : x * u * v = x * (u * v) := Int.mul_assoc _ _ _
    have m6 : y * v * u = y * (u * v) := by rw [Int.mul_assoc, Int.mul_comm v u]
    have m7 : (y + 1) * (u * v) ≤ x * (u * v) := Int.mul_le_mul_of_nonneg_right (by omega) (Int.mul_nonneg (by omega) (by omega))
    have m8 : 0 < u * v := Int.mul_pos (by omega) (by omega)
    rw [Int.add_mul] at m7
    omega
  · exact q
theorem rgg_mono {r r' g g' : Int} (hr : 0 ≤ r') (h1 : r' ≤ r) (hg : 0 ≤ g') (h2 : g' ≤ g) : r' * g' * g' ≤ r * g * g := by
  have a : r' * g' ≤ r * g := Int.mul_le_mul h1 h2 hg (by omega)
  exact Int.mul_le_mul a h2 hg (Int.mul_nonneg (by omega) (by omega))
theorem qu_mono {a b c : Int} (hc : 0 < c) (h : a ≤ b) : qu a c ≤ qu b c := by
  unfold qu
  exact Int.ediv_le_ediv hc (by omega)
theorem dv_anti {a b c : Int} (ha : 0 ≤ a) (hb : 0 < b) (h : b ≤ c) : a / c ≤ a / b := by
  have h1 : a / c * c ≤ a := Int.ediv_mul_le _ (by omega)
  have h2 : 0 ≤ a / c := Int.ediv_nonneg ha (by omega)
  have h3 : a / c * b ≤ a / c * c := Int.mul_le_mul_of_nonneg_left h h2
  exact Int.le_ediv_of_mul_le hb (by omega)
theorem fln_mono {r r' g g' b b' : Int} (hr : 0 ≤ r') (h1 : r' ≤ r) (hg : 0 ≤ g') (h2 : g' ≤ g) (hb : 0 ≤ b) (h3 : b ≤ b') : fln 0 r g b ≤ fln 0 r' g' b' := by
  unfold fln
  rw [if_pos rfl, if_pos rfl]
  have a := rgg_mono hr h1 hg h2
  have a0 : 0 ≤ r' * g' * g' := Int.mul_nonneg (Int.mul_nonneg hr hg) hg
  have q := qu_mono (c := 1048576) (by decide) a
  have q0 := qu_nn (a := r' * g' * g') (b := 1048576) a0 (by decide)
  have s1 := dv_anti (a := b * 1073741824) (b := 1073741824 + qu (r' * g' * g') 1048576) (c := 1073741824 + qu (r * g * g) 1048576) (by omega) (by omega) (by omega)
  have s2 : b * 1073741824 / (1073741824 + qu (r' * g' * g') 1048576) ≤ b' * 1073741824 / (1073741824 + qu (r' * g' * g') 1048576) := Int.ediv_le_ediv (by omega) (by omega)
  omega
theorem fl_mono {k P P' : Int} (hk : 0 ≤ k) (hP : 0 ≤ P) (h : P ≤ P') : fl 0 k P ≤ fl 0 k P' := by
  unfold fl
  rw [if_neg (by decide), if_neg (by decide)]
  exact Int.mul_le_mul_of_nonneg_left (rt_mono (by omega) (by omega)) hk
theorem gath_mono {n : Nat} {fr hd drH drA cl : Nat → Int} (hN : NetOk n fr hd drH) (hA : ∀ e, e < 25 → 0 ≤ drA e ∧ drA e ≤ drH e) : ∀ (p : Nat) (E E' : Nat → Int) (B : Int), p ≤ n → EOk p E B → EOk p E' B → B + p * 204800 ≤ 4915200 → (∀ e, E e ≤ E' e) → ∀ e, gath 0 fr hd drH cl p E e ≤ gath 1 fr hd drA cl p E' e
  | 0, E, E', B, _, _, _, _, h, e => h e
  | p + 1, E, E', B, hp, hE, hE', hB, h, e => by
    have hN' : NetOk n fr hd drA := ⟨hN.1, hN.2.1, hN.2.2.1, fun e he => ⟨(hA e he).1, by have := (hA e he).2; have := (hN.2.2.2 e he).2; omega⟩⟩
    rw [gath, gath]
    refine gath_mono hN hA p _ _ (B + 204800) (by omega) (gst_ok hN (by omega) hE (by omega)) (gst_ok hN' (by omega) hE' (by omega)) (by omega) (fun k => ?_) e
    have a := EOk_at hE
    have a' := EOk_at hE'
    have b := hN.2.2.1 p (by omega)
    have d := hN.2.2.2 (p + 1) (by have := hN.1; omega)
    have d' := hA (p + 1) (by have := hN.1; omega)
    have h9 := h (p + 1)
    have c := cnd_mono (rH := drH (p + 1)) (rA := drA (p + 1)) (gL := E (p + 1) + hd p) (gA := E' (p + 1) + hd p) d d' (by omega) (by omega)
    have hk := h k
    unfold gst
    simp only [ad_at]
    (repeat' split) <;> omega
theorem Gv_mono {n : Nat} {fr hd drH drA cl : Nat → Int} (hN : NetOk n fr hd drH) (hA : ∀ e, e < 25 → 0 ≤ drA e ∧ drA e ≤ drH e) (e : Nat) : Gv 0 n fr hd drH cl e ≤ Gv 1 n fr hd drA cl e :=
  gath_mono hN hA n _ _ 0 (Nat.le_refl _) (EOk_0 (fun _ _ => rfl)) (EOk_0 (fun _ _ => rfl)) (by have := hN.1; omega) (fun _ => Int.le_refl _) e
theorem prs_mono {n : Nat} {fr drL drA cl GL GA : Nat → Int} {P0 P1 : Int} (hn : n ≤ 24) (hf : ∀ p, p < n → -1 ≤ fr p ∧ fr p < p) (hdL : ∀ e, e < 25 → 0 ≤ drL e ∧ drL e ≤ drA e) (hdA : ∀ e, e < 25 → drA e ≤ 4000) (hG : ∀ e, e ≤ n → 0 ≤ GL e ∧ GL e ≤ GA e) (hGA : ∀ e, e ≤ n → GA e ≤ 4915200) (hP : 0 ≤ P0) (hP1 : P0 ≤ P1) (F F' : Nat → Int) : ∀ k, k ≤ n → ∀ e, e ≤ k → prs 0 fr drA cl GA P0 k F e ≤ prs 0 fr drL cl GL P1 k F' e
  | 0, _, e, he => by
    have h1 : e = 0 := by omega
    subst h1
    have a := hG 0 (by omega)
    have b := hdL 0 (by omega)
    rw [prs, prs, st_at, st_at, if_pos rfl, if_pos rfl]
    exact fln_mono b.1 b.2 a.1 a.2 hP hP1
  | k + 1, hk, e, he => by
    have ih := prs_mono (cl := cl) hn hf hdL hdA hG hGA hP hP1 F F' k (by omega)
    rw [prs, prs, st_at, st_at]
    by_cases h1 : e = k + 1
    · rw [if_pos h1, if_pos h1]
      have c := hf k (by omega)
      have d := ih (fr k + 1).toNat (by omega)
      have r := prs_rng (s := 0) (cl := cl) (P0 := P0) hn hf (fun e he => ⟨by have := hdL e he; omega, hdA e he⟩) (fun e he => ⟨by have := hG e he; omega, hGA e he⟩) hP F k (by omega) (fr k + 1).toNat (by omega)
      have a := hG (k + 1) (by omega)
      have b := hdL (k + 1) (by omega)
      split
      · exact Int.le_refl _
      · exact fln_mono b.1 b.2 a.1 a.2 r.1 d
    · rw [if_neg h1, if_neg h1]
      exact ih e (by omega)
theorem lsO_mono {b sp sp' : Nat → Int} : ∀ {n : Nat}, (∀ k, k < n → b k = 1 → sp k ≤ sp' k) → (lsO b sp n = none ∧ lsO b sp' n = none) ∨ ∃ l l', lsO b sp n = some l ∧ lsO b sp' n = some l' ∧ l ≤ l'
  | 0, _ => Or.inl ⟨rfl, rfl⟩
  | n + 1, h => by
    have ih := lsO_mono (b := b) (sp := sp) (sp' := sp') (n := n) (fun k hk => h k (by omega))
    rw [lsO, lsO]
    by_cases q : b n = 1
    · rw [if_pos q, if_pos q]
      have h1 := h n (by omega) q
      rcases ih with ⟨a, a'⟩ | ⟨l, l', a, a', c⟩
      · rw [a, a']; exact Or.inr ⟨_, _, rfl, rfl, h1⟩
      · rw [a, a']; exact Or.inr ⟨min l (sp n), min l' (sp' n), rfl, rfl, by omega⟩
    · rw [if_neg q, if_neg q]
      exact ih
theorem lsV_mono {b sp sp' : Nat → Int} {n : Nat} (h : ∀ k, k < n → b k = 1 → sp k ≤ sp' k) : lsV b sp n ≤ lsV b sp' n := by
  unfold lsV
  rcases lsO_mono h with ⟨a, a'⟩ | ⟨l, l', a, a', c⟩
  · rw [a, a']; exact Int.le_refl _
  · rw [a, a']; exact c
/-- less pressure never makes LEAST greater -/
theorem lsC_mono {σ : Mem} {h : Nat} {q q' : Int} (hS0 : IS σ) (hP : IP σ) (hE : IE σ) (hQ : IQ σ) (hq : 0 ≤ q) (hqq : q ≤ q') (hq' : q' ≤ 100000) : lsC σ h q ≤ lsC σ h q' := by
  obtain ⟨i1, i2, i3, i4, i5, i6, i7, i8⟩ := id hS0
  have hN := netok (m := σ 5 h) hS0 hP hQ (fun e he => (hE e he).2)
  refine lsV_mono (fun k hk _ => ?_)
  obtain ⟨-, -, -, k1, k3, k2⟩ := hP k (by omega)
  have h1 := fnw_rng k1 k2
  have h2 := PvC_rng (s := 0) (m := σ 5 h) (q := q) hS0 hP hE hQ (by omega) (e := k + 1) (by omega)
  have h3 : PvC 0 (σ 5 h) q σ (k + 1) ≤ PvC 0 (σ 5 h) q' σ (k + 1) :=
    prs_mono hN.1 hN.2.1 (fun e he => ⟨(hN.2.2.2 e he).1, Int.le_refl _⟩) (fun e he => (hN.2.2.2 e he).2) (fun e he => ⟨(Gv_rng hN he).1, Int.le_refl _⟩) (fun e he => (Gv_rng hN he).2) (by omega) (by omega) _ _ _ (Nat.le_refl _) _ (by omega)
  have h4 := fl_mono (k := fnw (σ 13 k) (σ 15 k)) h1.2.2.1 h2.1 h3
  unfold spC
  omega
theorem metC_anti {σ : Mem} {h : Nat} {x y : Int} (hS0 : IS σ) (hP : IP σ) (hE : IE σ) (hQ : IQ σ) (hx : 0 ≤ x) (hxy : x ≤ y) (hy : y ≤ 100) (hm : metC σ h y) : metC σ h x := by
  obtain ⟨i1, -⟩ := id hS0
  have w1 := lft_rng i1 (x := x) ⟨hx, by omega⟩
  have w2 := lft_rng i1 (x := y) ⟨by omega, hy⟩
  have w3 : σ 1 0 * (100 - y) ≤ σ 1 0 * (100 - x) := Int.mul_le_mul_of_nonneg_left (by omega) (by omega)
  have w4 : lft (σ 1 0) y ≤ lft (σ 1 0) x := by unfold lft; omega
  have := lsC_mono (h := h) hS0 hP hE hQ (q := lft (σ 1 0) y) (q' := lft (σ 1 0) x) (by omega) w4 (by omega)
  unfold metC at *
  omega
