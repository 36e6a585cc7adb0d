/-! the floor: words -/
noncomputable def b2i (P : Prop) : Int := @ite Int P (Classical.propDecidable P) 1 0
theorem b2i_1 {P : Prop} (h : P) : b2i P = 1 := by unfold b2i; rw [if_pos h]
theorem b2i_0 {P : Prop} (h : ¬ P) : b2i P = 0 := by unfold b2i; rw [if_neg h]
theorem b2i_01 (P : Prop) : b2i P = 0 ∨ b2i P = 1 := by
  by_cases h : P
  · exact Or.inr (b2i_1 h)
  · exact Or.inl (b2i_0 h)
theorem b2i_iff {P : Prop} : b2i P = 1 ↔ P := by
  by_cases h : P
  · exact ⟨fun _ => h, fun _ => b2i_1 h⟩
  · exact ⟨fun q => by rw [b2i_0 h] at q; omega, fun q => absurd q h⟩
theorem b2i_eq {P : Prop} {r : Int} (h1 : r = 0 ∨ r = 1) (h2 : r = 1 ↔ P) : r = b2i P := by
  by_cases h : P
  · rw [b2i_1 h]; exact h2.mpr h
  · rw [b2i_0 h]
    rcases h1 with q | q
    · exact q
    · exact absurd (h2.mp q) h
def cutP (X R C : Int) : Prop := 2 * X < R.natAbs + C.natAbs ∧ -(2 * X) < R.natAbs + C.natAbs
/-- a wall between: kd the kinds, from (r1, c1) to (r, c) -/
def bwP (kd : Nat → Int) (r1 c1 r c : Int) : Prop := ∃ i j : Nat, (min r1 r ≤ i ∧ (i : Int) ≤ max r1 r) ∧ (min c1 c ≤ j ∧ (j : Int) ≤ max c1 c) ∧ kd (i * 16 + j) = 1 ∧ cutP ((r - r1) * (j - c1) - (c - c1) * (i - r1)) (r - r1) (c - c1)
def wetP (kd : Nat → Int) (r1 c1 re : Int) (r c : Nat) : Prop := kd (r * 16 + c) = 0 ∧ (r - r1) * (r - r1) + (c - c1) * (c - c1) ≤ re * re ∧ ¬ bwP kd r1 c1 r c
def dryP (kd stn ro co re : Nat → Int) (r c : Nat) : Prop := kd (r * 16 + c) = 0 ∧ ∀ p, p < 24 → stn p = 1 → ¬ wetP kd (ro p) (co p) (re p) r c
noncomputable def dryV (kd stn ro co re : Nat → Int) (r c : Nat) : Int := b2i (dryP kd stn ro co re r c)
/-- the DRY cells ahead of (r, c), of cs columns -/
def cntV (dv : Nat → Nat → Int) (cs r c : Nat) : Int := sm (fun i => sm (dv i) cs) r + sm (dv r) c
def firstP (hit : Nat → Prop) (n : Nat) (none r : Int) : Prop := (∃ p, p < n ∧ hit p ∧ (∀ q, q < p → ¬ hit q) ∧ r = p) ∨ ((∀ p, p < n → ¬ hit p) ∧ r = none)
def nearP (stn ro co : Nat → Int) (s : Int) (p : Nat) : Prop := stn p = 1 ∧ ∃ q, q < 24 ∧ q ≠ p ∧ stn q = 1 ∧ (ro q - ro p) * (ro q - ro p) + (co q - co p) * (co q - co p) < s
/-! Arrays.fill -/
def flF (f : Nat → Int) (v : Int) (i : Nat) : Nat → Int := fun k => if k < i then v else f k
theorem flF_0 (f : Nat → Int) (v : Int) : flF f v 0 = f := by funext k; simp [flF]
theorem flF_s (f : Nat → Int) (v : Int) (i : Nat) (σ : Mem) (c : Nat) : up (upC σ c (flF f v i)) c i v = upC σ c (flF f v (i + 1)) := by
  funext c' k
  by_cases hc : c' = c
  · subst hc
    simp only [up_app, upC, if_true, flF]
    by_cases hk : k = i
    · subst hk; simp
    · by_cases h2 : k < i
      · rw [if_neg hk, if_pos h2, if_pos (by omega)]
      · rw [if_neg hk, if_neg h2, if_neg (by omega)]
  · simp only [up_app, upC, if_neg hc]
theorem upC_0 (σ : Mem) (c : Nat) : upC σ c (σ c) = σ := by
  funext c'
  by_cases hc : c' = c
  · subst hc; simp [upC]
  · simp [upC, hc]
set_option maxHeartbeats 4000000 in
set_option maxRecDepth 100000 in
theorem c_J7_fill_53178 {σ : Mem} {c n : Nat} {v : Int} (hc : lay[c]? = some (.inr (0, n))) (hn : n < 2147483648) : Sp1 yJ7_fill_53178 cJ7_fill_53178 4 none 0 0 [vr c, vi v] σ (fun r σ' => upC σ c (flF (σ c) v n) = σ') := by
  refine Sp1_in RJ7 rfl (by decide +kernel) (Nat.le_of_ble_eq_true rfl) [some (vr c), some (vi v), none, none] rfl ?_
  intro K h hr
  have loop : ∀ (j i : Nat), i + j = n → M K 5 [some (vr c), some (vi v), some (vi (i : Int)), some (vi (n : Int))] [] (upC σ c (flF (σ c) v i)) := by
    intro j
    induction j with
    | zero =>
      intro i hi
      have : i = n := by omega
      subst this
      refine mi_iload_n h dJ7_fill_53178_5 (by rfl) ?_
      refine mi_iload_n h dJ7_fill_53178_6 (by rfl) ?_
      refine mi_icmp_ge (tgt := 20) h dJ7_fill_53178_7 (by decide) ⟨by omega, by omega⟩ ⟨by omega, by omega⟩ (fun e7 => ?_) (fun e7 => ?_)
      · refine mi_return (x := 0) h hr dJ7_fill_53178_20 ?_
        rfl
      · exfalso; omega
    | succ j ih =>
      intro i hi
      refine mi_iload_n h dJ7_fill_53178_5 (by rfl) ?_
      refine mi_iload_n h dJ7_fill_53178_6 (by rfl) ?_
      refine mi_icmp_ge (tgt := 20) h dJ7_fill_53178_7 (by decide) ⟨by omega, by omega⟩ ⟨by omega, by omega⟩ (fun e7 => ?_) (fun e7 => ?_)
      · exfalso; omega
      · refine mi_aload_n h dJ7_fill_53178_10 (by rfl) ?_
        refine mi_iload_n h dJ7_fill_53178_11 (by rfl) ?_
        refine mi_iload_n h dJ7_fill_53178_12 (by rfl) ?_
        refine mn_iastore i h dJ7_fill_53178_13 hc (by omega) (by omega) hn ?_
        rw [flF_s]
        refine mi_iinc h dJ7_fill_53178_14 (by rfl) ?_ (by decide)
        refine mi_goto (tgt := 5) h dJ7_fill_53178_17 (by decide) ?_
        exact ih (i + 1) (by omega)
  refine mi_iconst h dJ7_fill_53178_0 ?_
  refine mi_istore_n h dJ7_fill_53178_1 (by decide) ?_
  refine mi_aload_n h dJ7_fill_53178_2 (by rfl) ?_
  refine mi_alen h dJ7_fill_53178_3 hc (by decide) ?_
  refine mi_istore_n h dJ7_fill_53178_4 (by decide) ?_
  have := loop n 0 (by omega)
  rw [flF_0, upC_0] at this
  exact this
set_option maxHeartbeats 4000000 in
set_option maxRecDepth 100000 in
theorem c_J7_fill_d0a16 {σ : Mem} {c n : Nat} {v : Int} (hc : lay[c]? = some (.inr (1, n))) (hn : n < 2147483648) : Sp1 yJ7_fill_d0a16 cJ7_fill_d0a16 5 none 0 0 [vr c, vl v] σ (fun r σ' => upC σ c (flF (σ c) v n) = σ') := by
  refine Sp1_in RJ7 rfl (by decide +kernel) (Nat.le_of_ble_eq_true rfl) [some (vr c), some (vl v), none, none, none] rfl ?_
  intro K h hr
  have loop : ∀ (j i : Nat), i + j = n → M K 6 [some (vr c), some (vl v), none, some (vi (i : Int)), some (vi (n : Int))] [] (upC σ c (flF (σ c) v i)) := by
    intro j
    induction j with
    | zero =>
      intro i hi
      have : i = n := by omega
      subst this
      refine mi_iload_n h dJ7_fill_d0a16_6 (by rfl) ?_
      refine mi_iload h dJ7_fill_d0a16_7 (by rfl) ?_
      refine mi_icmp_ge (tgt := 22) h dJ7_fill_d0a16_9 (by decide) ⟨by omega, by omega⟩ ⟨by omega, by omega⟩ (fun e9 => ?_) (fun e9 => ?_)
      · refine mi_return (x := 0) h hr dJ7_fill_d0a16_22 ?_
        rfl
      · exfalso; omega
    | succ j ih =>
      intro i hi
      refine mi_iload_n h dJ7_fill_d0a16_6 (by rfl) ?_
      refine mi_iload h dJ7_fill_d0a16_7 (by rfl) ?_
      refine mi_icmp_ge (tgt := 22) h dJ7_fill_d0a16_9 (by decide) ⟨by omega, by omega⟩ ⟨by omega, by omega⟩ (fun e9 => ?_) (fun e9 => ?_)
      · exfalso; omega
      · refine mi_aload_n h dJ7_fill_d0a16_12 (by rfl) ?_
        refine mi_iload_n h dJ7_fill_d0a16_13 (by rfl) ?_
        refine mi_lload_n h dJ7_fill_d0a16_14 (by rfl) ?_
        refine mn_lastore i h dJ7_fill_d0a16_15 hc (by omega) (by omega) hn ?_
        rw [flF_s]
        refine mi_iinc h dJ7_fill_d0a16_16 (by rfl) ?_ (by decide)
        refine mi_goto (tgt := 6) h dJ7_fill_d0a16_19 (by decide) ?_
        exact ih (i + 1) (by omega)
  refine mi_iconst h dJ7_fill_d0a16_0 ?_
  refine mi_istore_n h dJ7_fill_d0a16_1 (by decide) ?_
  refine mi_aload_n h dJ7_fill_d0a16_2 (by rfl) ?_
  refine mi_alen h dJ7_fill_d0a16_3 hc (by decide) ?_
  refine mi_istore h dJ7_fill_d0a16_4 (by decide) ?_
  have := loop n 0 (by omega)
  rw [flF_0, upC_0] at this
  exact this
/-! Plan -/
set_option maxHeartbeats 4000000 in
set_option maxRecDepth 100000 in
theorem c_X2_lay {σ : Mem} {a b : Int} : Sp1 yX2_lay cX2_lay 3 none 0 1 [vr 4, vi a, vi b] σ (fun r σ' => upC (up (up (up σ 4 0 a) 4 1 b) 4 3 0) 24 (flF (σ 24) 0 256) = σ') := by
  refine Sp1_in RX2 rfl (by decide +kernel) (Nat.le_of_ble_eq_true rfl) [some (vr 4), some (vi a), some (vi b)] rfl ?_
  intro K h hr
  refine mi_aload_n h dX2_lay_0 (by rfl) ?_
  refine mi_iload_n h dX2_lay_1 (by rfl) ?_
  refine pf_X2_0 h dX2_lay_2 fl_RX2_9 ?_
  refine mi_aload_n h dX2_lay_5 (by rfl) ?_
  refine mi_iload_n h dX2_lay_6 (by rfl) ?_
  refine pf_X2_1 h dX2_lay_7 fl_RX2_15 ?_
  refine mi_aload_n h dX2_lay_10 (by rfl) ?_
  refine mi_iconst h dX2_lay_11 ?_
  refine pf_X2_3 h dX2_lay_12 fl_RX2_31 ?_
  refine mi_aload_n h dX2_lay_15 (by rfl) ?_
  refine gf_X2_2 h dX2_lay_16 fl_RX2_18 ?_
  refine mi_iconst h dX2_lay_19 ?_
  refine mi_cS2v (hw := Nat.le_of_ble_eq_true rfl) h dX2_lay_20 ml_RX2_34 ym_yJ7_fill_53178 (c_J7_fill_53178 (n := 256) rfl (by decide)) (fun r20 σ20 hp20 => ?_)
  subst hp20
  refine mi_return (x := 0) h hr dX2_lay_23 ?_
  rfl
set_option maxHeartbeats 4000000 in
set_option maxRecDepth 100000 in
theorem c_X2_isCell {σ : Mem} {a b : Int} (hF : IF σ) (ha : R32 a) (hb : R32 b) : Sp1 yX2_isCell cX2_isCell 3 (some .boolean) 1 0 [vr 4, vi a, vi b] σ (fun r σ' => σ = σ' ∧ (r = 0 ∨ r = 1) ∧ (r = 1 ↔ (0 ≤ a ∧ a < σ 4 0) ∧ (0 ≤ b ∧ b < σ 4 1))) := by
  refine Sp1_in RX2 rfl (by decide +kernel) (Nat.le_of_ble_eq_true rfl) [some (vr 4), some (vi a), some (vi b)] rfl ?_
  intro K h hr
  obtain ⟨f1, f2, f3, f4, f5, f6⟩ := id hF
  refine mi_iload_n h dX2_isCell_0 (by rfl) ?_
  refine mi_if_lt (tgt := 28) h dX2_isCell_1 (by decide) ⟨by omega, by omega⟩ (fun e1 => ?_) (fun e1 => ?_)
  · refine mi_iconst h dX2_isCell_28 ?_
    refine mi_zreturn h hr dX2_isCell_29 (by omega) ?_
    exact ⟨rfl, by omega, by omega⟩
  · refine mi_iload_n h dX2_isCell_4 (by rfl) ?_
    refine mi_aload_n h dX2_isCell_5 (by rfl) ?_
    refine gf_X2_0 h dX2_isCell_6 fl_RX2_9 ?_
    refine mi_icmp_ge (tgt := 28) h dX2_isCell_9 (by decide) ⟨by omega, by omega⟩ ⟨by omega, by omega⟩ (fun e9 => ?_) (fun e9 => ?_)
    · refine mi_iconst h dX2_isCell_28 ?_
      refine mi_zreturn h hr dX2_isCell_29 (by omega) ?_
      exact ⟨rfl, by omega, by omega⟩
    · refine mi_iload_n h dX2_isCell_12 (by rfl) ?_
      refine mi_if_lt (tgt := 28) h dX2_isCell_13 (by decide) ⟨by omega, by omega⟩ (fun e13 => ?_) (fun e13 => ?_)
      · refine mi_iconst h dX2_isCell_28 ?_
        refine mi_zreturn h hr dX2_isCell_29 (by omega) ?_
        exact ⟨rfl, by omega, by omega⟩
      · refine mi_iload_n h dX2_isCell_16 (by rfl) ?_
        refine mi_aload_n h dX2_isCell_17 (by rfl) ?_
        refine gf_X2_1 h dX2_isCell_18 fl_RX2_15 ?_
        refine mi_icmp_ge (tgt := 28) h dX2_isCell_21 (by decide) ⟨by omega, by omega⟩ ⟨by omega, by omega⟩ (fun e21 => ?_) (fun e21 => ?_)
        · refine mi_iconst h dX2_isCell_28 ?_
          refine mi_zreturn h hr dX2_isCell_29 (by omega) ?_
          exact ⟨rfl, by omega, by omega⟩
        · refine mi_iconst h dX2_isCell_24 ?_
          refine mi_goto (tgt := 29) h dX2_isCell_25 (by decide) ?_
          refine mi_zreturn h hr dX2_isCell_29 (by omega) ?_
          exact ⟨rfl, by omega, by omega⟩
set_option maxHeartbeats 4000000 in
set_option maxRecDepth 100000 in
theorem c_X2_kindOf {σ : Mem} {a b : Nat} (ha : a < 16) (hb : b < 16) : Sp1 yX2_kindOf cX2_kindOf 3 (some .int) 1 0 [vr 4, vi (a : Int), vi (b : Int)] σ (fun r σ' => σ = σ' ∧ r = σ 24 (a * 16 + b)) := by
  refine Sp1_in RX2 rfl (by decide +kernel) (Nat.le_of_ble_eq_true rfl) [some (vr 4), some (vi (a : Int)), some (vi (b : Int))] rfl ?_
  intro K h hr
  refine mi_aload_n h dX2_kindOf_0 (by rfl) ?_
  refine gf_X2_2 h dX2_kindOf_1 fl_RX2_18 ?_
  refine mi_iload_n h dX2_kindOf_4 (by rfl) ?_
  refine mi_bipush h dX2_kindOf_5 (by decide) ?_
  refine mi_imul h dX2_kindOf_7 ?_
  refine mi_iload_n h dX2_kindOf_8 (by rfl) ?_
  refine mi_iadd h dX2_kindOf_9 ?_
  refine mn_iaload (a * 16 + b) h dX2_kindOf_10 (by rfl) (by omega) (by omega) (by decide) ?_
  refine mi_ireturn h hr dX2_kindOf_11 ?_
  exact ⟨rfl, rfl⟩
set_option maxHeartbeats 4000000 in
set_option maxRecDepth 100000 in
theorem c_X2_squareTo {σ : Mem} {p : Nat} {a b : Int} (hp : p < 24) : Sp1 yX2_squareTo cX2_squareTo 6 (some .int) 1 0 [vr 4, vi (p : Int), vi a, vi b] σ (fun r σ' => σ = σ' ∧ r = (a - σ 25 p) * (a - σ 25 p) + (b - σ 26 p) * (b - σ 26 p)) := by
  refine Sp1_in RX2 rfl (by decide +kernel) (Nat.le_of_ble_eq_true rfl) [some (vr 4), some (vi (p : Int)), some (vi a), some (vi b), none, none] rfl ?_
  intro K h hr
  refine mi_iload_n h dX2_squareTo_0 (by rfl) ?_
  refine mi_aload_n h dX2_squareTo_1 (by rfl) ?_
  refine gf_X2_4 h dX2_squareTo_2 fl_RX2_22 ?_
  refine mi_iload_n h dX2_squareTo_5 (by rfl) ?_
  refine mn_iaload (p) h dX2_squareTo_6 (by rfl) (by omega) (by omega) (by decide) ?_
  refine mi_isub h dX2_squareTo_7 ?_
  refine mi_istore h dX2_squareTo_8 (by decide) ?_
  refine mi_iload_n h dX2_squareTo_10 (by rfl) ?_
  refine mi_aload_n h dX2_squareTo_11 (by rfl) ?_
  refine gf_X2_5 h dX2_squareTo_12 fl_RX2_25 ?_
  refine mi_iload_n h dX2_squareTo_15 (by rfl) ?_
  refine mn_iaload (p) h dX2_squareTo_16 (by rfl) (by omega) (by omega) (by decide) ?_
  refine mi_isub h dX2_squareTo_17 ?_
  refine mi_istore h dX2_squareTo_18 (by decide) ?_
  refine mi_iload h dX2_squareTo_20 (by rfl) ?_
  refine mi_iload h dX2_squareTo_22 (by rfl) ?_
  refine mi_imul h dX2_squareTo_24 ?_
  refine mi_iload h dX2_squareTo_25 (by rfl) ?_
  refine mi_iload h dX2_squareTo_27 (by rfl) ?_
  refine mi_imul h dX2_squareTo_29 ?_
  refine mi_iadd h dX2_squareTo_30 ?_
  refine mi_ireturn h hr dX2_squareTo_31 ?_
  exact ⟨rfl, rfl⟩
set_option maxHeartbeats 4000000 in
set_option maxRecDepth 100000 in
theorem c_X2_place {σ : Mem} {p : Nat} {a b e : Int} (hp : p < 24) (h3 : 0 ≤ σ 4 3 ∧ σ 4 3 < 16777216) : Sp1 yX2_place cX2_place 5 none 0 1 [vr 4, vi (p : Int), vi a, vi b, vi e] σ (fun r σ' => up (up (up (up σ 4 3 (wb (σ 4 3) p 1)) 25 p a) 26 p b) 27 p e = σ') := by
  refine Sp1_in RX2 rfl (by decide +kernel) (Nat.le_of_ble_eq_true rfl) [some (vr 4), some (vi (p : Int)), some (vi a), some (vi b), some (vi e)] rfl ?_
  intro K h hr
  refine mi_aload_n h dX2_place_0 (by rfl) ?_
  refine mi_aload_n h dX2_place_1 (by rfl) ?_
  refine gf_X2_3 h dX2_place_2 fl_RX2_31 ?_
  refine mi_iload_n h dX2_place_5 (by rfl) ?_
  refine mi_iconst h dX2_place_6 ?_
  refine mi_cN3i (hw := Nat.le_of_ble_eq_true rfl) (host := "SprinklerHouse") h dX2_place_7 (by decide) ym_yX5_withBit (c_X5_withBit h3 hp (by omega)) (fun r7 σ7 hp7 => ?_)
  obtain ⟨rfl, rfl⟩ := hp7
  refine pf_X2_3 h dX2_place_10 fl_RX2_31 ?_
  refine mi_aload_n h dX2_place_13 (by rfl) ?_
  refine gf_X2_4 h dX2_place_14 fl_RX2_22 ?_
  refine mi_iload_n h dX2_place_17 (by rfl) ?_
  refine mi_iload_n h dX2_place_18 (by rfl) ?_
  refine mn_iastore (p) h dX2_place_19 (by rfl) (by omega) (by omega) (by decide) ?_
  refine mi_aload_n h dX2_place_20 (by rfl) ?_
  refine gf_X2_5 h dX2_place_21 fl_RX2_25 ?_
  refine mi_iload_n h dX2_place_24 (by rfl) ?_
  refine mi_iload_n h dX2_place_25 (by rfl) ?_
  refine mn_iastore (p) h dX2_place_26 (by rfl) (by omega) (by omega) (by decide) ?_
  refine mi_aload_n h dX2_place_27 (by rfl) ?_
  refine gf_X2_6 h dX2_place_28 fl_RX2_28 ?_
  refine mi_iload_n h dX2_place_31 (by rfl) ?_
  refine mi_iload h dX2_place_32 (by rfl) ?_
  refine mn_iastore (p) h dX2_place_34 (by rfl) (by omega) (by omega) (by decide) ?_
  refine mi_return (x := 0) h hr dX2_place_35 ?_
  rfl
theorem mul_rng {a b k m : Int} (ha : -k ≤ a ∧ a ≤ k) (hb : -m ≤ b ∧ b ≤ m) : -(k * m) ≤ a * b ∧ a * b ≤ k * m := by
  have hk : 0 ≤ k := by omega
  have hm : 0 ≤ m := by omega
  have h1 : (a * b).natAbs = a.natAbs * b.natAbs := Int.natAbs_mul a b
  have h2 : a.natAbs * b.natAbs ≤ k.natAbs * m.natAbs := Nat.mul_le_mul (by omega) (by omega)
  have h3 : ((k.natAbs * m.natAbs : Nat) : Int) = k * m := by
    rw [Int.natCast_mul, Int.natAbs_of_nonneg hk, Int.natAbs_of_nonneg hm]
  omega
set_option maxHeartbeats 4000000 in
set_option maxRecDepth 100000 in
theorem c_X2_isCut {σ : Mem} {ra ca rn cn : Int} (h1 : -16 ≤ ra ∧ ra ≤ 16) (h2 : -16 ≤ ca ∧ ca ≤ 16) (h3 : -16 ≤ rn ∧ rn ≤ 16) (h4 : -16 ≤ cn ∧ cn ≤ 16) : Sp1 yX2_isCut cX2_isCut 5 (some .boolean) 1 1 [vi ra, vi ca, vi rn, vi cn] σ (fun r σ' => σ = σ' ∧ (r = 0 ∨ r = 1) ∧ (r = 1 ↔ cutP (rn * ca - cn * ra) rn cn)) := by
  refine Sp1_in RX2 rfl (by decide +kernel) (Nat.le_of_ble_eq_true rfl) [some (vi ra), some (vi ca), some (vi rn), some (vi cn), none] rfl ?_
  intro K h hr
  have m1 := mul_rng h3 h2
  have m2 := mul_rng h4 h1
  refine mi_iload_n h dX2_isCut_0 (by rfl) ?_
  refine mi_iload_n h dX2_isCut_1 (by rfl) ?_
  refine mi_imul h dX2_isCut_2 ?_
  refine mi_iload_n h dX2_isCut_3 (by rfl) ?_
  refine mi_iload_n h dX2_isCut_4 (by rfl) ?_
  refine mi_imul h dX2_isCut_5 ?_
  refine mi_isub h dX2_isCut_6 ?_
  refine mi_istore h dX2_isCut_7 (by decide) ?_
  refine mi_iconst h dX2_isCut_9 ?_
  refine mi_iload h dX2_isCut_10 (by rfl) ?_
  refine mi_cS1i (hw := Nat.le_of_ble_eq_true rfl) h dX2_isCut_12 ml_RX2_74 ym_yJ9_abs_0f7a4 (c_J9_abs_0f7a4 ⟨by omega, by omega⟩) (fun r12 σ12 hp12 => ?_)
  obtain ⟨rfl, ha12, hb12⟩ := hp12
  refine mi_imul h dX2_isCut_15 ?_
  refine mi_iload_n h dX2_isCut_16 (by rfl) ?_
  refine mi_cS1i (hw := Nat.le_of_ble_eq_true rfl) h dX2_isCut_17 ml_RX2_74 ym_yJ9_abs_0f7a4 (c_J9_abs_0f7a4 ⟨by omega, by omega⟩) (fun r17 σ17 hp17 => ?_)
  obtain ⟨rfl, ha17, hb17⟩ := hp17
  refine mi_iload_n h dX2_isCut_20 (by rfl) ?_
  refine mi_cS1i (hw := Nat.le_of_ble_eq_true rfl) h dX2_isCut_21 ml_RX2_74 ym_yJ9_abs_0f7a4 (c_J9_abs_0f7a4 ⟨by omega, by omega⟩) (fun r21 σ21 hp21 => ?_)
  obtain ⟨rfl, ha21, hb21⟩ := hp21
  refine mi_iadd h dX2_isCut_24 ?_
  refine mi_icmp_ge (tgt := 32) h dX2_isCut_25 (by decide) ⟨by omega, by omega⟩ ⟨by omega, by omega⟩ (fun e25 => ?_) (fun e25 => ?_)
  · refine mi_iconst h dX2_isCut_32 ?_
    refine mi_zreturn h hr dX2_isCut_33 (by omega) ?_
    refine ⟨rfl, by omega, ?_⟩
    unfold cutP
    omega
  · refine mi_iconst h dX2_isCut_28 ?_
    refine mi_goto (tgt := 33) h dX2_isCut_29 (by decide) ?_
    refine mi_zreturn h hr dX2_isCut_33 (by omega) ?_
    refine ⟨rfl, by omega, ?_⟩
    unfold cutP
    omega
