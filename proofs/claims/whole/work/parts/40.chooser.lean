/-! System.arraycopy of whole rows of int -/
theorem ml_RX0_67 : Cond.methodLink RX0 67 arraycopyName ∈ wT := wT_at 486 (by decide +kernel) (by decide +kernel)
theorem ac_st : Cond.static arraycopyName ∈ wT := wT_at 487 (by decide +kernel) (by decide +kernel)
theorem ac_nat : Cond.native arraycopyName ∈ wT := wT_at 488 (by decide +kernel) (by decide +kernel)
theorem ac_ini : Cond.initialized "java/lang/System" ∈ wT := wT_at 48 (by decide +kernel) (by decide +kernel)
def cpF (σ : Mem) (c0 c1 n : Nat) : Nat → Int := fun j => if j < n then σ c0 j else σ c1 j
theorem mi_copy {K : KT} {cc : ByteArray} {nL lev pc : Nat} {ls : List (Option MV)} {σ : Mem} {n c0 c1 : Nat} {x : Int} (h : MC K cc nL RX0 lev) (hd : decode cc pc = .ok (.invokestatic 67, 3)) (hlay0 : lay[c0]? = some (.inr (0, n))) (hlay1 : lay[c1]? = some (.inr (0, n))) (hx : x = (n : Int)) (hn : n < 2147483648) (hlev : 1 ≤ lev) (k : M K (pc + 3) ls [] (upC σ c1 (cpF σ c0 c1 n))) : M K pc ls [vi x, vi 0, vr c1, vi 0, vr c0] σ := by
  subst hx
  obtain ⟨p, l, e, R, s, m, args, below, meth, c, D, ad, cA, Q, cells, slots⟩ := K
  intro H locs LS hP hD hS hl
  obtain ⟨g1, g2, g3, g4, g5, g6, g7, g8, g9, g10, g11, g12⟩ := id h
  have en : (Int32.ofInt (n : Int)).toNatClampNeg = n := by rw [i32_nat ⟨by omega, by omega⟩, Int.toNat_natCast]
  have e0 : (Int32.ofInt 0).toNatClampNeg = 0 := by decide
  show W p l e R s m args below meth c H locs cells slots Q (F0 m pc LS (.int (Int32.ofInt (n : Int)) :: .int (Int32.ofInt 0) :: .ref (ad c1) :: .int (Int32.ofInt 0) :: .ref (ad c0) :: []))
  have w1 : ¬ Int32.ofInt 0 < 0 := by decide
  have w3 : ¬ Int32.ofInt (n : Int) < 0 := fun q => by rw [i32_0, i32_lt ⟨by omega, by omega⟩ (by decide)] at q; omega
  have w4 : nativeFrameWords "java/lang/System" "arraycopy" 5 = 7 := by decide +kernel
  have w5 : (([] : List Value).map fun v => v.category).sum + (nativeFrameWords "java/lang/System" "arraycopy" 5 + 11) ≤ R.locals := by
    rw [w4]
    show 0 + (7 + 11) ≤ R.locals
    omega
  have w6 : (Int32.ofInt 0).toNatClampNeg + (Int32.ofInt (n : Int)).toNatClampNeg ≤ n := by rw [en, e0]; omega
  refine va_copyi (rest := []) (sp := Int32.ofInt 0) (dp := Int32.ofInt 0) (n := Int32.ofInt (n : Int)) g1 g2 (hl.1.symm) g4 (g5 _ ml_RX0_67) (g5 _ ac_nat) (g5 _ ac_st) (g5 _ ac_ini) g7 hP hD hS c0 c1 0 0 (mkW_at hlay0) (mkW_at hlay1) rfl rfl rfl w1 w1 w3 w6 w6 (fun i hi => rfl) (by omega) w5 hd (fun H1 locs1 hP1 hD1 hS1 => ?_)
  rw [en, e0] at hP1 hD1
  have e : (.inl (cA 0, n, .inl (va_cpy (fun j => Int32.ofInt (σ c0 j)) (fun j => Int32.ofInt (σ c1 j)) 0 0 n)) : va_E) = mkE ad cA (cpF σ c0 c1 n) (.inr (0, n)) := by
    simp only [mkE]
    congr 4
    funext j
    simp only [va_cpy, cpF, Nat.zero_le, true_and, Nat.zero_add, Nat.sub_zero]
    split <;> rfl
  rw [e, mkW_setC hlay1] at hP1 hD1
  exact k H1 locs1 LS hP1 hD1 hS1 hl
/-! the least and the most of a row -/
def mnF (f : Nat → Int) : Nat → Int
  | 0 => 2000000000
  | n + 1 => min (mnF f n) (f n)
def mxF (f : Nat → Int) : Nat → Int
  | 0 => 0
  | n + 1 => max (mxF f n) (f n)
theorem mnF_rng {f : Nat → Int} {B : Int} (hB : B ≤ 2000000000) : ∀ {n : Nat}, (∀ k, k < n → 0 ≤ f k ∧ f k ≤ B) → 0 ≤ mnF f n ∧ mnF f n ≤ 2000000000 ∧ ∀ k, k < n → mnF f n ≤ f k
  | 0, _ => ⟨by show (0 : Int) ≤ 2000000000; decide, Int.le_refl _, fun k hk => by omega⟩
  | n + 1, h => by
    have ih := mnF_rng hB (n := n) (fun k hk => h k (by omega))
    have h1 := h n (by omega)
    rw [mnF]
    refine ⟨by omega, by omega, fun k hk => ?_⟩
    by_cases e : k = n
    · subst e; omega
    · have := ih.2.2 k (by omega); omega
theorem mxF_rng {f : Nat → Int} {B : Int} (hB : 0 ≤ B) : ∀ {n : Nat}, (∀ k, k < n → 0 ≤ f k ∧ f k ≤ B) → 0 ≤ mxF f n ∧ mxF f n ≤ B ∧ ∀ k, k < n → f k ≤ mxF f n
  | 0, _ => ⟨Int.le_refl _, hB, fun k hk => by omega⟩
  | n + 1, h => by
    have ih := mxF_rng hB (n := n) (fun k hk => h k (by omega))
    have h1 := h n (by omega)
    rw [mxF]
    refine ⟨by omega, by omega, fun k hk => ?_⟩
    by_cases e : k = n
    · subst e; omega
    · have := ih.2.2 k (by omega); omega
theorem ml_rng {l d B C : Int} (hl : 0 ≤ l ∧ l ≤ 10) (hd : 0 ≤ d ∧ d ≤ B) (hC : C = 10 * B) : 0 ≤ l * d ∧ l * d ≤ C := by
  refine ⟨Int.mul_nonneg hl.1 hd.1, ?_⟩
  rw [hC]
  exact Int.mul_le_mul hl.2 hd.2 hd.1 (by omega)
def lpC (σ : Mem) (p : Nat) : Int := mnF (fun z => σ 9 p * σ 7 z) (σ 1 1).toNat
def loC (σ : Mem) (p : Nat) : Int := mnF (fun z => σ 9 p * σ 6 z) (σ 1 1).toNat
def hiC (σ : Mem) (p : Nat) : Int := mxF (fun z => σ 9 p * σ 6 z) (σ 1 1).toNat
set_option maxHeartbeats 4000000 in
set_option maxRecDepth 100000 in
theorem c_X0_leastPrice {σ : Mem} {p : Nat} (hS0 : IS σ) (hZ : IZ σ) (hP : IP σ) (hp : p < 24) : Sp1 yX0_leastPrice cX0_leastPrice 4 (some .int) 1 1 [vr 3, vi (p : Int)] σ (fun r σ' => σ = σ' ∧ r = lpC σ p) := by
  refine Sp1_in RX0 rfl (by decide +kernel) (Nat.le_of_ble_eq_true rfl) [some (vr 3), some (vi (p : Int)), none, none] rfl ?_
  intro K h hr
  obtain ⟨i1, i2, i3, i4, i5, i6, i7, i8⟩ := id hS0
  have hl := (hP p hp).2.1
  have hr9 : ∀ z, z < 6 → 0 ≤ σ 9 p * σ 7 z ∧ σ 9 p * σ 7 z ≤ 10000 := fun z hz => ml_rng hl (hZ z hz).2.1 rfl
  have loop : ∀ (j k : Nat), (k : Int) + j = σ 1 1 → M K 5 [some (vr 3), some (vi (p : Int)), some (vi (mnF (fun z => σ 9 p * σ 7 z) k)), some (vi (k : Int))] [] σ := by
    intro j
    induction j with
    | zero =>
      intro k hk
      refine mi_iload_n h dX0_leastPrice_5 (by rfl) ?_
      refine mi_aload_n h dX0_leastPrice_6 (by rfl) ?_
      refine gf_X0_0 h dX0_leastPrice_7 fl_RX0_9 ?_
      refine gf_X1_1 h dX0_leastPrice_10 fl_RX0_90 ?_
      refine mi_icmp_ge (tgt := 36) h dX0_leastPrice_13 (by decide) ⟨by omega, by omega⟩ ⟨by omega, by omega⟩ (fun e13 => ?_) (fun e13 => ?_)
      · refine mi_iload_n h dX0_leastPrice_36 (by rfl) ?_
        refine mi_ireturn h hr dX0_leastPrice_37 ?_
        exact ⟨rfl, by unfold lpC; rw [show (σ 1 1).toNat = k by omega]⟩
      · exfalso; omega
    | succ j ih =>
      intro k hk
      have a1 := mnF_rng (f := fun z => σ 9 p * σ 7 z) (B := 10000) (by decide) (n := k) (fun z hz => hr9 z (by omega))
      have a2 := hr9 k (by omega)
      refine mi_iload_n h dX0_leastPrice_5 (by rfl) ?_
      refine mi_aload_n h dX0_leastPrice_6 (by rfl) ?_
      refine gf_X0_0 h dX0_leastPrice_7 fl_RX0_9 ?_
      refine gf_X1_1 h dX0_leastPrice_10 fl_RX0_90 ?_
      refine mi_icmp_ge (tgt := 36) h dX0_leastPrice_13 (by decide) ⟨by omega, by omega⟩ ⟨by omega, by omega⟩ (fun e13 => ?_) (fun e13 => ?_)
      · exfalso; omega
      · refine mi_iload_n h dX0_leastPrice_16 (by rfl) ?_
        refine mi_aload_n h dX0_leastPrice_17 (by rfl) ?_
        refine gf_X0_0 h dX0_leastPrice_18 fl_RX0_9 ?_
        refine mi_iload_n h dX0_leastPrice_21 (by rfl) ?_
        refine mi_iload_n h dX0_leastPrice_22 (by rfl) ?_
        refine mi_cV2i (hw := Nat.le_of_ble_eq_true rfl) h dX0_leastPrice_23 ml_RX0_93 ym_yX1_priceWith (by rfl) (by rfl) (c_X1_priceWith hp (by omega)) (fun r23 σ23 hp23 => ?_)
        obtain ⟨rfl, rfl⟩ := hp23
        refine mi_cS2i (hw := Nat.le_of_ble_eq_true rfl) h dX0_leastPrice_26 ml_RX0_96 ym_yJ9_min_7cf53 (c_J9_min_7cf53 ⟨by omega, by omega⟩ ⟨by omega, by omega⟩) (fun r26 σ26 hp26 => ?_)
        obtain ⟨rfl, rfl⟩ := hp26
        refine mi_istore_n h dX0_leastPrice_29 (by decide) ?_
        refine mi_iinc h dX0_leastPrice_30 (by rfl) ?_ (by decide)
        refine mi_goto (tgt := 5) h dX0_leastPrice_33 (by decide) ?_
        exact ih (k + 1) (by omega)
  refine mi_ldc (z := 2000000000) h dX0_leastPrice_0 kc_RX0_48 rfl ?_
  refine mi_istore_n h dX0_leastPrice_2 (by decide) ?_
  refine mi_iconst h dX0_leastPrice_3 ?_
  refine mi_istore_n h dX0_leastPrice_4 (by decide) ?_
  exact loop (σ 1 1).toNat 0 (by omega)
set_option maxHeartbeats 4000000 in
set_option maxRecDepth 100000 in
theorem c_X0_fix {σ : Mem} {k p z : Nat} (hk : k < 5) (hz : z < 6) (hp : p < 24) (hkp : σ 18 k = p) : Sp1 yX0_fix cX0_fix 4 none 0 1 [vr 3, vi (k : Int), vi (z : Int)] σ (fun r σ' => up (up (up σ 19 k z) 22 (p + 1) (σ 9 p * σ 6 z)) 23 (p + 1) (σ 9 p * σ 6 z) = σ') := by
  refine Sp1_in RX0 rfl (by decide +kernel) (Nat.le_of_ble_eq_true rfl) [some (vr 3), some (vi (k : Int)), some (vi (z : Int)), none] rfl ?_
  intro K h hr
  refine mi_aload_n h dX0_fix_0 (by rfl) ?_
  refine gf_X0_0 h dX0_fix_1 fl_RX0_9 ?_
  refine mi_aload_n h dX0_fix_4 (by rfl) ?_
  refine gf_X0_5 h dX0_fix_5 fl_RX0_23 ?_
  refine mi_iload_n h dX0_fix_8 (by rfl) ?_
  refine mn_iaload (k) h dX0_fix_9 (by rfl) (by omega) (by omega) (by decide) ?_
  rw [hkp]
  refine mi_iload_n h dX0_fix_10 (by rfl) ?_
  refine mi_cV2i (hw := Nat.le_of_ble_eq_true rfl) h dX0_fix_11 ml_RX0_112 ym_yX1_dragWith (by rfl) (by rfl) (c_X1_dragWith hp hz) (fun r11 σ11 hp11 => ?_)
  obtain ⟨rfl, rfl⟩ := hp11
  refine mi_istore_n h dX0_fix_14 (by decide) ?_
  refine mi_aload_n h dX0_fix_15 (by rfl) ?_
  refine gf_X0_6 h dX0_fix_16 fl_RX0_26 ?_
  refine mi_iload_n h dX0_fix_19 (by rfl) ?_
  refine mi_iload_n h dX0_fix_20 (by rfl) ?_
  refine mn_iastore (k) h dX0_fix_21 (by rfl) (by omega) (by omega) (by decide) ?_
  refine mi_aload_n h dX0_fix_22 (by rfl) ?_
  refine gf_X0_10 h dX0_fix_23 fl_RX0_35 ?_
  refine mi_aload_n h dX0_fix_26 (by rfl) ?_
  refine gf_X0_5 h dX0_fix_27 fl_RX0_23 ?_
  refine mi_iload_n h dX0_fix_30 (by rfl) ?_
  refine mn_iaload (k) h dX0_fix_31 (by rfl) (by omega) (by omega) (by decide) ?_
  try simp only [up_app, upC_app, wm_app, Nat.reduceEqDiff, reduceIte, Nat.reduceLeDiff, and_self, and_true, true_and, and_false, false_and, Nat.add_eq_zero_iff, Nat.succ_ne_self, Nat.add_right_cancel_iff]
  rw [hkp]
  refine mi_iconst h dX0_fix_32 ?_
  refine mi_iadd h dX0_fix_33 ?_
  refine mi_iload_n h dX0_fix_34 (by rfl) ?_
  refine mn_iastore (p + 1) h dX0_fix_35 (by rfl) (by omega) (by omega) (by decide) ?_
  refine mi_aload_n h dX0_fix_36 (by rfl) ?_
  refine gf_X0_11 h dX0_fix_37 fl_RX0_38 ?_
  refine mi_aload_n h dX0_fix_40 (by rfl) ?_
  refine gf_X0_5 h dX0_fix_41 fl_RX0_23 ?_
  refine mi_iload_n h dX0_fix_44 (by rfl) ?_
  refine mn_iaload (k) h dX0_fix_45 (by rfl) (by omega) (by omega) (by decide) ?_
  try simp only [up_app, upC_app, wm_app, Nat.reduceEqDiff, reduceIte, Nat.reduceLeDiff, and_self, and_true, true_and, and_false, false_and, Nat.add_eq_zero_iff, Nat.succ_ne_self, Nat.add_right_cancel_iff]
  rw [hkp]
  refine mi_iconst h dX0_fix_46 ?_
  refine mi_iadd h dX0_fix_47 ?_
  refine mi_iload_n h dX0_fix_48 (by rfl) ?_
  refine mn_iastore (p + 1) h dX0_fix_49 (by rfl) (by omega) (by omega) (by decide) ?_
  refine mi_return (x := 0) h hr dX0_fix_50 ?_
  rfl
set_option maxHeartbeats 4000000 in
set_option maxRecDepth 100000 in
theorem c_X0_widen {σ : Mem} {k p : Nat} (hS0 : IS σ) (hZ : IZ σ) (hP : IP σ) (hk : k < 5) (hp : p < 24) (hkp : σ 18 k = p) : Sp1 yX0_widen cX0_widen 6 none 0 1 [vr 3, vi (k : Int)] σ (fun r σ' => up (up σ 22 (p + 1) (loC σ p)) 23 (p + 1) (hiC σ p) = σ') := by
  refine Sp1_in RX0 rfl (by decide +kernel) (Nat.le_of_ble_eq_true rfl) [some (vr 3), some (vi (k : Int)), none, none, none, none] rfl ?_
  intro K h hr
  obtain ⟨i1, i2, i3, i4, i5, i6, i7, i8⟩ := id hS0
  have hl := (hP p hp).2.1
  have hr9 : ∀ z, z < 6 → 0 ≤ σ 9 p * σ 6 z ∧ σ 9 p * σ 6 z ≤ 4000 := fun z hz => ml_rng hl (hZ z hz).1 rfl
  have loop : ∀ (j q : Nat) (l5 : Option MV), (q : Int) + j = σ 1 1 → M K 8 [some (vr 3), some (vi (k : Int)), some (vi (mnF (fun z => σ 9 p * σ 6 z) q)), some (vi (mxF (fun z => σ 9 p * σ 6 z) q)), some (vi (q : Int)), l5] [] σ := by
    intro j
    induction j with
    | zero =>
      intro q l5 hq
      refine mi_iload h dX0_widen_8 (by rfl) ?_
      refine mi_aload_n h dX0_widen_10 (by rfl) ?_
      refine gf_X0_0 h dX0_widen_11 fl_RX0_9 ?_
      refine gf_X1_1 h dX0_widen_14 fl_RX0_90 ?_
      refine mi_icmp_ge (tgt := 57) h dX0_widen_17 (by decide) ⟨by omega, by omega⟩ ⟨by omega, by omega⟩ (fun e17 => ?_) (fun e17 => ?_)
      · refine mi_aload_n h dX0_widen_57 (by rfl) ?_
        refine gf_X0_10 h dX0_widen_58 fl_RX0_35 ?_
        refine mi_aload_n h dX0_widen_61 (by rfl) ?_
        refine gf_X0_5 h dX0_widen_62 fl_RX0_23 ?_
        refine mi_iload_n h dX0_widen_65 (by rfl) ?_
        refine mn_iaload (k) h dX0_widen_66 (by rfl) (by omega) (by omega) (by decide) ?_
        rw [hkp]
        refine mi_iconst h dX0_widen_67 ?_
        refine mi_iadd h dX0_widen_68 ?_
        refine mi_iload_n h dX0_widen_69 (by rfl) ?_
        refine mn_iastore (p + 1) h dX0_widen_70 (by rfl) (by omega) (by omega) (by decide) ?_
        refine mi_aload_n h dX0_widen_71 (by rfl) ?_
        refine gf_X0_11 h dX0_widen_72 fl_RX0_38 ?_
        refine mi_aload_n h dX0_widen_75 (by rfl) ?_
        refine gf_X0_5 h dX0_widen_76 fl_RX0_23 ?_
        refine mi_iload_n h dX0_widen_79 (by rfl) ?_
        refine mn_iaload (k) h dX0_widen_80 (by rfl) (by omega) (by omega) (by decide) ?_
        try simp only [up_app, upC_app, wm_app, Nat.reduceEqDiff, reduceIte, Nat.reduceLeDiff, and_self, and_true, true_and, and_false, false_and, Nat.add_eq_zero_iff, Nat.succ_ne_self, Nat.add_right_cancel_iff]
        rw [hkp]
        refine mi_iconst h dX0_widen_81 ?_
        refine mi_iadd h dX0_widen_82 ?_
        refine mi_iload_n h dX0_widen_83 (by rfl) ?_
        refine mn_iastore (p + 1) h dX0_widen_84 (by rfl) (by omega) (by omega) (by decide) ?_
        refine mi_return (x := 0) h hr dX0_widen_85 ?_
        unfold loC hiC; rw [show (σ 1 1).toNat = q by omega]
      · exfalso; omega
    | succ j ih =>
      intro q l5 hq
      have a1 := mnF_rng (f := fun z => σ 9 p * σ 6 z) (B := 4000) (by decide) (n := q) (fun z hz => hr9 z (by omega))
      have a3 := mxF_rng (f := fun z => σ 9 p * σ 6 z) (B := 4000) (by decide) (n := q) (fun z hz => hr9 z (by omega))
      have a2 := hr9 q (by omega)
      refine mi_iload h dX0_widen_8 (by rfl) ?_
      refine mi_aload_n h dX0_widen_10 (by rfl) ?_
      refine gf_X0_0 h dX0_widen_11 fl_RX0_9 ?_
      refine gf_X1_1 h dX0_widen_14 fl_RX0_90 ?_
      refine mi_icmp_ge (tgt := 57) h dX0_widen_17 (by decide) ⟨by omega, by omega⟩ ⟨by omega, by omega⟩ (fun e17 => ?_) (fun e17 => ?_)
      · exfalso; omega
      · refine mi_aload_n h dX0_widen_20 (by rfl) ?_
        refine gf_X0_0 h dX0_widen_21 fl_RX0_9 ?_
        refine mi_aload_n h dX0_widen_24 (by rfl) ?_
        refine gf_X0_5 h dX0_widen_25 fl_RX0_23 ?_
        refine mi_iload_n h dX0_widen_28 (by rfl) ?_
        refine mn_iaload (k) h dX0_widen_29 (by rfl) (by omega) (by omega) (by decide) ?_
        rw [hkp]
        refine mi_iload h dX0_widen_30 (by rfl) ?_
        refine mi_cV2i (hw := Nat.le_of_ble_eq_true rfl) h dX0_widen_32 ml_RX0_112 ym_yX1_dragWith (by rfl) (by rfl) (c_X1_dragWith hp (by omega)) (fun r32 σ32 hp32 => ?_)
        obtain ⟨rfl, rfl⟩ := hp32
        refine mi_istore h dX0_widen_35 (by decide) ?_
        refine mi_iload_n h dX0_widen_37 (by rfl) ?_
        refine mi_iload h dX0_widen_38 (by rfl) ?_
        refine mi_cS2i (hw := Nat.le_of_ble_eq_true rfl) h dX0_widen_40 ml_RX0_96 ym_yJ9_min_7cf53 (c_J9_min_7cf53 ⟨by omega, by omega⟩ ⟨by omega, by omega⟩) (fun r40 σ40 hp40 => ?_)
        obtain ⟨rfl, rfl⟩ := hp40
        refine mi_istore_n h dX0_widen_43 (by decide) ?_
        refine mi_iload_n h dX0_widen_44 (by rfl) ?_
        refine mi_iload h dX0_widen_45 (by rfl) ?_
        refine mi_cS2i (hw := Nat.le_of_ble_eq_true rfl) h dX0_widen_47 ml_RX0_115 ym_yJ9_max_7cf53 (c_J9_max_7cf53 ⟨by omega, by omega⟩ ⟨by omega, by omega⟩) (fun r47 σ47 hp47 => ?_)
        obtain ⟨rfl, rfl⟩ := hp47
        refine mi_istore_n h dX0_widen_50 (by decide) ?_
        refine mi_iinc h dX0_widen_51 (by rfl) ?_ (by decide)
        refine mi_goto (tgt := 8) h dX0_widen_54 (by decide) ?_
        exact ih (q + 1) _ (by omega)
  refine mi_ldc (z := 2000000000) h dX0_widen_0 kc_RX0_48 rfl ?_
  refine mi_istore_n h dX0_widen_2 (by decide) ?_
  refine mi_iconst h dX0_widen_3 ?_
  refine mi_istore_n h dX0_widen_4 (by decide) ?_
  refine mi_iconst h dX0_widen_5 ?_
  refine mi_istore h dX0_widen_6 (by decide) ?_
  exact loop (σ 1 1).toNat 0 _ (by omega)
/-- LEAST of a heap as the chooser holds it: G of one side by the most drags, P by the least -/
def PG (s : Int) (σ : Mem) (m : Int) (L H : Nat → Int) : Nat → Int := prs 0 (σ 8) L (bv (σ 1 10)) (Gv s (σ 1 4).toNat (σ 8) (hdV m σ) H (bv (σ 1 10))) (1024 * σ 1 0) (σ 1 4).toNat (fun _ => 0)
def spG (s : Int) (σ : Mem) (m : Int) (L H : Nat → Int) (p : Nat) : Int := fl 0 (fnw (σ 13 p) (σ 15 p)) (PG s σ m L H (p + 1)) - 1024 * σ 14 p
def lsG (s : Int) (σ : Mem) (L H : Nat → Int) (h : Nat) : Int := lsV (bv (σ 5 h)) (spG s σ (σ 5 h) L H) (σ 1 4).toNat
theorem PG_rng {s : Int} {σ : Mem} {m : Int} {L H : Nat → Int} (hS0 : IS σ) (hP : IP σ) (hQ : IQ σ) (hL : ∀ e, e < 25 → 0 ≤ L e ∧ L e ≤ 4000) (hH : ∀ e, e < 25 → 0 ≤ H e ∧ H e ≤ 4000) {e : Nat} (he : (e : Int) ≤ σ 1 4) : 0 ≤ PG s σ m L H e ∧ PG s σ m L H e ≤ 102400000 := by
  obtain ⟨i1, -, i3, -⟩ := id hS0
  have hN := netok (m := m) hS0 hP hQ hH
  have := prs_rng (s := 0) (cl := bv (σ 1 10)) (G := Gv s (σ 1 4).toNat (σ 8) (hdV m σ) H (bv (σ 1 10))) (P0 := 1024 * σ 1 0) hN.1 hN.2.1 hL (fun e he => Gv_rng hN he) (by omega) (fun _ => 0) (σ 1 4).toNat (Nat.le_refl _) e (by omega)
  exact ⟨this.1, Int.le_trans this.2 (by omega)⟩
theorem lsG_rng {s : Int} {σ : Mem} {L H : Nat → Int} {h : Nat} (hS0 : IS σ) (hP : IP σ) (hQ : IQ σ) (hL : ∀ e, e < 25 → 0 ≤ L e ∧ L e ≤ 4000) (hH : ∀ e, e < 25 → 0 ≤ H e ∧ H e ≤ 4000) : -30720000 ≤ lsG s σ L H h ∧ lsG s σ L H h ≤ 64800000 := by
  obtain ⟨i1, -, i3, -⟩ := id hS0
  refine lsV_rng (fun k hk => ?_)
  obtain ⟨-, -, -, k1, k3, k2⟩ := hP k (by omega)
  have h1 := fnw_rng k1 k2
  have h2 := PG_rng (s := s) (m := σ 5 h) hS0 hP hQ hL hH (e := k + 1) (by omega)
  have h3 := fl_rng (s := 0) ⟨h1.2.2.1, h1.2.2.2⟩ h2
  unfold spG
  omega
theorem up_self (σ : Mem) (c k : Nat) : up σ c k (σ c k) = σ := by
  funext c' k'
  rw [up_app]
  by_cases h1 : c' = c
  · by_cases h2 : k' = k
    · rw [if_pos h1, if_pos h2, h1, h2]
    · rw [if_pos h1, if_neg h2]
  · rw [if_neg h1]
set_option maxHeartbeats 4000000 in
set_option maxRecDepth 100000 in
theorem c_X0_areAllMet {σ : Mem} {s : Int} (hS0 : IS σ) (hZ : IZ σ) (hP : IP σ) (hQ : IQ σ) (hB : IB σ) (hs : s = 0 ∨ s = 1) (hL : ∀ e, e < 25 → 0 ≤ σ 22 e ∧ σ 22 e ≤ 4000) (hH : ∀ e, e < 25 → 0 ≤ σ 23 e ∧ σ 23 e ≤ 4000) (hn : 0 ≤ σ 3 3 ∧ σ 3 3 ≤ 6) (hf : 0 ≤ σ 3 12 ∧ (σ 3 12 < σ 3 3 ∨ σ 3 12 = 0)) : Sp1 yX0_areAllMet cX0_areAllMet 4 (some .boolean) 1 6 [vr 3, vi s] σ (fun r σ' => (∃ G P f, up (upC (upC σ 16 G) 17 P) 3 12 f = σ' ∧ 0 ≤ f ∧ (f < σ 3 3 ∨ f = 0)) ∧ (r = 0 ∨ r = 1) ∧ (r = 1 ↔ ∀ h : Nat, (h : Int) < σ 3 3 → 0 ≤ lsG s σ (σ 22) (σ 23) h)) := by
  refine Sp1_in RX0 rfl (by decide +kernel) (Nat.le_of_ble_eq_true rfl) [some (vr 3), some (vi s), none, none] rfl ?_
  intro K h hr
  obtain ⟨i1, i2, i3, i4, i5, i6, i7, i8⟩ := id hS0
  have loop : ∀ (j i : Nat) (g : Nat) (G P : Nat → Int), (i : Int) + j = σ 3 3 → (((g : Int) = σ 3 12 + i ∧ σ 3 12 + i ≤ σ 3 3) ∨ ((g : Int) = σ 3 12 + i - σ 3 3 ∧ σ 3 3 < σ 3 12 + i)) → (∀ h : Nat, (h : Int) < σ 3 3 → ((σ 3 12 ≤ h ∧ (h : Int) < σ 3 12 + i) ∨ (h : Int) + σ 3 3 < σ 3 12 + i) → 0 ≤ lsG s σ (σ 22) (σ 23) h) → M K 7 [some (vr 3), some (vi s), some (vi (g : Int)), some (vi (i : Int))] [] (upC (upC σ 16 G) 17 P) := by
    intro j
    induction j with
    | zero =>
      intro i g G P hi hg hall
      refine mi_iload_n h dX0_areAllMet_7 (by rfl) ?_
      refine mi_aload_n h dX0_areAllMet_8 (by rfl) ?_
      refine gf_X0_3 h dX0_areAllMet_9 fl_RX0_41 ?_
      try simp only [up_app, upC_app, wm_app, Nat.reduceEqDiff, reduceIte, Nat.reduceLeDiff, and_self, and_true, true_and, and_false, false_and, Nat.add_eq_zero_iff, Nat.succ_ne_self, Nat.add_right_cancel_iff]
      refine mi_icmp_ge (tgt := 96) h dX0_areAllMet_12 (by decide) ⟨by omega, by omega⟩ ⟨by omega, by omega⟩ (fun e12 => ?_) (fun e12 => ?_)
      · refine mi_iconst h dX0_areAllMet_96 ?_
        refine mi_zreturn h hr dX0_areAllMet_97 (by omega) ?_
        refine ⟨⟨G, P, σ 3 12, up_self (upC (upC σ 16 G) 17 P) 3 12, hf.1, hf.2⟩, by omega, ⟨fun _ h9 hh => hall h9 hh (by omega), fun _ => rfl⟩⟩
      · exfalso; omega
    | succ j ih =>
      intro i g G P hi hg hall
      have body : ∀ g : Nat, (((g : Int) = σ 3 12 + i ∧ σ 3 12 + i < σ 3 3) ∨ ((g : Int) = σ 3 12 + i - σ 3 3 ∧ σ 3 3 ≤ σ 3 12 + i)) → M K 25 [some (vr 3), some (vi s), some (vi (g : Int)), some (vi (i : Int))] [] (upC (upC σ 16 G) 17 P) := by
        intro g hg
        have hg6 : g < 6 := by omega
        have hm := (hZ g hg6).2.2
        have hb : ∀ p : Nat, bv (σ 5 g) p = 1 → (p : Int) < σ 1 4 := fun p q => hB.1 p (hB.2.2.2.2.2.1 g p hg6 q)
        have hN := netok (m := σ 5 g) hS0 hP hQ hH
        have h8 := lsG_rng (s := s) (h := g) hS0 hP hQ hL hH
        have hG : ∀ e : Nat, (e : Int) ≤ σ 1 4 → gath s (σ 8) (hdV (σ 5 g) σ) (σ 23) (bv (σ 1 10)) (σ 1 4).toNat (flF G 0 25) e = Gv s (σ 1 4).toNat (σ 8) (hdV (σ 5 g) σ) (σ 23) (bv (σ 1 10)) e := fun e he =>
          gath_cong _ 24 _ _ (fun q hq => (hN.2.1 q hq).2) hN.1 (fun k hk => by unfold flF; rw [if_pos (by omega)]) e (by omega)
        generalize hG2 : gath s (σ 8) (hdV (σ 5 g) σ) (σ 23) (bv (σ 1 10)) (σ 1 4).toNat (flF G 0 25) = G2 at hG
        have hPv : ∀ e : Nat, (e : Int) ≤ σ 1 4 → prs 0 (σ 8) (σ 22) (bv (σ 1 10)) G2 (1024 * σ 1 0) (σ 1 4).toNat P e = PG s σ (σ 5 g) (σ 22) (σ 23) e := fun e he =>
          prs_cong (n := (σ 1 4).toNat) hN.2.1 (fun k hk => hG k (by omega)) _ _ _ (Nat.le_refl _) e (by omega)
        refine mi_aload_n h dX0_areAllMet_25 (by rfl) ?_
        refine gf_X0_1 h dX0_areAllMet_26 fl_RX0_15 ?_
        refine mi_iload_n h dX0_areAllMet_29 (by rfl) ?_
        refine mi_aload_n h dX0_areAllMet_30 (by rfl) ?_
        refine gf_X0_11 h dX0_areAllMet_31 fl_RX0_38 ?_
        refine mi_aload_n h dX0_areAllMet_34 (by rfl) ?_
        refine gf_X0_2 h dX0_areAllMet_35 fl_RX0_19 ?_
        refine mi_iload_n h dX0_areAllMet_38 (by rfl) ?_
        refine mn_iaload (g) h dX0_areAllMet_39 (by rfl) (by omega) (by omega) (by decide) ?_
        try simp only [up_app, upC_app, wm_app, Nat.reduceEqDiff, reduceIte, Nat.reduceLeDiff, and_self, and_true, true_and, and_false, false_and, Nat.add_eq_zero_iff, Nat.succ_ne_self, Nat.add_right_cancel_iff]
        refine mi_cV3v (hw := Nat.le_of_ble_eq_true rfl) h dX0_areAllMet_40 ml_RX0_118 ym_yX4_gather (by rfl) (by rfl) (c_X4_gather (σ := upC (upC σ 16 G) 17 P) (dc := 23) hS0 hP hQ rfl hs hm hH (by decide)) (fun r40 σ40 hp40 => ?_)
        have hp40 : upC (upC (upC σ 16 G) 17 P) 16 (gath s (σ 8) (hdV (σ 5 g) σ) (σ 23) (bv (σ 1 10)) (σ 1 4).toNat (flF G 0 25)) = σ40 := hp40
        rw [hG2] at hp40
        subst hp40
        refine mi_aload_n h dX0_areAllMet_43 (by rfl) ?_
        refine gf_X0_1 h dX0_areAllMet_44 fl_RX0_15 ?_
        refine mi_iconst h dX0_areAllMet_47 ?_
        refine mi_aload_n h dX0_areAllMet_48 (by rfl) ?_
        refine gf_X0_10 h dX0_areAllMet_49 fl_RX0_35 ?_
        refine mi_aload_n h dX0_areAllMet_52 (by rfl) ?_
        refine gf_X0_0 h dX0_areAllMet_53 fl_RX0_9 ?_
        refine gf_X1_0 h dX0_areAllMet_56 fl_RX0_124 ?_
        try simp only [up_app, upC_app, wm_app, Nat.reduceEqDiff, reduceIte, Nat.reduceLeDiff, and_self, and_true, true_and, and_false, false_and, Nat.add_eq_zero_iff, Nat.succ_ne_self, Nat.add_right_cancel_iff]
        refine mi_cV3v (hw := Nat.le_of_ble_eq_true rfl) h dX0_areAllMet_59 ml_RX0_127 ym_yX4_fall (by rfl) (by rfl) (c_X4_fall (σ := upC (upC (upC σ 16 G) 17 P) 16 G2) (dc := 22) hS0 hP hQ rfl (by omega) i1 hL (fun e he => by show 0 ≤ G2 e ∧ G2 e ≤ 4915200; rw [hG e he]; exact Gv_rng hN (by have : (e : Int) ≤ σ 1 4 := he; omega)) (by decide)) (fun r59 σ59 hp59 => ?_)
        have hp59 : upC (upC (upC (upC σ 16 G) 17 P) 16 G2) 17 (prs 0 (σ 8) (σ 22) (bv (σ 1 10)) G2 (1024 * σ 1 0) (σ 1 4).toNat P) = σ59 := hp59
        rw [scr2] at hp59
        subst hp59
        refine mi_aload_n h dX0_areAllMet_62 (by rfl) ?_
        refine gf_X0_1 h dX0_areAllMet_63 fl_RX0_15 ?_
        refine mi_aload_n h dX0_areAllMet_66 (by rfl) ?_
        refine gf_X0_2 h dX0_areAllMet_67 fl_RX0_19 ?_
        refine mi_iload_n h dX0_areAllMet_70 (by rfl) ?_
        refine mn_iaload (g) h dX0_areAllMet_71 (by rfl) (by omega) (by omega) (by decide) ?_
        try simp only [up_app, upC_app, wm_app, Nat.reduceEqDiff, reduceIte, Nat.reduceLeDiff, and_self, and_true, true_and, and_false, false_and, Nat.add_eq_zero_iff, Nat.succ_ne_self, Nat.add_right_cancel_iff]
        refine mi_cV1l (hw := Nat.le_of_ble_eq_true rfl) h dX0_areAllMet_72 ml_RX0_130 ym_yX4_leastSpare (by rfl) (by rfl) (c_X4_leastSpare (σ := upC (upC σ 16 G2) 17 (prs 0 (σ 8) (σ 22) (bv (σ 1 10)) G2 (1024 * σ 1 0) (σ 1 4).toNat P)) hS0 hP hm hb (fun p hp => by rw [upC_eq, hPv (p + 1) (by have : (p : Int) < σ 1 4 := hp; omega)]; exact PG_rng hS0 hP hQ hL hH (by have : (p : Int) < σ 1 4 := hp; omega))) (fun r72 σ72 hp72 => ?_)
        obtain ⟨rfl, hv72⟩ := hp72
        have hv72 : r72 = lsG s σ (σ 22) (σ 23) g := by
          rw [hv72]
          exact lsV_cong (fun k hk _ => by
            have hk : k < (σ 1 4).toNat := hk
            have e9 := hPv (k + 1) (by omega)
            show fl 0 (fnw (σ 13 k) (σ 15 k)) (prs 0 (σ 8) (σ 22) (bv (σ 1 10)) G2 (1024 * σ 1 0) (σ 1 4).toNat P (k + 1)) - 1024 * σ 14 k = _
            rw [e9]; rfl)
        subst hv72
        refine mi_lconst0 h dX0_areAllMet_75 ?_
        refine mi_lcmp_ge (tgt := 87) h dX0_areAllMet_76 dX0_areAllMet_77 (by decide) ⟨by omega, by omega⟩ ⟨by omega, by omega⟩ (fun e76 => ?_) (fun e76 => ?_)
        · refine mi_iinc h dX0_areAllMet_87 (by rfl) ?_ (by decide)
          refine mi_iinc h dX0_areAllMet_90 (by rfl) ?_ (by decide)
          refine mi_goto (tgt := 7) h dX0_areAllMet_93 (by decide) ?_
          exact ih (i + 1) (g + 1) G2 _ (by omega) (by omega) (fun h9 hh hv => by
            by_cases e9 : h9 = g
            · subst e9; omega
            · exact hall h9 hh (by omega))
        · refine mi_aload_n h dX0_areAllMet_80 (by rfl) ?_
          refine mi_iload_n h dX0_areAllMet_81 (by rfl) ?_
          refine pf_X0_12 h dX0_areAllMet_82 fl_RX0_45 ?_
          refine mi_iconst h dX0_areAllMet_85 ?_
          refine mi_zreturn h hr dX0_areAllMet_86 (by omega) ?_
          exact ⟨⟨G2, _, g, rfl, by omega, by omega⟩, by omega, ⟨fun z => by omega, fun z => by have := z g (by omega); omega⟩⟩
      refine mi_iload_n h dX0_areAllMet_7 (by rfl) ?_
      refine mi_aload_n h dX0_areAllMet_8 (by rfl) ?_
      refine gf_X0_3 h dX0_areAllMet_9 fl_RX0_41 ?_
      try simp only [up_app, upC_app, wm_app, Nat.reduceEqDiff, reduceIte, Nat.reduceLeDiff, and_self, and_true, true_and, and_false, false_and, Nat.add_eq_zero_iff, Nat.succ_ne_self, Nat.add_right_cancel_iff]
      refine mi_icmp_ge (tgt := 96) h dX0_areAllMet_12 (by decide) ⟨by omega, by omega⟩ ⟨by omega, by omega⟩ (fun e12 => ?_) (fun e12 => ?_)
      · exfalso; omega
      · refine mi_iload_n h dX0_areAllMet_15 (by rfl) ?_
        refine mi_aload_n h dX0_areAllMet_16 (by rfl) ?_
        refine gf_X0_3 h dX0_areAllMet_17 fl_RX0_41 ?_
        try simp only [up_app, upC_app, wm_app, Nat.reduceEqDiff, reduceIte, Nat.reduceLeDiff, and_self, and_true, true_and, and_false, false_and, Nat.add_eq_zero_iff, Nat.succ_ne_self, Nat.add_right_cancel_iff]
        refine mi_icmp_lt (tgt := 25) h dX0_areAllMet_20 (by decide) ⟨by omega, by omega⟩ ⟨by omega, by omega⟩ (fun e20 => ?_) (fun e20 => ?_)
        · exact body g (by omega)
        · refine mi_iconst h dX0_areAllMet_23 ?_
          refine mi_istore_n h dX0_areAllMet_24 (by decide) ?_
          exact body 0 (by omega)
  have h9 := loop (σ 3 3).toNat 0 (σ 3 12).toNat (σ 16) (σ 17) (by omega) (by omega) (fun h9 hh hv => by omega)
  rw [upC_0, upC_0] at h9
  refine mi_aload_n h dX0_areAllMet_0 (by rfl) ?_
  refine gf_X0_12 h dX0_areAllMet_1 fl_RX0_45 ?_
  refine mt_e (y := (((σ 3 12).toNat : Nat) : Int)) (by omega) ?_
  refine mi_istore_n h dX0_areAllMet_4 (by decide) ?_
  refine mi_iconst h dX0_areAllMet_5 ?_
  refine mi_istore_n h dX0_areAllMet_6 (by decide) ?_
  exact h9
