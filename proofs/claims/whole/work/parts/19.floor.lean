set_option maxHeartbeats 4000000 in
set_option maxRecDepth 100000 in
theorem c_X2_isBehindWall {σ : Mem} {p a b : Nat} (hF : IF σ) (hp : p < 24) (ha : a < 16) (hb : b < 16) : Sp1 yX2_isBehindWall cX2_isBehindWall 8 (some .boolean) 1 2 [vr 4, vi (p : Int), vi (a : Int), vi (b : Int)] σ (fun r σ' => σ = σ' ∧ (r = 0 ∨ r = 1) ∧ (r = 1 ↔ bwP (σ 24) (σ 25 p) (σ 26 p) a b)) := by
  refine Sp1_in RX2 rfl (by decide +kernel) (Nat.le_of_ble_eq_true rfl) [some (vr 4), some (vi (p : Int)), some (vi (a : Int)), some (vi (b : Int)), none, none, none, none] rfl ?_
  intro K h hr
  obtain ⟨f1, f2, f3, f4, f5, f6⟩ := id hF
  obtain ⟨g1, g2, g3⟩ := f5 p hp
  have hk : ∀ i j : Nat, i < 16 → j < 16 → 0 ≤ σ 24 (i * 16 + j) ∧ σ 24 (i * 16 + j) ≤ 2 := fun i j h1 h2 => f4 _ (by omega)
  have outer : ∀ (m i : Nat) (l7 : Option MV), (i : Int) + m = max (σ 25 p) a + 1 → min (σ 25 p) a ≤ i → (∀ i' j' : Nat, min (σ 25 p) a ≤ i' → i' < i → min (σ 26 p) b ≤ j' → (j' : Int) ≤ max (σ 26 p) b → ¬ (σ 24 (i' * 16 + j') = 1 ∧ cutP ((a - σ 25 p) * (j' - σ 26 p) - (b - σ 26 p) * (i' - σ 25 p)) (a - σ 25 p) (b - σ 26 p))) → M K 36 [some (vr 4), some (vi (p : Int)), some (vi (a : Int)), some (vi (b : Int)), some (vi (max (σ 25 p) a)), some (vi (max (σ 26 p) b)), some (vi (i : Int)), l7] [] σ := by
    intro m
    induction m with
    | zero =>
      intro i l7 hi hm hno
      refine mi_iload h dX2_isBehindWall_36 (by rfl) ?_
      refine mi_iload h dX2_isBehindWall_38 (by rfl) ?_
      refine mi_icmp_gt (tgt := 128) h dX2_isBehindWall_40 (by decide) ⟨by omega, by omega⟩ ⟨by omega, by omega⟩ (fun e40 => ?_) (fun e40 => ?_)
      · refine mi_iconst h dX2_isBehindWall_128 ?_
        refine mi_zreturn h hr dX2_isBehindWall_129 (by omega) ?_
        refine ⟨rfl, by omega, ⟨fun q => by omega, fun q => ?_⟩⟩
        obtain ⟨i9, j9, q1, q2, q3⟩ := q
        exact absurd q3 (hno i9 j9 q1.1 (by omega) q2.1 q2.2)
      · exfalso; omega
    | succ m ih =>
      intro i l7 hi hm hno
      have inner : ∀ (n j : Nat), (j : Int) + n = max (σ 26 p) b + 1 → min (σ 26 p) b ≤ j → (∀ j' : Nat, min (σ 26 p) b ≤ j' → j' < j → ¬ (σ 24 (i * 16 + j') = 1 ∧ cutP ((a - σ 25 p) * (j' - σ 26 p) - (b - σ 26 p) * (i - σ 25 p)) (a - σ 25 p) (b - σ 26 p))) → M K 55 [some (vr 4), some (vi (p : Int)), some (vi (a : Int)), some (vi (b : Int)), some (vi (max (σ 25 p) a)), some (vi (max (σ 26 p) b)), some (vi (i : Int)), some (vi (j : Int))] [] σ := by
        intro n
        induction n with
        | zero =>
          intro j hj hmj hnj
          refine mi_iload h dX2_isBehindWall_55 (by rfl) ?_
          refine mi_iload h dX2_isBehindWall_57 (by rfl) ?_
          refine mi_icmp_gt (tgt := 122) h dX2_isBehindWall_59 (by decide) ⟨by omega, by omega⟩ ⟨by omega, by omega⟩ (fun e59 => ?_) (fun e59 => ?_)
          · refine mi_iinc h dX2_isBehindWall_122 (by rfl) ?_ (by decide)
            refine mi_goto (tgt := 36) h dX2_isBehindWall_125 (by decide) ?_
            exact ih (i + 1) _ (by omega) (by omega) (fun i9 j9 a1 a2 a3 a4 => by
              by_cases e : i9 = i
              · subst e; exact hnj j9 a3 (by omega)
              · exact hno i9 j9 a1 (by omega) a3 a4)
          · exfalso; omega
        | succ n ihn =>
          intro j hj hmj hnj
          have hkj := hk i j (by omega) (by omega)
          refine mi_iload h dX2_isBehindWall_55 (by rfl) ?_
          refine mi_iload h dX2_isBehindWall_57 (by rfl) ?_
          refine mi_icmp_gt (tgt := 122) h dX2_isBehindWall_59 (by decide) ⟨by omega, by omega⟩ ⟨by omega, by omega⟩ (fun e59 => ?_) (fun e59 => ?_)
          · exfalso; omega
          · refine mi_aload_n h dX2_isBehindWall_62 (by rfl) ?_
            refine mi_iload h dX2_isBehindWall_63 (by rfl) ?_
            refine mi_iload h dX2_isBehindWall_65 (by rfl) ?_
            refine mi_cV2i (hw := Nat.le_of_ble_eq_true rfl) h dX2_isBehindWall_67 ml_RX2_40 ym_yX2_kindOf (by rfl) (by rfl) (c_X2_kindOf (by omega) (by omega)) (fun r67 σ67 hp67 => ?_)
            obtain ⟨rfl, rfl⟩ := hp67
            refine mi_iconst h dX2_isBehindWall_70 ?_
            refine mi_icmp_ne (tgt := 116) h dX2_isBehindWall_71 (by decide) ⟨by omega, by omega⟩ ⟨by omega, by omega⟩ (fun e71 => ?_) (fun e71 => ?_)
            · refine mi_iinc h dX2_isBehindWall_116 (by rfl) ?_ (by decide)
              refine mi_goto (tgt := 55) h dX2_isBehindWall_119 (by decide) ?_
              exact ihn (j + 1) (by omega) (by omega) (fun j9 a1 a2 => by
                by_cases e : j9 = j
                · subst e; first | exact fun q => e71 q.1 | exact fun q => by have := hc9.mpr q.2; omega
                · exact hnj j9 a1 (by omega))
            · refine mi_iload h dX2_isBehindWall_74 (by rfl) ?_
              refine mi_aload_n h dX2_isBehindWall_76 (by rfl) ?_
              refine gf_X2_4 h dX2_isBehindWall_77 fl_RX2_22 ?_
              refine mi_iload_n h dX2_isBehindWall_80 (by rfl) ?_
              refine mn_iaload (p) h dX2_isBehindWall_81 (by rfl) (by omega) (by omega) (by decide) ?_
              refine mi_isub h dX2_isBehindWall_82 ?_
              refine mi_iload h dX2_isBehindWall_83 (by rfl) ?_
              refine mi_aload_n h dX2_isBehindWall_85 (by rfl) ?_
              refine gf_X2_5 h dX2_isBehindWall_86 fl_RX2_25 ?_
              refine mi_iload_n h dX2_isBehindWall_89 (by rfl) ?_
              refine mn_iaload (p) h dX2_isBehindWall_90 (by rfl) (by omega) (by omega) (by decide) ?_
              refine mi_isub h dX2_isBehindWall_91 ?_
              refine mi_iload_n h dX2_isBehindWall_92 (by rfl) ?_
              refine mi_aload_n h dX2_isBehindWall_93 (by rfl) ?_
              refine gf_X2_4 h dX2_isBehindWall_94 fl_RX2_22 ?_
              refine mi_iload_n h dX2_isBehindWall_97 (by rfl) ?_
              refine mn_iaload (p) h dX2_isBehindWall_98 (by rfl) (by omega) (by omega) (by decide) ?_
              refine mi_isub h dX2_isBehindWall_99 ?_
              refine mi_iload_n h dX2_isBehindWall_100 (by rfl) ?_
              refine mi_aload_n h dX2_isBehindWall_101 (by rfl) ?_
              refine gf_X2_5 h dX2_isBehindWall_102 fl_RX2_25 ?_
              refine mi_iload_n h dX2_isBehindWall_105 (by rfl) ?_
              refine mn_iaload (p) h dX2_isBehindWall_106 (by rfl) (by omega) (by omega) (by decide) ?_
              refine mi_isub h dX2_isBehindWall_107 ?_
              refine mi_cS4i (hw := Nat.le_of_ble_eq_true rfl) h dX2_isBehindWall_108 ml_RX2_70 ym_yX2_isCut (c_X2_isCut ⟨by omega, by omega⟩ ⟨by omega, by omega⟩ ⟨by omega, by omega⟩ ⟨by omega, by omega⟩) (fun r108 σ108 hp108 => ?_)
              obtain ⟨rfl, hb9, hc9⟩ := hp108
              refine mi_if_eq (tgt := 116) h dX2_isBehindWall_111 (by decide) ⟨by omega, by omega⟩ (fun e111 => ?_) (fun e111 => ?_)
              · refine mi_iinc h dX2_isBehindWall_116 (by rfl) ?_ (by decide)
                refine mi_goto (tgt := 55) h dX2_isBehindWall_119 (by decide) ?_
                exact ihn (j + 1) (by omega) (by omega) (fun j9 a1 a2 => by
                  by_cases e : j9 = j
                  · subst e; first | exact fun q => e71 q.1 | exact fun q => by have := hc9.mpr q.2; omega
                  · exact hnj j9 a1 (by omega))
              · refine mi_iconst h dX2_isBehindWall_114 ?_
                refine mi_zreturn h hr dX2_isBehindWall_115 (by omega) ?_
                refine ⟨rfl, by omega, ⟨fun _ => ⟨i, j, ⟨hm, by omega⟩, ⟨hmj, by omega⟩, e71, hc9.mp (by omega)⟩, fun _ => rfl⟩⟩
      refine mi_iload h dX2_isBehindWall_36 (by rfl) ?_
      refine mi_iload h dX2_isBehindWall_38 (by rfl) ?_
      refine mi_icmp_gt (tgt := 128) h dX2_isBehindWall_40 (by decide) ⟨by omega, by omega⟩ ⟨by omega, by omega⟩ (fun e40 => ?_) (fun e40 => ?_)
      · exfalso; omega
      · refine mi_aload_n h dX2_isBehindWall_43 (by rfl) ?_
        refine gf_X2_5 h dX2_isBehindWall_44 fl_RX2_25 ?_
        refine mi_iload_n h dX2_isBehindWall_47 (by rfl) ?_
        refine mn_iaload (p) h dX2_isBehindWall_48 (by rfl) (by omega) (by omega) (by decide) ?_
        refine mi_iload_n h dX2_isBehindWall_49 (by rfl) ?_
        refine mi_cS2i (hw := Nat.le_of_ble_eq_true rfl) h dX2_isBehindWall_50 ml_RX2_67 ym_yJ9_min_7cf53 (c_J9_min_7cf53 ⟨by omega, by omega⟩ ⟨by omega, by omega⟩) (fun r50 σ50 hp50 => ?_)
        obtain ⟨rfl, rfl⟩ := hp50
        refine mt_e (y := (((min (σ 26 p) (b : Int)).toNat : Nat) : Int)) (by omega) ?_
        refine mi_istore h dX2_isBehindWall_53 (by decide) ?_
        exact inner (max (σ 26 p) b + 1 - min (σ 26 p) b).toNat _ (by omega) (by omega) (fun j9 a1 a2 => by exfalso; omega)
  refine mi_aload_n h dX2_isBehindWall_0 (by rfl) ?_
  refine gf_X2_4 h dX2_isBehindWall_1 fl_RX2_22 ?_
  refine mi_iload_n h dX2_isBehindWall_4 (by rfl) ?_
  refine mn_iaload (p) h dX2_isBehindWall_5 (by rfl) (by omega) (by omega) (by decide) ?_
  refine mi_iload_n h dX2_isBehindWall_6 (by rfl) ?_
  refine mi_cS2i (hw := Nat.le_of_ble_eq_true rfl) h dX2_isBehindWall_7 ml_RX2_62 ym_yJ9_max_7cf53 (c_J9_max_7cf53 ⟨by omega, by omega⟩ ⟨by omega, by omega⟩) (fun r7 σ7 hp7 => ?_)
  obtain ⟨rfl, rfl⟩ := hp7
  refine mi_istore h dX2_isBehindWall_10 (by decide) ?_
  refine mi_aload_n h dX2_isBehindWall_12 (by rfl) ?_
  refine gf_X2_5 h dX2_isBehindWall_13 fl_RX2_25 ?_
  refine mi_iload_n h dX2_isBehindWall_16 (by rfl) ?_
  refine mn_iaload (p) h dX2_isBehindWall_17 (by rfl) (by omega) (by omega) (by decide) ?_
  refine mi_iload_n h dX2_isBehindWall_18 (by rfl) ?_
  refine mi_cS2i (hw := Nat.le_of_ble_eq_true rfl) h dX2_isBehindWall_19 ml_RX2_62 ym_yJ9_max_7cf53 (c_J9_max_7cf53 ⟨by omega, by omega⟩ ⟨by omega, by omega⟩) (fun r19 σ19 hp19 => ?_)
  obtain ⟨rfl, rfl⟩ := hp19
  refine mi_istore h dX2_isBehindWall_22 (by decide) ?_
  refine mi_aload_n h dX2_isBehindWall_24 (by rfl) ?_
  refine gf_X2_4 h dX2_isBehindWall_25 fl_RX2_22 ?_
  refine mi_iload_n h dX2_isBehindWall_28 (by rfl) ?_
  refine mn_iaload (p) h dX2_isBehindWall_29 (by rfl) (by omega) (by omega) (by decide) ?_
  refine mi_iload_n h dX2_isBehindWall_30 (by rfl) ?_
  refine mi_cS2i (hw := Nat.le_of_ble_eq_true rfl) h dX2_isBehindWall_31 ml_RX2_67 ym_yJ9_min_7cf53 (c_J9_min_7cf53 ⟨by omega, by omega⟩ ⟨by omega, by omega⟩) (fun r31 σ31 hp31 => ?_)
  obtain ⟨rfl, rfl⟩ := hp31
  refine mt_e (y := (((min (σ 25 p) (a : Int)).toNat : Nat) : Int)) (by omega) ?_
  refine mi_istore h dX2_isBehindWall_34 (by decide) ?_
  exact outer (max (σ 25 p) a + 1 - min (σ 25 p) a).toNat _ _ (by omega) (by omega) (fun i9 j9 a1 a2 => by exfalso; omega)
set_option maxHeartbeats 4000000 in
set_option maxRecDepth 100000 in
theorem c_X2_isWetBy {σ : Mem} {p a b : Nat} (hF : IF σ) (hp : p < 24) (ha : a < 16) (hb : b < 16) : Sp1 yX2_isWetBy cX2_isWetBy 4 (some .boolean) 1 3 [vr 4, vi (p : Int), vi (a : Int), vi (b : Int)] σ (fun r σ' => σ = σ' ∧ (r = 0 ∨ r = 1) ∧ (r = 1 ↔ wetP (σ 24) (σ 25 p) (σ 26 p) (σ 27 p) a b)) := by
  refine Sp1_in RX2 rfl (by decide +kernel) (Nat.le_of_ble_eq_true rfl) [some (vr 4), some (vi (p : Int)), some (vi (a : Int)), some (vi (b : Int))] rfl ?_
  intro K h hr
  obtain ⟨f1, f2, f3, f4, f5, f6⟩ := id hF
  obtain ⟨g1, g2, g3⟩ := f5 p hp
  have hk := f4 (a * 16 + b) (by omega)
  have m1 := mul_rng (a := (a : Int) - σ 25 p) (b := (a : Int) - σ 25 p) (k := 16) (m := 16) ⟨by omega, by omega⟩ ⟨by omega, by omega⟩
  have m2 := mul_rng (a := (b : Int) - σ 26 p) (b := (b : Int) - σ 26 p) (k := 16) (m := 16) ⟨by omega, by omega⟩ ⟨by omega, by omega⟩
  have m3 := mul_rng (a := σ 27 p) (b := σ 27 p) (k := 12) (m := 12) ⟨by omega, by omega⟩ ⟨by omega, by omega⟩
  refine mi_aload_n h dX2_isWetBy_0 (by rfl) ?_
  refine mi_iload_n h dX2_isWetBy_1 (by rfl) ?_
  refine mi_iload_n h dX2_isWetBy_2 (by rfl) ?_
  refine mi_cV2i (hw := Nat.le_of_ble_eq_true rfl) h dX2_isWetBy_3 ml_RX2_40 ym_yX2_kindOf (by rfl) (by rfl) (c_X2_kindOf (by omega) (by omega)) (fun r3 σ3 hp3 => ?_)
  obtain ⟨rfl, rfl⟩ := hp3
  refine mi_if_ne (tgt := 46) h dX2_isWetBy_6 (by decide) ⟨by omega, by omega⟩ (fun e6 => ?_) (fun e6 => ?_)
  · refine mi_iconst h dX2_isWetBy_46 ?_
    refine mi_zreturn h hr dX2_isWetBy_47 (by omega) ?_
    refine ⟨rfl, by omega, ?_⟩
    unfold wetP
    first | exact ⟨fun q => by omega, fun q => absurd q.1 e6⟩ | exact ⟨fun q => by omega, fun q => by have := q.2.1; omega⟩ | exact ⟨fun q => by omega, fun q => absurd (hc9.mp (by omega)) q.2.2⟩ | exact ⟨fun _ => ⟨e6, by omega, fun q => by have := hc9.mpr q; omega⟩, fun _ => rfl⟩ | exact ⟨fun _ => ⟨by omega, by omega, fun q => by have := hc9.mpr q; omega⟩, fun _ => rfl⟩
  · refine mi_aload_n h dX2_isWetBy_9 (by rfl) ?_
    refine mi_iload_n h dX2_isWetBy_10 (by rfl) ?_
    refine mi_iload_n h dX2_isWetBy_11 (by rfl) ?_
    refine mi_iload_n h dX2_isWetBy_12 (by rfl) ?_
    refine mi_cV3i (hw := Nat.le_of_ble_eq_true rfl) h dX2_isWetBy_13 ml_RX2_55 ym_yX2_squareTo (by rfl) (by rfl) (c_X2_squareTo hp) (fun r13 σ13 hp13 => ?_)
    obtain ⟨rfl, rfl⟩ := hp13
    refine mi_aload_n h dX2_isWetBy_16 (by rfl) ?_
    refine gf_X2_6 h dX2_isWetBy_17 fl_RX2_28 ?_
    refine mi_iload_n h dX2_isWetBy_20 (by rfl) ?_
    refine mn_iaload (p) h dX2_isWetBy_21 (by rfl) (by omega) (by omega) (by decide) ?_
    refine mi_aload_n h dX2_isWetBy_22 (by rfl) ?_
    refine gf_X2_6 h dX2_isWetBy_23 fl_RX2_28 ?_
    refine mi_iload_n h dX2_isWetBy_26 (by rfl) ?_
    refine mn_iaload (p) h dX2_isWetBy_27 (by rfl) (by omega) (by omega) (by decide) ?_
    refine mi_imul h dX2_isWetBy_28 ?_
    refine mi_icmp_gt (tgt := 46) h dX2_isWetBy_29 (by decide) ⟨by omega, by omega⟩ ⟨by omega, by omega⟩ (fun e29 => ?_) (fun e29 => ?_)
    · refine mi_iconst h dX2_isWetBy_46 ?_
      refine mi_zreturn h hr dX2_isWetBy_47 (by omega) ?_
      refine ⟨rfl, by omega, ?_⟩
      unfold wetP
      first | exact ⟨fun q => by omega, fun q => absurd q.1 e6⟩ | exact ⟨fun q => by omega, fun q => by have := q.2.1; omega⟩ | exact ⟨fun q => by omega, fun q => absurd (hc9.mp (by omega)) q.2.2⟩ | exact ⟨fun _ => ⟨e6, by omega, fun q => by have := hc9.mpr q; omega⟩, fun _ => rfl⟩ | exact ⟨fun _ => ⟨by omega, by omega, fun q => by have := hc9.mpr q; omega⟩, fun _ => rfl⟩
    · refine mi_aload_n h dX2_isWetBy_32 (by rfl) ?_
      refine mi_iload_n h dX2_isWetBy_33 (by rfl) ?_
      refine mi_iload_n h dX2_isWetBy_34 (by rfl) ?_
      refine mi_iload_n h dX2_isWetBy_35 (by rfl) ?_
      refine mi_cV3i (hw := Nat.le_of_ble_eq_true rfl) h dX2_isWetBy_36 ml_RX2_59 ym_yX2_isBehindWall (by rfl) (by rfl) (c_X2_isBehindWall hF hp ha hb) (fun r36 σ36 hp36 => ?_)
      obtain ⟨rfl, hb9, hc9⟩ := hp36
      refine mi_if_ne (tgt := 46) h dX2_isWetBy_39 (by decide) ⟨by omega, by omega⟩ (fun e39 => ?_) (fun e39 => ?_)
      · refine mi_iconst h dX2_isWetBy_46 ?_
        refine mi_zreturn h hr dX2_isWetBy_47 (by omega) ?_
        refine ⟨rfl, by omega, ?_⟩
        unfold wetP
        first | exact ⟨fun q => by omega, fun q => absurd q.1 e6⟩ | exact ⟨fun q => by omega, fun q => by have := q.2.1; omega⟩ | exact ⟨fun q => by omega, fun q => absurd (hc9.mp (by omega)) q.2.2⟩ | exact ⟨fun _ => ⟨e6, by omega, fun q => by have := hc9.mpr q; omega⟩, fun _ => rfl⟩ | exact ⟨fun _ => ⟨by omega, by omega, fun q => by have := hc9.mpr q; omega⟩, fun _ => rfl⟩
      · refine mi_iconst h dX2_isWetBy_42 ?_
        refine mi_goto (tgt := 47) h dX2_isWetBy_43 (by decide) ?_
        refine mi_zreturn h hr dX2_isWetBy_47 (by omega) ?_
        refine ⟨rfl, by omega, ?_⟩
        unfold wetP
        first | exact ⟨fun q => by omega, fun q => absurd q.1 e6⟩ | exact ⟨fun q => by omega, fun q => by have := q.2.1; omega⟩ | exact ⟨fun q => by omega, fun q => absurd (hc9.mp (by omega)) q.2.2⟩ | exact ⟨fun _ => ⟨e6, by omega, fun q => by have := hc9.mpr q; omega⟩, fun _ => rfl⟩ | exact ⟨fun _ => ⟨by omega, by omega, fun q => by have := hc9.mpr q; omega⟩, fun _ => rfl⟩
set_option maxHeartbeats 4000000 in
set_option maxRecDepth 100000 in
theorem c_X2_isDry {σ : Mem} {a b : Nat} (hF : IF σ) (ha : a < 16) (hb : b < 16) : Sp1 yX2_isDry cX2_isDry 4 (some .boolean) 1 4 [vr 4, vi (a : Int), vi (b : Int)] σ (fun r σ' => σ = σ' ∧ (r = 0 ∨ r = 1) ∧ (r = 1 ↔ dryP (σ 24) (bv (σ 4 3)) (σ 25) (σ 26) (σ 27) a b)) := by
  refine Sp1_in RX2 rfl (by decide +kernel) (Nat.le_of_ble_eq_true rfl) [some (vr 4), some (vi (a : Int)), some (vi (b : Int)), none] rfl ?_
  intro K h hr
  obtain ⟨f1, f2, f3, f4, f5, f6⟩ := id hF
  have hk := f4 (a * 16 + b) (by omega)
  have loop : ∀ (m i : Nat), i + m = 24 → σ 24 (a * 16 + b) = 0 → (∀ q, q < i → bv (σ 4 3) q = 1 → ¬ wetP (σ 24) (σ 25 q) (σ 26 q) (σ 27 q) a b) → M K 13 [some (vr 4), some (vi (a : Int)), some (vi (b : Int)), some (vi (i : Int))] [] σ := by
    intro m
    induction m with
    | zero =>
      intro i hi h0 hno
      refine mi_iload_n h dX2_isDry_13 (by rfl) ?_
      refine mi_bipush h dX2_isDry_14 (by decide) ?_
      refine mi_icmp_ge (tgt := 49) h dX2_isDry_16 (by decide) ⟨by omega, by omega⟩ ⟨by omega, by omega⟩ (fun e16 => ?_) (fun e16 => ?_)
      · refine mi_iconst h dX2_isDry_49 ?_
        refine mi_zreturn h hr dX2_isDry_50 (by omega) ?_
        exact ⟨rfl, by omega, ⟨fun _ => ⟨h0, fun q hq => hno q (by omega)⟩, fun _ => rfl⟩⟩
      · exfalso; omega
    | succ m ih =>
      intro i hi h0 hno
      have hv := bv_01 (σ 4 3) i
      refine mi_iload_n h dX2_isDry_13 (by rfl) ?_
      refine mi_bipush h dX2_isDry_14 (by decide) ?_
      refine mi_icmp_ge (tgt := 49) h dX2_isDry_16 (by decide) ⟨by omega, by omega⟩ ⟨by omega, by omega⟩ (fun e16 => ?_) (fun e16 => ?_)
      · exfalso; omega
      · refine mi_aload_n h dX2_isDry_19 (by rfl) ?_
        refine gf_X2_3 h dX2_isDry_20 fl_RX2_31 ?_
        refine mi_iload_n h dX2_isDry_23 (by rfl) ?_
        refine mi_cN2i (hw := Nat.le_of_ble_eq_true rfl) (host := "SprinklerHouse") h dX2_isDry_24 (by decide) ym_yX5_bit (c_bit f3 (by omega)) (fun r24 σ24 hp24 => ?_)
        obtain ⟨rfl, rfl⟩ := hp24
        refine mi_iconst h dX2_isDry_27 ?_
        refine mi_icmp_ne (tgt := 43) h dX2_isDry_28 (by decide) ⟨by omega, by omega⟩ ⟨by omega, by omega⟩ (fun e28 => ?_) (fun e28 => ?_)
        · refine mi_iinc h dX2_isDry_43 (by rfl) ?_ (by decide)
          refine mi_goto (tgt := 13) h dX2_isDry_46 (by decide) ?_
          exact ih (i + 1) (by omega) h0 (fun q a1 a2 => by
            by_cases e : q = i
            · subst e; first | exact absurd a2 e28 | exact fun z => by have := hc9.mpr z; omega
            · exact hno q (by omega) a2)
        · refine mi_aload_n h dX2_isDry_31 (by rfl) ?_
          refine mi_iload_n h dX2_isDry_32 (by rfl) ?_
          refine mi_iload_n h dX2_isDry_33 (by rfl) ?_
          refine mi_iload_n h dX2_isDry_34 (by rfl) ?_
          refine mi_cV3i (hw := Nat.le_of_ble_eq_true rfl) h dX2_isDry_35 ml_RX2_51 ym_yX2_isWetBy (by rfl) (by rfl) (c_X2_isWetBy hF (by omega) ha hb) (fun r35 σ35 hp35 => ?_)
          obtain ⟨rfl, hb9, hc9⟩ := hp35
          refine mi_if_eq (tgt := 43) h dX2_isDry_38 (by decide) ⟨by omega, by omega⟩ (fun e38 => ?_) (fun e38 => ?_)
          · refine mi_iinc h dX2_isDry_43 (by rfl) ?_ (by decide)
            refine mi_goto (tgt := 13) h dX2_isDry_46 (by decide) ?_
            exact ih (i + 1) (by omega) h0 (fun q a1 a2 => by
              by_cases e : q = i
              · subst e; first | exact absurd a2 e28 | exact fun z => by have := hc9.mpr z; omega
              · exact hno q (by omega) a2)
          · refine mi_iconst h dX2_isDry_41 ?_
            refine mi_zreturn h hr dX2_isDry_42 (by omega) ?_
            refine ⟨rfl, by omega, ⟨fun q => by omega, fun q => absurd (hc9.mp (by omega)) (q.2 i (by omega) e28)⟩⟩
  refine mi_aload_n h dX2_isDry_0 (by rfl) ?_
  refine mi_iload_n h dX2_isDry_1 (by rfl) ?_
  refine mi_iload_n h dX2_isDry_2 (by rfl) ?_
  refine mi_cV2i (hw := Nat.le_of_ble_eq_true rfl) h dX2_isDry_3 ml_RX2_40 ym_yX2_kindOf (by rfl) (by rfl) (c_X2_kindOf (by omega) (by omega)) (fun r3 σ3 hp3 => ?_)
  obtain ⟨rfl, rfl⟩ := hp3
  refine mi_if_eq (tgt := 11) h dX2_isDry_6 (by decide) ⟨by omega, by omega⟩ (fun e6 => ?_) (fun e6 => ?_)
  · refine mi_iconst h dX2_isDry_11 ?_
    refine mi_istore_n h dX2_isDry_12 (by decide) ?_
    exact loop 24 0 (by omega) e6 (fun q a1 => by omega)
  · refine mi_iconst h dX2_isDry_9 ?_
    refine mi_zreturn h hr dX2_isDry_10 (by omega) ?_
    refine ⟨rfl, by omega, ⟨fun q => by omega, fun q => absurd q.1 e6⟩⟩
set_option maxHeartbeats 4000000 in
set_option maxRecDepth 100000 in
theorem c_X2_whoStandsIn {σ : Mem} {a b : Int} (hF : IF σ) (ha : R32 a) (hb : R32 b) : Sp1 yX2_whoStandsIn cX2_whoStandsIn 4 (some .int) 1 1 [vr 4, vi a, vi b] σ (fun r σ' => σ = σ' ∧ firstP (fun p => bv (σ 4 3) p = 1 ∧ σ 25 p = a ∧ σ 26 p = b) 24 (-6) r) := by
  refine Sp1_in RX2 rfl (by decide +kernel) (Nat.le_of_ble_eq_true rfl) [some (vr 4), some (vi a), some (vi b), none] rfl ?_
  intro K h hr
  obtain ⟨f1, f2, f3, f4, f5, f6⟩ := id hF
  have loop : ∀ (m i : Nat), i + m = 24 → (∀ q, q < i → ¬ (bv (σ 4 3) q = 1 ∧ σ 25 q = a ∧ σ 26 q = b)) → M K 2 [some (vr 4), some (vi a), some (vi b), some (vi (i : Int))] [] σ := by
    intro m
    induction m with
    | zero =>
      intro i hi hno
      refine mi_iload_n h dX2_whoStandsIn_2 (by rfl) ?_
      refine mi_bipush h dX2_whoStandsIn_3 (by decide) ?_
      refine mi_icmp_ge (tgt := 48) h dX2_whoStandsIn_5 (by decide) ⟨by omega, by omega⟩ ⟨by omega, by omega⟩ (fun e5 => ?_) (fun e5 => ?_)
      · refine mi_bipush h dX2_whoStandsIn_48 (by decide) ?_
        refine mi_ireturn h hr dX2_whoStandsIn_50 ?_
        exact ⟨rfl, Or.inr ⟨fun q hq => hno q (by omega), rfl⟩⟩
      · exfalso; omega
    | succ m ih =>
      intro i hi hno
      have hv := bv_01 (σ 4 3) i
      obtain ⟨g1, g2, g3⟩ := f5 i (by omega)
      refine mi_iload_n h dX2_whoStandsIn_2 (by rfl) ?_
      refine mi_bipush h dX2_whoStandsIn_3 (by decide) ?_
      refine mi_icmp_ge (tgt := 48) h dX2_whoStandsIn_5 (by decide) ⟨by omega, by omega⟩ ⟨by omega, by omega⟩ (fun e5 => ?_) (fun e5 => ?_)
      · exfalso; omega
      · refine mi_aload_n h dX2_whoStandsIn_8 (by rfl) ?_
        refine gf_X2_3 h dX2_whoStandsIn_9 fl_RX2_31 ?_
        refine mi_iload_n h dX2_whoStandsIn_12 (by rfl) ?_
        refine mi_cN2i (hw := Nat.le_of_ble_eq_true rfl) (host := "SprinklerHouse") h dX2_whoStandsIn_13 (by decide) ym_yX5_bit (c_bit f3 (by omega)) (fun r13 σ13 hp13 => ?_)
        obtain ⟨rfl, rfl⟩ := hp13
        refine mi_iconst h dX2_whoStandsIn_16 ?_
        refine mi_icmp_ne (tgt := 42) h dX2_whoStandsIn_17 (by decide) ⟨by omega, by omega⟩ ⟨by omega, by omega⟩ (fun e17 => ?_) (fun e17 => ?_)
        · refine mi_iinc h dX2_whoStandsIn_42 (by rfl) ?_ (by decide)
          refine mi_goto (tgt := 2) h dX2_whoStandsIn_45 (by decide) ?_
          exact ih (i + 1) (by omega) (fun q a1 => by
            by_cases e : q = i
            · subst e; first | exact fun z => e17 z.1 | exact fun z => e27 z.2.1 | exact fun z => e37 z.2.2
            · exact hno q (by omega))
        · refine mi_aload_n h dX2_whoStandsIn_20 (by rfl) ?_
          refine gf_X2_4 h dX2_whoStandsIn_21 fl_RX2_22 ?_
          refine mi_iload_n h dX2_whoStandsIn_24 (by rfl) ?_
          refine mn_iaload (i) h dX2_whoStandsIn_25 (by rfl) (by omega) (by omega) (by decide) ?_
          refine mi_iload_n h dX2_whoStandsIn_26 (by rfl) ?_
          refine mi_icmp_ne (tgt := 42) h dX2_whoStandsIn_27 (by decide) ⟨by omega, by omega⟩ ⟨by omega, by omega⟩ (fun e27 => ?_) (fun e27 => ?_)
          · refine mi_iinc h dX2_whoStandsIn_42 (by rfl) ?_ (by decide)
            refine mi_goto (tgt := 2) h dX2_whoStandsIn_45 (by decide) ?_
            exact ih (i + 1) (by omega) (fun q a1 => by
              by_cases e : q = i
              · subst e; first | exact fun z => e17 z.1 | exact fun z => e27 z.2.1 | exact fun z => e37 z.2.2
              · exact hno q (by omega))
          · refine mi_aload_n h dX2_whoStandsIn_30 (by rfl) ?_
            refine gf_X2_5 h dX2_whoStandsIn_31 fl_RX2_25 ?_
            refine mi_iload_n h dX2_whoStandsIn_34 (by rfl) ?_
            refine mn_iaload (i) h dX2_whoStandsIn_35 (by rfl) (by omega) (by omega) (by decide) ?_
            refine mi_iload_n h dX2_whoStandsIn_36 (by rfl) ?_
            refine mi_icmp_ne (tgt := 42) h dX2_whoStandsIn_37 (by decide) ⟨by omega, by omega⟩ ⟨by omega, by omega⟩ (fun e37 => ?_) (fun e37 => ?_)
            · refine mi_iinc h dX2_whoStandsIn_42 (by rfl) ?_ (by decide)
              refine mi_goto (tgt := 2) h dX2_whoStandsIn_45 (by decide) ?_
              exact ih (i + 1) (by omega) (fun q a1 => by
                by_cases e : q = i
                · subst e; first | exact fun z => e17 z.1 | exact fun z => e27 z.2.1 | exact fun z => e37 z.2.2
                · exact hno q (by omega))
            · refine mi_iload_n h dX2_whoStandsIn_40 (by rfl) ?_
              refine mi_ireturn h hr dX2_whoStandsIn_41 ?_
              exact ⟨rfl, Or.inl ⟨i, by omega, ⟨e17, e27, e37⟩, hno, rfl⟩⟩
  refine mi_iconst h dX2_whoStandsIn_0 ?_
  refine mi_istore_n h dX2_whoStandsIn_1 (by decide) ?_
  exact loop 24 0 (by omega) (fun q a1 => by omega)
set_option maxHeartbeats 4000000 in
set_option maxRecDepth 100000 in
theorem c_X2_isNearAnother {σ : Mem} {p : Nat} {s : Int} (hF : IF σ) (hp : p < 24) (hs : 1 ≤ s ∧ s ≤ 900) : Sp1 yX2_isNearAnother cX2_isNearAnother 4 (some .boolean) 1 1 [vr 4, vi (p : Int), vi s] σ (fun r σ' => σ = σ' ∧ (r = 0 ∨ r = 1) ∧ (r = 1 ↔ nearP (bv (σ 4 3)) (σ 25) (σ 26) s p)) := by
  refine Sp1_in RX2 rfl (by decide +kernel) (Nat.le_of_ble_eq_true rfl) [some (vr 4), some (vi (p : Int)), some (vi s), none] rfl ?_
  intro K h hr
  obtain ⟨f1, f2, f3, f4, f5, f6⟩ := id hF
  have hv0 := bv_01 (σ 4 3) p
  have loop : ∀ (m i : Nat), i + m = 24 → bv (σ 4 3) p = 1 → (∀ q, q < i → ¬ (q ≠ p ∧ bv (σ 4 3) q = 1 ∧ (σ 25 q - σ 25 p) * (σ 25 q - σ 25 p) + (σ 26 q - σ 26 p) * (σ 26 q - σ 26 p) < s)) → M K 15 [some (vr 4), some (vi (p : Int)), some (vi s), some (vi (i : Int))] [] σ := by
    intro m
    induction m with
    | zero =>
      intro i hi h1 hno
      refine mi_iload_n h dX2_isNearAnother_15 (by rfl) ?_
      refine mi_bipush h dX2_isNearAnother_16 (by decide) ?_
      refine mi_icmp_ge (tgt := 67) h dX2_isNearAnother_18 (by decide) ⟨by omega, by omega⟩ ⟨by omega, by omega⟩ (fun e18 => ?_) (fun e18 => ?_)
      · refine mi_iconst h dX2_isNearAnother_67 ?_
        refine mi_zreturn h hr dX2_isNearAnother_68 (by omega) ?_
        exact ⟨rfl, by omega, ⟨fun q => by omega, fun q => by
          obtain ⟨q1, q9, q2, q3⟩ := q
          exact absurd q3 (hno q9 (by omega))⟩⟩
      · exfalso; omega
    | succ m ih =>
      intro i hi h1 hno
      have hv := bv_01 (σ 4 3) i
      obtain ⟨g1, g2, g3⟩ := f5 i (by omega)
      obtain ⟨g4, g5, g6⟩ := f5 p hp
      have m1 := mul_rng (a := σ 25 i - σ 25 p) (b := σ 25 i - σ 25 p) (k := 16) (m := 16) ⟨by omega, by omega⟩ ⟨by omega, by omega⟩
      have m2 := mul_rng (a := σ 26 i - σ 26 p) (b := σ 26 i - σ 26 p) (k := 16) (m := 16) ⟨by omega, by omega⟩ ⟨by omega, by omega⟩
      refine mi_iload_n h dX2_isNearAnother_15 (by rfl) ?_
      refine mi_bipush h dX2_isNearAnother_16 (by decide) ?_
      refine mi_icmp_ge (tgt := 67) h dX2_isNearAnother_18 (by decide) ⟨by omega, by omega⟩ ⟨by omega, by omega⟩ (fun e18 => ?_) (fun e18 => ?_)
      · exfalso; omega
      · refine mi_iload_n h dX2_isNearAnother_21 (by rfl) ?_
        refine mi_iload_n h dX2_isNearAnother_22 (by rfl) ?_
        refine mi_icmp_eq (tgt := 61) h dX2_isNearAnother_23 (by decide) ⟨by omega, by omega⟩ ⟨by omega, by omega⟩ (fun e23 => ?_) (fun e23 => ?_)
        · refine mi_iinc h dX2_isNearAnother_61 (by rfl) ?_ (by decide)
          refine mi_goto (tgt := 15) h dX2_isNearAnother_64 (by decide) ?_
          exact ih (i + 1) (by omega) h1 (fun q a1 => by
            by_cases e : q = i
            · subst e; first | exact fun z => z.1 (by omega) | exact fun z => e35 z.2.1 | exact fun z => by have := z.2.2; omega
            · exact hno q (by omega))
        · refine mi_aload_n h dX2_isNearAnother_26 (by rfl) ?_
          refine gf_X2_3 h dX2_isNearAnother_27 fl_RX2_31 ?_
          refine mi_iload_n h dX2_isNearAnother_30 (by rfl) ?_
          refine mi_cN2i (hw := Nat.le_of_ble_eq_true rfl) (host := "SprinklerHouse") h dX2_isNearAnother_31 (by decide) ym_yX5_bit (c_bit f3 (by omega)) (fun r31 σ31 hp31 => ?_)
          obtain ⟨rfl, rfl⟩ := hp31
          refine mi_iconst h dX2_isNearAnother_34 ?_
          refine mi_icmp_ne (tgt := 61) h dX2_isNearAnother_35 (by decide) ⟨by omega, by omega⟩ ⟨by omega, by omega⟩ (fun e35 => ?_) (fun e35 => ?_)
          · refine mi_iinc h dX2_isNearAnother_61 (by rfl) ?_ (by decide)
            refine mi_goto (tgt := 15) h dX2_isNearAnother_64 (by decide) ?_
            exact ih (i + 1) (by omega) h1 (fun q a1 => by
              by_cases e : q = i
              · subst e; first | exact fun z => z.1 (by omega) | exact fun z => e35 z.2.1 | exact fun z => by have := z.2.2; omega
              · exact hno q (by omega))
          · refine mi_aload_n h dX2_isNearAnother_38 (by rfl) ?_
            refine mi_iload_n h dX2_isNearAnother_39 (by rfl) ?_
            refine mi_aload_n h dX2_isNearAnother_40 (by rfl) ?_
            refine gf_X2_4 h dX2_isNearAnother_41 fl_RX2_22 ?_
            refine mi_iload_n h dX2_isNearAnother_44 (by rfl) ?_
            refine mn_iaload (i) h dX2_isNearAnother_45 (by rfl) (by omega) (by omega) (by decide) ?_
            refine mi_aload_n h dX2_isNearAnother_46 (by rfl) ?_
            refine gf_X2_5 h dX2_isNearAnother_47 fl_RX2_25 ?_
            refine mi_iload_n h dX2_isNearAnother_50 (by rfl) ?_
            refine mn_iaload (i) h dX2_isNearAnother_51 (by rfl) (by omega) (by omega) (by decide) ?_
            refine mi_cV3i (hw := Nat.le_of_ble_eq_true rfl) h dX2_isNearAnother_52 ml_RX2_55 ym_yX2_squareTo (by rfl) (by rfl) (c_X2_squareTo hp) (fun r52 σ52 hp52 => ?_)
            obtain ⟨rfl, rfl⟩ := hp52
            refine mi_iload_n h dX2_isNearAnother_55 (by rfl) ?_
            refine mi_icmp_ge (tgt := 61) h dX2_isNearAnother_56 (by decide) ⟨by omega, by omega⟩ ⟨by omega, by omega⟩ (fun e56 => ?_) (fun e56 => ?_)
            · refine mi_iinc h dX2_isNearAnother_61 (by rfl) ?_ (by decide)
              refine mi_goto (tgt := 15) h dX2_isNearAnother_64 (by decide) ?_
              exact ih (i + 1) (by omega) h1 (fun q a1 => by
                by_cases e : q = i
                · subst e; first | exact fun z => z.1 (by omega) | exact fun z => e35 z.2.1 | exact fun z => by have := z.2.2; omega
                · exact hno q (by omega))
            · refine mi_iconst h dX2_isNearAnother_59 ?_
              refine mi_zreturn h hr dX2_isNearAnother_60 (by omega) ?_
              exact ⟨rfl, by omega, ⟨fun _ => ⟨h1, i, by omega, by omega, e35, by omega⟩, fun _ => rfl⟩⟩
  refine mi_aload_n h dX2_isNearAnother_0 (by rfl) ?_
  refine gf_X2_3 h dX2_isNearAnother_1 fl_RX2_31 ?_
  refine mi_iload_n h dX2_isNearAnother_4 (by rfl) ?_
  refine mi_cN2i (hw := Nat.le_of_ble_eq_true rfl) (host := "SprinklerHouse") h dX2_isNearAnother_5 (by decide) ym_yX5_bit (c_bit f3 hp) (fun r5 σ5 hp5 => ?_)
  obtain ⟨rfl, rfl⟩ := hp5
  refine mi_if_ne (tgt := 13) h dX2_isNearAnother_8 (by decide) ⟨by omega, by omega⟩ (fun e8 => ?_) (fun e8 => ?_)
  · refine mi_iconst h dX2_isNearAnother_13 ?_
    refine mi_istore_n h dX2_isNearAnother_14 (by decide) ?_
    exact loop 24 0 (by omega) (by omega) (fun q a1 => by omega)
  · refine mi_iconst h dX2_isNearAnother_11 ?_
    refine mi_zreturn h hr dX2_isNearAnother_12 (by omega) ?_
    refine ⟨rfl, by omega, ⟨fun q => by omega, fun q => by have := q.1; omega⟩⟩
def opV (kd : Nat → Int) (a b : Nat) : Int := if kd (a * 16 + b) = 0 then 1 else 0
set_option maxHeartbeats 4000000 in
set_option maxRecDepth 100000 in
theorem c_X2_countOpenCells {σ : Mem} (hF : IF σ) : Sp1 yX2_countOpenCells cX2_countOpenCells 4 (some .int) 1 1 [vr 4] σ (fun r σ' => σ = σ' ∧ r = sm (fun i => sm (opV (σ 24) i) (σ 4 1).toNat) (σ 4 0).toNat) := by
  refine Sp1_in RX2 rfl (by decide +kernel) (Nat.le_of_ble_eq_true rfl) [some (vr 4), none, none, none] rfl ?_
  intro K h hr
  obtain ⟨f1, f2, f3, f4, f5, f6⟩ := id hF
  have outer : ∀ (m i : Nat) (l3 : Option MV), (i : Int) + m = σ 4 0 → M K 4 [some (vr 4), some (vi (sm (fun i => sm (opV (σ 24) i) (σ 4 1).toNat) i)), some (vi (i : Int)), l3] [] σ := by
    intro m
    induction m with
    | zero =>
      intro i l3 hi
      refine mi_iload_n h dX2_countOpenCells_4 (by rfl) ?_
      refine mi_aload_n h dX2_countOpenCells_5 (by rfl) ?_
      refine gf_X2_0 h dX2_countOpenCells_6 fl_RX2_9 ?_
      refine mi_icmp_ge (tgt := 46) h dX2_countOpenCells_9 (by decide) ⟨by omega, by omega⟩ ⟨by omega, by omega⟩ (fun e9 => ?_) (fun e9 => ?_)
      · refine mi_iload_n h dX2_countOpenCells_46 (by rfl) ?_
        refine mi_ireturn h hr dX2_countOpenCells_47 ?_
        exact ⟨rfl, by rw [show (σ 4 0).toNat = i by omega]⟩
      · exfalso; omega
    | succ m ih =>
      intro i l3 hi
      have inner : ∀ (n j : Nat), (j : Int) + n = σ 4 1 → M K 14 [some (vr 4), some (vi (sm (fun i => sm (opV (σ 24) i) (σ 4 1).toNat) i + sm (opV (σ 24) i) j)), some (vi (i : Int)), some (vi (j : Int))] [] σ := by
        intro n
        induction n with
        | zero =>
          intro j hj
          have hj2 : (σ 4 1).toNat = j := by omega
          refine mi_iload_n h dX2_countOpenCells_14 (by rfl) ?_
          refine mi_aload_n h dX2_countOpenCells_15 (by rfl) ?_
          refine gf_X2_1 h dX2_countOpenCells_16 fl_RX2_15 ?_
          refine mi_icmp_ge (tgt := 40) h dX2_countOpenCells_19 (by decide) ⟨by omega, by omega⟩ ⟨by omega, by omega⟩ (fun e19 => ?_) (fun e19 => ?_)
          · refine mi_iinc h dX2_countOpenCells_40 (by rfl) ?_ (by decide)
            refine mi_goto (tgt := 4) h dX2_countOpenCells_43 (by decide) ?_
            have h9 := ih (i + 1) (some (vi (j : Int))) (by omega)
            simp only [sm] at h9
            rw [hj2] at h9 ⊢
            exact h9
          · exfalso; omega
        | succ n ihn =>
          intro j hj
          have hk := f4 (i * 16 + j) (by omega)
          have q1 : σ 24 (i * 16 + j) = 0 → sm (opV (σ 24) i) (j + 1) = sm (opV (σ 24) i) j + 1 := fun q => by rw [sm]; unfold opV; rw [if_pos q]
          have q2 : ¬ σ 24 (i * 16 + j) = 0 → sm (opV (σ 24) i) (j + 1) = sm (opV (σ 24) i) j := fun q => by rw [sm]; unfold opV; rw [if_neg q]; omega
          refine mi_iload_n h dX2_countOpenCells_14 (by rfl) ?_
          refine mi_aload_n h dX2_countOpenCells_15 (by rfl) ?_
          refine gf_X2_1 h dX2_countOpenCells_16 fl_RX2_15 ?_
          refine mi_icmp_ge (tgt := 40) h dX2_countOpenCells_19 (by decide) ⟨by omega, by omega⟩ ⟨by omega, by omega⟩ (fun e19 => ?_) (fun e19 => ?_)
          · exfalso; omega
          · refine mi_aload_n h dX2_countOpenCells_22 (by rfl) ?_
            refine mi_iload_n h dX2_countOpenCells_23 (by rfl) ?_
            refine mi_iload_n h dX2_countOpenCells_24 (by rfl) ?_
            refine mi_cV2i (hw := Nat.le_of_ble_eq_true rfl) h dX2_countOpenCells_25 ml_RX2_40 ym_yX2_kindOf (by rfl) (by rfl) (c_X2_kindOf (by omega) (by omega)) (fun r25 σ25 hp25 => ?_)
            obtain ⟨rfl, rfl⟩ := hp25
            refine mi_if_ne (tgt := 34) h dX2_countOpenCells_28 (by decide) ⟨by omega, by omega⟩ (fun e28 => ?_) (fun e28 => ?_)
            · refine mi_iinc h dX2_countOpenCells_34 (by rfl) ?_ (by decide)
              refine mi_goto (tgt := 14) h dX2_countOpenCells_37 (by decide) ?_
              have h9 := ihn (j + 1) (by omega)
              first | (rw [q2 (by omega)] at h9; exact h9) | (rw [q1 (by omega), ← Int.add_assoc] at h9; exact h9)
            · refine mi_iinc h dX2_countOpenCells_31 (by rfl) ?_ (by decide)
              refine mi_iinc h dX2_countOpenCells_34 (by rfl) ?_ (by decide)
              refine mi_goto (tgt := 14) h dX2_countOpenCells_37 (by decide) ?_
              have h9 := ihn (j + 1) (by omega)
              first | (rw [q2 (by omega)] at h9; exact h9) | (rw [q1 (by omega), ← Int.add_assoc] at h9; exact h9)
      refine mi_iload_n h dX2_countOpenCells_4 (by rfl) ?_
      refine mi_aload_n h dX2_countOpenCells_5 (by rfl) ?_
      refine gf_X2_0 h dX2_countOpenCells_6 fl_RX2_9 ?_
      refine mi_icmp_ge (tgt := 46) h dX2_countOpenCells_9 (by decide) ⟨by omega, by omega⟩ ⟨by omega, by omega⟩ (fun e9 => ?_) (fun e9 => ?_)
      · exfalso; omega
      · refine mi_iconst h dX2_countOpenCells_12 ?_
        refine mi_istore_n h dX2_countOpenCells_13 (by decide) ?_
        have h9 := inner (σ 4 1).toNat 0 (by omega)
        rw [show sm (opV (σ 24) i) 0 = 0 from rfl, Int.add_zero] at h9
        exact h9
  refine mi_iconst h dX2_countOpenCells_0 ?_
  refine mi_istore_n h dX2_countOpenCells_1 (by decide) ?_
  refine mi_iconst h dX2_countOpenCells_2 ?_
  refine mi_istore_n h dX2_countOpenCells_3 (by decide) ?_
  exact outer (σ 4 0).toNat 0 _ (by omega)
