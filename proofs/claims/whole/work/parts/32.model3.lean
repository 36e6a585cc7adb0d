set_option maxHeartbeats 4000000 in
set_option maxRecDepth 100000 in
theorem c_X6_wetsCell {σ : Mem} {p a b : Nat} (hF : JF σ) (hp : p < 24) (ha : a < 16) (hb : b < 16) : Sp1 yX6_wetsCell cX6_wetsCell 9 (some .boolean) 1 2 [vr 28, vi (p : Int), vi (a : Int), vi (b : Int)] σ (fun r σ' => σ = σ' ∧ (r = 0 ∨ r = 1) ∧ (r = 1 ↔ wetP (σ 53) (σ 55 p) (σ 56 p) (σ 57 p) a b)) := by
  refine Sp1_in RX6 rfl (by decide +kernel) (Nat.le_of_ble_eq_true rfl) [some (vr 28), some (vi (p : Int)), some (vi (a : Int)), some (vi (b : Int)), none, none, none, none, none] rfl ?_
  intro K h hr
  obtain ⟨f4, f5⟩ := id hF
  obtain ⟨g1, g2, g3⟩ := f5 p hp
  have hk := f4 (a * 16 + b) (by omega)
  have hkk : ∀ i j : Nat, i < 16 → j < 16 → 0 ≤ σ 53 (i * 16 + j) ∧ σ 53 (i * 16 + j) ≤ 2 := fun i j h1 h2 => f4 _ (by omega)
  have m1 := mul_rng (a := (a : Int) - σ 55 p) (b := (a : Int) - σ 55 p) (k := 16) (m := 16) ⟨by omega, by omega⟩ ⟨by omega, by omega⟩
  have m2 := mul_rng (a := (b : Int) - σ 56 p) (b := (b : Int) - σ 56 p) (k := 16) (m := 16) ⟨by omega, by omega⟩ ⟨by omega, by omega⟩
  have m3 := mul_rng (a := σ 57 p) (b := σ 57 p) (k := 12) (m := 12) ⟨by omega, by omega⟩ ⟨by omega, by omega⟩
  generalize hhit : (fun i j : Nat => σ 53 (i * 16 + j) = 1 ∧ cutP ((a - σ 55 p) * (j - σ 56 p) - (b - σ 56 p) * (i - σ 55 p)) (a - σ 55 p) (b - σ 56 p)) = hit
  have hit_of : ∀ i j : Nat, hit i j ↔ (σ 53 (i * 16 + j) = 1 ∧ cutP ((a - σ 55 p) * (j - σ 56 p) - (b - σ 56 p) * (i - σ 55 p)) (a - σ 55 p) (b - σ 56 p)) := fun i j => by rw [← hhit]
  have outer : ∀ (m i : Nat) (fr : Int) (l8 : Option MV), (i : Int) + m = max (σ 55 p) a + 1 → min (σ 55 p) a ≤ i → (fr = 0 ∨ fr = 1) → (fr = 1 ↔ ∀ i' j' : Nat, min (σ 55 p) a ≤ i' → i' < i → min (σ 56 p) b ≤ j' → (j' : Int) ≤ max (σ 56 p) b → ¬ hit i' j') → σ 53 (a * 16 + b) = 0 → ((a : Int) - σ 55 p) * (a - σ 55 p) + (b - σ 56 p) * (b - σ 56 p) ≤ σ 57 p * σ 57 p → M K 76 [some (vr 28), some (vi (p : Int)), some (vi (a : Int)), some (vi (b : Int)), some (vi (σ 55 p)), some (vi (σ 56 p)), some (vi fr), some (vi (i : Int)), l8] [] σ := by
    intro m
    induction m with
    | zero =>
      intro i fr l8 hi hm hf hno hz1 hz2
      have fin : M K 181 [some (vr 28), some (vi (p : Int)), some (vi (a : Int)), some (vi (b : Int)), some (vi (σ 55 p)), some (vi (σ 56 p)), some (vi fr), some (vi (i : Int)), l8] [] σ := by
        refine mi_iload h dX6_wetsCell_181 (by rfl) ?_
        refine mi_zreturn h hr dX6_wetsCell_183 (by omega) ?_
        refine ⟨rfl, hf, ?_⟩
        rw [hno]
        unfold wetP bwP
        constructor
        · intro q
          refine ⟨hz1, hz2, fun z => ?_⟩
          obtain ⟨i9, j9, z1, z2, z3⟩ := z
          exact q i9 j9 z1.1 (by omega) z2.1 z2.2 ((hit_of i9 j9).mpr z3)
        · intro q i9 j9 z1 z2 z3 z4 z5
          exact q.2.2 ⟨i9, j9, ⟨z1, by omega⟩, ⟨z3, z4⟩, (hit_of i9 j9).mp z5⟩
      refine mi_iload h dX6_wetsCell_76 (by rfl) ?_
      refine mi_iload_n h dX6_wetsCell_78 (by rfl) ?_
      refine mi_iload h dX6_wetsCell_79 (by rfl) ?_
      refine mi_icmp_ge (tgt := 89) h dX6_wetsCell_81 (by decide) ⟨by omega, by omega⟩ ⟨by omega, by omega⟩ (fun e81 => ?_) (fun e81 => ?_)
      · refine mi_iload_n h dX6_wetsCell_89 (by rfl) ?_
        refine mi_icmp_gt (tgt := 181) h dX6_wetsCell_90 (by decide) ⟨by omega, by omega⟩ ⟨by omega, by omega⟩ (fun e90 => ?_) (fun e90 => ?_)
        · exact fin
        · exfalso; omega
      · refine mi_iload h dX6_wetsCell_84 (by rfl) ?_
        refine mi_goto (tgt := 90) h dX6_wetsCell_86 (by decide) ?_
        refine mi_icmp_gt (tgt := 181) h dX6_wetsCell_90 (by decide) ⟨by omega, by omega⟩ ⟨by omega, by omega⟩ (fun e90 => ?_) (fun e90 => ?_)
        · exact fin
        · exfalso; omega
    | succ m ih =>
      intro i fr l8 hi hm hf hno hz1 hz2
      have inner : ∀ (n j : Nat) (fr : Int), (j : Int) + n = max (σ 56 p) b + 1 → min (σ 56 p) b ≤ j → (fr = 0 ∨ fr = 1) → (fr = 1 ↔ ((∀ i' j' : Nat, min (σ 55 p) a ≤ i' → i' < i → min (σ 56 p) b ≤ j' → (j' : Int) ≤ max (σ 56 p) b → ¬ hit i' j') ∧ ∀ j' : Nat, min (σ 56 p) b ≤ j' → j' < j → ¬ hit i j')) → M K 107 [some (vr 28), some (vi (p : Int)), some (vi (a : Int)), some (vi (b : Int)), some (vi (σ 55 p)), some (vi (σ 56 p)), some (vi fr), some (vi (i : Int)), some (vi (j : Int))] [] σ := by
        intro n
        induction n with
        | zero =>
          intro j fr hj hmj hf hnj
          have go : M K 175 [some (vr 28), some (vi (p : Int)), some (vi (a : Int)), some (vi (b : Int)), some (vi (σ 55 p)), some (vi (σ 56 p)), some (vi fr), some (vi (i : Int)), some (vi (j : Int))] [] σ := by
            refine mi_iinc h dX6_wetsCell_175 (by rfl) ?_ (by decide)
            refine mi_goto (tgt := 76) h dX6_wetsCell_178 (by decide) ?_
            exact ih (i + 1) fr _ (by omega) (by omega) hf (by
              rw [hnj]
              constructor
              · intro q i9 j9 a1 a2 a3 a4
                by_cases e : i9 = i
                · subst e; exact q.2 j9 a3 (by omega)
                · exact q.1 i9 j9 a1 (by omega) a3 a4
              · intro q
                exact ⟨fun i9 j9 a1 a2 a3 a4 => q i9 j9 a1 (by omega) a3 a4, fun j9 a1 a2 => q i j9 hm (by omega) a1 (by omega)⟩) hz1 hz2
          refine mi_iload h dX6_wetsCell_107 (by rfl) ?_
          refine mi_iload_n h dX6_wetsCell_109 (by rfl) ?_
          refine mi_iload h dX6_wetsCell_110 (by rfl) ?_
          refine mi_icmp_ge (tgt := 120) h dX6_wetsCell_112 (by decide) ⟨by omega, by omega⟩ ⟨by omega, by omega⟩ (fun e112 => ?_) (fun e112 => ?_)
          · refine mi_iload_n h dX6_wetsCell_120 (by rfl) ?_
            refine mi_icmp_gt (tgt := 175) h dX6_wetsCell_121 (by decide) ⟨by omega, by omega⟩ ⟨by omega, by omega⟩ (fun e121 => ?_) (fun e121 => ?_)
            · exact go
            · exfalso; omega
          · refine mi_iload h dX6_wetsCell_115 (by rfl) ?_
            refine mi_goto (tgt := 121) h dX6_wetsCell_117 (by decide) ?_
            refine mi_icmp_gt (tgt := 175) h dX6_wetsCell_121 (by decide) ⟨by omega, by omega⟩ ⟨by omega, by omega⟩ (fun e121 => ?_) (fun e121 => ?_)
            · exact go
            · exfalso; omega
        | succ n ihn =>
          intro j fr hj hmj hf hnj
          have hkj := hkk i j (by omega) (by omega)
          have next : ∀ v : Int, (v = 0 ∨ v = 1) → (v = 1 ↔ fr = 1 ∧ ¬ hit i j) → M K 167 [some (vr 28), some (vi (p : Int)), some (vi (a : Int)), some (vi (b : Int)), some (vi (σ 55 p)), some (vi (σ 56 p)), some (vi fr), some (vi (i : Int)), some (vi (j : Int))] [vi v] σ := by
            intro v hv1 hv2
            refine mi_istore h dX6_wetsCell_167 (by decide) ?_
            refine mi_iinc h dX6_wetsCell_169 (by rfl) ?_ (by decide)
            refine mi_goto (tgt := 107) h dX6_wetsCell_172 (by decide) ?_
            exact ihn (j + 1) v (by omega) (by omega) hv1 (by
              rw [hv2, hnj]
              constructor
              · intro q
                refine ⟨q.1.1, fun j9 a1 a2 => ?_⟩
                by_cases e : j9 = j
                · subst e; exact q.2
                · exact q.1.2 j9 a1 (by omega)
              · intro q
                exact ⟨⟨q.1, fun j9 a1 a2 => q.2 j9 a1 (by omega)⟩, q.2 j hmj (by omega)⟩)
          have body : M K 124 [some (vr 28), some (vi (p : Int)), some (vi (a : Int)), some (vi (b : Int)), some (vi (σ 55 p)), some (vi (σ 56 p)), some (vi fr), some (vi (i : Int)), some (vi (j : Int))] [] σ := by
            refine mi_iload h dX6_wetsCell_124 (by rfl) ?_
            refine mi_if_eq (tgt := 166) h dX6_wetsCell_126 (by decide) ⟨by omega, by omega⟩ (fun e126 => ?_) (fun e126 => ?_)
            · refine mi_iconst h dX6_wetsCell_166 ?_
              first | exact next _ (by omega) ⟨fun q => by omega, fun q => by omega⟩ | exact next _ (by omega) ⟨fun _ => ⟨by omega, fun z => e143 ((hit_of i j).mp z).1⟩, fun _ => rfl⟩ | exact next _ (by omega) ⟨fun q => by omega, fun q => absurd ((hit_of i j).mpr ⟨e143, hc9.mp (by omega)⟩) q.2⟩ | exact next _ (by omega) ⟨fun _ => ⟨by omega, fun z => by have := hc9.mpr ((hit_of i j).mp z).2; omega⟩, fun _ => rfl⟩
            · refine mi_aload_n h dX6_wetsCell_129 (by rfl) ?_
              refine gf_X6_31 h dX6_wetsCell_130 fl_RX6_94 ?_
              refine mi_bipush h dX6_wetsCell_133 (by decide) ?_
              refine mi_iload h dX6_wetsCell_135 (by rfl) ?_
              refine mi_imul h dX6_wetsCell_137 ?_
              refine mi_iload h dX6_wetsCell_138 (by rfl) ?_
              refine mi_iadd h dX6_wetsCell_140 ?_
              refine mn_iaload (i * 16 + j) h dX6_wetsCell_141 (by rfl) (by omega) (by omega) (by decide) ?_
              refine mi_iconst h dX6_wetsCell_142 ?_
              refine mi_icmp_ne (tgt := 162) h dX6_wetsCell_143 (by decide) ⟨by omega, by omega⟩ ⟨by omega, by omega⟩ (fun e143 => ?_) (fun e143 => ?_)
              · refine mi_iconst h dX6_wetsCell_162 ?_
                refine mi_goto (tgt := 167) h dX6_wetsCell_163 (by decide) ?_
                first | exact next _ (by omega) ⟨fun q => by omega, fun q => by omega⟩ | exact next _ (by omega) ⟨fun _ => ⟨by omega, fun z => e143 ((hit_of i j).mp z).1⟩, fun _ => rfl⟩ | exact next _ (by omega) ⟨fun q => by omega, fun q => absurd ((hit_of i j).mpr ⟨e143, hc9.mp (by omega)⟩) q.2⟩ | exact next _ (by omega) ⟨fun _ => ⟨by omega, fun z => by have := hc9.mpr ((hit_of i j).mp z).2; omega⟩, fun _ => rfl⟩
              · refine mi_iload h dX6_wetsCell_146 (by rfl) ?_
                refine mi_iload h dX6_wetsCell_148 (by rfl) ?_
                refine mi_iload_n h dX6_wetsCell_150 (by rfl) ?_
                refine mi_iload_n h dX6_wetsCell_151 (by rfl) ?_
                refine mi_iload h dX6_wetsCell_152 (by rfl) ?_
                refine mi_iload h dX6_wetsCell_154 (by rfl) ?_
                refine mi_cS6i (hw := Nat.le_of_ble_eq_true rfl) h dX6_wetsCell_156 ml_RX6_254 ym_yX6_goesThrough (c_X6_goesThrough ⟨by omega, by omega⟩ ⟨by omega, by omega⟩ ⟨by omega, by omega⟩ ⟨by omega, by omega⟩ ⟨by omega, by omega⟩ ⟨by omega, by omega⟩) (fun r156 σ156 hp156 => ?_)
                obtain ⟨rfl, hb9, hc9⟩ := hp156
                refine mi_if_ne (tgt := 166) h dX6_wetsCell_159 (by decide) ⟨by omega, by omega⟩ (fun e159 => ?_) (fun e159 => ?_)
                · refine mi_iconst h dX6_wetsCell_166 ?_
                  first | exact next _ (by omega) ⟨fun q => by omega, fun q => by omega⟩ | exact next _ (by omega) ⟨fun _ => ⟨by omega, fun z => e143 ((hit_of i j).mp z).1⟩, fun _ => rfl⟩ | exact next _ (by omega) ⟨fun q => by omega, fun q => absurd ((hit_of i j).mpr ⟨e143, hc9.mp (by omega)⟩) q.2⟩ | exact next _ (by omega) ⟨fun _ => ⟨by omega, fun z => by have := hc9.mpr ((hit_of i j).mp z).2; omega⟩, fun _ => rfl⟩
                · refine mi_iconst h dX6_wetsCell_162 ?_
                  refine mi_goto (tgt := 167) h dX6_wetsCell_163 (by decide) ?_
                  first | exact next _ (by omega) ⟨fun q => by omega, fun q => by omega⟩ | exact next _ (by omega) ⟨fun _ => ⟨by omega, fun z => e143 ((hit_of i j).mp z).1⟩, fun _ => rfl⟩ | exact next _ (by omega) ⟨fun q => by omega, fun q => absurd ((hit_of i j).mpr ⟨e143, hc9.mp (by omega)⟩) q.2⟩ | exact next _ (by omega) ⟨fun _ => ⟨by omega, fun z => by have := hc9.mpr ((hit_of i j).mp z).2; omega⟩, fun _ => rfl⟩
          refine mi_iload h dX6_wetsCell_107 (by rfl) ?_
          refine mi_iload_n h dX6_wetsCell_109 (by rfl) ?_
          refine mi_iload h dX6_wetsCell_110 (by rfl) ?_
          refine mi_icmp_ge (tgt := 120) h dX6_wetsCell_112 (by decide) ⟨by omega, by omega⟩ ⟨by omega, by omega⟩ (fun e112 => ?_) (fun e112 => ?_)
          · refine mi_iload_n h dX6_wetsCell_120 (by rfl) ?_
            refine mi_icmp_gt (tgt := 175) h dX6_wetsCell_121 (by decide) ⟨by omega, by omega⟩ ⟨by omega, by omega⟩ (fun e121 => ?_) (fun e121 => ?_)
            · exfalso; omega
            · exact body
          · refine mi_iload h dX6_wetsCell_115 (by rfl) ?_
            refine mi_goto (tgt := 121) h dX6_wetsCell_117 (by decide) ?_
            refine mi_icmp_gt (tgt := 175) h dX6_wetsCell_121 (by decide) ⟨by omega, by omega⟩ ⟨by omega, by omega⟩ (fun e121 => ?_) (fun e121 => ?_)
            · exfalso; omega
            · exact body
      have mid : ∀ x8 : Option MV, M K 93 [some (vr 28), some (vi (p : Int)), some (vi (a : Int)), some (vi (b : Int)), some (vi (σ 55 p)), some (vi (σ 56 p)), some (vi fr), some (vi (i : Int)), x8] [] σ := by
        intro x8
        refine mi_iload_n h dX6_wetsCell_93 (by rfl) ?_
        refine mi_iload h dX6_wetsCell_94 (by rfl) ?_
        refine mi_icmp_ge (tgt := 103) h dX6_wetsCell_96 (by decide) ⟨by omega, by omega⟩ ⟨by omega, by omega⟩ (fun e96 => ?_) (fun e96 => ?_)
        · refine mi_iload h dX6_wetsCell_103 (by rfl) ?_
          refine mt_e (y := (((min (σ 56 p) (b : Int)).toNat : Nat) : Int)) (by omega) ?_
          refine mi_istore h dX6_wetsCell_105 (by decide) ?_
          exact inner (max (σ 56 p) b + 1 - min (σ 56 p) b).toNat _ fr (by omega) (by omega) hf (by
            rw [hno]
            exact ⟨fun q => ⟨q, fun j9 a1 a2 => by exfalso; omega⟩, fun q => q.1⟩)
        · refine mi_iload_n h dX6_wetsCell_99 (by rfl) ?_
          refine mi_goto (tgt := 105) h dX6_wetsCell_100 (by decide) ?_
          refine mt_e (y := (((min (σ 56 p) (b : Int)).toNat : Nat) : Int)) (by omega) ?_
          refine mi_istore h dX6_wetsCell_105 (by decide) ?_
          exact inner (max (σ 56 p) b + 1 - min (σ 56 p) b).toNat _ fr (by omega) (by omega) hf (by
            rw [hno]
            exact ⟨fun q => ⟨q, fun j9 a1 a2 => by exfalso; omega⟩, fun q => q.1⟩)
      refine mi_iload h dX6_wetsCell_76 (by rfl) ?_
      refine mi_iload_n h dX6_wetsCell_78 (by rfl) ?_
      refine mi_iload h dX6_wetsCell_79 (by rfl) ?_
      refine mi_icmp_ge (tgt := 89) h dX6_wetsCell_81 (by decide) ⟨by omega, by omega⟩ ⟨by omega, by omega⟩ (fun e81 => ?_) (fun e81 => ?_)
      · refine mi_iload_n h dX6_wetsCell_89 (by rfl) ?_
        refine mi_icmp_gt (tgt := 181) h dX6_wetsCell_90 (by decide) ⟨by omega, by omega⟩ ⟨by omega, by omega⟩ (fun e90 => ?_) (fun e90 => ?_)
        · exfalso; omega
        · exact mid _
      · refine mi_iload h dX6_wetsCell_84 (by rfl) ?_
        refine mi_goto (tgt := 90) h dX6_wetsCell_86 (by decide) ?_
        refine mi_icmp_gt (tgt := 181) h dX6_wetsCell_90 (by decide) ⟨by omega, by omega⟩ ⟨by omega, by omega⟩ (fun e90 => ?_) (fun e90 => ?_)
        · exfalso; omega
        · exact mid _
  refine mi_aload_n h dX6_wetsCell_0 (by rfl) ?_
  refine gf_X6_33 h dX6_wetsCell_1 fl_RX6_100 ?_
  refine mi_iload_n h dX6_wetsCell_4 (by rfl) ?_
  refine mn_iaload (p) h dX6_wetsCell_5 (by rfl) (by omega) (by omega) (by decide) ?_
  refine mi_istore h dX6_wetsCell_6 (by decide) ?_
  refine mi_aload_n h dX6_wetsCell_8 (by rfl) ?_
  refine gf_X6_34 h dX6_wetsCell_9 fl_RX6_103 ?_
  refine mi_iload_n h dX6_wetsCell_12 (by rfl) ?_
  refine mn_iaload (p) h dX6_wetsCell_13 (by rfl) (by omega) (by omega) (by decide) ?_
  refine mi_istore h dX6_wetsCell_14 (by decide) ?_
  refine mi_aload_n h dX6_wetsCell_16 (by rfl) ?_
  refine gf_X6_31 h dX6_wetsCell_17 fl_RX6_94 ?_
  refine mi_bipush h dX6_wetsCell_20 (by decide) ?_
  refine mi_iload_n h dX6_wetsCell_22 (by rfl) ?_
  refine mi_imul h dX6_wetsCell_23 ?_
  refine mi_iload_n h dX6_wetsCell_24 (by rfl) ?_
  refine mi_iadd h dX6_wetsCell_25 ?_
  refine mn_iaload (a * 16 + b) h dX6_wetsCell_26 (by rfl) (by omega) (by omega) (by decide) ?_
  refine mi_if_ne (tgt := 57) h dX6_wetsCell_27 (by decide) ⟨by omega, by omega⟩ (fun e27 => ?_) (fun e27 => ?_)
  · refine mi_iconst h dX6_wetsCell_57 ?_
    refine mi_zreturn h hr dX6_wetsCell_58 (by omega) ?_
    refine ⟨rfl, by omega, ⟨fun q => by omega, fun q => ?_⟩⟩
    have z1 := q.1
    have z2 := q.2.1
    omega
  · refine mi_iload_n h dX6_wetsCell_30 (by rfl) ?_
    refine mi_iload h dX6_wetsCell_31 (by rfl) ?_
    refine mi_isub h dX6_wetsCell_33 ?_
    refine mi_iload_n h dX6_wetsCell_34 (by rfl) ?_
    refine mi_iload h dX6_wetsCell_35 (by rfl) ?_
    refine mi_isub h dX6_wetsCell_37 ?_
    refine mi_cS2i (hw := Nat.le_of_ble_eq_true rfl) h dX6_wetsCell_38 ml_RX6_251 ym_yX6_square (c_X6_square) (fun r38 σ38 hp38 => ?_)
    obtain ⟨rfl, rfl⟩ := hp38
    refine mi_aload_n h dX6_wetsCell_41 (by rfl) ?_
    refine gf_X6_35 h dX6_wetsCell_42 fl_RX6_106 ?_
    refine mi_iload_n h dX6_wetsCell_45 (by rfl) ?_
    refine mn_iaload (p) h dX6_wetsCell_46 (by rfl) (by omega) (by omega) (by decide) ?_
    refine mi_aload_n h dX6_wetsCell_47 (by rfl) ?_
    refine gf_X6_35 h dX6_wetsCell_48 fl_RX6_106 ?_
    refine mi_iload_n h dX6_wetsCell_51 (by rfl) ?_
    refine mn_iaload (p) h dX6_wetsCell_52 (by rfl) (by omega) (by omega) (by decide) ?_
    refine mi_imul h dX6_wetsCell_53 ?_
    refine mi_icmp_le (tgt := 59) h dX6_wetsCell_54 (by decide) ⟨by omega, by omega⟩ ⟨by omega, by omega⟩ (fun e54 => ?_) (fun e54 => ?_)
    · refine mi_iconst h dX6_wetsCell_59 ?_
      refine mi_istore h dX6_wetsCell_60 (by decide) ?_
      refine mi_iload_n h dX6_wetsCell_62 (by rfl) ?_
      refine mi_iload h dX6_wetsCell_63 (by rfl) ?_
      refine mi_icmp_ge (tgt := 72) h dX6_wetsCell_65 (by decide) ⟨by omega, by omega⟩ ⟨by omega, by omega⟩ (fun e65 => ?_) (fun e65 => ?_)
      · refine mi_iload h dX6_wetsCell_72 (by rfl) ?_
        refine mt_e (y := (((min (σ 55 p) (a : Int)).toNat : Nat) : Int)) (by omega) ?_
        refine mi_istore h dX6_wetsCell_74 (by decide) ?_
        exact outer (max (σ 55 p) a + 1 - min (σ 55 p) a).toNat _ 1 _ (by omega) (by omega) (by omega) ⟨fun _ i9 j9 a1 a2 => by exfalso; omega, fun _ => rfl⟩ (by omega) (by omega)
      · refine mi_iload_n h dX6_wetsCell_68 (by rfl) ?_
        refine mi_goto (tgt := 74) h dX6_wetsCell_69 (by decide) ?_
        refine mt_e (y := (((min (σ 55 p) (a : Int)).toNat : Nat) : Int)) (by omega) ?_
        refine mi_istore h dX6_wetsCell_74 (by decide) ?_
        exact outer (max (σ 55 p) a + 1 - min (σ 55 p) a).toNat _ 1 _ (by omega) (by omega) (by omega) ⟨fun _ i9 j9 a1 a2 => by exfalso; omega, fun _ => rfl⟩ (by omega) (by omega)
    · refine mi_iconst h dX6_wetsCell_57 ?_
      refine mi_zreturn h hr dX6_wetsCell_58 (by omega) ?_
      refine ⟨rfl, by omega, ⟨fun q => by omega, fun q => ?_⟩⟩
      have z1 := q.1
      have z2 := q.2.1
      omega
set_option maxHeartbeats 4000000 in
set_option maxRecDepth 100000 in
theorem c_X6_wets {σ : Mem} {p a b : Int} (hJ : JS σ) (hB : JB σ) (hF : JF σ) (hp : R32 p) (ha : R32 a) (hb : R32 b) : Sp1 yX6_wets cX6_wets 4 (some .int) 1 3 [vr 28, vi p, vi a, vi b] σ (fun r σ' => σ = σ' ∧ ((r = -1 ∧ ¬ ((0 ≤ p ∧ p < σ 28 11 ∧ σ 37 p.toNat = 1) ∧ ((0 ≤ a ∧ a < σ 28 29) ∧ (0 ≤ b ∧ b < σ 28 30)))) ∨ (((0 ≤ p ∧ p < σ 28 11 ∧ σ 37 p.toNat = 1) ∧ ((0 ≤ a ∧ a < σ 28 29) ∧ (0 ≤ b ∧ b < σ 28 30))) ∧ ((r = -3 ∧ σ 54 p.toNat = 0) ∨ (σ 54 p.toNat = 1 ∧ r = b2i (wetP (σ 53) (σ 55 p.toNat) (σ 56 p.toNat) (σ 57 p.toNat) a.toNat b.toNat)))))) := by
  refine Sp1_in RX6 rfl (by decide +kernel) (Nat.le_of_ble_eq_true rfl) [some (vr 28), some (vi p), some (vi a), some (vi b)] rfl ?_
  intro K h hr
  obtain ⟨j1, j2, j3, j4, j5, j6, j7⟩ := id hJ
  have hq : 0 ≤ p ∧ p < 24 → σ 54 p.toNat = 0 ∨ σ 54 p.toNat = 1 := fun q => (hB.1 p.toNat (by omega)).2.2.2.2
  refine mi_aload_n h dX6_wets_0 (by rfl) ?_
  refine mi_iload_n h dX6_wets_1 (by rfl) ?_
  refine mi_cV1i (hw := Nat.le_of_ble_eq_true rfl) h dX6_wets_2 ml_RX6_140 ym_yX6_isHead (by rfl) (by rfl) (c_X6_isHead hJ hB ⟨by omega, by omega⟩) (fun r2 σ2 hp2 => ?_)
  obtain ⟨rfl, hb2, hc2⟩ := hp2
  refine mi_if_eq (tgt := 17) h dX6_wets_5 (by decide) ⟨by omega, by omega⟩ (fun e5 => ?_) (fun e5 => ?_)
  · refine mi_iconst h dX6_wets_17 ?_
    refine mi_ireturn h hr dX6_wets_18 ?_
    first | exact ⟨rfl, Or.inl ⟨rfl, by omega⟩⟩ | exact ⟨rfl, Or.inr ⟨by omega, Or.inl ⟨rfl, by omega⟩⟩⟩ | exact ⟨rfl, Or.inr ⟨by omega, Or.inr ⟨by omega, by omega⟩⟩⟩
  · refine mi_aload_n h dX6_wets_8 (by rfl) ?_
    refine mi_iload_n h dX6_wets_9 (by rfl) ?_
    refine mi_iload_n h dX6_wets_10 (by rfl) ?_
    refine mi_cV2i (hw := Nat.le_of_ble_eq_true rfl) h dX6_wets_11 ml_RX6_237 ym_yX6_isCell (by rfl) (by rfl) (c_X6_isCell hJ ⟨by omega, by omega⟩ ⟨by omega, by omega⟩) (fun r11 σ11 hp11 => ?_)
    obtain ⟨rfl, hb11, hc11⟩ := hp11
    refine mi_if_ne (tgt := 19) h dX6_wets_14 (by decide) ⟨by omega, by omega⟩ (fun e14 => ?_) (fun e14 => ?_)
    · refine mi_aload_n h dX6_wets_19 (by rfl) ?_
      refine gf_X6_32 h dX6_wets_20 fl_RX6_97 ?_
      refine mi_iload_n h dX6_wets_23 (by rfl) ?_
      refine mn_baload (p.toNat) h dX6_wets_24 (by rfl) (by omega) (by omega) (by decide) ?_
      refine mi_if_ne (tgt := 33) h dX6_wets_25 (by decide) ⟨by omega, by omega⟩ (fun e25 => ?_) (fun e25 => ?_)
      · refine mi_aload_n h dX6_wets_33 (by rfl) ?_
        refine mi_iload_n h dX6_wets_34 (by rfl) ?_
        refine mt_e (y := ((p.toNat : Nat) : Int)) (by omega) ?_
        refine mi_iload_n h dX6_wets_35 (by rfl) ?_
        refine mt_e (y := ((a.toNat : Nat) : Int)) (by omega) ?_
        refine mi_iload_n h dX6_wets_36 (by rfl) ?_
        refine mt_e (y := ((b.toNat : Nat) : Int)) (by omega) ?_
        refine mi_cV3i (hw := Nat.le_of_ble_eq_true rfl) h dX6_wets_37 ml_RX6_258 ym_yX6_wetsCell (by rfl) (by rfl) (c_X6_wetsCell hF (by omega) (by omega) (by omega)) (fun r37 σ37 hp37 => ?_)
        obtain ⟨rfl, hb9, hc9⟩ := hp37
        have hr9 := b2i_eq hb9 hc9
        refine mi_cS1i (hw := Nat.le_of_ble_eq_true rfl) h dX6_wets_40 ml_RX6_200 ym_yX6_asInt (c_X6_asInt hb9) (fun r40 σ40 hp40 => ?_)
        obtain ⟨rfl, rfl⟩ := hp40
        refine mi_ireturn h hr dX6_wets_43 ?_
        first | exact ⟨rfl, Or.inl ⟨rfl, by omega⟩⟩ | exact ⟨rfl, Or.inr ⟨by omega, Or.inl ⟨rfl, by omega⟩⟩⟩ | exact ⟨rfl, Or.inr ⟨by omega, Or.inr ⟨by omega, by omega⟩⟩⟩
      · refine mi_bipush h dX6_wets_28 (by decide) ?_
        refine mi_goto (tgt := 43) h dX6_wets_30 (by decide) ?_
        refine mi_ireturn h hr dX6_wets_43 ?_
        first | exact ⟨rfl, Or.inl ⟨rfl, by omega⟩⟩ | exact ⟨rfl, Or.inr ⟨by omega, Or.inl ⟨rfl, by omega⟩⟩⟩ | exact ⟨rfl, Or.inr ⟨by omega, Or.inr ⟨by omega, by omega⟩⟩⟩
    · refine mi_iconst h dX6_wets_17 ?_
      refine mi_ireturn h hr dX6_wets_18 ?_
      first | exact ⟨rfl, Or.inl ⟨rfl, by omega⟩⟩ | exact ⟨rfl, Or.inr ⟨by omega, Or.inl ⟨rfl, by omega⟩⟩⟩ | exact ⟨rfl, Or.inr ⟨by omega, Or.inr ⟨by omega, by omega⟩⟩⟩
noncomputable def dryM (σ : Mem) : Nat → Nat → Int := dryV (σ 53) (σ 54) (σ 55) (σ 56) (σ 57)
theorem dryM_01 (σ : Mem) (i j : Nat) : 0 ≤ dryM σ i j ∧ dryM σ i j ≤ 1 := by
  have := b2i_01 (dryP (σ 53) (σ 54) (σ 55) (σ 56) (σ 57) i j)
  unfold dryM dryV
  omega
/-- who stands is a pipe -/
def JT (σ : Mem) : Prop := ∀ p : Nat, p < 24 → σ 54 p = 1 → (p : Int) < σ 28 11
set_option maxHeartbeats 4000000 in
set_option maxRecDepth 100000 in
theorem c_X6_dry {σ : Mem} {i : Int} (hJ : JS σ) (hB : JB σ) (hF : JF σ) (hT : JT σ) (hi : R32 i) : Sp1 yX6_dry cX6_dry 7 (some .int) 1 3 [vr 28, vi i] σ (fun r σ' => σ = σ' ∧ firstC (fun a b => dryM σ a b = 1 ∧ cntV (dryM σ) (σ 28 30).toNat a b = i) (σ 28 29).toNat (σ 28 30).toNat (if i = -1 then cntV (dryM σ) (σ 28 30).toNat (σ 28 29).toNat 0 else -6) r) := by
  refine Sp1_in RX6 rfl (by decide +kernel) (Nat.le_of_ble_eq_true rfl) [some (vr 28), some (vi i), none, none, none, none, none] rfl ?_
  intro K h hr
  obtain ⟨j1, j2, j3, j4, j5, j6, j7⟩ := id hJ
  have outer : ∀ (m a : Nat) (l4 l5 l6 : Option MV), (a : Int) + m = σ 28 29 → (∀ a' b', a' < a → b' < (σ 28 30).toNat → ¬ (dryM σ a' b' = 1 ∧ cntV (dryM σ) (σ 28 30).toNat a' b' = i)) → M K 4 [some (vr 28), some (vi i), some (vi (cntV (dryM σ) (σ 28 30).toNat a 0)), some (vi (a : Int)), l4, l5, l6] [] σ := by
    intro m
    induction m with
    | zero =>
      intro a l4 l5 l6 hm hno
      have ha : (σ 28 29).toNat = a := by omega
      refine mi_iload_n h dX6_dry_4 (by rfl) ?_
      refine mi_aload_n h dX6_dry_5 (by rfl) ?_
      refine gf_X6_29 h dX6_dry_6 fl_RX6_88 ?_
      refine mi_icmp_ge (tgt := 131) h dX6_dry_9 (by decide) ⟨by omega, by omega⟩ ⟨by omega, by omega⟩ (fun e9 => ?_) (fun e9 => ?_)
      · refine mi_iload_n h dX6_dry_131 (by rfl) ?_
        refine mi_iconst h dX6_dry_132 ?_
        refine mi_icmp_ne (tgt := 140) h dX6_dry_133 (by decide) ⟨by omega, by omega⟩ ⟨by omega, by omega⟩ (fun e133 => ?_) (fun e133 => ?_)
        · refine mi_bipush h dX6_dry_140 (by decide) ?_
          refine mi_ireturn h hr dX6_dry_142 ?_
          refine ⟨rfl, Or.inr ⟨fun a9 b9 q1 q2 => hno a9 b9 (by omega) q2, ?_⟩⟩
          first | (rw [if_pos (by omega), ha]; done) | (rw [if_neg (by omega)]; done)
        · refine mi_iload_n h dX6_dry_136 (by rfl) ?_
          refine mi_goto (tgt := 142) h dX6_dry_137 (by decide) ?_
          refine mi_ireturn h hr dX6_dry_142 ?_
          refine ⟨rfl, Or.inr ⟨fun a9 b9 q1 q2 => hno a9 b9 (by omega) q2, ?_⟩⟩
          first | (rw [if_pos (by omega), ha]; done) | (rw [if_neg (by omega)]; done)
      · exfalso; omega
    | succ m ih =>
      intro a l4 l5 l6 hm hno
      have inner : ∀ (n b : Nat) (l5 l6 : Option MV), (b : Int) + n = σ 28 30 → (∀ b', b' < b → ¬ (dryM σ a b' = 1 ∧ cntV (dryM σ) (σ 28 30).toNat a b' = i)) → M K 15 [some (vr 28), some (vi i), some (vi (cntV (dryM σ) (σ 28 30).toNat a b)), some (vi (a : Int)), some (vi (b : Int)), l5, l6] [] σ := by
        intro n
        induction n with
        | zero =>
          intro b l5 l6 hb hnb
          have hb2 : (σ 28 30).toNat = b := by omega
          have e9 : cntV (dryM σ) (σ 28 30).toNat a b = cntV (dryM σ) (σ 28 30).toNat (a + 1) 0 := by
            unfold cntV
            rw [hb2]
            simp only [sm]
            omega
          rw [e9]
          refine mi_iload h dX6_dry_15 (by rfl) ?_
          refine mi_aload_n h dX6_dry_17 (by rfl) ?_
          refine gf_X6_30 h dX6_dry_18 fl_RX6_91 ?_
          refine mi_icmp_ge (tgt := 125) h dX6_dry_21 (by decide) ⟨by omega, by omega⟩ ⟨by omega, by omega⟩ (fun e21 => ?_) (fun e21 => ?_)
          · refine mi_iinc h dX6_dry_125 (by rfl) ?_ (by decide)
            refine mi_goto (tgt := 4) h dX6_dry_128 (by decide) ?_
            exact ih (a + 1) _ _ _ (by omega) (fun a9 b9 q1 q2 => by
              by_cases e : a9 = a
              · subst e; exact hnb b9 (by omega)
              · exact hno a9 b9 (by omega) q2)
          · exfalso; omega
        | succ n ihn =>
          intro b l5 l6 hb hnb
          have hr9 := cntV_rng (dv := dryM σ) (cs := (σ 28 30).toNat) (a := a) (b := b) (dryM_01 σ) (by omega) (by omega) (by omega)
          have s1 : cntV (dryM σ) (σ 28 30).toNat a (b + 1) = cntV (dryM σ) (σ 28 30).toNat a b + dryM σ a b := by
            unfold cntV
            simp only [sm]
            omega
          have hk := hF.1 (a * 16 + b) (by omega)
          have after : ∀ (v : Int) (l6 : Option MV), (v = 0 ∨ v = 1) → v = dryM σ a b → M K 98 [some (vr 28), some (vi i), some (vi (cntV (dryM σ) (σ 28 30).toNat a b)), some (vi (a : Int)), some (vi (b : Int)), some (vi v), l6] [] σ := by
            intro v l6 hv hv9
            refine mi_iload h dX6_dry_98 (by rfl) ?_
            refine mi_if_eq (tgt := 119) h dX6_dry_100 (by decide) ⟨by omega, by omega⟩ (fun e100 => ?_) (fun e100 => ?_)
            · refine mi_iinc h dX6_dry_119 (by rfl) ?_ (by decide)
              refine mi_goto (tgt := 15) h dX6_dry_122 (by decide) ?_
              have h9 := ihn (b + 1) (some (vi v)) l6 (by omega) (fun b9 q => by
                by_cases e : b9 = b
                · subst e; first | exact fun z => by omega | exact fun z => by have := z.2; omega
                · exact hnb b9 (by omega))
              rw [s1, ← hv9] at h9
              first | (rw [show v = 0 by omega, Int.add_zero] at h9; rw [show v = 0 by omega]; exact h9) | (rw [show v = 1 by omega] at h9; rw [show v = 1 by omega]; exact h9)
            · refine mi_iload_n h dX6_dry_103 (by rfl) ?_
              refine mi_iload_n h dX6_dry_104 (by rfl) ?_
              refine mi_icmp_ne (tgt := 116) h dX6_dry_105 (by decide) ⟨by omega, by omega⟩ ⟨by omega, by omega⟩ (fun e105 => ?_) (fun e105 => ?_)
              · refine mi_iinc h dX6_dry_116 (by rfl) ?_ (by decide)
                refine mi_iinc h dX6_dry_119 (by rfl) ?_ (by decide)
                refine mi_goto (tgt := 15) h dX6_dry_122 (by decide) ?_
                have h9 := ihn (b + 1) (some (vi v)) l6 (by omega) (fun b9 q => by
                  by_cases e : b9 = b
                  · subst e; first | exact fun z => by omega | exact fun z => by have := z.2; omega
                  · exact hnb b9 (by omega))
                rw [s1, ← hv9] at h9
                first | (rw [show v = 0 by omega, Int.add_zero] at h9; rw [show v = 0 by omega]; exact h9) | (rw [show v = 1 by omega] at h9; rw [show v = 1 by omega]; exact h9)
              · refine mi_bipush h dX6_dry_108 (by decide) ?_
                refine mi_iload_n h dX6_dry_110 (by rfl) ?_
                refine mi_imul h dX6_dry_111 ?_
                refine mi_iload h dX6_dry_112 (by rfl) ?_
                refine mi_iadd h dX6_dry_114 ?_
                refine mi_ireturn h hr dX6_dry_115 ?_
                refine ⟨rfl, Or.inl ⟨a, b, by omega, by omega, ⟨by omega, by omega⟩, fun a9 b9 q1 q2 q3 => ?_, by omega⟩⟩
                rcases q3 with q3 | ⟨q3, q4⟩
                · exact hno a9 b9 q3 q2
                · subst q3; exact hnb b9 q4
          have ploop : ∀ (t q : Nat) (v : Int), (q : Int) + t = σ 28 11 → (v = 0 ∨ v = 1) → (v = 1 ↔ σ 53 (a * 16 + b) = 0 ∧ ∀ q', q' < q → σ 54 q' = 1 → ¬ wetP (σ 53) (σ 55 q') (σ 56 q') (σ 57 q') a b) → M K 49 [some (vr 28), some (vi i), some (vi (cntV (dryM σ) (σ 28 30).toNat a b)), some (vi (a : Int)), some (vi (b : Int)), some (vi v), some (vi (q : Int))] [] σ := by
            intro t
            induction t with
            | zero =>
              intro q v hq hv hv2
              refine mi_iload h dX6_dry_49 (by rfl) ?_
              refine mi_aload_n h dX6_dry_51 (by rfl) ?_
              refine gf_X6_11 h dX6_dry_52 fl_RX6_109 ?_
              refine mi_icmp_ge (tgt := 98) h dX6_dry_55 (by decide) ⟨by omega, by omega⟩ ⟨by omega, by omega⟩ (fun e55 => ?_) (fun e55 => ?_)
              · exact after v _ hv (b2i_eq hv (by
                  rw [hv2]
                  unfold dryP
                  exact ⟨fun z => ⟨z.1, fun q9 a1 a2 => z.2 q9 (by have := hT q9 a1 a2; omega) a2⟩, fun z => ⟨z.1, fun q9 a1 a2 => z.2 q9 (by omega) a2⟩⟩))
              · exfalso; omega
            | succ t iht =>
              intro q v hq hv hv2
              have hst := (hB.1 q (by omega)).2.2.2.2
              refine mi_iload h dX6_dry_49 (by rfl) ?_
              refine mi_aload_n h dX6_dry_51 (by rfl) ?_
              refine gf_X6_11 h dX6_dry_52 fl_RX6_109 ?_
              refine mi_icmp_ge (tgt := 98) h dX6_dry_55 (by decide) ⟨by omega, by omega⟩ ⟨by omega, by omega⟩ (fun e55 => ?_) (fun e55 => ?_)
              · exfalso; omega
              · refine mi_iload h dX6_dry_58 (by rfl) ?_
                refine mi_if_eq (tgt := 98) h dX6_dry_60 (by decide) ⟨by omega, by omega⟩ (fun e60 => ?_) (fun e60 => ?_)
                · exact after v _ hv (b2i_eq hv (by
                    constructor
                    · intro z; exfalso; omega
                    · intro z; exfalso
                      have := hv2.mpr ⟨z.1, fun q9 a1 a2 => z.2 q9 (by omega) a2⟩
                      omega))
                · refine mi_aload_n h dX6_dry_63 (by rfl) ?_
                  refine gf_X6_32 h dX6_dry_64 fl_RX6_97 ?_
                  refine mi_iload h dX6_dry_67 (by rfl) ?_
                  refine mn_baload (q) h dX6_dry_69 (by rfl) (by omega) (by omega) (by decide) ?_
                  refine mi_if_eq (tgt := 85) h dX6_dry_70 (by decide) ⟨by omega, by omega⟩ (fun e70 => ?_) (fun e70 => ?_)
                  · refine mi_iconst h dX6_dry_85 ?_
                    refine mi_goto (tgt := 90) h dX6_dry_86 (by decide) ?_
                    refine mi_istore h dX6_dry_90 (by decide) ?_
                    refine mi_iinc h dX6_dry_92 (by rfl) ?_ (by decide)
                    refine mi_goto (tgt := 49) h dX6_dry_95 (by decide) ?_
                    first | exact iht (q + 1) 1 (by omega) (by omega) ⟨fun _ => ⟨(hv2.mp (by omega)).1, fun q9 a1 a2 => by
                      by_cases e : q9 = q
                      · subst e; first | (exfalso; omega) | exact fun z => by have := hc9.mpr z; omega
                      · exact (hv2.mp (by omega)).2 q9 (by omega) a2⟩, fun _ => rfl⟩ | exact iht (q + 1) 0 (by omega) (by omega) ⟨fun z => by omega, fun z => absurd (hc9.mp (by omega)) (z.2 q (by omega) (by omega))⟩
                  · refine mi_aload_n h dX6_dry_73 (by rfl) ?_
                    refine mi_iload h dX6_dry_74 (by rfl) ?_
                    refine mi_iload_n h dX6_dry_76 (by rfl) ?_
                    refine mi_iload h dX6_dry_77 (by rfl) ?_
                    refine mi_cV3i (hw := Nat.le_of_ble_eq_true rfl) h dX6_dry_79 ml_RX6_258 ym_yX6_wetsCell (by rfl) (by rfl) (c_X6_wetsCell hF (by omega) (by omega) (by omega)) (fun r79 σ79 hp79 => ?_)
                    obtain ⟨rfl, hb9, hc9⟩ := hp79
                    refine mi_if_ne (tgt := 89) h dX6_dry_82 (by decide) ⟨by omega, by omega⟩ (fun e82 => ?_) (fun e82 => ?_)
                    · refine mi_iconst h dX6_dry_89 ?_
                      refine mi_istore h dX6_dry_90 (by decide) ?_
                      refine mi_iinc h dX6_dry_92 (by rfl) ?_ (by decide)
                      refine mi_goto (tgt := 49) h dX6_dry_95 (by decide) ?_
                      first | exact iht (q + 1) 1 (by omega) (by omega) ⟨fun _ => ⟨(hv2.mp (by omega)).1, fun q9 a1 a2 => by
                        by_cases e : q9 = q
                        · subst e; first | (exfalso; omega) | exact fun z => by have := hc9.mpr z; omega
                        · exact (hv2.mp (by omega)).2 q9 (by omega) a2⟩, fun _ => rfl⟩ | exact iht (q + 1) 0 (by omega) (by omega) ⟨fun z => by omega, fun z => absurd (hc9.mp (by omega)) (z.2 q (by omega) (by omega))⟩
                    · refine mi_iconst h dX6_dry_85 ?_
                      refine mi_goto (tgt := 90) h dX6_dry_86 (by decide) ?_
                      refine mi_istore h dX6_dry_90 (by decide) ?_
                      refine mi_iinc h dX6_dry_92 (by rfl) ?_ (by decide)
                      refine mi_goto (tgt := 49) h dX6_dry_95 (by decide) ?_
                      first | exact iht (q + 1) 1 (by omega) (by omega) ⟨fun _ => ⟨(hv2.mp (by omega)).1, fun q9 a1 a2 => by
                        by_cases e : q9 = q
                        · subst e; first | (exfalso; omega) | exact fun z => by have := hc9.mpr z; omega
                        · exact (hv2.mp (by omega)).2 q9 (by omega) a2⟩, fun _ => rfl⟩ | exact iht (q + 1) 0 (by omega) (by omega) ⟨fun z => by omega, fun z => absurd (hc9.mp (by omega)) (z.2 q (by omega) (by omega))⟩
          refine mi_iload h dX6_dry_15 (by rfl) ?_
          refine mi_aload_n h dX6_dry_17 (by rfl) ?_
          refine gf_X6_30 h dX6_dry_18 fl_RX6_91 ?_
          refine mi_icmp_ge (tgt := 125) h dX6_dry_21 (by decide) ⟨by omega, by omega⟩ ⟨by omega, by omega⟩ (fun e21 => ?_) (fun e21 => ?_)
          · exfalso; omega
          · refine mi_aload_n h dX6_dry_24 (by rfl) ?_
            refine gf_X6_31 h dX6_dry_25 fl_RX6_94 ?_
            refine mi_bipush h dX6_dry_28 (by decide) ?_
            refine mi_iload_n h dX6_dry_30 (by rfl) ?_
            refine mi_imul h dX6_dry_31 ?_
            refine mi_iload h dX6_dry_32 (by rfl) ?_
            refine mi_iadd h dX6_dry_34 ?_
            refine mn_iaload (a * 16 + b) h dX6_dry_35 (by rfl) (by omega) (by omega) (by decide) ?_
            refine mi_if_ne (tgt := 43) h dX6_dry_36 (by decide) ⟨by omega, by omega⟩ (fun e36 => ?_) (fun e36 => ?_)
            · refine mi_iconst h dX6_dry_43 ?_
              refine mi_istore h dX6_dry_44 (by decide) ?_
              refine mi_iconst h dX6_dry_46 ?_
              refine mi_istore h dX6_dry_47 (by decide) ?_
              first | exact ploop (σ 28 11).toNat 0 1 (by omega) (by omega) ⟨fun _ => ⟨by omega, fun q9 a1 => by omega⟩, fun _ => rfl⟩ | exact ploop (σ 28 11).toNat 0 0 (by omega) (by omega) ⟨fun z => by omega, fun z => absurd z.1 e36⟩
            · refine mi_iconst h dX6_dry_39 ?_
              refine mi_goto (tgt := 44) h dX6_dry_40 (by decide) ?_
              refine mi_istore h dX6_dry_44 (by decide) ?_
              refine mi_iconst h dX6_dry_46 ?_
              refine mi_istore h dX6_dry_47 (by decide) ?_
              first | exact ploop (σ 28 11).toNat 0 1 (by omega) (by omega) ⟨fun _ => ⟨by omega, fun q9 a1 => by omega⟩, fun _ => rfl⟩ | exact ploop (σ 28 11).toNat 0 0 (by omega) (by omega) ⟨fun z => by omega, fun z => absurd z.1 e36⟩
      refine mi_iload_n h dX6_dry_4 (by rfl) ?_
      refine mi_aload_n h dX6_dry_5 (by rfl) ?_
      refine gf_X6_29 h dX6_dry_6 fl_RX6_88 ?_
      refine mi_icmp_ge (tgt := 131) h dX6_dry_9 (by decide) ⟨by omega, by omega⟩ ⟨by omega, by omega⟩ (fun e9 => ?_) (fun e9 => ?_)
      · exfalso; omega
      · refine mi_iconst h dX6_dry_12 ?_
        refine mi_istore h dX6_dry_13 (by decide) ?_
        exact inner (σ 28 30).toNat 0 _ _ (by omega) (fun b9 q => by omega)
  refine mi_iconst h dX6_dry_0 ?_
  refine mi_istore_n h dX6_dry_1 (by decide) ?_
  refine mi_iconst h dX6_dry_2 ?_
  refine mi_istore_n h dX6_dry_3 (by decide) ?_
  have h9 := outer (σ 28 29).toNat 0 none none none (by omega) (fun a9 b9 q => by omega)
  rw [show cntV (dryM σ) (σ 28 30).toNat 0 0 = 0 from rfl] at h9
  exact h9
theorem sq_sy (a b : Int) : (a - b) * (a - b) = (b - a) * (b - a) := by
  rw [show a - b = -(b - a) by omega, Int.neg_mul_neg]
set_option maxHeartbeats 4000000 in
set_option maxRecDepth 100000 in
theorem c_X6_near {σ : Mem} {d : Int} (hJ : JS σ) (hB : JB σ) (hF : JF σ) (hT : JT σ) (hd : R32 d) : Sp1 yX6_near cX6_near 4 (some .int) 1 1 [vr 28, vi d] σ (fun r σ' => σ = σ' ∧ ((r = -2 ∧ ¬ (1 ≤ d ∧ d ≤ 30)) ∨ ((1 ≤ d ∧ d ≤ 30) ∧ firstP (nearP (σ 54) (σ 55) (σ 56) (d * d)) (σ 28 11).toNat (-6) r))) := by
  refine Sp1_in RX6 rfl (by decide +kernel) (Nat.le_of_ble_eq_true rfl) [some (vr 28), some (vi d), none, none] rfl ?_
  intro K h hr
  obtain ⟨j1, j2, j3, j4, j5, j6, j7⟩ := id hJ
  have outer : ∀ (m i : Nat) (l3 : Option MV), (i : Int) + m = σ 28 11 → (1 ≤ d ∧ d ≤ 30) → (∀ q, q < i → ¬ nearP (σ 54) (σ 55) (σ 56) (d * d) q) → M K 17 [some (vr 28), some (vi d), some (vi (i : Int)), l3] [] σ := by
    intro m
    induction m with
    | zero =>
      intro i l3 hi h1 hno
      refine mi_iload_n h dX6_near_17 (by rfl) ?_
      refine mi_aload_n h dX6_near_18 (by rfl) ?_
      refine gf_X6_11 h dX6_near_19 fl_RX6_109 ?_
      refine mi_icmp_ge (tgt := 107) h dX6_near_22 (by decide) ⟨by omega, by omega⟩ ⟨by omega, by omega⟩ (fun e22 => ?_) (fun e22 => ?_)
      · refine mi_bipush h dX6_near_107 (by decide) ?_
        refine mi_ireturn h hr dX6_near_109 ?_
        exact ⟨rfl, Or.inr ⟨h1, Or.inr ⟨fun q hq => hno q (by omega), rfl⟩⟩⟩
      · exfalso; omega
    | succ m ih =>
      intro i l3 hi h1 hno
      have hsi := (hB.1 i (by omega)).2.2.2.2
      have m1 := sq_le (a := 1) (b := d) (by omega) h1.1
      have m2 := sq_le (a := d) (b := 30) (by omega) h1.2
      have inner : ∀ (n j : Nat), (j : Int) + n = σ 28 11 → (∀ q, q < j → ¬ (q ≠ i ∧ σ 54 q = 1 ∧ (σ 55 q - σ 55 i) * (σ 55 q - σ 55 i) + (σ 56 q - σ 56 i) * (σ 56 q - σ 56 i) < d * d)) → M K 27 [some (vr 28), some (vi d), some (vi (i : Int)), some (vi (j : Int))] [] σ := by
        intro n
        induction n with
        | zero =>
          intro j hj hnj
          refine mi_iload_n h dX6_near_27 (by rfl) ?_
          refine mi_aload_n h dX6_near_28 (by rfl) ?_
          refine gf_X6_11 h dX6_near_29 fl_RX6_109 ?_
          refine mi_icmp_ge (tgt := 101) h dX6_near_32 (by decide) ⟨by omega, by omega⟩ ⟨by omega, by omega⟩ (fun e32 => ?_) (fun e32 => ?_)
          · refine mi_iinc h dX6_near_101 (by rfl) ?_ (by decide)
            refine mi_goto (tgt := 17) h dX6_near_104 (by decide) ?_
            exact ih (i + 1) _ (by omega) h1 (fun q a1 => by
              by_cases e : q = i
              · subst e
                intro z
                obtain ⟨z1, q9, z2, z3, z4, z5⟩ := z
                exact hnj q9 (by have := hT q9 z2 z4; omega) ⟨z3, z4, z5⟩
              · exact hno q (by omega))
          · exfalso; omega
        | succ n ihn =>
          intro j hj hnj
          have hsj := (hB.1 j (by omega)).2.2.2.2
          obtain ⟨g1, g2, g3⟩ := hF.2 i (by omega)
          obtain ⟨g4, g5, g6⟩ := hF.2 j (by omega)
          have n1 := mul_rng (a := σ 55 i - σ 55 j) (b := σ 55 i - σ 55 j) (k := 16) (m := 16) ⟨by omega, by omega⟩ ⟨by omega, by omega⟩
          have n2 := mul_rng (a := σ 56 i - σ 56 j) (b := σ 56 i - σ 56 j) (k := 16) (m := 16) ⟨by omega, by omega⟩ ⟨by omega, by omega⟩
          have y1 := sq_sy (σ 55 i) (σ 55 j)
          have y2 := sq_sy (σ 56 i) (σ 56 j)
          refine mi_iload_n h dX6_near_27 (by rfl) ?_
          refine mi_aload_n h dX6_near_28 (by rfl) ?_
          refine gf_X6_11 h dX6_near_29 fl_RX6_109 ?_
          refine mi_icmp_ge (tgt := 101) h dX6_near_32 (by decide) ⟨by omega, by omega⟩ ⟨by omega, by omega⟩ (fun e32 => ?_) (fun e32 => ?_)
          · exfalso; omega
          · refine mi_aload_n h dX6_near_35 (by rfl) ?_
            refine gf_X6_32 h dX6_near_36 fl_RX6_97 ?_
            refine mi_iload_n h dX6_near_39 (by rfl) ?_
            refine mn_baload (i) h dX6_near_40 (by rfl) (by omega) (by omega) (by decide) ?_
            refine mi_if_eq (tgt := 101) h dX6_near_41 (by decide) ⟨by omega, by omega⟩ (fun e41 => ?_) (fun e41 => ?_)
            · refine mi_iinc h dX6_near_101 (by rfl) ?_ (by decide)
              refine mi_goto (tgt := 17) h dX6_near_104 (by decide) ?_
              exact ih (i + 1) _ (by omega) h1 (fun q a1 => by
                by_cases e : q = i
                · subst e; exact fun z => by have := z.1; omega
                · exact hno q (by omega))
            · refine mi_iload_n h dX6_near_44 (by rfl) ?_
              refine mi_iload_n h dX6_near_45 (by rfl) ?_
              refine mi_icmp_eq (tgt := 95) h dX6_near_46 (by decide) ⟨by omega, by omega⟩ ⟨by omega, by omega⟩ (fun e46 => ?_) (fun e46 => ?_)
              · refine mi_iinc h dX6_near_95 (by rfl) ?_ (by decide)
                refine mi_goto (tgt := 27) h dX6_near_98 (by decide) ?_
                exact ihn (j + 1) (by omega) (fun q a1 => by
                  by_cases e : q = j
                  · subst e; first | exact fun z => z.1 (by omega) | exact fun z => by have := z.2.1; omega | exact fun z => by have := z.2.2; omega
                  · exact hnj q (by omega))
              · refine mi_aload_n h dX6_near_49 (by rfl) ?_
                refine gf_X6_32 h dX6_near_50 fl_RX6_97 ?_
                refine mi_iload_n h dX6_near_53 (by rfl) ?_
                refine mn_baload (j) h dX6_near_54 (by rfl) (by omega) (by omega) (by decide) ?_
                refine mi_if_eq (tgt := 95) h dX6_near_55 (by decide) ⟨by omega, by omega⟩ (fun e55 => ?_) (fun e55 => ?_)
                · refine mi_iinc h dX6_near_95 (by rfl) ?_ (by decide)
                  refine mi_goto (tgt := 27) h dX6_near_98 (by decide) ?_
                  exact ihn (j + 1) (by omega) (fun q a1 => by
                    by_cases e : q = j
                    · subst e; first | exact fun z => z.1 (by omega) | exact fun z => by have := z.2.1; omega | exact fun z => by have := z.2.2; omega
                    · exact hnj q (by omega))
                · refine mi_aload_n h dX6_near_58 (by rfl) ?_
                  refine gf_X6_33 h dX6_near_59 fl_RX6_100 ?_
                  refine mi_iload_n h dX6_near_62 (by rfl) ?_
                  refine mn_iaload (i) h dX6_near_63 (by rfl) (by omega) (by omega) (by decide) ?_
                  refine mi_aload_n h dX6_near_64 (by rfl) ?_
                  refine gf_X6_33 h dX6_near_65 fl_RX6_100 ?_
                  refine mi_iload_n h dX6_near_68 (by rfl) ?_
                  refine mn_iaload (j) h dX6_near_69 (by rfl) (by omega) (by omega) (by decide) ?_
                  refine mi_isub h dX6_near_70 ?_
                  refine mi_aload_n h dX6_near_71 (by rfl) ?_
                  refine gf_X6_34 h dX6_near_72 fl_RX6_103 ?_
                  refine mi_iload_n h dX6_near_75 (by rfl) ?_
                  refine mn_iaload (i) h dX6_near_76 (by rfl) (by omega) (by omega) (by decide) ?_
                  refine mi_aload_n h dX6_near_77 (by rfl) ?_
                  refine gf_X6_34 h dX6_near_78 fl_RX6_103 ?_
                  refine mi_iload_n h dX6_near_81 (by rfl) ?_
                  refine mn_iaload (j) h dX6_near_82 (by rfl) (by omega) (by omega) (by decide) ?_
                  refine mi_isub h dX6_near_83 ?_
                  refine mi_cS2i (hw := Nat.le_of_ble_eq_true rfl) h dX6_near_84 ml_RX6_251 ym_yX6_square (c_X6_square) (fun r84 σ84 hp84 => ?_)
                  obtain ⟨rfl, rfl⟩ := hp84
                  refine mi_iload_n h dX6_near_87 (by rfl) ?_
                  refine mi_iload_n h dX6_near_88 (by rfl) ?_
                  refine mi_imul h dX6_near_89 ?_
                  refine mi_icmp_ge (tgt := 95) h dX6_near_90 (by decide) ⟨by omega, by omega⟩ ⟨by omega, by omega⟩ (fun e90 => ?_) (fun e90 => ?_)
                  · refine mi_iinc h dX6_near_95 (by rfl) ?_ (by decide)
                    refine mi_goto (tgt := 27) h dX6_near_98 (by decide) ?_
                    exact ihn (j + 1) (by omega) (fun q a1 => by
                      by_cases e : q = j
                      · subst e; first | exact fun z => z.1 (by omega) | exact fun z => by have := z.2.1; omega | exact fun z => by have := z.2.2; omega
                      · exact hnj q (by omega))
                  · refine mi_iload_n h dX6_near_93 (by rfl) ?_
                    refine mi_ireturn h hr dX6_near_94 ?_
                    refine ⟨rfl, Or.inr ⟨h1, Or.inl ⟨i, by omega, ⟨by omega, j, by omega, by omega, by omega, by omega⟩, hno, rfl⟩⟩⟩
      refine mi_iload_n h dX6_near_17 (by rfl) ?_
      refine mi_aload_n h dX6_near_18 (by rfl) ?_
      refine gf_X6_11 h dX6_near_19 fl_RX6_109 ?_
      refine mi_icmp_ge (tgt := 107) h dX6_near_22 (by decide) ⟨by omega, by omega⟩ ⟨by omega, by omega⟩ (fun e22 => ?_) (fun e22 => ?_)
      · exfalso; omega
      · refine mi_iconst h dX6_near_25 ?_
        refine mi_istore_n h dX6_near_26 (by decide) ?_
        exact inner (σ 28 11).toNat 0 (by omega) (fun q a1 => by omega)
  refine mi_iload_n h dX6_near_0 (by rfl) ?_
  refine mi_i2l h dX6_near_1 ⟨by omega, by omega⟩ ?_
  refine mi_lconst1 h dX6_near_2 ?_
  refine mi_ldc2 (z := 30) h dX6_near_3 kc_RX6_262 rfl ?_
  refine mi_cS3i (hw := Nat.le_of_ble_eq_true rfl) h dX6_near_6 ml_RX6_112 ym_yX6_in (c_X6_in ⟨by omega, by omega⟩ ⟨by omega, by omega⟩ ⟨by omega, by omega⟩) (fun r6 σ6 hp6 => ?_)
  obtain ⟨rfl, hb6, hc6⟩ := hp6
  refine mi_if_ne (tgt := 15) h dX6_near_9 (by decide) ⟨by omega, by omega⟩ (fun e9 => ?_) (fun e9 => ?_)
  · refine mi_iconst h dX6_near_15 ?_
    refine mi_istore_n h dX6_near_16 (by decide) ?_
    exact outer (σ 28 11).toNat 0 _ (by omega) (by omega) (fun q a1 => by omega)
  · refine mi_bipush h dX6_near_12 (by decide) ?_
    refine mi_ireturn h hr dX6_near_14 ?_
    exact ⟨rfl, Or.inl ⟨rfl, by omega⟩⟩
