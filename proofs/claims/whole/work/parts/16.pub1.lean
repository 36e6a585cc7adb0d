theorem pop_lt (x : Nat) : pop x ≤ 24 := by unfold pop; omega
set_option maxHeartbeats 4000000 in
set_option maxRecDepth 100000 in
theorem c_X5_supply {σ : Mem} {p d : Int} (hS0 : IS σ) (hp : R32 p) (hd : R32 d) : Sp1 yX5_supply cX5_supply 3 (some .int) 1 1 [vr 0, vi p, vi d] σ (fun r σ' => (r = -2 ∧ σ = σ' ∧ ¬ ((1 ≤ p ∧ p ≤ 100000) ∧ (0 ≤ d ∧ d ≤ 4000))) ∨ (r = 1 ∧ up (up σ 1 0 p) 12 0 d = σ' ∧ (1 ≤ p ∧ p ≤ 100000) ∧ (0 ≤ d ∧ d ≤ 4000))) := by
  refine Sp1_in RX5 rfl (by decide +kernel) (Nat.le_of_ble_eq_true rfl) [some (vr 0), some (vi p), some (vi d)] rfl ?_
  intro K h hr
  refine mi_iload_n h dX5_supply_0 (by rfl) ?_
  refine mi_iconst h dX5_supply_1 ?_
  refine mi_ldc (z := 100000) h dX5_supply_2 kc_RX5_45 rfl ?_
  refine mi_cS3i (hw := Nat.le_of_ble_eq_true rfl) h dX5_supply_4 ml_RX5_46 ym_yX5_isWithin (c_X5_isWithin ⟨by omega, by omega⟩ ⟨by omega, by omega⟩ ⟨by omega, by omega⟩) (fun r4 σ4 hp4 => ?_)
  obtain ⟨rfl, hb4, hc4⟩ := hp4
  refine mi_if_eq (tgt := 21) h dX5_supply_7 (by decide) ⟨by omega, by omega⟩ (fun e7 => ?_) (fun e7 => ?_)
  · refine mi_bipush h dX5_supply_21 (by decide) ?_
    refine mi_ireturn h hr dX5_supply_23 ?_
    first | exact Or.inl ⟨rfl, rfl, by omega⟩ | exact Or.inr ⟨rfl, rfl, by omega, by omega⟩
  · refine mi_iload_n h dX5_supply_10 (by rfl) ?_
    refine mi_iconst h dX5_supply_11 ?_
    refine mi_sipush h dX5_supply_12 (by decide) ?_
    refine mi_cS3i (hw := Nat.le_of_ble_eq_true rfl) h dX5_supply_15 ml_RX5_46 ym_yX5_isWithin (c_X5_isWithin ⟨by omega, by omega⟩ ⟨by omega, by omega⟩ ⟨by omega, by omega⟩) (fun r15 σ15 hp15 => ?_)
    obtain ⟨rfl, hb15, hc15⟩ := hp15
    refine mi_if_ne (tgt := 24) h dX5_supply_18 (by decide) ⟨by omega, by omega⟩ (fun e18 => ?_) (fun e18 => ?_)
    · refine mi_aload_n h dX5_supply_24 (by rfl) ?_
      refine gf_X5_0 h dX5_supply_25 fl_RX5_17 ?_
      refine mi_iload_n h dX5_supply_28 (by rfl) ?_
      refine pf_X1_0 h dX5_supply_29 fl_RX5_50 ?_
      refine mi_aload_n h dX5_supply_32 (by rfl) ?_
      refine gf_X5_0 h dX5_supply_33 fl_RX5_17 ?_
      refine gf_X1_9 h dX5_supply_36 fl_RX5_54 ?_
      refine mi_iconst h dX5_supply_39 ?_
      refine mi_iload_n h dX5_supply_40 (by rfl) ?_
      refine mn_iastore (0) h dX5_supply_41 (by rfl) (by omega) (by omega) (by decide) ?_
      refine mi_iconst h dX5_supply_42 ?_
      refine mi_ireturn h hr dX5_supply_43 ?_
      first | exact Or.inl ⟨rfl, rfl, by omega⟩ | exact Or.inr ⟨rfl, rfl, by omega, by omega⟩
    · refine mi_bipush h dX5_supply_21 (by decide) ?_
      refine mi_ireturn h hr dX5_supply_23 ?_
      first | exact Or.inl ⟨rfl, rfl, by omega⟩ | exact Or.inr ⟨rfl, rfl, by omega, by omega⟩
set_option maxHeartbeats 4000000 in
set_option maxRecDepth 100000 in
theorem c_X5_size {σ : Mem} {d p : Int} (hS0 : IS σ) (hp : R32 p) (hd : R32 d) : Sp1 yX5_size cX5_size 3 (some .int) 1 1 [vr 0, vi d, vi p] σ (fun r σ' => (r = -2 ∧ σ = σ' ∧ ¬ ((1 ≤ d ∧ d ≤ 400) ∧ (1 ≤ p ∧ p ≤ 1000))) ∨ (r = -4 ∧ σ = σ' ∧ ((1 ≤ d ∧ d ≤ 400) ∧ (1 ≤ p ∧ p ≤ 1000)) ∧ σ 1 1 = 6) ∨ (r = σ 1 1 ∧ up (up (up σ 6 (σ 1 1).toNat d) 7 (σ 1 1).toNat p) 1 1 (σ 1 1 + 1) = σ' ∧ ((1 ≤ d ∧ d ≤ 400) ∧ (1 ≤ p ∧ p ≤ 1000)) ∧ σ 1 1 < 6)) := by
  refine Sp1_in RX5 rfl (by decide +kernel) (Nat.le_of_ble_eq_true rfl) [some (vr 0), some (vi d), some (vi p)] rfl ?_
  intro K h hr
  obtain ⟨i1, i2, i3, i4, i5, i6, i7, i8⟩ := id hS0
  refine mi_iload_n h dX5_size_0 (by rfl) ?_
  refine mi_iconst h dX5_size_1 ?_
  refine mi_sipush h dX5_size_2 (by decide) ?_
  refine mi_cS3i (hw := Nat.le_of_ble_eq_true rfl) h dX5_size_5 ml_RX5_46 ym_yX5_isWithin (c_X5_isWithin ⟨by omega, by omega⟩ ⟨by omega, by omega⟩ ⟨by omega, by omega⟩) (fun r5 σ5 hp5 => ?_)
  obtain ⟨rfl, hb5, hc5⟩ := hp5
  refine mi_if_eq (tgt := 22) h dX5_size_8 (by decide) ⟨by omega, by omega⟩ (fun e8 => ?_) (fun e8 => ?_)
  · refine mi_bipush h dX5_size_22 (by decide) ?_
    refine mi_ireturn h hr dX5_size_24 ?_
    first | exact Or.inl ⟨rfl, rfl, by omega⟩ | exact Or.inr (Or.inl ⟨rfl, rfl, by omega, by omega⟩) | exact Or.inr (Or.inr ⟨rfl, rfl, by omega, by omega⟩)
  · refine mi_iload_n h dX5_size_11 (by rfl) ?_
    refine mi_iconst h dX5_size_12 ?_
    refine mi_sipush h dX5_size_13 (by decide) ?_
    refine mi_cS3i (hw := Nat.le_of_ble_eq_true rfl) h dX5_size_16 ml_RX5_46 ym_yX5_isWithin (c_X5_isWithin ⟨by omega, by omega⟩ ⟨by omega, by omega⟩ ⟨by omega, by omega⟩) (fun r16 σ16 hp16 => ?_)
    obtain ⟨rfl, hb16, hc16⟩ := hp16
    refine mi_if_ne (tgt := 25) h dX5_size_19 (by decide) ⟨by omega, by omega⟩ (fun e19 => ?_) (fun e19 => ?_)
    · refine mi_aload_n h dX5_size_25 (by rfl) ?_
      refine gf_X5_0 h dX5_size_26 fl_RX5_17 ?_
      refine gf_X1_1 h dX5_size_29 fl_RX5_57 ?_
      refine mi_bipush h dX5_size_32 (by decide) ?_
      refine mi_icmp_lt (tgt := 40) h dX5_size_34 (by decide) ⟨by omega, by omega⟩ ⟨by omega, by omega⟩ (fun e34 => ?_) (fun e34 => ?_)
      · refine mi_aload_n h dX5_size_40 (by rfl) ?_
        refine gf_X5_0 h dX5_size_41 fl_RX5_17 ?_
        refine mi_iload_n h dX5_size_44 (by rfl) ?_
        refine mi_iload_n h dX5_size_45 (by rfl) ?_
        refine mi_cV2i (hw := Nat.le_of_ble_eq_true rfl) h dX5_size_46 ml_RX5_60 ym_yX1_addSize (by rfl) (by rfl) (c_X1_addSize ⟨by omega, by omega⟩) (fun r46 σ46 hp46 => ?_)
        obtain ⟨rfl, rfl⟩ := hp46
        refine mi_ireturn h hr dX5_size_49 ?_
        first | exact Or.inl ⟨rfl, rfl, by omega⟩ | exact Or.inr (Or.inl ⟨rfl, rfl, by omega, by omega⟩) | exact Or.inr (Or.inr ⟨rfl, rfl, by omega, by omega⟩)
      · refine mi_bipush h dX5_size_37 (by decide) ?_
        refine mi_ireturn h hr dX5_size_39 ?_
        first | exact Or.inl ⟨rfl, rfl, by omega⟩ | exact Or.inr (Or.inl ⟨rfl, rfl, by omega, by omega⟩) | exact Or.inr (Or.inr ⟨rfl, rfl, by omega, by omega⟩)
    · refine mi_bipush h dX5_size_22 (by decide) ?_
      refine mi_ireturn h hr dX5_size_24 ?_
      first | exact Or.inl ⟨rfl, rfl, by omega⟩ | exact Or.inr (Or.inl ⟨rfl, rfl, by omega, by omega⟩) | exact Or.inr (Or.inr ⟨rfl, rfl, by omega, by omega⟩)
set_option maxHeartbeats 4000000 in
set_option maxRecDepth 100000 in
theorem c_X5_pipe {σ : Mem} {f l z : Int} (hS0 : IS σ) (hE : IE σ) (hf : R32 f) (hl : R32 l) (hz : R32 z) : Sp1 yX5_pipe cX5_pipe 4 (some .int) 1 3 [vr 0, vi f, vi l, vi z] σ (fun r σ' => (r = -1 ∧ σ = σ' ∧ ¬ ((-1 ≤ f ∧ f < σ 1 4) ∧ (0 ≤ z ∧ z < σ 1 1))) ∨ (r = -2 ∧ σ = σ' ∧ ((-1 ≤ f ∧ f < σ 1 4) ∧ (0 ≤ z ∧ z < σ 1 1)) ∧ ¬ (1 ≤ l ∧ l ≤ 10)) ∨ (r = -4 ∧ σ = σ' ∧ ((-1 ≤ f ∧ f < σ 1 4) ∧ (0 ≤ z ∧ z < σ 1 1)) ∧ (1 ≤ l ∧ l ≤ 10) ∧ σ 1 4 = 24) ∨ (r = -5 ∧ σ = σ' ∧ ((-1 ≤ f ∧ f < σ 1 4) ∧ (0 ≤ z ∧ z < σ 1 1)) ∧ (1 ≤ l ∧ l ≤ 10) ∧ σ 1 4 < 24 ∧ σ 11 (f + 1).toNat = 8) ∨ (r = σ 1 4 ∧ up (up (up (up (up (up σ 8 (σ 1 4).toNat f) 9 (σ 1 4).toNat l) 11 ((σ 1 4).toNat + 1) (σ 11 (f + 1).toNat + 1)) 10 (σ 1 4).toNat z) 12 ((σ 1 4).toNat + 1) (l * σ 6 z.toNat)) 1 4 (σ 1 4 + 1) = σ' ∧ ((-1 ≤ f ∧ f < σ 1 4) ∧ (0 ≤ z ∧ z < σ 1 1)) ∧ (1 ≤ l ∧ l ≤ 10) ∧ σ 1 4 < 24 ∧ σ 11 (f + 1).toNat < 8)) := by
  refine Sp1_in RX5 rfl (by decide +kernel) (Nat.le_of_ble_eq_true rfl) [some (vr 0), some (vi f), some (vi l), some (vi z)] rfl ?_
  intro K h hr
  obtain ⟨i1, i2, i3, i4, i5, i6, i7, i8⟩ := id hS0
  have hq : -1 ≤ f ∧ f < σ 1 4 → σ 11 (f + 1).toNat ≤ 8 ∧ 0 ≤ σ 11 (f + 1).toNat := fun q => ⟨(hE (f + 1).toNat (by omega)).1.2, (hE (f + 1).toNat (by omega)).1.1⟩
  refine mi_aload_n h dX5_pipe_0 (by rfl) ?_
  refine mi_iload_n h dX5_pipe_1 (by rfl) ?_
  refine mi_cV1i (hw := Nat.le_of_ble_eq_true rfl) h dX5_pipe_2 ml_RX5_64 ym_yX5_isEnd (by rfl) (by rfl) (c_X5_isEnd hS0 ⟨by omega, by omega⟩) (fun r2 σ2 hp2 => ?_)
  obtain ⟨rfl, hb2, hc2⟩ := hp2
  refine mi_if_eq (tgt := 16) h dX5_pipe_5 (by decide) ⟨by omega, by omega⟩ (fun e5 => ?_) (fun e5 => ?_)
  · refine mi_iconst h dX5_pipe_16 ?_
    refine mi_ireturn h hr dX5_pipe_17 ?_
    first | exact Or.inl ⟨rfl, rfl, by omega⟩ | exact Or.inr (Or.inl ⟨rfl, rfl, by omega, by omega⟩) | exact Or.inr (Or.inr (Or.inl ⟨rfl, rfl, by omega, by omega, by omega⟩)) | exact Or.inr (Or.inr (Or.inr (Or.inl ⟨rfl, rfl, by omega, by omega, by omega, by omega⟩))) | exact Or.inr (Or.inr (Or.inr (Or.inr ⟨rfl, rfl, by omega, by omega, by omega, by omega⟩)))
  · refine mi_aload_n h dX5_pipe_8 (by rfl) ?_
    refine mi_iload_n h dX5_pipe_9 (by rfl) ?_
    refine mi_cV1i (hw := Nat.le_of_ble_eq_true rfl) h dX5_pipe_10 ml_RX5_68 ym_yX5_isSize (by rfl) (by rfl) (c_X5_isSize hS0 ⟨by omega, by omega⟩) (fun r10 σ10 hp10 => ?_)
    obtain ⟨rfl, hb10, hc10⟩ := hp10
    refine mi_if_ne (tgt := 18) h dX5_pipe_13 (by decide) ⟨by omega, by omega⟩ (fun e13 => ?_) (fun e13 => ?_)
    · refine mi_iload_n h dX5_pipe_18 (by rfl) ?_
      refine mi_iconst h dX5_pipe_19 ?_
      refine mi_bipush h dX5_pipe_20 (by decide) ?_
      refine mi_cS3i (hw := Nat.le_of_ble_eq_true rfl) h dX5_pipe_22 ml_RX5_46 ym_yX5_isWithin (c_X5_isWithin ⟨by omega, by omega⟩ ⟨by omega, by omega⟩ ⟨by omega, by omega⟩) (fun r22 σ22 hp22 => ?_)
      obtain ⟨rfl, hb22, hc22⟩ := hp22
      refine mi_if_ne (tgt := 31) h dX5_pipe_25 (by decide) ⟨by omega, by omega⟩ (fun e25 => ?_) (fun e25 => ?_)
      · refine mi_aload_n h dX5_pipe_31 (by rfl) ?_
        refine gf_X5_0 h dX5_pipe_32 fl_RX5_17 ?_
        refine gf_X1_4 h dX5_pipe_35 fl_RX5_71 ?_
        refine mi_bipush h dX5_pipe_38 (by decide) ?_
        refine mi_icmp_lt (tgt := 46) h dX5_pipe_40 (by decide) ⟨by omega, by omega⟩ ⟨by omega, by omega⟩ (fun e40 => ?_) (fun e40 => ?_)
        · refine mi_aload_n h dX5_pipe_46 (by rfl) ?_
          refine gf_X5_0 h dX5_pipe_47 fl_RX5_17 ?_
          refine gf_X1_8 h dX5_pipe_50 fl_RX5_74 ?_
          refine mi_iload_n h dX5_pipe_53 (by rfl) ?_
          refine mi_iconst h dX5_pipe_54 ?_
          refine mi_iadd h dX5_pipe_55 ?_
          refine mn_iaload ((f + 1).toNat) h dX5_pipe_56 (by rfl) (by omega) (by omega) (by decide) ?_
          refine mi_bipush h dX5_pipe_57 (by decide) ?_
          refine mi_icmp_lt (tgt := 65) h dX5_pipe_59 (by decide) ⟨by omega, by omega⟩ ⟨by omega, by omega⟩ (fun e59 => ?_) (fun e59 => ?_)
          · refine mi_aload_n h dX5_pipe_65 (by rfl) ?_
            refine gf_X5_0 h dX5_pipe_66 fl_RX5_17 ?_
            refine mi_iload_n h dX5_pipe_69 (by rfl) ?_
            refine mi_iload_n h dX5_pipe_70 (by rfl) ?_
            refine mi_iload_n h dX5_pipe_71 (by rfl) ?_
            refine mt_e (y := ((z.toNat : Nat) : Int)) (by omega) ?_
            refine mi_cV3i (hw := Nat.le_of_ble_eq_true rfl) h dX5_pipe_72 ml_RX5_77 ym_yX1_addPipe (by rfl) (by rfl) (c_X1_addPipe ⟨by omega, by omega⟩ ⟨by omega, by omega⟩ (by omega)) (fun r72 σ72 hp72 => ?_)
            obtain ⟨rfl, h72⟩ := hp72
            rw [show ((z.toNat : Nat) : Int) = z by omega] at h72
            subst h72
            refine mi_ireturn h hr dX5_pipe_75 ?_
            first | exact Or.inl ⟨rfl, rfl, by omega⟩ | exact Or.inr (Or.inl ⟨rfl, rfl, by omega, by omega⟩) | exact Or.inr (Or.inr (Or.inl ⟨rfl, rfl, by omega, by omega, by omega⟩)) | exact Or.inr (Or.inr (Or.inr (Or.inl ⟨rfl, rfl, by omega, by omega, by omega, by omega⟩))) | exact Or.inr (Or.inr (Or.inr (Or.inr ⟨rfl, rfl, by omega, by omega, by omega, by omega⟩)))
          · refine mi_bipush h dX5_pipe_62 (by decide) ?_
            refine mi_ireturn h hr dX5_pipe_64 ?_
            first | exact Or.inl ⟨rfl, rfl, by omega⟩ | exact Or.inr (Or.inl ⟨rfl, rfl, by omega, by omega⟩) | exact Or.inr (Or.inr (Or.inl ⟨rfl, rfl, by omega, by omega, by omega⟩)) | exact Or.inr (Or.inr (Or.inr (Or.inl ⟨rfl, rfl, by omega, by omega, by omega, by omega⟩))) | exact Or.inr (Or.inr (Or.inr (Or.inr ⟨rfl, rfl, by omega, by omega, by omega, by omega⟩)))
        · refine mi_bipush h dX5_pipe_43 (by decide) ?_
          refine mi_ireturn h hr dX5_pipe_45 ?_
          first | exact Or.inl ⟨rfl, rfl, by omega⟩ | exact Or.inr (Or.inl ⟨rfl, rfl, by omega, by omega⟩) | exact Or.inr (Or.inr (Or.inl ⟨rfl, rfl, by omega, by omega, by omega⟩)) | exact Or.inr (Or.inr (Or.inr (Or.inl ⟨rfl, rfl, by omega, by omega, by omega, by omega⟩))) | exact Or.inr (Or.inr (Or.inr (Or.inr ⟨rfl, rfl, by omega, by omega, by omega, by omega⟩)))
      · refine mi_bipush h dX5_pipe_28 (by decide) ?_
        refine mi_ireturn h hr dX5_pipe_30 ?_
        first | exact Or.inl ⟨rfl, rfl, by omega⟩ | exact Or.inr (Or.inl ⟨rfl, rfl, by omega, by omega⟩) | exact Or.inr (Or.inr (Or.inl ⟨rfl, rfl, by omega, by omega, by omega⟩)) | exact Or.inr (Or.inr (Or.inr (Or.inl ⟨rfl, rfl, by omega, by omega, by omega, by omega⟩))) | exact Or.inr (Or.inr (Or.inr (Or.inr ⟨rfl, rfl, by omega, by omega, by omega, by omega⟩)))
    · refine mi_iconst h dX5_pipe_16 ?_
      refine mi_ireturn h hr dX5_pipe_17 ?_
      first | exact Or.inl ⟨rfl, rfl, by omega⟩ | exact Or.inr (Or.inl ⟨rfl, rfl, by omega, by omega⟩) | exact Or.inr (Or.inr (Or.inl ⟨rfl, rfl, by omega, by omega, by omega⟩)) | exact Or.inr (Or.inr (Or.inr (Or.inl ⟨rfl, rfl, by omega, by omega, by omega, by omega⟩))) | exact Or.inr (Or.inr (Or.inr (Or.inr ⟨rfl, rfl, by omega, by omega, by omega, by omega⟩)))
set_option maxHeartbeats 4000000 in
set_option maxRecDepth 100000 in
theorem c_X5_head {σ : Mem} {p f n : Int} (hS0 : IS σ) (hp : R32 p) (hf : R32 f) (hn : R32 n) : Sp1 yX5_head cX5_head 4 (some .int) 1 2 [vr 0, vi p, vi f, vi n] σ (fun r σ' => (r = -1 ∧ σ = σ' ∧ ¬ (0 ≤ p ∧ p < σ 1 4)) ∨ (r = -2 ∧ σ = σ' ∧ (0 ≤ p ∧ p < σ 1 4) ∧ ¬ ((1 ≤ f ∧ f ≤ 200) ∧ (0 ≤ n ∧ n ≤ 30000))) ∨ (r = 1 ∧ up (up (up (up (up σ 1 12 (wb (σ 1 12) p.toNat 1)) 1 13 (wb (σ 1 13) p.toNat 0)) 13 p.toNat f) 14 p.toNat n) 15 p.toNat 0 = σ' ∧ (0 ≤ p ∧ p < σ 1 4) ∧ ((1 ≤ f ∧ f ≤ 200) ∧ (0 ≤ n ∧ n ≤ 30000)))) := by
  refine Sp1_in RX5 rfl (by decide +kernel) (Nat.le_of_ble_eq_true rfl) [some (vr 0), some (vi p), some (vi f), some (vi n)] rfl ?_
  intro K h hr
  obtain ⟨i1, i2, i3, i4, i5, i6, i7, i8⟩ := id hS0
  refine mi_aload_n h dX5_head_0 (by rfl) ?_
  refine mi_iload_n h dX5_head_1 (by rfl) ?_
  refine mi_cV1i (hw := Nat.le_of_ble_eq_true rfl) h dX5_head_2 ml_RX5_81 ym_yX5_isPipe (by rfl) (by rfl) (c_X5_isPipe hS0 ⟨by omega, by omega⟩) (fun r2 σ2 hp2 => ?_)
  obtain ⟨rfl, hb2, hc2⟩ := hp2
  refine mi_if_ne (tgt := 10) h dX5_head_5 (by decide) ⟨by omega, by omega⟩ (fun e5 => ?_) (fun e5 => ?_)
  · refine mi_iload_n h dX5_head_10 (by rfl) ?_
    refine mi_iconst h dX5_head_11 ?_
    refine mi_sipush h dX5_head_12 (by decide) ?_
    refine mi_cS3i (hw := Nat.le_of_ble_eq_true rfl) h dX5_head_15 ml_RX5_46 ym_yX5_isWithin (c_X5_isWithin ⟨by omega, by omega⟩ ⟨by omega, by omega⟩ ⟨by omega, by omega⟩) (fun r15 σ15 hp15 => ?_)
    obtain ⟨rfl, hb15, hc15⟩ := hp15
    refine mi_if_eq (tgt := 32) h dX5_head_18 (by decide) ⟨by omega, by omega⟩ (fun e18 => ?_) (fun e18 => ?_)
    · refine mi_bipush h dX5_head_32 (by decide) ?_
      refine mi_ireturn h hr dX5_head_34 ?_
      first | exact Or.inl ⟨rfl, rfl, by omega⟩ | exact Or.inr (Or.inl ⟨rfl, rfl, by omega, by omega⟩) | exact Or.inr (Or.inr ⟨rfl, rfl, by omega, by omega⟩)
    · refine mi_iload_n h dX5_head_21 (by rfl) ?_
      refine mi_iconst h dX5_head_22 ?_
      refine mi_sipush h dX5_head_23 (by decide) ?_
      refine mi_cS3i (hw := Nat.le_of_ble_eq_true rfl) h dX5_head_26 ml_RX5_46 ym_yX5_isWithin (c_X5_isWithin ⟨by omega, by omega⟩ ⟨by omega, by omega⟩ ⟨by omega, by omega⟩) (fun r26 σ26 hp26 => ?_)
      obtain ⟨rfl, hb26, hc26⟩ := hp26
      refine mi_if_ne (tgt := 35) h dX5_head_29 (by decide) ⟨by omega, by omega⟩ (fun e29 => ?_) (fun e29 => ?_)
      · refine mi_aload_n h dX5_head_35 (by rfl) ?_
        refine gf_X5_0 h dX5_head_36 fl_RX5_17 ?_
        refine mi_iload_n h dX5_head_39 (by rfl) ?_
        refine mt_e (y := ((p.toNat : Nat) : Int)) (by omega) ?_
        refine mi_iload_n h dX5_head_40 (by rfl) ?_
        refine mi_iload_n h dX5_head_41 (by rfl) ?_
        refine mi_cV3v (hw := Nat.le_of_ble_eq_true rfl) h dX5_head_42 ml_RX5_84 ym_yX1_setHead (by rfl) (by rfl) (c_X1_setHead (p := p.toNat) (by omega) i6 i7) (fun r42 σ42 hp42 => ?_)
        subst hp42
        refine mi_iconst h dX5_head_45 ?_
        refine mi_ireturn h hr dX5_head_46 ?_
        first | exact Or.inl ⟨rfl, rfl, by omega⟩ | exact Or.inr (Or.inl ⟨rfl, rfl, by omega, by omega⟩) | exact Or.inr (Or.inr ⟨rfl, rfl, by omega, by omega⟩)
      · refine mi_bipush h dX5_head_32 (by decide) ?_
        refine mi_ireturn h hr dX5_head_34 ?_
        first | exact Or.inl ⟨rfl, rfl, by omega⟩ | exact Or.inr (Or.inl ⟨rfl, rfl, by omega, by omega⟩) | exact Or.inr (Or.inr ⟨rfl, rfl, by omega, by omega⟩)
  · refine mi_iconst h dX5_head_8 ?_
    refine mi_ireturn h hr dX5_head_9 ?_
    first | exact Or.inl ⟨rfl, rfl, by omega⟩ | exact Or.inr (Or.inl ⟨rfl, rfl, by omega, by omega⟩) | exact Or.inr (Or.inr ⟨rfl, rfl, by omega, by omega⟩)
set_option maxHeartbeats 4000000 in
set_option maxRecDepth 100000 in
theorem c_X5_open {σ : Mem} {p v : Int} (hS0 : IS σ) (hp : R32 p) (hv : v = 0 ∨ v = 1) : Sp1 yX5_open cX5_open 4 (some .int) 1 2 [vr 0, vi p, vi v] σ (fun r σ' => (r = -1 ∧ σ = σ' ∧ ¬ (0 ≤ p ∧ p < σ 1 4 ∧ bv (σ 1 12) p.toNat = 1)) ∨ (r = bv (σ 1 13) p.toNat ∧ up σ 1 13 (wb (σ 1 13) p.toNat v) = σ' ∧ (0 ≤ p ∧ p < σ 1 4 ∧ bv (σ 1 12) p.toNat = 1))) := by
  refine Sp1_in RX5 rfl (by decide +kernel) (Nat.le_of_ble_eq_true rfl) [some (vr 0), some (vi p), some (vi v), none] rfl ?_
  intro K h hr
  obtain ⟨i1, i2, i3, i4, i5, i6, i7, i8⟩ := id hS0
  refine mi_aload_n h dX5_open_0 (by rfl) ?_
  refine mi_iload_n h dX5_open_1 (by rfl) ?_
  refine mi_cV1i (hw := Nat.le_of_ble_eq_true rfl) h dX5_open_2 ml_RX5_88 ym_yX5_isHead (by rfl) (by rfl) (c_X5_isHead hS0 ⟨by omega, by omega⟩) (fun r2 σ2 hp2 => ?_)
  obtain ⟨rfl, hb2, hc2⟩ := hp2
  refine mi_if_ne (tgt := 10) h dX5_open_5 (by decide) ⟨by omega, by omega⟩ (fun e5 => ?_) (fun e5 => ?_)
  · refine mi_aload_n h dX5_open_10 (by rfl) ?_
    refine gf_X5_0 h dX5_open_11 fl_RX5_17 ?_
    refine gf_X1_13 h dX5_open_14 fl_RX5_91 ?_
    refine mi_iload_n h dX5_open_17 (by rfl) ?_
    refine mt_e (y := ((p.toNat : Nat) : Int)) (by omega) ?_
    refine mi_cS2i (hw := Nat.le_of_ble_eq_true rfl) h dX5_open_18 ml_RX5_94 ym_yX5_bit (c_bit i7 (by omega)) (fun r18 σ18 hp18 => ?_)
    obtain ⟨rfl, rfl⟩ := hp18
    refine mi_istore_n h dX5_open_21 (by decide) ?_
    refine mi_aload_n h dX5_open_22 (by rfl) ?_
    refine gf_X5_0 h dX5_open_23 fl_RX5_17 ?_
    refine mi_aload_n h dX5_open_26 (by rfl) ?_
    refine gf_X5_0 h dX5_open_27 fl_RX5_17 ?_
    refine gf_X1_13 h dX5_open_30 fl_RX5_91 ?_
    refine mi_iload_n h dX5_open_33 (by rfl) ?_
    refine mt_e (y := ((p.toNat : Nat) : Int)) (by omega) ?_
    refine mi_iload_n h dX5_open_34 (by rfl) ?_
    refine mi_cS3i (hw := Nat.le_of_ble_eq_true rfl) h dX5_open_35 ml_RX5_97 ym_yX5_withBit (c_X5_withBit i7 (by omega) hv) (fun r35 σ35 hp35 => ?_)
    obtain ⟨rfl, rfl⟩ := hp35
    refine pf_X1_13 h dX5_open_38 fl_RX5_91 ?_
    refine mi_iload_n h dX5_open_41 (by rfl) ?_
    refine mi_ireturn h hr dX5_open_42 ?_
    first | exact Or.inl ⟨rfl, rfl, by omega⟩ | exact Or.inr ⟨rfl, rfl, by omega, by omega, by omega⟩
  · refine mi_iconst h dX5_open_8 ?_
    refine mi_ireturn h hr dX5_open_9 ?_
    first | exact Or.inl ⟨rfl, rfl, by omega⟩ | exact Or.inr ⟨rfl, rfl, by omega, by omega, by omega⟩
set_option maxHeartbeats 4000000 in
set_option maxRecDepth 100000 in
theorem c_X5_shut {σ : Mem} {p v : Int} (hS0 : IS σ) (hp : R32 p) (hv : v = 0 ∨ v = 1) : Sp1 yX5_shut cX5_shut 4 (some .int) 1 1 [vr 0, vi p, vi v] σ (fun r σ' => (r = -1 ∧ σ = σ' ∧ ¬ (0 ≤ p ∧ p < σ 1 4)) ∨ (r = bv (σ 1 10) p.toNat ∧ up σ 1 10 (wb (σ 1 10) p.toNat v) = σ' ∧ (0 ≤ p ∧ p < σ 1 4))) := by
  refine Sp1_in RX5 rfl (by decide +kernel) (Nat.le_of_ble_eq_true rfl) [some (vr 0), some (vi p), some (vi v), none] rfl ?_
  intro K h hr
  obtain ⟨i1, i2, i3, i4, i5, i6, i7, i8⟩ := id hS0
  refine mi_aload_n h dX5_shut_0 (by rfl) ?_
  refine mi_iload_n h dX5_shut_1 (by rfl) ?_
  refine mi_cV1i (hw := Nat.le_of_ble_eq_true rfl) h dX5_shut_2 ml_RX5_81 ym_yX5_isPipe (by rfl) (by rfl) (c_X5_isPipe hS0 ⟨by omega, by omega⟩) (fun r2 σ2 hp2 => ?_)
  obtain ⟨rfl, hb2, hc2⟩ := hp2
  refine mi_if_ne (tgt := 10) h dX5_shut_5 (by decide) ⟨by omega, by omega⟩ (fun e5 => ?_) (fun e5 => ?_)
  · refine mi_aload_n h dX5_shut_10 (by rfl) ?_
    refine gf_X5_0 h dX5_shut_11 fl_RX5_17 ?_
    refine gf_X1_10 h dX5_shut_14 fl_RX5_101 ?_
    refine mi_iload_n h dX5_shut_17 (by rfl) ?_
    refine mt_e (y := ((p.toNat : Nat) : Int)) (by omega) ?_
    refine mi_cS2i (hw := Nat.le_of_ble_eq_true rfl) h dX5_shut_18 ml_RX5_94 ym_yX5_bit (c_bit i4 (by omega)) (fun r18 σ18 hp18 => ?_)
    obtain ⟨rfl, rfl⟩ := hp18
    refine mi_istore_n h dX5_shut_21 (by decide) ?_
    refine mi_aload_n h dX5_shut_22 (by rfl) ?_
    refine gf_X5_0 h dX5_shut_23 fl_RX5_17 ?_
    refine mi_aload_n h dX5_shut_26 (by rfl) ?_
    refine gf_X5_0 h dX5_shut_27 fl_RX5_17 ?_
    refine gf_X1_10 h dX5_shut_30 fl_RX5_101 ?_
    refine mi_iload_n h dX5_shut_33 (by rfl) ?_
    refine mt_e (y := ((p.toNat : Nat) : Int)) (by omega) ?_
    refine mi_iload_n h dX5_shut_34 (by rfl) ?_
    refine mi_cS3i (hw := Nat.le_of_ble_eq_true rfl) h dX5_shut_35 ml_RX5_97 ym_yX5_withBit (c_X5_withBit i4 (by omega) hv) (fun r35 σ35 hp35 => ?_)
    obtain ⟨rfl, rfl⟩ := hp35
    refine pf_X1_10 h dX5_shut_38 fl_RX5_101 ?_
    refine mi_iload_n h dX5_shut_41 (by rfl) ?_
    refine mi_ireturn h hr dX5_shut_42 ?_
    first | exact Or.inl ⟨rfl, rfl, by omega⟩ | exact Or.inr ⟨rfl, rfl, by omega, by omega⟩
  · refine mi_iconst h dX5_shut_8 ?_
    refine mi_ireturn h hr dX5_shut_9 ?_
    first | exact Or.inl ⟨rfl, rfl, by omega⟩ | exact Or.inr ⟨rfl, rfl, by omega, by omega⟩
set_option maxHeartbeats 4000000 in
set_option maxRecDepth 100000 in
theorem c_X5_clog {σ : Mem} {p c : Int} (hS0 : IS σ) (hp : R32 p) (hc : R32 c) : Sp1 yX5_clog cX5_clog 4 (some .int) 1 2 [vr 0, vi p, vi c] σ (fun r σ' => (r = -1 ∧ σ = σ' ∧ ¬ (0 ≤ p ∧ p < σ 1 4 ∧ bv (σ 1 12) p.toNat = 1)) ∨ (r = -2 ∧ σ = σ' ∧ (0 ≤ p ∧ p < σ 1 4 ∧ bv (σ 1 12) p.toNat = 1) ∧ ¬ (0 ≤ c ∧ c ≤ 100)) ∨ (r = σ 15 p.toNat ∧ up σ 15 p.toNat c = σ' ∧ (0 ≤ p ∧ p < σ 1 4 ∧ bv (σ 1 12) p.toNat = 1) ∧ (0 ≤ c ∧ c ≤ 100))) := by
  refine Sp1_in RX5 rfl (by decide +kernel) (Nat.le_of_ble_eq_true rfl) [some (vr 0), some (vi p), some (vi c), none] rfl ?_
  intro K h hr
  obtain ⟨i1, i2, i3, i4, i5, i6, i7, i8⟩ := id hS0
  refine mi_aload_n h dX5_clog_0 (by rfl) ?_
  refine mi_iload_n h dX5_clog_1 (by rfl) ?_
  refine mi_cV1i (hw := Nat.le_of_ble_eq_true rfl) h dX5_clog_2 ml_RX5_88 ym_yX5_isHead (by rfl) (by rfl) (c_X5_isHead hS0 ⟨by omega, by omega⟩) (fun r2 σ2 hp2 => ?_)
  obtain ⟨rfl, hb2, hc2⟩ := hp2
  refine mi_if_ne (tgt := 10) h dX5_clog_5 (by decide) ⟨by omega, by omega⟩ (fun e5 => ?_) (fun e5 => ?_)
  · refine mi_iload_n h dX5_clog_10 (by rfl) ?_
    refine mi_iconst h dX5_clog_11 ?_
    refine mi_bipush h dX5_clog_12 (by decide) ?_
    refine mi_cS3i (hw := Nat.le_of_ble_eq_true rfl) h dX5_clog_14 ml_RX5_46 ym_yX5_isWithin (c_X5_isWithin ⟨by omega, by omega⟩ ⟨by omega, by omega⟩ ⟨by omega, by omega⟩) (fun r14 σ14 hp14 => ?_)
    obtain ⟨rfl, hb14, hc14⟩ := hp14
    refine mi_if_ne (tgt := 23) h dX5_clog_17 (by decide) ⟨by omega, by omega⟩ (fun e17 => ?_) (fun e17 => ?_)
    · refine mi_aload_n h dX5_clog_23 (by rfl) ?_
      refine gf_X5_0 h dX5_clog_24 fl_RX5_17 ?_
      refine gf_X1_16 h dX5_clog_27 fl_RX5_104 ?_
      refine mi_iload_n h dX5_clog_30 (by rfl) ?_
      refine mn_iaload (p.toNat) h dX5_clog_31 (by rfl) (by omega) (by omega) (by decide) ?_
      refine mi_istore_n h dX5_clog_32 (by decide) ?_
      refine mi_aload_n h dX5_clog_33 (by rfl) ?_
      refine gf_X5_0 h dX5_clog_34 fl_RX5_17 ?_
      refine gf_X1_16 h dX5_clog_37 fl_RX5_104 ?_
      refine mi_iload_n h dX5_clog_40 (by rfl) ?_
      refine mi_iload_n h dX5_clog_41 (by rfl) ?_
      refine mn_iastore (p.toNat) h dX5_clog_42 (by rfl) (by omega) (by omega) (by decide) ?_
      refine mi_iload_n h dX5_clog_43 (by rfl) ?_
      refine mi_ireturn h hr dX5_clog_44 ?_
      first | exact Or.inl ⟨rfl, rfl, by omega⟩ | exact Or.inr (Or.inl ⟨rfl, rfl, by omega, by omega⟩) | exact Or.inr (Or.inr ⟨rfl, rfl, by omega, by omega⟩)
    · refine mi_bipush h dX5_clog_20 (by decide) ?_
      refine mi_ireturn h hr dX5_clog_22 ?_
      first | exact Or.inl ⟨rfl, rfl, by omega⟩ | exact Or.inr (Or.inl ⟨rfl, rfl, by omega, by omega⟩) | exact Or.inr (Or.inr ⟨rfl, rfl, by omega, by omega⟩)
  · refine mi_iconst h dX5_clog_8 ?_
    refine mi_ireturn h hr dX5_clog_9 ?_
    first | exact Or.inl ⟨rfl, rfl, by omega⟩ | exact Or.inr (Or.inl ⟨rfl, rfl, by omega, by omega⟩) | exact Or.inr (Or.inr ⟨rfl, rfl, by omega, by omega⟩)
set_option maxHeartbeats 4000000 in
set_option maxRecDepth 100000 in
theorem c_X5_resize {σ : Mem} {p z : Int} (hS0 : IS σ) (hp : R32 p) (hz : R32 z) : Sp1 yX5_resize cX5_resize 4 (some .int) 1 2 [vr 0, vi p, vi z] σ (fun r σ' => (r = -1 ∧ σ = σ' ∧ ¬ ((0 ≤ p ∧ p < σ 1 4) ∧ (0 ≤ z ∧ z < σ 1 1))) ∨ (r = σ 10 p.toNat ∧ up (up σ 10 p.toNat z) 12 (p.toNat + 1) (σ 9 p.toNat * σ 6 z.toNat) = σ' ∧ (0 ≤ p ∧ p < σ 1 4) ∧ (0 ≤ z ∧ z < σ 1 1))) := by
  refine Sp1_in RX5 rfl (by decide +kernel) (Nat.le_of_ble_eq_true rfl) [some (vr 0), some (vi p), some (vi z), none] rfl ?_
  intro K h hr
  obtain ⟨i1, i2, i3, i4, i5, i6, i7, i8⟩ := id hS0
  refine mi_aload_n h dX5_resize_0 (by rfl) ?_
  refine mi_iload_n h dX5_resize_1 (by rfl) ?_
  refine mi_cV1i (hw := Nat.le_of_ble_eq_true rfl) h dX5_resize_2 ml_RX5_81 ym_yX5_isPipe (by rfl) (by rfl) (c_X5_isPipe hS0 ⟨by omega, by omega⟩) (fun r2 σ2 hp2 => ?_)
  obtain ⟨rfl, hb2, hc2⟩ := hp2
  refine mi_if_eq (tgt := 16) h dX5_resize_5 (by decide) ⟨by omega, by omega⟩ (fun e5 => ?_) (fun e5 => ?_)
  · refine mi_iconst h dX5_resize_16 ?_
    refine mi_ireturn h hr dX5_resize_17 ?_
    first | exact Or.inl ⟨rfl, rfl, by omega⟩ | exact Or.inr ⟨rfl, rfl, by omega, by omega⟩
  · refine mi_aload_n h dX5_resize_8 (by rfl) ?_
    refine mi_iload_n h dX5_resize_9 (by rfl) ?_
    refine mi_cV1i (hw := Nat.le_of_ble_eq_true rfl) h dX5_resize_10 ml_RX5_68 ym_yX5_isSize (by rfl) (by rfl) (c_X5_isSize hS0 ⟨by omega, by omega⟩) (fun r10 σ10 hp10 => ?_)
    obtain ⟨rfl, hb10, hc10⟩ := hp10
    refine mi_if_ne (tgt := 18) h dX5_resize_13 (by decide) ⟨by omega, by omega⟩ (fun e13 => ?_) (fun e13 => ?_)
    · refine mi_aload_n h dX5_resize_18 (by rfl) ?_
      refine gf_X5_0 h dX5_resize_19 fl_RX5_17 ?_
      refine gf_X1_7 h dX5_resize_22 fl_RX5_107 ?_
      refine mi_iload_n h dX5_resize_25 (by rfl) ?_
      refine mn_iaload (p.toNat) h dX5_resize_26 (by rfl) (by omega) (by omega) (by decide) ?_
      refine mi_istore_n h dX5_resize_27 (by decide) ?_
      refine mi_aload_n h dX5_resize_28 (by rfl) ?_
      refine gf_X5_0 h dX5_resize_29 fl_RX5_17 ?_
      refine mi_iload_n h dX5_resize_32 (by rfl) ?_
      refine mt_e (y := ((p.toNat : Nat) : Int)) (by omega) ?_
      refine mi_iload_n h dX5_resize_33 (by rfl) ?_
      refine mt_e (y := ((z.toNat : Nat) : Int)) (by omega) ?_
      refine mi_cV2v (hw := Nat.le_of_ble_eq_true rfl) h dX5_resize_34 ml_RX5_110 ym_yX1_setSize (by rfl) (by rfl) (c_X1_setSize (p := p.toNat) (z := z.toNat) (by omega) (by omega)) (fun r34 σ34 hp34 => ?_)
      rw [show ((z.toNat : Nat) : Int) = z by omega] at hp34
      subst hp34
      refine mi_iload_n h dX5_resize_37 (by rfl) ?_
      refine mi_ireturn h hr dX5_resize_38 ?_
      first | exact Or.inl ⟨rfl, rfl, by omega⟩ | exact Or.inr ⟨rfl, rfl, by omega, by omega⟩
    · refine mi_iconst h dX5_resize_16 ?_
      refine mi_ireturn h hr dX5_resize_17 ?_
      first | exact Or.inl ⟨rfl, rfl, by omega⟩ | exact Or.inr ⟨rfl, rfl, by omega, by omega⟩
set_option maxHeartbeats 4000000 in
set_option maxRecDepth 100000 in
theorem c_X5_heap {σ : Mem} (hS0 : IS σ) : Sp1 yX5_heap cX5_heap 1 (some .int) 1 0 [vr 0] σ (fun r σ' => (r = -4 ∧ σ = σ' ∧ σ 0 5 = 6) ∨ (r = σ 0 5 ∧ up σ 0 5 (σ 0 5 + 1) = σ' ∧ σ 0 5 < 6)) := by
  refine Sp1_in RX5 rfl (by decide +kernel) (Nat.le_of_ble_eq_true rfl) [some (vr 0)] rfl ?_
  intro K h hr
  obtain ⟨i1, i2, i3, i4, i5, i6, i7, i8⟩ := id hS0
  refine mi_aload_n h dX5_heap_0 (by rfl) ?_
  refine gf_X5_5 h dX5_heap_1 fl_RX5_166 ?_
  refine mi_bipush h dX5_heap_4 (by decide) ?_
  refine mi_icmp_lt (tgt := 12) h dX5_heap_6 (by decide) ⟨by omega, by omega⟩ ⟨by omega, by omega⟩ (fun e6 => ?_) (fun e6 => ?_)
  · refine mi_aload_n h dX5_heap_12 (by rfl) ?_
    refine mi_dup h dX5_heap_13 (fun _ => rfl) ?_
    refine gf_X5_5 h dX5_heap_14 fl_RX5_166 ?_
    refine mi_dup_x1 h dX5_heap_17 (fun _ => rfl) (fun _ => rfl) ?_
    refine mi_iconst h dX5_heap_18 ?_
    refine mi_iadd h dX5_heap_19 ?_
    refine pf_X5_5 h dX5_heap_20 fl_RX5_166 ?_
    refine mi_ireturn h hr dX5_heap_23 ?_
    first | exact Or.inl ⟨rfl, rfl, by omega⟩ | exact Or.inr ⟨rfl, rfl, by omega⟩
  · refine mi_bipush h dX5_heap_9 (by decide) ?_
    refine mi_ireturn h hr dX5_heap_11 ?_
    first | exact Or.inl ⟨rfl, rfl, by omega⟩ | exact Or.inr ⟨rfl, rfl, by omega⟩
set_option maxHeartbeats 4000000 in
set_option maxRecDepth 100000 in
theorem c_X5_put {σ : Mem} {g p v : Int} (hS0 : IS σ) (hZ : IZ σ) (hg : R32 g) (hp : R32 p) (hv : v = 0 ∨ v = 1) : Sp1 yX5_put cX5_put 4 (some .int) 1 2 [vr 0, vi g, vi p, vi v] σ (fun r σ' => (r = -1 ∧ σ = σ' ∧ ¬ ((0 ≤ g ∧ g < σ 0 5) ∧ (0 ≤ p ∧ p < σ 1 4 ∧ bv (σ 1 12) p.toNat = 1))) ∨ (r = (pop (wb (σ 5 g.toNat) p.toNat v).toNat : Int) ∧ up σ 5 g.toNat (wb (σ 5 g.toNat) p.toNat v) = σ' ∧ (0 ≤ g ∧ g < σ 0 5) ∧ (0 ≤ p ∧ p < σ 1 4 ∧ bv (σ 1 12) p.toNat = 1))) := by
  refine Sp1_in RX5 rfl (by decide +kernel) (Nat.le_of_ble_eq_true rfl) [some (vr 0), some (vi g), some (vi p), some (vi v)] rfl ?_
  intro K h hr
  obtain ⟨i1, i2, i3, i4, i5, i6, i7, i8⟩ := id hS0
  refine mi_aload_n h dX5_put_0 (by rfl) ?_
  refine mi_iload_n h dX5_put_1 (by rfl) ?_
  refine mi_cV1i (hw := Nat.le_of_ble_eq_true rfl) h dX5_put_2 ml_RX5_169 ym_yX5_isHeap (by rfl) (by rfl) (c_X5_isHeap hS0 ⟨by omega, by omega⟩) (fun r2 σ2 hp2 => ?_)
  obtain ⟨rfl, hb2, hc2⟩ := hp2
  refine mi_if_eq (tgt := 16) h dX5_put_5 (by decide) ⟨by omega, by omega⟩ (fun e5 => ?_) (fun e5 => ?_)
  · refine mi_iconst h dX5_put_16 ?_
    refine mi_ireturn h hr dX5_put_17 ?_
    first | exact Or.inl ⟨rfl, rfl, by omega⟩ | exact Or.inr ⟨rfl, rfl, by omega, by omega⟩
  · refine mi_aload_n h dX5_put_8 (by rfl) ?_
    refine mi_iload_n h dX5_put_9 (by rfl) ?_
    refine mi_cV1i (hw := Nat.le_of_ble_eq_true rfl) h dX5_put_10 ml_RX5_88 ym_yX5_isHead (by rfl) (by rfl) (c_X5_isHead hS0 ⟨by omega, by omega⟩) (fun r10 σ10 hp10 => ?_)
    obtain ⟨rfl, hb10, hc10⟩ := hp10
    refine mi_if_ne (tgt := 18) h dX5_put_13 (by decide) ⟨by omega, by omega⟩ (fun e13 => ?_) (fun e13 => ?_)
    · have hm := (hZ g.toNat (by omega)).2.2
      have hw := wb_rng (v := v) hm (show p.toNat < 24 by omega)
      refine mi_aload_n h dX5_put_18 (by rfl) ?_
      refine gf_X5_4 h dX5_put_19 fl_RX5_25 ?_
      refine mi_iload_n h dX5_put_22 (by rfl) ?_
      refine mi_aload_n h dX5_put_23 (by rfl) ?_
      refine gf_X5_4 h dX5_put_24 fl_RX5_25 ?_
      refine mi_iload_n h dX5_put_27 (by rfl) ?_
      refine mn_iaload (g.toNat) h dX5_put_28 (by rfl) (by omega) (by omega) (by decide) ?_
      refine mi_iload_n h dX5_put_29 (by rfl) ?_
      refine mt_e (y := ((p.toNat : Nat) : Int)) (by omega) ?_
      refine mi_iload_n h dX5_put_30 (by rfl) ?_
      refine mi_cS3i (hw := Nat.le_of_ble_eq_true rfl) h dX5_put_31 ml_RX5_97 ym_yX5_withBit (c_X5_withBit hm (by omega) hv) (fun r31 σ31 hp31 => ?_)
      obtain ⟨rfl, rfl⟩ := hp31
      refine mn_iastore (g.toNat) h dX5_put_34 (by rfl) (by omega) (by omega) (by decide) ?_
      refine mi_aload_n h dX5_put_35 (by rfl) ?_
      refine gf_X5_4 h dX5_put_36 fl_RX5_25 ?_
      refine mi_iload_n h dX5_put_39 (by rfl) ?_
      refine mn_iaload (g.toNat) h dX5_put_40 (by rfl) (by omega) (by omega) (by decide) ?_
      try simp only [up_app, Nat.reduceEqDiff, reduceIte, Nat.add_eq_zero_iff, Nat.succ_ne_self, Nat.add_right_cancel_iff]
      refine mi_cS1i (hw := Nat.le_of_ble_eq_true rfl) h dX5_put_41 ml_RX5_172 ym_yJ6_bitCount_0f7a4 (c_J6_bitCount_0f7a4 hw) (fun r41 σ41 hp41 => ?_)
      obtain ⟨rfl, rfl⟩ := hp41
      refine mi_ireturn h hr dX5_put_44 ?_
      first | exact Or.inl ⟨rfl, rfl, by omega⟩ | exact Or.inr ⟨rfl, rfl, by omega, by omega⟩
    · refine mi_iconst h dX5_put_16 ?_
      refine mi_ireturn h hr dX5_put_17 ?_
      first | exact Or.inl ⟨rfl, rfl, by omega⟩ | exact Or.inr ⟨rfl, rfl, by omega, by omega⟩
set_option maxHeartbeats 4000000 in
set_option maxRecDepth 100000 in
theorem c_X5_free {σ : Mem} {p v : Int} (hS0 : IS σ) (hp : R32 p) (hv : v = 0 ∨ v = 1) : Sp1 yX5_free cX5_free 4 (some .int) 1 1 [vr 0, vi p, vi v] σ (fun r σ' => (r = -1 ∧ σ = σ' ∧ ¬ (0 ≤ p ∧ p < σ 1 4)) ∨ (r = -4 ∧ σ = σ' ∧ (0 ≤ p ∧ p < σ 1 4) ∧ 5 < (pop (wb (σ 1 11) p.toNat v).toNat : Int)) ∨ (r = (pop (wb (σ 1 11) p.toNat v).toNat : Int) ∧ up σ 1 11 (wb (σ 1 11) p.toNat v) = σ' ∧ (0 ≤ p ∧ p < σ 1 4) ∧ (pop (wb (σ 1 11) p.toNat v).toNat : Int) ≤ 5)) := by
  refine Sp1_in RX5 rfl (by decide +kernel) (Nat.le_of_ble_eq_true rfl) [some (vr 0), some (vi p), some (vi v), none] rfl ?_
  intro K h hr
  obtain ⟨i1, i2, i3, i4, i5, i6, i7, i8⟩ := id hS0
  refine mi_aload_n h dX5_free_0 (by rfl) ?_
  refine mi_iload_n h dX5_free_1 (by rfl) ?_
  refine mi_cV1i (hw := Nat.le_of_ble_eq_true rfl) h dX5_free_2 ml_RX5_81 ym_yX5_isPipe (by rfl) (by rfl) (c_X5_isPipe hS0 ⟨by omega, by omega⟩) (fun r2 σ2 hp2 => ?_)
  obtain ⟨rfl, hb2, hc2⟩ := hp2
  refine mi_if_ne (tgt := 10) h dX5_free_5 (by decide) ⟨by omega, by omega⟩ (fun e5 => ?_) (fun e5 => ?_)
  · have hw := wb_rng (v := v) i5 (show p.toNat < 24 by omega)
    have hpop := pop_lt (wb (σ 1 11) p.toNat v).toNat
    refine mi_aload_n h dX5_free_10 (by rfl) ?_
    refine gf_X5_0 h dX5_free_11 fl_RX5_17 ?_
    refine gf_X1_11 h dX5_free_14 fl_RX5_156 ?_
    refine mi_iload_n h dX5_free_17 (by rfl) ?_
    refine mt_e (y := ((p.toNat : Nat) : Int)) (by omega) ?_
    refine mi_iload_n h dX5_free_18 (by rfl) ?_
    refine mi_cS3i (hw := Nat.le_of_ble_eq_true rfl) h dX5_free_19 ml_RX5_97 ym_yX5_withBit (c_X5_withBit i5 (by omega) hv) (fun r19 σ19 hp19 => ?_)
    obtain ⟨rfl, rfl⟩ := hp19
    refine mi_istore_n h dX5_free_22 (by decide) ?_
    refine mi_iload_n h dX5_free_23 (by rfl) ?_
    refine mi_cS1i (hw := Nat.le_of_ble_eq_true rfl) h dX5_free_24 ml_RX5_172 ym_yJ6_bitCount_0f7a4 (c_J6_bitCount_0f7a4 hw) (fun r24 σ24 hp24 => ?_)
    obtain ⟨rfl, rfl⟩ := hp24
    refine mi_iconst h dX5_free_27 ?_
    refine mi_icmp_le (tgt := 34) h dX5_free_28 (by decide) ⟨by omega, by omega⟩ ⟨by omega, by omega⟩ (fun e28 => ?_) (fun e28 => ?_)
    · refine mi_aload_n h dX5_free_34 (by rfl) ?_
      refine gf_X5_0 h dX5_free_35 fl_RX5_17 ?_
      refine mi_iload_n h dX5_free_38 (by rfl) ?_
      refine pf_X1_11 h dX5_free_39 fl_RX5_156 ?_
      refine mi_iload_n h dX5_free_42 (by rfl) ?_
      refine mi_cS1i (hw := Nat.le_of_ble_eq_true rfl) h dX5_free_43 ml_RX5_172 ym_yJ6_bitCount_0f7a4 (c_J6_bitCount_0f7a4 hw) (fun r43 σ43 hp43 => ?_)
      obtain ⟨rfl, rfl⟩ := hp43
      refine mi_ireturn h hr dX5_free_46 ?_
      first | exact Or.inl ⟨rfl, rfl, by omega⟩ | exact Or.inr (Or.inl ⟨rfl, rfl, by omega, by omega⟩) | exact Or.inr (Or.inr ⟨rfl, rfl, by omega, by omega⟩)
    · refine mi_bipush h dX5_free_31 (by decide) ?_
      refine mi_ireturn h hr dX5_free_33 ?_
      first | exact Or.inl ⟨rfl, rfl, by omega⟩ | exact Or.inr (Or.inl ⟨rfl, rfl, by omega, by omega⟩) | exact Or.inr (Or.inr ⟨rfl, rfl, by omega, by omega⟩)
  · refine mi_iconst h dX5_free_8 ?_
    refine mi_ireturn h hr dX5_free_9 ?_
    first | exact Or.inl ⟨rfl, rfl, by omega⟩ | exact Or.inr (Or.inl ⟨rfl, rfl, by omega, by omega⟩) | exact Or.inr (Or.inr ⟨rfl, rfl, by omega, by omega⟩)
