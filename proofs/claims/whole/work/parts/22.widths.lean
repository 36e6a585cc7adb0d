theorem sh_25 {x : Int} : Int64.ofInt x <<< ((Int32.ofInt 25).toInt64 &&& 63) = Int64.ofInt (x * 33554432) := sh_l (k := 25) (by decide)
theorem sh_30 {x : Int} : Int64.ofInt x <<< ((Int32.ofInt 30).toInt64 &&& 63) = Int64.ofInt (x * 1073741824) := sh_l (k := 30) (by decide)
def clE (b : Int) (e : Nat) : Prop := 0 < e ∧ bv b (e - 1) = 1
set_option maxHeartbeats 4000000 in
set_option maxRecDepth 100000 in
theorem c_X4_isClosed {σ : Mem} {e : Nat} (hm : 0 ≤ σ 1 10 ∧ σ 1 10 < 16777216) (he : e < 25) : Sp1 yX4_isClosed cX4_isClosed 2 (some .boolean) 1 1 [vr 2, vi (e : Int)] σ (fun r σ' => σ = σ' ∧ (r = 0 ∨ r = 1) ∧ (r = 1 ↔ 0 < e ∧ bv (σ 1 10) (e - 1) = 1)) := by
  refine Sp1_in RX4 rfl (by decide +kernel) (Nat.le_of_ble_eq_true rfl) [some (vr 2), some (vi (e : Int))] rfl ?_
  intro K h hr
  have hv := bv_01 (σ 1 10) (e - 1)
  refine mi_iload_n h dX4_isClosed_0 (by rfl) ?_
  refine mi_if_le (tgt := 25) h dX4_isClosed_1 (by decide) ⟨by omega, by omega⟩ (fun e1 => ?_) (fun e1 => ?_)
  · refine mi_iconst h dX4_isClosed_25 ?_
    refine mi_zreturn h hr dX4_isClosed_26 (by omega) ?_
    exact ⟨rfl, by omega, by omega⟩
  · refine mi_aload_n h dX4_isClosed_4 (by rfl) ?_
    refine gf_X4_0 h dX4_isClosed_5 fl_RX4_9 ?_
    refine gf_X1_10 h dX4_isClosed_8 fl_RX4_89 ?_
    refine mi_iload_n h dX4_isClosed_11 (by rfl) ?_
    refine mi_iconst h dX4_isClosed_12 ?_
    refine mi_isub h dX4_isClosed_13 ?_
    refine mt_e (y := ((e - 1 : Nat) : Int)) (by omega) ?_
    refine mi_cN2i (hw := Nat.le_of_ble_eq_true rfl) (host := "SprinklerHouse") h dX4_isClosed_14 (by decide) ym_yX5_bit (c_bit hm (by omega)) (fun r14 σ14 hp14 => ?_)
    obtain ⟨rfl, rfl⟩ := hp14
    refine mi_iconst h dX4_isClosed_17 ?_
    refine mi_icmp_ne (tgt := 25) h dX4_isClosed_18 (by decide) ⟨by omega, by omega⟩ ⟨by omega, by omega⟩ (fun e18 => ?_) (fun e18 => ?_)
    · refine mi_iconst h dX4_isClosed_25 ?_
      refine mi_zreturn h hr dX4_isClosed_26 (by omega) ?_
      exact ⟨rfl, by omega, by omega⟩
    · refine mi_iconst h dX4_isClosed_21 ?_
      refine mi_goto (tgt := 26) h dX4_isClosed_22 (by decide) ?_
      refine mi_zreturn h hr dX4_isClosed_26 (by omega) ?_
      exact ⟨rfl, by omega, by omega⟩
set_option maxHeartbeats 4000000 in
set_option maxRecDepth 100000 in
theorem c_X4_conductOf {σ : Mem} {e dc : Nat} {s : Int} (hm : 0 ≤ σ 1 10 ∧ σ 1 10 < 16777216) (he : e < 25) (hdc : lay[dc]? = some (.inr (0, 25))) (hs : s = 0 ∨ s = 1) (hd : 0 ≤ σ dc e ∧ σ dc e ≤ 4000) (hg : 0 ≤ σ 16 e ∧ σ 16 e ≤ 4915200) : Sp1 yX4_conductOf cX4_conductOf 8 (some .long) 2 3 [vr 2, vi (e : Int), vi s, vr dc] σ (fun r σ' => σ = σ' ∧ r = if 0 < e ∧ bv (σ 1 10) (e - 1) = 1 then 0 else cnd s (σ dc e) (σ 16 e)) := by
  refine Sp1_in RX4 rfl (by decide +kernel) (Nat.le_of_ble_eq_true rfl) [some (vr 2), some (vi (e : Int)), some (vi s), some (vr dc), none, none, none, none] rfl ?_
  intro K h hr
  have h9 := rgg hd hg
  have h8 := rt_25 (D := 1125899906842624 + σ dc e * σ 16 e * σ 16 e) (by omega)
  have h7 := rtu_ge (1125899906842624 + σ dc e * σ 16 e * σ 16 e)
  have h6 := rt_small (n := 1125899906842624 + σ dc e * σ 16 e * σ 16 e) (by omega) (by omega)
  have h5 := cnd_0 (s := s) hd
  refine mi_aload_n h dX4_conductOf_0 (by rfl) ?_
  refine gf_X4_1 h dX4_conductOf_1 fl_RX4_15 ?_
  refine mi_iload_n h dX4_conductOf_4 (by rfl) ?_
  refine mn_laload (e) h dX4_conductOf_5 (by rfl) (by omega) (by omega) (by decide) ?_
  refine mi_lstore h dX4_conductOf_6 (by decide) ?_
  refine mi_lload h dX4_conductOf_8 (by rfl) ?_
  refine mi_lconst0 h dX4_conductOf_10 ?_
  refine mi_lcmp_eq (tgt := 23) h dX4_conductOf_11 dX4_conductOf_12 (by decide) ⟨by omega, by omega⟩ ⟨by omega, by omega⟩ (fun e11 => ?_) (fun e11 => ?_)
  · refine mi_lconst0 h dX4_conductOf_23 ?_
    refine mi_lreturn h hr dX4_conductOf_24 ?_
    first | exact ⟨rfl, by rw [e11, h5]; split <;> rfl⟩ | exact ⟨rfl, by rw [if_pos (hc17.mp (by omega))]⟩
  · refine mi_aload_n h dX4_conductOf_15 (by rfl) ?_
    refine mi_iload_n h dX4_conductOf_16 (by rfl) ?_
    refine mi_cV1i (hw := Nat.le_of_ble_eq_true rfl) h dX4_conductOf_17 ml_RX4_65 ym_yX4_isClosed (by rfl) (by rfl) (c_X4_isClosed hm he) (fun r17 σ17 hp17 => ?_)
    obtain ⟨rfl, hb17, hc17⟩ := hp17
    refine mi_if_eq (tgt := 25) h dX4_conductOf_20 (by decide) ⟨by omega, by omega⟩ (fun e20 => ?_) (fun e20 => ?_)
    · refine mi_ldc2 (z := 1125899906842624) h dX4_conductOf_25 kc_RX4_69 rfl ?_
      refine mi_aload_n h dX4_conductOf_28 (by rfl) ?_
      refine mi_iload_n h dX4_conductOf_29 (by rfl) ?_
      refine mn_iaload e h dX4_conductOf_30 hdc rfl (by omega) (by decide) ?_
      refine mi_i2l h dX4_conductOf_31 ⟨by omega, by omega⟩ ?_
      refine mi_lload h dX4_conductOf_32 (by rfl) ?_
      refine mi_lmul h dX4_conductOf_34 ?_
      refine mi_lload h dX4_conductOf_35 (by rfl) ?_
      refine mi_lmul h dX4_conductOf_37 ?_
      refine mi_ladd h dX4_conductOf_38 ?_
      refine mi_lstore h dX4_conductOf_39 (by decide) ?_
      refine mi_lload h dX4_conductOf_41 (by rfl) ?_
      refine mi_bipush h dX4_conductOf_43 (by decide) ?_
      refine mi_lshl h dX4_conductOf_45 sh_25 ?_
      refine mi_lload h dX4_conductOf_46 (by rfl) ?_
      refine mi_iload_n h dX4_conductOf_48 (by rfl) ?_
      refine mi_if_ne (tgt := 56) h dX4_conductOf_49 (by decide) ⟨by omega, by omega⟩ (fun e49 => ?_) (fun e49 => ?_)
      · refine mi_iconst h dX4_conductOf_56 ?_
        refine mi_cS2l (hw := Nat.le_of_ble_eq_true rfl) h dX4_conductOf_57 ml_RX4_71 ym_yX3_root (c_X3_root ⟨by omega, by omega⟩ (by omega)) (fun r57 σ57 hp57 => ?_)
        obtain ⟨rfl, hv57⟩ := hp57
        refine mi_iload_n h dX4_conductOf_60 (by rfl) ?_
        refine mi_iconst h dX4_conductOf_61 ?_
        refine mi_icmp_ne (tgt := 69) h dX4_conductOf_62 (by decide) ⟨by omega, by omega⟩ ⟨by omega, by omega⟩ (fun e62 => ?_) (fun e62 => ?_)
        · refine mi_iconst h dX4_conductOf_69 ?_
          refine mi_cS3l (hw := Nat.le_of_ble_eq_true rfl) h dX4_conductOf_70 ml_RX4_77 ym_yX3_quotient (c_X3_quotient ⟨by omega, by omega⟩ ⟨by rw [hv57]; split <;> omega, by rw [hv57]; split <;> omega⟩ (by omega)) (fun r70 σ70 hp70 => ?_)
          obtain ⟨rfl, hv70⟩ := hp70
          refine mi_lreturn h hr dX4_conductOf_73 ?_
          refine ⟨rfl, ?_⟩
          rw [if_neg (fun q => by have := hc17.mpr q; omega), hv70, hv57]
          unfold cnd
          first | (rw [if_neg (by omega), if_pos (by omega), if_pos (by omega)]; done) | (rw [if_pos (by omega), if_neg (by omega), if_neg (by omega)]; done) | (exfalso; omega)
        · refine mi_iconst h dX4_conductOf_65 ?_
          refine mi_goto (tgt := 70) h dX4_conductOf_66 (by decide) ?_
          refine mi_cS3l (hw := Nat.le_of_ble_eq_true rfl) h dX4_conductOf_70 ml_RX4_77 ym_yX3_quotient (c_X3_quotient ⟨by omega, by omega⟩ ⟨by rw [hv57]; split <;> omega, by rw [hv57]; split <;> omega⟩ (by omega)) (fun r70 σ70 hp70 => ?_)
          obtain ⟨rfl, hv70⟩ := hp70
          refine mi_lreturn h hr dX4_conductOf_73 ?_
          refine ⟨rfl, ?_⟩
          rw [if_neg (fun q => by have := hc17.mpr q; omega), hv70, hv57]
          unfold cnd
          first | (rw [if_neg (by omega), if_pos (by omega), if_pos (by omega)]; done) | (rw [if_pos (by omega), if_neg (by omega), if_neg (by omega)]; done) | (exfalso; omega)
      · refine mi_iconst h dX4_conductOf_52 ?_
        refine mi_goto (tgt := 57) h dX4_conductOf_53 (by decide) ?_
        refine mi_cS2l (hw := Nat.le_of_ble_eq_true rfl) h dX4_conductOf_57 ml_RX4_71 ym_yX3_root (c_X3_root ⟨by omega, by omega⟩ (by omega)) (fun r57 σ57 hp57 => ?_)
        obtain ⟨rfl, hv57⟩ := hp57
        refine mi_iload_n h dX4_conductOf_60 (by rfl) ?_
        refine mi_iconst h dX4_conductOf_61 ?_
        refine mi_icmp_ne (tgt := 69) h dX4_conductOf_62 (by decide) ⟨by omega, by omega⟩ ⟨by omega, by omega⟩ (fun e62 => ?_) (fun e62 => ?_)
        · refine mi_iconst h dX4_conductOf_69 ?_
          refine mi_cS3l (hw := Nat.le_of_ble_eq_true rfl) h dX4_conductOf_70 ml_RX4_77 ym_yX3_quotient (c_X3_quotient ⟨by omega, by omega⟩ ⟨by rw [hv57]; split <;> omega, by rw [hv57]; split <;> omega⟩ (by omega)) (fun r70 σ70 hp70 => ?_)
          obtain ⟨rfl, hv70⟩ := hp70
          refine mi_lreturn h hr dX4_conductOf_73 ?_
          refine ⟨rfl, ?_⟩
          rw [if_neg (fun q => by have := hc17.mpr q; omega), hv70, hv57]
          unfold cnd
          first | (rw [if_neg (by omega), if_pos (by omega), if_pos (by omega)]; done) | (rw [if_pos (by omega), if_neg (by omega), if_neg (by omega)]; done) | (exfalso; omega)
        · refine mi_iconst h dX4_conductOf_65 ?_
          refine mi_goto (tgt := 70) h dX4_conductOf_66 (by decide) ?_
          refine mi_cS3l (hw := Nat.le_of_ble_eq_true rfl) h dX4_conductOf_70 ml_RX4_77 ym_yX3_quotient (c_X3_quotient ⟨by omega, by omega⟩ ⟨by rw [hv57]; split <;> omega, by rw [hv57]; split <;> omega⟩ (by omega)) (fun r70 σ70 hp70 => ?_)
          obtain ⟨rfl, hv70⟩ := hp70
          refine mi_lreturn h hr dX4_conductOf_73 ?_
          refine ⟨rfl, ?_⟩
          rw [if_neg (fun q => by have := hc17.mpr q; omega), hv70, hv57]
          unfold cnd
          first | (rw [if_neg (by omega), if_pos (by omega), if_pos (by omega)]; done) | (rw [if_pos (by omega), if_neg (by omega), if_neg (by omega)]; done) | (exfalso; omega)
    · refine mi_lconst0 h dX4_conductOf_23 ?_
      refine mi_lreturn h hr dX4_conductOf_24 ?_
      first | exact ⟨rfl, by rw [e11, h5]; split <;> rfl⟩ | exact ⟨rfl, by rw [if_pos (hc17.mp (by omega))]⟩
set_option maxHeartbeats 4000000 in
set_option maxRecDepth 100000 in
theorem c_X4_fallen {σ : Mem} {e dc : Nat} {s b : Int} (hm : 0 ≤ σ 1 10 ∧ σ 1 10 < 16777216) (he : e < 25) (hdc : lay[dc]? = some (.inr (0, 25))) (hs : s = 0 ∨ s = 1) (hd : 0 ≤ σ dc e ∧ σ dc e ≤ 4000) (hg : 0 ≤ σ 16 e ∧ σ 16 e ≤ 4915200) (hb : 0 ≤ b ∧ b ≤ 102400000) : Sp1 yX4_fallen cX4_fallen 8 (some .long) 2 2 [vr 2, vl b, vi (e : Int), vi s, vr dc] σ (fun r σ' => σ = σ' ∧ r = if 0 < e ∧ bv (σ 1 10) (e - 1) = 1 then 0 else fln s (σ dc e) (σ 16 e) b) := by
  refine Sp1_in RX4 rfl (by decide +kernel) (Nat.le_of_ble_eq_true rfl) [some (vr 2), some (vl b), none, some (vi (e : Int)), some (vi s), some (vr dc), none, none] rfl ?_
  intro K h hr
  have h9 := rgg hd hg
  have h8 := qu_nn (a := σ dc e * σ 16 e * σ 16 e) (b := 1048576) (by omega) (by omega)
  have h7 : qu (σ dc e * σ 16 e * σ 16 e) 1048576 ≤ 96636764160000000 := by unfold qu; omega
  refine mi_aload_n h dX4_fallen_0 (by rfl) ?_
  refine mi_iload_n h dX4_fallen_1 (by rfl) ?_
  refine mi_cV1i (hw := Nat.le_of_ble_eq_true rfl) h dX4_fallen_2 ml_RX4_65 ym_yX4_isClosed (by rfl) (by rfl) (c_X4_isClosed hm he) (fun r2 σ2 hp2 => ?_)
  obtain ⟨rfl, hb17, hc17⟩ := hp2
  refine mi_if_eq (tgt := 10) h dX4_fallen_5 (by decide) ⟨by omega, by omega⟩ (fun e5 => ?_) (fun e5 => ?_)
  · refine mi_ldc2 (z := 1073741824) h dX4_fallen_10 kc_RX4_85 rfl ?_
    refine mi_aload h dX4_fallen_13 (by rfl) ?_
    refine mi_iload_n h dX4_fallen_15 (by rfl) ?_
    refine mn_iaload e h dX4_fallen_16 hdc rfl (by omega) (by decide) ?_
    refine mi_i2l h dX4_fallen_17 ⟨by omega, by omega⟩ ?_
    refine mi_aload_n h dX4_fallen_18 (by rfl) ?_
    refine gf_X4_1 h dX4_fallen_19 fl_RX4_15 ?_
    refine mi_iload_n h dX4_fallen_22 (by rfl) ?_
    refine mn_laload (e) h dX4_fallen_23 (by rfl) (by omega) (by omega) (by decide) ?_
    refine mi_lmul h dX4_fallen_24 ?_
    refine mi_aload_n h dX4_fallen_25 (by rfl) ?_
    refine gf_X4_1 h dX4_fallen_26 fl_RX4_15 ?_
    refine mi_iload_n h dX4_fallen_29 (by rfl) ?_
    refine mn_laload (e) h dX4_fallen_30 (by rfl) (by omega) (by omega) (by decide) ?_
    refine mi_lmul h dX4_fallen_31 ?_
    refine mi_ldc2 (z := 1048576) h dX4_fallen_32 kc_RX4_87 rfl ?_
    refine mi_iload h dX4_fallen_35 (by rfl) ?_
    refine mi_if_ne (tgt := 44) h dX4_fallen_37 (by decide) ⟨by omega, by omega⟩ (fun e37 => ?_) (fun e37 => ?_)
    · refine mi_iconst h dX4_fallen_44 ?_
      refine mi_cS3l (hw := Nat.le_of_ble_eq_true rfl) h dX4_fallen_45 ml_RX4_77 ym_yX3_quotient (c_X3_quotient ⟨by omega, by omega⟩ ⟨by omega, by omega⟩ (by omega)) (fun r45 σ45 hp45 => ?_)
      obtain ⟨rfl, hv45⟩ := hp45
      have hr45 : 0 ≤ r45 ∧ r45 ≤ 96636764160000000 := by rw [hv45]; split <;> omega
      refine mi_ladd h dX4_fallen_48 ?_
      refine mi_lstore h dX4_fallen_49 (by decide) ?_
      refine mi_lload_n h dX4_fallen_51 (by rfl) ?_
      refine mi_bipush h dX4_fallen_52 (by decide) ?_
      refine mi_lshl h dX4_fallen_54 sh_30 ?_
      refine mi_lload h dX4_fallen_55 (by rfl) ?_
      refine mi_iload h dX4_fallen_57 (by rfl) ?_
      refine mi_iconst h dX4_fallen_59 ?_
      refine mi_icmp_ne (tgt := 67) h dX4_fallen_60 (by decide) ⟨by omega, by omega⟩ ⟨by omega, by omega⟩ (fun e60 => ?_) (fun e60 => ?_)
      · refine mi_iconst h dX4_fallen_67 ?_
        refine mi_cS3l (hw := Nat.le_of_ble_eq_true rfl) h dX4_fallen_68 ml_RX4_77 ym_yX3_quotient (c_X3_quotient ⟨by omega, by omega⟩ ⟨by omega, by omega⟩ (by omega)) (fun r68 σ68 hp68 => ?_)
        obtain ⟨rfl, hv68⟩ := hp68
        refine mi_lreturn h hr dX4_fallen_71 ?_
        refine ⟨rfl, ?_⟩
        rw [if_neg (fun q => by have := hc17.mpr q; omega), hv68, hv45]
        unfold fln
        first | (rw [if_neg (by omega), if_pos (by omega), if_pos (by omega)]; done) | (rw [if_pos (by omega), if_neg (by omega), if_neg (by omega)]; done) | (exfalso; omega)
      · refine mi_iconst h dX4_fallen_63 ?_
        refine mi_goto (tgt := 68) h dX4_fallen_64 (by decide) ?_
        refine mi_cS3l (hw := Nat.le_of_ble_eq_true rfl) h dX4_fallen_68 ml_RX4_77 ym_yX3_quotient (c_X3_quotient ⟨by omega, by omega⟩ ⟨by omega, by omega⟩ (by omega)) (fun r68 σ68 hp68 => ?_)
        obtain ⟨rfl, hv68⟩ := hp68
        refine mi_lreturn h hr dX4_fallen_71 ?_
        refine ⟨rfl, ?_⟩
        rw [if_neg (fun q => by have := hc17.mpr q; omega), hv68, hv45]
        unfold fln
        first | (rw [if_neg (by omega), if_pos (by omega), if_pos (by omega)]; done) | (rw [if_pos (by omega), if_neg (by omega), if_neg (by omega)]; done) | (exfalso; omega)
    · refine mi_iconst h dX4_fallen_40 ?_
      refine mi_goto (tgt := 45) h dX4_fallen_41 (by decide) ?_
      refine mi_cS3l (hw := Nat.le_of_ble_eq_true rfl) h dX4_fallen_45 ml_RX4_77 ym_yX3_quotient (c_X3_quotient ⟨by omega, by omega⟩ ⟨by omega, by omega⟩ (by omega)) (fun r45 σ45 hp45 => ?_)
      obtain ⟨rfl, hv45⟩ := hp45
      have hr45 : 0 ≤ r45 ∧ r45 ≤ 96636764160000000 := by rw [hv45]; split <;> omega
      refine mi_ladd h dX4_fallen_48 ?_
      refine mi_lstore h dX4_fallen_49 (by decide) ?_
      refine mi_lload_n h dX4_fallen_51 (by rfl) ?_
      refine mi_bipush h dX4_fallen_52 (by decide) ?_
      refine mi_lshl h dX4_fallen_54 sh_30 ?_
      refine mi_lload h dX4_fallen_55 (by rfl) ?_
      refine mi_iload h dX4_fallen_57 (by rfl) ?_
      refine mi_iconst h dX4_fallen_59 ?_
      refine mi_icmp_ne (tgt := 67) h dX4_fallen_60 (by decide) ⟨by omega, by omega⟩ ⟨by omega, by omega⟩ (fun e60 => ?_) (fun e60 => ?_)
      · refine mi_iconst h dX4_fallen_67 ?_
        refine mi_cS3l (hw := Nat.le_of_ble_eq_true rfl) h dX4_fallen_68 ml_RX4_77 ym_yX3_quotient (c_X3_quotient ⟨by omega, by omega⟩ ⟨by omega, by omega⟩ (by omega)) (fun r68 σ68 hp68 => ?_)
        obtain ⟨rfl, hv68⟩ := hp68
        refine mi_lreturn h hr dX4_fallen_71 ?_
        refine ⟨rfl, ?_⟩
        rw [if_neg (fun q => by have := hc17.mpr q; omega), hv68, hv45]
        unfold fln
        first | (rw [if_neg (by omega), if_pos (by omega), if_pos (by omega)]; done) | (rw [if_pos (by omega), if_neg (by omega), if_neg (by omega)]; done) | (exfalso; omega)
      · refine mi_iconst h dX4_fallen_63 ?_
        refine mi_goto (tgt := 68) h dX4_fallen_64 (by decide) ?_
        refine mi_cS3l (hw := Nat.le_of_ble_eq_true rfl) h dX4_fallen_68 ml_RX4_77 ym_yX3_quotient (c_X3_quotient ⟨by omega, by omega⟩ ⟨by omega, by omega⟩ (by omega)) (fun r68 σ68 hp68 => ?_)
        obtain ⟨rfl, hv68⟩ := hp68
        refine mi_lreturn h hr dX4_fallen_71 ?_
        refine ⟨rfl, ?_⟩
        rw [if_neg (fun q => by have := hc17.mpr q; omega), hv68, hv45]
        unfold fln
        first | (rw [if_neg (by omega), if_pos (by omega), if_pos (by omega)]; done) | (rw [if_pos (by omega), if_neg (by omega), if_neg (by omega)]; done) | (exfalso; omega)
  · refine mi_lconst0 h dX4_fallen_8 ?_
    refine mi_lreturn h hr dX4_fallen_9 ?_
    exact ⟨rfl, by rw [if_pos (hc17.mp (by omega))]⟩
/-- the heads that are open, 1024 times their factors -/
def hdV (m : Int) (σ : Mem) (p : Nat) : Int := if bv m p = 1 then 1024 * fnw (σ 13 p) (σ 15 p) else 0
theorem hdV_rng {m : Int} {σ : Mem} (hP : IP σ) {p : Nat} (hp : p < 24) : 0 ≤ hdV m σ p ∧ hdV m σ p ≤ 204800 := by
  obtain ⟨-, -, -, h1, -, h2⟩ := hP p hp
  have := fnw_rng h1 h2
  unfold hdV
  split <;> omega
theorem netok {m : Int} {σ : Mem} {dr : Nat → Int} (hS0 : IS σ) (hP : IP σ) (hQ : IQ σ) (hdr : ∀ e, e < 25 → 0 ≤ dr e ∧ dr e ≤ 4000) : NetOk (σ 1 4).toNat (σ 8) (hdV m σ) dr := by
  obtain ⟨i1, i2, i3, i4, i5, i6, i7, i8⟩ := hS0
  exact ⟨by omega, fun p hp => ⟨(hP p (by omega)).1.1, (hQ p (by omega)).1⟩, fun p hp => hdV_rng hP (by omega), hdr⟩
set_option maxHeartbeats 4000000 in
set_option maxRecDepth 100000 in
theorem c_X4_gather {σ : Mem} {dc : Nat} {s m : Int} (hS0 : IS σ) (hP : IP σ) (hQ : IQ σ) (hdc : lay[dc]? = some (.inr (0, 25))) (hs : s = 0 ∨ s = 1) (hm : 0 ≤ m ∧ m < 16777216) (hdr : ∀ e, e < 25 → 0 ≤ σ dc e ∧ σ dc e ≤ 4000) (hd16 : dc ≠ 16) : Sp1 yX4_gather cX4_gather 5 none 0 4 [vr 2, vi s, vr dc, vi m] σ (fun r σ' => upC σ 16 (gath s (σ 8) (hdV m σ) (σ dc) (bv (σ 1 10)) (σ 1 4).toNat (flF (σ 16) 0 25)) = σ') := by
  refine Sp1_in RX4 rfl (by decide +kernel) (Nat.le_of_ble_eq_true rfl) [some (vr 2), some (vi s), some (vr dc), some (vi m), none] rfl ?_
  intro K h hr
  obtain ⟨i1, i2, i3, i4, i5, i6, i7, i8⟩ := id hS0
  have hN := netok (m := m) hS0 hP hQ hdr
  have loop : ∀ (p : Nat) (E : Nat → Int) (B : Int), (p : Int) ≤ σ 1 4 → EOk p E B → B + p * 204800 ≤ 4915200 → gath s (σ 8) (hdV m σ) (σ dc) (bv (σ 1 10)) p E = gath s (σ 8) (hdV m σ) (σ dc) (bv (σ 1 10)) (σ 1 4).toNat (flF (σ 16) 0 25) → M K 19 [some (vr 2), some (vi s), some (vr dc), some (vi m), some (vi ((p : Int) - 1))] [] (upC σ 16 E) := by
    intro p
    induction p with
    | zero =>
      intro E B h1 h2 h3 h4
      refine mi_iload h dX4_gather_19 (by rfl) ?_
      refine mi_if_lt (tgt := 96) h dX4_gather_21 (by decide) ⟨by omega, by omega⟩ (fun e21 => ?_) (fun e21 => ?_)
      · refine mi_return (x := 0) h hr dX4_gather_96 ?_
        rw [← h4]; rfl
      · exfalso; omega
    | succ p ih =>
      intro E B h1 h2 h3 h4
      have c1 := hN.2.1 p (by omega)
      obtain ⟨-, -, -, k1, -, k2⟩ := hP p (by omega)
      have k3 := fnw_rng k1 k2
      have k4 := bv_01 m p
      have k5 := hdV_rng (m := m) hP (p := p) (by omega)
      have k6 := EOk_at h2
      have k7 := h2.1 (σ 8 p + 1).toNat (by omega)
      have q1 : ad E (p + 1) (hdV m σ p) (p + 1) = E (p + 1) + hdV m σ p := by rw [ad_at, if_pos rfl]
      have tail : M K 60 [some (vr 2), some (vi s), some (vr dc), some (vi m), some (vi (p : Int))] [] (upC σ 16 (ad E (p + 1) (hdV m σ p))) := by
        refine mi_aload_n h dX4_gather_60 (by rfl) ?_
        refine gf_X4_1 h dX4_gather_61 fl_RX4_15 ?_
        refine mi_aload_n h dX4_gather_64 (by rfl) ?_
        refine gf_X4_0 h dX4_gather_65 fl_RX4_9 ?_
        refine gf_X1_5 h dX4_gather_68 fl_RX4_58 ?_
        refine mi_iload h dX4_gather_71 (by rfl) ?_
        refine mn_iaload (p) h dX4_gather_73 (by rfl) (by omega) (by omega) (by decide) ?_
        try simp only [up_app, upC_app, Nat.reduceEqDiff, reduceIte, Nat.add_eq_zero_iff, Nat.succ_ne_self, Nat.add_right_cancel_iff]
        refine mi_iconst h dX4_gather_74 ?_
        refine mi_iadd h dX4_gather_75 ?_
        refine mi_dup2 h dX4_gather_76 (fun _ => rfl) (fun _ => rfl) ?_
        refine mn_laload ((σ 8 p + 1).toNat) h dX4_gather_77 (by rfl) (by omega) (by omega) (by decide) ?_
        try simp only [up_app, upC_app, Nat.reduceEqDiff, reduceIte, Nat.add_eq_zero_iff, Nat.succ_ne_self, Nat.add_right_cancel_iff]
        refine mi_aload_n h dX4_gather_78 (by rfl) ?_
        refine mi_iload h dX4_gather_79 (by rfl) ?_
        refine mi_iconst h dX4_gather_81 ?_
        refine mi_iadd h dX4_gather_82 ?_
        refine mt_e (y := ((p + 1 : Nat) : Int)) (by omega) ?_
        refine mi_iload_n h dX4_gather_83 (by rfl) ?_
        refine mi_aload_n h dX4_gather_84 (by rfl) ?_
        refine mi_cV3l (hw := Nat.le_of_ble_eq_true rfl) h dX4_gather_85 ml_RX4_61 ym_yX4_conductOf (by rfl) (by rfl) (c_X4_conductOf (σ := upC σ 16 (ad E (p + 1) (hdV m σ p))) i4 (by omega) hdc hs (by rw [upC_ne σ 16 _ hd16]; exact hdr (p + 1) (by omega)) (by rw [upC_eq, q1]; omega)) (fun r85 σ85 hp85 => ?_)
        obtain ⟨rfl, hv85⟩ := hp85
        rw [upC_eq, upC_ne σ 16 _ hd16, q1] at hv85
        have hv85 : r85 = if bv (σ 1 10) p = 1 then 0 else cnd s (σ dc (p + 1)) (E (p + 1) + hdV m σ p) := by
          rw [hv85]
          by_cases hq : bv (σ 1 10) p = 1
          · rw [if_pos hq, if_pos ⟨by omega, hq⟩]
          · rw [if_neg hq, if_neg (fun z => hq z.2)]
        refine mi_ladd h dX4_gather_88 ?_
        refine mn_lastore ((σ 8 p + 1).toNat) h dX4_gather_89 (by rfl) (by omega) (by omega) (by decide) ?_
        rw [up_ad, hv85]
        refine mi_iinc h dX4_gather_90 (by rfl) ?_ (by decide)
        refine mi_goto (tgt := 19) h dX4_gather_93 (by decide) ?_
        exact ih (gst s (σ 8) (hdV m σ) (σ dc) (bv (σ 1 10)) p E) (B + 204800) (by omega) (gst_ok hN (by omega) h2 (by omega)) (by omega) h4
      refine mi_iload h dX4_gather_19 (by rfl) ?_
      refine mi_if_lt (tgt := 96) h dX4_gather_21 (by decide) ⟨by omega, by omega⟩ (fun e21 => ?_) (fun e21 => ?_)
      · exfalso; omega
      · rw [show ((p + 1 : Nat) : Int) - 1 = (p : Int) by omega]
        refine mi_iload_n h dX4_gather_24 (by rfl) ?_
        refine mi_iload h dX4_gather_25 (by rfl) ?_
        refine mi_cN2i (hw := Nat.le_of_ble_eq_true rfl) (host := "SprinklerHouse") h dX4_gather_27 (by decide) ym_yX5_bit (c_bit hm (by omega)) (fun r27 σ27 hp27 => ?_)
        obtain ⟨rfl, rfl⟩ := hp27
        refine mi_iconst h dX4_gather_30 ?_
        refine mi_icmp_ne (tgt := 60) h dX4_gather_31 (by decide) ⟨by omega, by omega⟩ ⟨by omega, by omega⟩ (fun e31 => ?_) (fun e31 => ?_)
        · first | (have hh : hdV m σ p = 0 := if_neg e31; have t9 := tail; rw [hh, ad_0] at t9; exact t9) | (have hh : hdV m σ p = 1024 * fnw (σ 13 p) (σ 15 p) := if_pos e31; rw [up_ad, ← hh]; exact tail)
        · refine mi_aload_n h dX4_gather_34 (by rfl) ?_
          refine gf_X4_1 h dX4_gather_35 fl_RX4_15 ?_
          refine mi_iload h dX4_gather_38 (by rfl) ?_
          refine mi_iconst h dX4_gather_40 ?_
          refine mi_iadd h dX4_gather_41 ?_
          refine mi_dup2 h dX4_gather_42 (fun _ => rfl) (fun _ => rfl) ?_
          refine mn_laload (p + 1) h dX4_gather_43 (by rfl) (by omega) (by omega) (by decide) ?_
          try simp only [up_app, upC_app, Nat.reduceEqDiff, reduceIte, Nat.add_eq_zero_iff, Nat.succ_ne_self, Nat.add_right_cancel_iff]
          refine mi_ldc2 (z := 1024) h dX4_gather_44 kc_RX4_52 rfl ?_
          refine mi_aload_n h dX4_gather_47 (by rfl) ?_
          refine gf_X4_0 h dX4_gather_48 fl_RX4_9 ?_
          refine mi_iload h dX4_gather_51 (by rfl) ?_
          refine mi_cV1i (hw := Nat.le_of_ble_eq_true rfl) h dX4_gather_53 ml_RX4_54 ym_yX1_factorNow (by rfl) (by rfl) (c_X1_factorNow (σ := upC σ 16 E) (by omega) k1 k2) (fun r53 σ53 hp53 => ?_)
          obtain ⟨rfl, hv53⟩ := hp53
          have hv53 : r53 = fnw (σ 13 p) (σ 15 p) := hv53
          subst hv53
          refine mi_i2l h dX4_gather_56 ⟨by omega, by omega⟩ ?_
          refine mi_lmul h dX4_gather_57 ?_
          refine mi_ladd h dX4_gather_58 ?_
          refine mn_lastore (p + 1) h dX4_gather_59 (by rfl) (by omega) (by omega) (by decide) ?_
          first | (have hh : hdV m σ p = 0 := if_neg e31; have t9 := tail; rw [hh, ad_0] at t9; exact t9) | (have hh : hdV m σ p = 1024 * fnw (σ 13 p) (σ 15 p) := if_pos e31; rw [up_ad, ← hh]; exact tail)
  refine mi_aload_n h dX4_gather_0 (by rfl) ?_
  refine gf_X4_1 h dX4_gather_1 fl_RX4_15 ?_
  refine mi_lconst0 h dX4_gather_4 ?_
  refine mi_cS2v (hw := Nat.le_of_ble_eq_true rfl) h dX4_gather_5 ml_RX4_39 ym_yJ7_fill_d0a16 (c_J7_fill_d0a16 (c := 16) (n := 25) rfl (by decide)) (fun r5 σ5 hp5 => ?_)
  subst hp5
  refine mi_aload_n h dX4_gather_8 (by rfl) ?_
  refine gf_X4_0 h dX4_gather_9 fl_RX4_9 ?_
  refine gf_X1_4 h dX4_gather_12 fl_RX4_45 ?_
  try simp only [up_app, upC_app, Nat.reduceEqDiff, reduceIte, Nat.add_eq_zero_iff, Nat.succ_ne_self, Nat.add_right_cancel_iff]
  refine mt_e (y := (((σ 1 4).toNat : Nat) : Int)) (by omega) ?_
  refine mi_iconst h dX4_gather_15 ?_
  refine mi_isub h dX4_gather_16 ?_
  refine mi_istore h dX4_gather_17 (by decide) ?_
  exact loop (σ 1 4).toNat _ 0 (by omega) (EOk_0 (fun e9 he9 => by unfold flF; rw [if_pos (by omega)])) (by omega) rfl
theorem up_st0 (σ : Mem) (c k : Nat) (x : Int) : up σ c k x = upC σ c (st (σ c) k x) := by
  funext c' j
  by_cases hc : c' = c
  · subst hc
    simp only [up_app, upC_app, if_true, st]
  · simp only [up_app, upC_app, if_neg hc]
set_option maxHeartbeats 4000000 in
set_option maxRecDepth 100000 in
theorem c_X4_fall {σ : Mem} {dc : Nat} {s q : Int} (hS0 : IS σ) (hP : IP σ) (hQ : IQ σ) (hdc : lay[dc]? = some (.inr (0, 25))) (hs : s = 0 ∨ s = 1) (hq : 1 ≤ q ∧ q ≤ 100000) (hdr : ∀ e, e < 25 → 0 ≤ σ dc e ∧ σ dc e ≤ 4000) (hG : ∀ e : Nat, (e : Int) ≤ σ 1 4 → 0 ≤ σ 16 e ∧ σ 16 e ≤ 4915200) (hd17 : dc ≠ 17) : Sp1 yX4_fall cX4_fall 5 none 0 3 [vr 2, vi s, vr dc, vi q] σ (fun r σ' => upC σ 17 (prs s (σ 8) (σ dc) (bv (σ 1 10)) (σ 16) (1024 * q) (σ 1 4).toNat (σ 17)) = σ') := by
  refine Sp1_in RX4 rfl (by decide +kernel) (Nat.le_of_ble_eq_true rfl) [some (vr 2), some (vi s), some (vr dc), some (vi q), none] rfl ?_
  intro K h hr
  obtain ⟨i1, i2, i3, i4, i5, i6, i7, i8⟩ := id hS0
  have hf : ∀ p, p < (σ 1 4).toNat → -1 ≤ σ 8 p ∧ σ 8 p < p := fun p hp => ⟨(hP p (by omega)).1.1, (hQ p (by omega)).1⟩
  have loop : ∀ (j k : Nat), (k : Int) + j = σ 1 4 → M K 22 [some (vr 2), some (vi s), some (vr dc), some (vi q), some (vi (k : Int))] [] (upC σ 17 (prs s (σ 8) (σ dc) (bv (σ 1 10)) (σ 16) (1024 * q) k (σ 17))) := by
    intro j
    induction j with
    | zero =>
      intro k hk
      refine mi_iload h dX4_fall_22 (by rfl) ?_
      refine mi_aload_n h dX4_fall_24 (by rfl) ?_
      refine gf_X4_0 h dX4_fall_25 fl_RX4_9 ?_
      refine gf_X1_4 h dX4_fall_28 fl_RX4_45 ?_
      try simp only [up_app, upC_app, Nat.reduceEqDiff, reduceIte, Nat.add_eq_zero_iff, Nat.succ_ne_self, Nat.add_right_cancel_iff]
      refine mi_icmp_ge (tgt := 76) h dX4_fall_31 (by decide) ⟨by omega, by omega⟩ ⟨by omega, by omega⟩ (fun e31 => ?_) (fun e31 => ?_)
      · refine mi_return (x := 0) h hr dX4_fall_76 ?_
        rw [show (σ 1 4).toNat = k by omega]
      · exfalso; omega
    | succ j ih =>
      intro k hk
      have c1 := hf k (by omega)
      have c2 := prs_rng (n := (σ 1 4).toNat) (s := s) (cl := bv (σ 1 10)) (G := σ 16) (P0 := 1024 * q) (by omega) hf hdr (fun e he => hG e (by omega)) (by omega) (σ 17) k (by omega) (σ 8 k + 1).toNat (by omega)
      refine mi_iload h dX4_fall_22 (by rfl) ?_
      refine mi_aload_n h dX4_fall_24 (by rfl) ?_
      refine gf_X4_0 h dX4_fall_25 fl_RX4_9 ?_
      refine gf_X1_4 h dX4_fall_28 fl_RX4_45 ?_
      try simp only [up_app, upC_app, Nat.reduceEqDiff, reduceIte, Nat.add_eq_zero_iff, Nat.succ_ne_self, Nat.add_right_cancel_iff]
      refine mi_icmp_ge (tgt := 76) h dX4_fall_31 (by decide) ⟨by omega, by omega⟩ ⟨by omega, by omega⟩ (fun e31 => ?_) (fun e31 => ?_)
      · exfalso; omega
      · refine mi_aload_n h dX4_fall_34 (by rfl) ?_
        refine gf_X4_2 h dX4_fall_35 fl_RX4_19 ?_
        refine mi_iload h dX4_fall_38 (by rfl) ?_
        refine mi_iconst h dX4_fall_40 ?_
        refine mi_iadd h dX4_fall_41 ?_
        refine mi_aload_n h dX4_fall_42 (by rfl) ?_
        refine mi_aload_n h dX4_fall_43 (by rfl) ?_
        refine gf_X4_2 h dX4_fall_44 fl_RX4_19 ?_
        refine mi_aload_n h dX4_fall_47 (by rfl) ?_
        refine gf_X4_0 h dX4_fall_48 fl_RX4_9 ?_
        refine gf_X1_5 h dX4_fall_51 fl_RX4_58 ?_
        refine mi_iload h dX4_fall_54 (by rfl) ?_
        refine mn_iaload (k) h dX4_fall_56 (by rfl) (by omega) (by omega) (by decide) ?_
        try simp only [up_app, upC_app, Nat.reduceEqDiff, reduceIte, Nat.add_eq_zero_iff, Nat.succ_ne_self, Nat.add_right_cancel_iff]
        refine mi_iconst h dX4_fall_57 ?_
        refine mi_iadd h dX4_fall_58 ?_
        refine mn_laload ((σ 8 k + 1).toNat) h dX4_fall_59 (by rfl) (by omega) (by omega) (by decide) ?_
        try simp only [up_app, upC_app, Nat.reduceEqDiff, reduceIte, Nat.add_eq_zero_iff, Nat.succ_ne_self, Nat.add_right_cancel_iff]
        refine mi_iload h dX4_fall_60 (by rfl) ?_
        refine mi_iconst h dX4_fall_62 ?_
        refine mi_iadd h dX4_fall_63 ?_
        refine mt_e (y := ((k + 1 : Nat) : Int)) (by omega) ?_
        refine mi_iload_n h dX4_fall_64 (by rfl) ?_
        refine mi_aload_n h dX4_fall_65 (by rfl) ?_
        refine mi_cV4l (hw := Nat.le_of_ble_eq_true rfl) h dX4_fall_66 ml_RX4_81 ym_yX4_fallen (by rfl) (by rfl) (c_X4_fallen (σ := upC σ 17 (prs s (σ 8) (σ dc) (bv (σ 1 10)) (σ 16) (1024 * q) k (σ 17))) i4 (by omega) hdc hs (by rw [upC_ne σ 17 _ hd17]; exact hdr (k + 1) (by omega)) (hG (k + 1) (by omega)) ⟨by omega, by omega⟩) (fun r66 σ66 hp66 => ?_)
        obtain ⟨rfl, hv66⟩ := hp66
        rw [upC_ne σ 17 _ hd17] at hv66
        have hv66 : r66 = if bv (σ 1 10) k = 1 then 0 else fln s (σ dc (k + 1)) (σ 16 (k + 1)) (prs s (σ 8) (σ dc) (bv (σ 1 10)) (σ 16) (1024 * q) k (σ 17) (σ 8 k + 1).toNat) := by
          rw [hv66]
          by_cases hq9 : bv (σ 1 10) k = 1
          · rw [if_pos hq9, if_pos ⟨by omega, hq9⟩]
          · rw [if_neg hq9, if_neg (fun z => hq9 z.2)]
            rfl
        refine mn_lastore (k + 1) h dX4_fall_69 (by rfl) (by omega) (by omega) (by decide) ?_
        rw [up_st, hv66]
        refine mi_iinc h dX4_fall_70 (by rfl) ?_ (by decide)
        refine mi_goto (tgt := 22) h dX4_fall_73 (by decide) ?_
        exact ih (k + 1) (by omega)
  refine mi_aload_n h dX4_fall_0 (by rfl) ?_
  refine gf_X4_2 h dX4_fall_1 fl_RX4_19 ?_
  refine mi_iconst h dX4_fall_4 ?_
  refine mi_aload_n h dX4_fall_5 (by rfl) ?_
  refine mi_ldc2 (z := 1024) h dX4_fall_6 kc_RX4_52 rfl ?_
  refine mi_iload_n h dX4_fall_9 (by rfl) ?_
  refine mi_i2l h dX4_fall_10 ⟨by omega, by omega⟩ ?_
  refine mi_lmul h dX4_fall_11 ?_
  refine mi_iconst h dX4_fall_12 ?_
  refine mi_iload_n h dX4_fall_13 (by rfl) ?_
  refine mi_aload_n h dX4_fall_14 (by rfl) ?_
  refine mi_cV4l (hw := Nat.le_of_ble_eq_true rfl) h dX4_fall_15 ml_RX4_81 ym_yX4_fallen (by rfl) (by rfl) (c_X4_fallen (e := 0) i4 (by omega) hdc hs (hdr 0 (by omega)) (hG 0 (by omega)) ⟨by omega, by omega⟩) (fun r15 σ15 hp15 => ?_)
  obtain ⟨rfl, hv15⟩ := hp15
  rw [if_neg (by omega)] at hv15
  refine mn_lastore (0) h dX4_fall_18 (by rfl) (by omega) (by omega) (by decide) ?_
  rw [up_st0, hv15]
  refine mi_iconst h dX4_fall_19 ?_
  refine mi_istore h dX4_fall_20 (by decide) ?_
  exact loop (σ 1 4).toNat 0 (by omega)
set_option maxHeartbeats 4000000 in
set_option maxRecDepth 100000 in
theorem c_X4_holdPressures {σ : Mem} {s m : Int} (hS0 : IS σ) (hP : IP σ) (hE : IE σ) (hQ : IQ σ) (hs : s = 0 ∨ s = 1) (hm : 0 ≤ m ∧ m < 16777216) : Sp1 yX4_holdPressures cX4_holdPressures 3 none 0 5 [vr 2, vi s, vi m] σ (fun r σ' => ∃ G P, upC (upC σ 16 G) 17 P = σ' ∧ (∀ e : Nat, (e : Int) ≤ σ 1 4 → G e = Gv (1 - s) (σ 1 4).toNat (σ 8) (hdV m σ) (σ 12) (bv (σ 1 10)) e) ∧ (∀ e : Nat, (e : Int) ≤ σ 1 4 → P e = Pv s (σ 1 4).toNat (σ 8) (hdV m σ) (σ 12) (bv (σ 1 10)) (1024 * σ 1 0) e)) := by
  refine Sp1_in RX4 rfl (by decide +kernel) (Nat.le_of_ble_eq_true rfl) [some (vr 2), some (vi s), some (vi m)] rfl ?_
  intro K h hr
  obtain ⟨i1, i2, i3, i4, i5, i6, i7, i8⟩ := id hS0
  have hdr : ∀ e, e < 25 → 0 ≤ σ 12 e ∧ σ 12 e ≤ 4000 := fun e he => (hE e he).2
  have hN := netok (m := m) hS0 hP hQ hdr
  have hG : ∀ e : Nat, (e : Int) ≤ σ 1 4 → gath (1 - s) (σ 8) (hdV m σ) (σ 12) (bv (σ 1 10)) (σ 1 4).toNat (flF (σ 16) 0 25) e = Gv (1 - s) (σ 1 4).toNat (σ 8) (hdV m σ) (σ 12) (bv (σ 1 10)) e := fun e he =>
    gath_cong _ 24 _ _ (fun q hq => (hN.2.1 q hq).2) hN.1 (fun k hk => by unfold flF; rw [if_pos (by omega)]) e (by omega)
  refine mi_aload_n h dX4_holdPressures_0 (by rfl) ?_
  refine mi_iconst h dX4_holdPressures_1 ?_
  refine mi_iload_n h dX4_holdPressures_2 (by rfl) ?_
  refine mi_isub h dX4_holdPressures_3 ?_
  refine mi_aload_n h dX4_holdPressures_4 (by rfl) ?_
  refine gf_X4_0 h dX4_holdPressures_5 fl_RX4_9 ?_
  refine gf_X1_9 h dX4_holdPressures_8 fl_RX4_22 ?_
  refine mi_iload_n h dX4_holdPressures_11 (by rfl) ?_
  refine mi_cV3v (hw := Nat.le_of_ble_eq_true rfl) h dX4_holdPressures_12 ml_RX4_28 ym_yX4_gather (by rfl) (by rfl) (c_X4_gather (dc := 12) hS0 hP hQ rfl (by omega) hm hdr (by decide)) (fun r12 σ12 hp12 => ?_)
  subst hp12
  refine mi_aload_n h dX4_holdPressures_15 (by rfl) ?_
  refine mi_iload_n h dX4_holdPressures_16 (by rfl) ?_
  refine mi_aload_n h dX4_holdPressures_17 (by rfl) ?_
  refine gf_X4_0 h dX4_holdPressures_18 fl_RX4_9 ?_
  refine gf_X1_9 h dX4_holdPressures_21 fl_RX4_22 ?_
  refine mi_aload_n h dX4_holdPressures_24 (by rfl) ?_
  refine gf_X4_0 h dX4_holdPressures_25 fl_RX4_9 ?_
  refine gf_X1_0 h dX4_holdPressures_28 fl_RX4_32 ?_
  try simp only [up_app, upC_app, Nat.reduceEqDiff, reduceIte, Nat.add_eq_zero_iff, Nat.succ_ne_self, Nat.add_right_cancel_iff]
  refine mi_cV3v (hw := Nat.le_of_ble_eq_true rfl) h dX4_holdPressures_31 ml_RX4_36 ym_yX4_fall (by rfl) (by rfl) (c_X4_fall (σ := upC σ 16 (gath (1 - s) (σ 8) (hdV m σ) (σ 12) (bv (σ 1 10)) (σ 1 4).toNat (flF (σ 16) 0 25))) (dc := 12) hS0 hP hQ rfl hs i1 hdr (fun e he => by rw [upC_eq, hG e he]; exact Gv_rng hN (by have : (e : Int) ≤ σ 1 4 := he; omega)) (by decide)) (fun r31 σ31 hp31 => ?_)
  subst hp31
  refine mi_return (x := 0) h hr dX4_holdPressures_34 ?_
  refine ⟨_, _, rfl, hG, fun e he => ?_⟩
  exact prs_cong (n := (σ 1 4).toNat) hN.2.1 (fun k hk => by rw [upC_eq]; exact hG k (by omega)) _ _ _ (Nat.le_refl _) e (by omega)
set_option maxHeartbeats 4000000 in
set_option maxRecDepth 100000 in
theorem c_X4_flowOf {σ : Mem} {p : Nat} {s : Int} (hp : p < 24) (hs : s = 0 ∨ s = 1) (hf : 0 ≤ σ 13 p ∧ σ 13 p ≤ 200) (hc : 0 ≤ σ 15 p ∧ σ 15 p ≤ 100) (hq : 0 ≤ σ 17 (p + 1) ∧ σ 17 (p + 1) ≤ 102400000) : Sp1 yX4_flowOf cX4_flowOf 3 (some .long) 2 3 [vr 2, vi (p : Int), vi s] σ (fun r σ' => σ = σ' ∧ r = fl s (fnw (σ 13 p) (σ 15 p)) (σ 17 (p + 1))) := by
  refine Sp1_in RX4 rfl (by decide +kernel) (Nat.le_of_ble_eq_true rfl) [some (vr 2), some (vi (p : Int)), some (vi s)] rfl ?_
  intro K h hr
  have h9 := fnw_rng hf hc
  refine mi_aload_n h dX4_flowOf_0 (by rfl) ?_
  refine gf_X4_0 h dX4_flowOf_1 fl_RX4_9 ?_
  refine mi_iload_n h dX4_flowOf_4 (by rfl) ?_
  refine mi_cV1i (hw := Nat.le_of_ble_eq_true rfl) h dX4_flowOf_5 ml_RX4_54 ym_yX1_factorNow (by rfl) (by rfl) (c_X1_factorNow hp hf hc) (fun r5 σ5 hp5 => ?_)
  obtain ⟨rfl, rfl⟩ := hp5
  refine mi_i2l h dX4_flowOf_8 ⟨by omega, by omega⟩ ?_
  refine mi_aload_n h dX4_flowOf_9 (by rfl) ?_
  refine gf_X4_2 h dX4_flowOf_10 fl_RX4_19 ?_
  refine mi_iload_n h dX4_flowOf_13 (by rfl) ?_
  refine mi_iconst h dX4_flowOf_14 ?_
  refine mi_iadd h dX4_flowOf_15 ?_
  refine mn_laload (p + 1) h dX4_flowOf_16 (by rfl) (by omega) (by omega) (by decide) ?_
  refine mi_ldc2 (z := 1024) h dX4_flowOf_17 kc_RX4_52 rfl ?_
  refine mi_lmul h dX4_flowOf_20 ?_
  refine mi_iload_n h dX4_flowOf_21 (by rfl) ?_
  refine mi_iconst h dX4_flowOf_22 ?_
  refine mi_icmp_ne (tgt := 30) h dX4_flowOf_23 (by decide) ⟨by omega, by omega⟩ ⟨by omega, by omega⟩ (fun e23 => ?_) (fun e23 => ?_)
  · refine mi_iconst h dX4_flowOf_30 ?_
    refine mi_cS2l (hw := Nat.le_of_ble_eq_true rfl) h dX4_flowOf_31 ml_RX4_71 ym_yX3_root (c_X3_root ⟨by omega, by omega⟩ (by omega)) (fun r31 σ31 hp31 => ?_)
    obtain ⟨rfl, hv31⟩ := hp31
    refine mi_lmul h dX4_flowOf_34 ?_
    refine mi_lreturn h hr dX4_flowOf_35 ?_
    refine ⟨rfl, ?_⟩
    rw [hv31]
    unfold fl
    first | (rw [if_neg (by omega), if_neg (by omega)]; done) | (rw [if_pos (by omega), if_pos (by omega)]; done)
  · refine mi_iconst h dX4_flowOf_26 ?_
    refine mi_goto (tgt := 31) h dX4_flowOf_27 (by decide) ?_
    refine mi_cS2l (hw := Nat.le_of_ble_eq_true rfl) h dX4_flowOf_31 ml_RX4_71 ym_yX3_root (c_X3_root ⟨by omega, by omega⟩ (by omega)) (fun r31 σ31 hp31 => ?_)
    obtain ⟨rfl, hv31⟩ := hp31
    refine mi_lmul h dX4_flowOf_34 ?_
    refine mi_lreturn h hr dX4_flowOf_35 ?_
    refine ⟨rfl, ?_⟩
    rw [hv31]
    unfold fl
    first | (rw [if_neg (by omega), if_neg (by omega)]; done) | (rw [if_pos (by omega), if_pos (by omega)]; done)
def spV (σ : Mem) (p : Nat) : Int := fl 0 (fnw (σ 13 p) (σ 15 p)) (σ 17 (p + 1)) - 1024 * σ 14 p
set_option maxHeartbeats 4000000 in
set_option maxRecDepth 100000 in
theorem c_X4_spareOf {σ : Mem} {p : Nat} (hP : IP σ) (hp : p < 24) (hq : 0 ≤ σ 17 (p + 1) ∧ σ 17 (p + 1) ≤ 102400000) : Sp1 yX4_spareOf cX4_spareOf 2 (some .long) 2 4 [vr 2, vi (p : Int)] σ (fun r σ' => σ = σ' ∧ r = spV σ p) := by
  refine Sp1_in RX4 rfl (by decide +kernel) (Nat.le_of_ble_eq_true rfl) [some (vr 2), some (vi (p : Int))] rfl ?_
  intro K h hr
  obtain ⟨-, -, -, k1, k3, k2⟩ := hP p hp
  refine mi_aload_n h dX4_spareOf_0 (by rfl) ?_
  refine mi_iload_n h dX4_spareOf_1 (by rfl) ?_
  refine mi_iconst h dX4_spareOf_2 ?_
  refine mi_cV2l (hw := Nat.le_of_ble_eq_true rfl) h dX4_spareOf_3 ml_RX4_92 ym_yX4_flowOf (by rfl) (by rfl) (c_X4_flowOf hp (by omega) k1 k2 hq) (fun r3 σ3 hp3 => ?_)
  obtain ⟨rfl, rfl⟩ := hp3
  refine mi_ldc2 (z := 1024) h dX4_spareOf_6 kc_RX4_52 rfl ?_
  refine mi_aload_n h dX4_spareOf_9 (by rfl) ?_
  refine gf_X4_0 h dX4_spareOf_10 fl_RX4_9 ?_
  refine gf_X1_15 h dX4_spareOf_13 fl_RX4_96 ?_
  refine mi_iload_n h dX4_spareOf_16 (by rfl) ?_
  refine mn_iaload (p) h dX4_spareOf_17 (by rfl) (by omega) (by omega) (by decide) ?_
  refine mi_i2l h dX4_spareOf_18 ⟨by omega, by omega⟩ ?_
  refine mi_lmul h dX4_spareOf_19 ?_
  refine mi_lsub h dX4_spareOf_20 ?_
  refine mi_lreturn h hr dX4_spareOf_21 ?_
  exact ⟨rfl, rfl⟩
theorem spV_rng {σ : Mem} {p : Nat} (hP : IP σ) (hp : p < 24) (hq : 0 ≤ σ 17 (p + 1) ∧ σ 17 (p + 1) ≤ 102400000) : -30720000 ≤ spV σ p ∧ spV σ p ≤ 64800000 := by
  obtain ⟨-, -, -, k1, k3, k2⟩ := hP p hp
  have h1 := fnw_rng k1 k2
  have h2 := fl_rng (s := 0) ⟨h1.2.2.1, h1.2.2.2⟩ hq
  unfold spV
  omega
theorem bv_some {b : Int} (hb : 0 ≤ b ∧ b < 16777216) (h : b ≠ 0) : ∃ p, p < 24 ∧ bv b p = 1 := by
  obtain ⟨i, hi⟩ := Nat.exists_testBit_of_ne_zero (x := b.toNat) (by omega)
  refine ⟨i, ?_, by rw [bv_tb]; unfold tb; rw [if_pos hi]⟩
  rcases Nat.lt_or_ge i 24 with q | q
  · exact q
  · have := bv_big hb q
    rw [bv_tb] at this
    unfold tb at this
    rw [if_pos hi] at this
    omega
def lsF (o : Option Int) : Int := o.getD 2000000000
set_option maxHeartbeats 4000000 in
set_option maxRecDepth 100000 in
theorem c_X4_leastSpare {σ : Mem} {m : Int} (hS0 : IS σ) (hP : IP σ) (hm : 0 ≤ m ∧ m < 16777216) (hb : ∀ p : Nat, bv m p = 1 → (p : Int) < σ 1 4) (hq : ∀ p : Nat, (p : Int) < σ 1 4 → 0 ≤ σ 17 (p + 1) ∧ σ 17 (p + 1) ≤ 102400000) : Sp1 yX4_leastSpare cX4_leastSpare 5 (some .long) 2 5 [vr 2, vi m] σ (fun r σ' => σ = σ' ∧ r = lsV (bv m) (spV σ) (σ 1 4).toNat) := by
  refine Sp1_in RX4 rfl (by decide +kernel) (Nat.le_of_ble_eq_true rfl) [some (vr 2), some (vi m), none, none, none] rfl ?_
  intro K h hr
  obtain ⟨i1, i2, i3, i4, i5, i6, i7, i8⟩ := id hS0
  have hlt : ∀ k : Nat, (k : Int) ≤ σ 1 4 → -30720000 ≤ lsF (lsO (bv m) (spV σ) k) ∧ lsF (lsO (bv m) (spV σ) k) ≤ 2000000000 := by
    intro k
    induction k with
    | zero => intro _; show (-30720000 : Int) ≤ 2000000000 ∧ (2000000000 : Int) ≤ 2000000000; decide
    | succ k ih =>
      intro hk
      have h1 := ih (by omega)
      have h2 := spV_rng hP (p := k) (by omega) (hq k (by omega))
      rw [lsO]
      by_cases q : bv m k = 1
      · rw [if_pos q]
        cases h3 : lsO (bv m) (spV σ) k with
        | none => show -30720000 ≤ spV σ k ∧ spV σ k ≤ 2000000000; omega
        | some l => rw [h3] at h1; have h1 : -30720000 ≤ l ∧ l ≤ 2000000000 := h1; show -30720000 ≤ min l (spV σ k) ∧ min l (spV σ k) ≤ 2000000000; omega
      · rw [if_neg q]; exact h1
  have loop : ∀ (j k : Nat), (k : Int) + j = σ 1 4 → m ≠ 0 → M K 13 [some (vr 2), some (vi m), some (vl (lsF (lsO (bv m) (spV σ) k))), none, some (vi (k : Int))] [] σ := by
    intro j
    induction j with
    | zero =>
      intro k hk h0
      have hk2 : (σ 1 4).toNat = k := by omega
      refine mi_iload h dX4_leastSpare_13 (by rfl) ?_
      refine mi_aload_n h dX4_leastSpare_15 (by rfl) ?_
      refine gf_X4_0 h dX4_leastSpare_16 fl_RX4_9 ?_
      refine gf_X1_4 h dX4_leastSpare_19 fl_RX4_45 ?_
      refine mi_icmp_ge (tgt := 52) h dX4_leastSpare_22 (by decide) ⟨by omega, by omega⟩ ⟨by omega, by omega⟩ (fun e22 => ?_) (fun e22 => ?_)
      · refine mi_lload_n h dX4_leastSpare_52 (by rfl) ?_
        refine mi_lreturn h hr dX4_leastSpare_53 ?_
        refine ⟨rfl, ?_⟩
        rw [hk2]
        unfold lsV lsF
        cases h3 : lsO (bv m) (spV σ) k with
        | none =>
          obtain ⟨p9, q1, q2⟩ := bv_some hm h0
          exact absurd q2 (lsO_none.mp h3 p9 (by have := hb p9 q2; omega))
        | some l9 => rfl
      · exfalso; omega
    | succ j ih =>
      intro k hk h0
      have k1 := bv_01 m k
      have k2 := hlt k (by omega)
      have k3 := spV_rng hP (p := k) (by omega) (hq k (by omega))
      have s1 : bv m k = 1 → min (lsF (lsO (bv m) (spV σ) k)) (spV σ k) = lsF (lsO (bv m) (spV σ) (k + 1)) := fun q => by
        rw [lsO, if_pos q]
        cases h3 : lsO (bv m) (spV σ) k with
        | none => show min 2000000000 (spV σ k) = spV σ k; omega
        | some l => rfl
      have s2 : ¬ bv m k = 1 → lsF (lsO (bv m) (spV σ) k) = lsF (lsO (bv m) (spV σ) (k + 1)) := fun q => by rw [lsO, if_neg q]
      refine mi_iload h dX4_leastSpare_13 (by rfl) ?_
      refine mi_aload_n h dX4_leastSpare_15 (by rfl) ?_
      refine gf_X4_0 h dX4_leastSpare_16 fl_RX4_9 ?_
      refine gf_X1_4 h dX4_leastSpare_19 fl_RX4_45 ?_
      refine mi_icmp_ge (tgt := 52) h dX4_leastSpare_22 (by decide) ⟨by omega, by omega⟩ ⟨by omega, by omega⟩ (fun e22 => ?_) (fun e22 => ?_)
      · exfalso; omega
      · refine mi_iload_n h dX4_leastSpare_25 (by rfl) ?_
        refine mi_iload h dX4_leastSpare_26 (by rfl) ?_
        refine mi_cN2i (hw := Nat.le_of_ble_eq_true rfl) (host := "SprinklerHouse") h dX4_leastSpare_28 (by decide) ym_yX5_bit (c_bit hm (by omega)) (fun r28 σ28 hp28 => ?_)
        obtain ⟨rfl, rfl⟩ := hp28
        refine mi_iconst h dX4_leastSpare_31 ?_
        refine mi_icmp_ne (tgt := 46) h dX4_leastSpare_32 (by decide) ⟨by omega, by omega⟩ ⟨by omega, by omega⟩ (fun e32 => ?_) (fun e32 => ?_)
        · refine mi_iinc h dX4_leastSpare_46 (by rfl) ?_ (by decide)
          refine mi_goto (tgt := 13) h dX4_leastSpare_49 (by decide) ?_
          have h9 := ih (k + 1) (by omega) h0
          first | (rw [← s2 e32] at h9; exact h9) | (rw [← s1 e32] at h9; exact h9)
        · refine mi_lload_n h dX4_leastSpare_35 (by rfl) ?_
          refine mi_aload_n h dX4_leastSpare_36 (by rfl) ?_
          refine mi_iload h dX4_leastSpare_37 (by rfl) ?_
          refine mi_cV1l (hw := Nat.le_of_ble_eq_true rfl) h dX4_leastSpare_39 ml_RX4_101 ym_yX4_spareOf (by rfl) (by rfl) (c_X4_spareOf hP (by omega) (hq k (by omega))) (fun r39 σ39 hp39 => ?_)
          obtain ⟨rfl, rfl⟩ := hp39
          refine mi_cS2l (hw := Nat.le_of_ble_eq_true rfl) h dX4_leastSpare_42 ml_RX4_105 ym_yJ9_min_f86c9 (c_J9_min_f86c9 ⟨by omega, by omega⟩ ⟨by omega, by omega⟩) (fun r42 σ42 hp42 => ?_)
          obtain ⟨rfl, rfl⟩ := hp42
          refine mi_lstore_n h dX4_leastSpare_45 (by decide) ?_
          refine mi_iinc h dX4_leastSpare_46 (by rfl) ?_ (by decide)
          refine mi_goto (tgt := 13) h dX4_leastSpare_49 (by decide) ?_
          have h9 := ih (k + 1) (by omega) h0
          first | (rw [← s2 e32] at h9; exact h9) | (rw [← s1 e32] at h9; exact h9)
  have hz : m = 0 → lsV (bv m) (spV σ) (σ 1 4).toNat = 0 := fun q => by
    unfold lsV
    rw [lsO_none.mpr (fun k _ => by rw [q, bv_0]; omega)]
    rfl
  refine mi_iload_n h dX4_leastSpare_0 (by rfl) ?_
  refine mi_if_ne (tgt := 6) h dX4_leastSpare_1 (by decide) ⟨by omega, by omega⟩ (fun e1 => ?_) (fun e1 => ?_)
  · refine mi_ldc2 (z := 2000000000) h dX4_leastSpare_6 kc_RX4_99 rfl ?_
    refine mi_lstore_n h dX4_leastSpare_9 (by decide) ?_
    refine mi_iconst h dX4_leastSpare_10 ?_
    refine mi_istore h dX4_leastSpare_11 (by decide) ?_
    exact loop (σ 1 4).toNat 0 (by omega) e1
  · refine mi_lconst0 h dX4_leastSpare_4 ?_
    refine mi_lreturn h hr dX4_leastSpare_5 ?_
    exact ⟨rfl, (hz (by omega)).symm⟩
