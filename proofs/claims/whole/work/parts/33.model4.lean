def opM (σ : Mem) (p : Nat) : Int := if σ 37 p = 1 then σ 40 p else 0
def ceM (σ : Mem) (k : Nat) : Int := if ((k : Int) / 16 < σ 28 29 ∧ (k : Int) % 16 < σ 28 30) ∧ σ 53 k = 0 then 1 else 0
set_option maxHeartbeats 4000000 in
set_option maxRecDepth 100000 in
theorem c_X6_told {σ : Mem} {w : Int} (hJ : JS σ) (hB : JB σ) (hF : JF σ) (hw : R32 w) : Sp1 yX6_told cX6_told 7 (some .int) 1 2 [vr 28, vi w] σ (fun r σ' => σ = σ' ∧ (w < 0 ∨ 9 < w → r = -2) ∧ (w = 0 → r = σ 28 4) ∧ (w = 1 → r = σ 28 11) ∧ (w = 2 → r = sm (σ 37) (σ 28 11).toNat) ∧ (w = 3 → r = sm (opM σ) (σ 28 11).toNat) ∧ (w = 4 → r = σ 28 25) ∧ (w = 5 → r = sm (σ 36) (σ 28 11).toNat) ∧ (w = 6 → r = sm (σ 54) (σ 28 11).toNat) ∧ (w = 7 → r = sm (ceM σ) 256) ∧ (w = 8 → r = σ 28 29) ∧ (w = 9 → r = σ 28 30)) := by
  refine Sp1_in RX6 rfl (by decide +kernel) (Nat.le_of_ble_eq_true rfl) [some (vr 28), some (vi w), none, none, none, none, none] rfl ?_
  intro K h hr
  obtain ⟨j1, j2, j3, j4, j5, j6, j7⟩ := id hJ
  have fin : M K 141 [some (vr 28), some (vi w), some (vi (sm (σ 37) (σ 28 11).toNat)), some (vi (sm (opM σ) (σ 28 11).toNat)), some (vi (sm (σ 54) (σ 28 11).toNat)), some (vi (sm (ceM σ) 256)), some (vi 256)] [] σ := by
    refine mi_iload_n h dX6_told_141 (by rfl) ?_
    rcases (show (w < 0 ∨ 9 < w) ∨ w = 0 ∨ w = 1 ∨ w = 2 ∨ w = 3 ∨ w = 4 ∨ w = 5 ∨ w = 6 ∨ w = 7 ∨ w = 8 ∨ w = 9 by omega) with e142 | e142 | e142 | e142 | e142 | e142 | e142 | e142 | e142 | e142 | e142
    · refine mi_tabOut (tgt := 236) h dX6_told_142 ⟨by omega, by omega⟩ e142 (by decide) ?_
      refine mi_bipush h dX6_told_236 (by decide) ?_
      refine mi_ireturn h hr dX6_told_238 ?_
      refine ⟨rfl, fun z => ?_, fun z => ?_, fun z => ?_, fun z => ?_, fun z => ?_, fun z => ?_, fun z => ?_, fun z => ?_, fun z => ?_, fun z => ?_, fun z => ?_⟩ <;> first | rfl | (exfalso; omega)
    · subst e142
      refine mi_tabIn (tgt := 196) h dX6_told_142 (by decide) (by decide) (by decide) (off := 54) (by decide) (by decide) ?_
      refine mi_aload_n h dX6_told_196 (by rfl) ?_
      refine gf_X6_4 h dX6_told_197 fl_RX6_131 ?_
      refine mi_ireturn h hr dX6_told_200 ?_
      refine ⟨rfl, fun z => ?_, fun z => ?_, fun z => ?_, fun z => ?_, fun z => ?_, fun z => ?_, fun z => ?_, fun z => ?_, fun z => ?_, fun z => ?_, fun z => ?_⟩ <;> first | rfl | (exfalso; omega)
    · subst e142
      refine mi_tabIn (tgt := 201) h dX6_told_142 (by decide) (by decide) (by decide) (off := 59) (by decide) (by decide) ?_
      refine mi_aload_n h dX6_told_201 (by rfl) ?_
      refine gf_X6_11 h dX6_told_202 fl_RX6_109 ?_
      refine mi_ireturn h hr dX6_told_205 ?_
      refine ⟨rfl, fun z => ?_, fun z => ?_, fun z => ?_, fun z => ?_, fun z => ?_, fun z => ?_, fun z => ?_, fun z => ?_, fun z => ?_, fun z => ?_, fun z => ?_⟩ <;> first | rfl | (exfalso; omega)
    · subst e142
      refine mi_tabIn (tgt := 206) h dX6_told_142 (by decide) (by decide) (by decide) (off := 64) (by decide) (by decide) ?_
      refine mi_iload_n h dX6_told_206 (by rfl) ?_
      refine mi_ireturn h hr dX6_told_207 ?_
      refine ⟨rfl, fun z => ?_, fun z => ?_, fun z => ?_, fun z => ?_, fun z => ?_, fun z => ?_, fun z => ?_, fun z => ?_, fun z => ?_, fun z => ?_, fun z => ?_⟩ <;> first | rfl | (exfalso; omega)
    · subst e142
      refine mi_tabIn (tgt := 208) h dX6_told_142 (by decide) (by decide) (by decide) (off := 66) (by decide) (by decide) ?_
      refine mi_iload_n h dX6_told_208 (by rfl) ?_
      refine mi_ireturn h hr dX6_told_209 ?_
      refine ⟨rfl, fun z => ?_, fun z => ?_, fun z => ?_, fun z => ?_, fun z => ?_, fun z => ?_, fun z => ?_, fun z => ?_, fun z => ?_, fun z => ?_, fun z => ?_⟩ <;> first | rfl | (exfalso; omega)
    · subst e142
      refine mi_tabIn (tgt := 210) h dX6_told_142 (by decide) (by decide) (by decide) (off := 68) (by decide) (by decide) ?_
      refine mi_aload_n h dX6_told_210 (by rfl) ?_
      refine gf_X6_25 h dX6_told_211 fl_RX6_208 ?_
      refine mi_ireturn h hr dX6_told_214 ?_
      refine ⟨rfl, fun z => ?_, fun z => ?_, fun z => ?_, fun z => ?_, fun z => ?_, fun z => ?_, fun z => ?_, fun z => ?_, fun z => ?_, fun z => ?_, fun z => ?_⟩ <;> first | rfl | (exfalso; omega)
    · subst e142
      refine mi_tabIn (tgt := 215) h dX6_told_142 (by decide) (by decide) (by decide) (off := 73) (by decide) (by decide) ?_
      refine mi_aload_n h dX6_told_215 (by rfl) ?_
      refine mi_cV0i (hw := Nat.le_of_ble_eq_true rfl) h dX6_told_216 ml_RX6_219 ym_yX6_freeMany (by rfl) (by rfl) (c_X6_freeMany hJ (fun q hq => (hB.1 q hq).2.1)) (fun r216 σ216 hp216 => ?_)
      obtain ⟨rfl, hv216, hw216⟩ := hp216
      subst hv216
      refine mi_ireturn h hr dX6_told_219 ?_
      refine ⟨rfl, fun z => ?_, fun z => ?_, fun z => ?_, fun z => ?_, fun z => ?_, fun z => ?_, fun z => ?_, fun z => ?_, fun z => ?_, fun z => ?_, fun z => ?_⟩ <;> first | rfl | (exfalso; omega)
    · subst e142
      refine mi_tabIn (tgt := 220) h dX6_told_142 (by decide) (by decide) (by decide) (off := 78) (by decide) (by decide) ?_
      refine mi_iload h dX6_told_220 (by rfl) ?_
      refine mi_ireturn h hr dX6_told_222 ?_
      refine ⟨rfl, fun z => ?_, fun z => ?_, fun z => ?_, fun z => ?_, fun z => ?_, fun z => ?_, fun z => ?_, fun z => ?_, fun z => ?_, fun z => ?_, fun z => ?_⟩ <;> first | rfl | (exfalso; omega)
    · subst e142
      refine mi_tabIn (tgt := 223) h dX6_told_142 (by decide) (by decide) (by decide) (off := 81) (by decide) (by decide) ?_
      refine mi_iload h dX6_told_223 (by rfl) ?_
      refine mi_ireturn h hr dX6_told_225 ?_
      refine ⟨rfl, fun z => ?_, fun z => ?_, fun z => ?_, fun z => ?_, fun z => ?_, fun z => ?_, fun z => ?_, fun z => ?_, fun z => ?_, fun z => ?_, fun z => ?_⟩ <;> first | rfl | (exfalso; omega)
    · subst e142
      refine mi_tabIn (tgt := 226) h dX6_told_142 (by decide) (by decide) (by decide) (off := 84) (by decide) (by decide) ?_
      refine mi_aload_n h dX6_told_226 (by rfl) ?_
      refine gf_X6_29 h dX6_told_227 fl_RX6_88 ?_
      refine mi_ireturn h hr dX6_told_230 ?_
      refine ⟨rfl, fun z => ?_, fun z => ?_, fun z => ?_, fun z => ?_, fun z => ?_, fun z => ?_, fun z => ?_, fun z => ?_, fun z => ?_, fun z => ?_, fun z => ?_⟩ <;> first | rfl | (exfalso; omega)
    · subst e142
      refine mi_tabIn (tgt := 231) h dX6_told_142 (by decide) (by decide) (by decide) (off := 89) (by decide) (by decide) ?_
      refine mi_aload_n h dX6_told_231 (by rfl) ?_
      refine gf_X6_30 h dX6_told_232 fl_RX6_91 ?_
      refine mi_ireturn h hr dX6_told_235 ?_
      refine ⟨rfl, fun z => ?_, fun z => ?_, fun z => ?_, fun z => ?_, fun z => ?_, fun z => ?_, fun z => ?_, fun z => ?_, fun z => ?_, fun z => ?_, fun z => ?_⟩ <;> first | rfl | (exfalso; omega)
  have loop2 : ∀ (j k : Nat), k + j = 256 → M K 90 [some (vr 28), some (vi w), some (vi (sm (σ 37) (σ 28 11).toNat)), some (vi (sm (opM σ) (σ 28 11).toNat)), some (vi (sm (σ 54) (σ 28 11).toNat)), some (vi (sm (ceM σ) k)), some (vi (k : Int))] [] σ := by
    intro j
    induction j with
    | zero =>
      intro k hk
      have : k = 256 := by omega
      subst this
      refine mi_iload h dX6_told_90 (by rfl) ?_
      refine mi_sipush h dX6_told_92 (by decide) ?_
      refine mi_icmp_ge (tgt := 141) h dX6_told_95 (by decide) ⟨by omega, by omega⟩ ⟨by omega, by omega⟩ (fun e95 => ?_) (fun e95 => ?_)
      · exact fin
      · exfalso; omega
    | succ j ih =>
      intro k hk
      have hk9 := hF.1 k (by omega)
      have h9 := ih (k + 1) (by omega)
      rw [sm] at h9
      have q1 : ((k : Int) / 16 < σ 28 29 ∧ (k : Int) % 16 < σ 28 30) ∧ σ 53 k = 0 → ceM σ k = 1 := fun q => by unfold ceM; rw [if_pos q]
      have q2 : ¬ (((k : Int) / 16 < σ 28 29 ∧ (k : Int) % 16 < σ 28 30) ∧ σ 53 k = 0) → ceM σ k = 0 := fun q => by unfold ceM; rw [if_neg q]
      refine mi_iload h dX6_told_90 (by rfl) ?_
      refine mi_sipush h dX6_told_92 (by decide) ?_
      refine mi_icmp_ge (tgt := 141) h dX6_told_95 (by decide) ⟨by omega, by omega⟩ ⟨by omega, by omega⟩ (fun e95 => ?_) (fun e95 => ?_)
      · exfalso; omega
      · refine mi_iload h dX6_told_98 (by rfl) ?_
        refine mi_aload_n h dX6_told_100 (by rfl) ?_
        refine mi_iload h dX6_told_101 (by rfl) ?_
        refine mi_bipush h dX6_told_103 (by decide) ?_
        refine mi_idiv h dX6_told_105 ⟨by omega, by omega⟩ ⟨by omega, by omega⟩ ?_
        refine mi_iload h dX6_told_106 (by rfl) ?_
        refine mi_bipush h dX6_told_108 (by decide) ?_
        refine mi_irem h dX6_told_110 ⟨by omega, by omega⟩ ⟨by omega, by omega⟩ ?_
        refine mi_cV2i (hw := Nat.le_of_ble_eq_true rfl) h dX6_told_111 ml_RX6_237 ym_yX6_isCell (by rfl) (by rfl) (c_X6_isCell hJ ⟨by omega, by omega⟩ ⟨by omega, by omega⟩) (fun r111 σ111 hp111 => ?_)
        obtain ⟨rfl, hb111, hc111⟩ := hp111
        refine mi_if_eq (tgt := 131) h dX6_told_114 (by decide) ⟨by omega, by omega⟩ (fun e114 => ?_) (fun e114 => ?_)
        · refine mi_iconst h dX6_told_131 ?_
          refine mi_iadd h dX6_told_132 ?_
          refine mi_istore h dX6_told_133 (by decide) ?_
          refine mi_iinc h dX6_told_135 (by rfl) ?_ (by decide)
          refine mi_goto (tgt := 90) h dX6_told_138 (by decide) ?_
          first | (rw [q1 (by omega)] at h9; exact h9) | (rw [q2 (by omega)] at h9; exact h9)
        · refine mi_aload_n h dX6_told_117 (by rfl) ?_
          refine gf_X6_31 h dX6_told_118 fl_RX6_94 ?_
          refine mi_iload h dX6_told_121 (by rfl) ?_
          refine mn_iaload (k) h dX6_told_123 (by rfl) (by omega) (by omega) (by decide) ?_
          refine mi_if_ne (tgt := 131) h dX6_told_124 (by decide) ⟨by omega, by omega⟩ (fun e124 => ?_) (fun e124 => ?_)
          · refine mi_iconst h dX6_told_131 ?_
            refine mi_iadd h dX6_told_132 ?_
            refine mi_istore h dX6_told_133 (by decide) ?_
            refine mi_iinc h dX6_told_135 (by rfl) ?_ (by decide)
            refine mi_goto (tgt := 90) h dX6_told_138 (by decide) ?_
            first | (rw [q1 (by omega)] at h9; exact h9) | (rw [q2 (by omega)] at h9; exact h9)
          · refine mi_iconst h dX6_told_127 ?_
            refine mi_goto (tgt := 132) h dX6_told_128 (by decide) ?_
            refine mi_iadd h dX6_told_132 ?_
            refine mi_istore h dX6_told_133 (by decide) ?_
            refine mi_iinc h dX6_told_135 (by rfl) ?_ (by decide)
            refine mi_goto (tgt := 90) h dX6_told_138 (by decide) ?_
            first | (rw [q1 (by omega)] at h9; exact h9) | (rw [q2 (by omega)] at h9; exact h9)
  have loop1 : ∀ (j k : Nat), (k : Int) + j = σ 28 11 → M K 10 [some (vr 28), some (vi w), some (vi (sm (σ 37) k)), some (vi (sm (opM σ) k)), some (vi (sm (σ 54) k)), some (vi (k : Int)), none] [] σ := by
    intro j
    induction j with
    | zero =>
      intro k hk
      have hk2 : (σ 28 11).toNat = k := by omega
      rw [hk2] at loop2
      refine mi_iload h dX6_told_10 (by rfl) ?_
      refine mi_aload_n h dX6_told_12 (by rfl) ?_
      refine gf_X6_11 h dX6_told_13 fl_RX6_109 ?_
      refine mi_icmp_ge (tgt := 84) h dX6_told_16 (by decide) ⟨by omega, by omega⟩ ⟨by omega, by omega⟩ (fun e16 => ?_) (fun e16 => ?_)
      · refine mi_iconst h dX6_told_84 ?_
        refine mi_istore h dX6_told_85 (by decide) ?_
        refine mi_iconst h dX6_told_87 ?_
        refine mi_istore h dX6_told_88 (by decide) ?_
        exact loop2 256 0 (by omega)
      · exfalso; omega
    | succ j ih =>
      intro k hk
      obtain ⟨z1, z2, z3, z4, z5⟩ := hB.1 k (by omega)
      have h9 := ih (k + 1) (by omega)
      rw [sm, sm, sm] at h9
      have q1 : σ 37 k = 1 → opM σ k = σ 40 k := fun q => by unfold opM; rw [if_pos q]
      have q2 : ¬ σ 37 k = 1 → opM σ k = 0 := fun q => by unfold opM; rw [if_neg q]
      have q3 : opM σ k = 0 ∨ opM σ k = 1 := by unfold opM; split <;> omega
      refine mi_iload h dX6_told_10 (by rfl) ?_
      refine mi_aload_n h dX6_told_12 (by rfl) ?_
      refine gf_X6_11 h dX6_told_13 fl_RX6_109 ?_
      refine mi_icmp_ge (tgt := 84) h dX6_told_16 (by decide) ⟨by omega, by omega⟩ ⟨by omega, by omega⟩ (fun e16 => ?_) (fun e16 => ?_)
      · exfalso; omega
      · refine mi_iload_n h dX6_told_19 (by rfl) ?_
        refine mi_aload_n h dX6_told_20 (by rfl) ?_
        refine gf_X6_12 h dX6_told_21 fl_RX6_39 ?_
        refine mi_iload h dX6_told_24 (by rfl) ?_
        refine mn_baload (k) h dX6_told_26 (by rfl) (by omega) (by omega) (by decide) ?_
        refine mi_cS1i (hw := Nat.le_of_ble_eq_true rfl) h dX6_told_27 ml_RX6_200 ym_yX6_asInt (c_X6_asInt (by omega)) (fun r27 σ27 hp27 => ?_)
        obtain ⟨rfl, rfl⟩ := hp27
        refine mi_iadd h dX6_told_30 ?_
        refine mi_istore_n h dX6_told_31 (by decide) ?_
        refine mi_iload_n h dX6_told_32 (by rfl) ?_
        refine mi_aload_n h dX6_told_33 (by rfl) ?_
        refine gf_X6_12 h dX6_told_34 fl_RX6_39 ?_
        refine mi_iload h dX6_told_37 (by rfl) ?_
        refine mn_baload (k) h dX6_told_39 (by rfl) (by omega) (by omega) (by decide) ?_
        refine mi_if_eq (tgt := 57) h dX6_told_40 (by decide) ⟨by omega, by omega⟩ (fun e40 => ?_) (fun e40 => ?_)
        · refine mi_iconst h dX6_told_57 ?_
          refine mi_cS1i (hw := Nat.le_of_ble_eq_true rfl) h dX6_told_58 ml_RX6_200 ym_yX6_asInt (c_X6_asInt (by omega)) (fun r58 σ58 hp58 => ?_)
          obtain ⟨rfl, rfl⟩ := hp58
          refine mi_iadd h dX6_told_61 ?_
          refine mi_istore_n h dX6_told_62 (by decide) ?_
          refine mi_iload h dX6_told_63 (by rfl) ?_
          refine mi_aload_n h dX6_told_65 (by rfl) ?_
          refine gf_X6_32 h dX6_told_66 fl_RX6_97 ?_
          refine mi_iload h dX6_told_69 (by rfl) ?_
          refine mn_baload (k) h dX6_told_71 (by rfl) (by omega) (by omega) (by decide) ?_
          refine mi_cS1i (hw := Nat.le_of_ble_eq_true rfl) h dX6_told_72 ml_RX6_200 ym_yX6_asInt (c_X6_asInt (by omega)) (fun r72 σ72 hp72 => ?_)
          obtain ⟨rfl, rfl⟩ := hp72
          refine mi_iadd h dX6_told_75 ?_
          refine mi_istore h dX6_told_76 (by decide) ?_
          refine mi_iinc h dX6_told_78 (by rfl) ?_ (by decide)
          refine mi_goto (tgt := 10) h dX6_told_81 (by decide) ?_
          first | (rw [show opM σ k = 0 by omega] at h9; exact h9) | (rw [show opM σ k = 1 by omega] at h9; exact h9)
        · refine mi_aload_n h dX6_told_43 (by rfl) ?_
          refine gf_X6_15 h dX6_told_44 fl_RX6_48 ?_
          refine mi_iload h dX6_told_47 (by rfl) ?_
          refine mn_baload (k) h dX6_told_49 (by rfl) (by omega) (by omega) (by decide) ?_
          refine mi_if_eq (tgt := 57) h dX6_told_50 (by decide) ⟨by omega, by omega⟩ (fun e50 => ?_) (fun e50 => ?_)
          · refine mi_iconst h dX6_told_57 ?_
            refine mi_cS1i (hw := Nat.le_of_ble_eq_true rfl) h dX6_told_58 ml_RX6_200 ym_yX6_asInt (c_X6_asInt (by omega)) (fun r58 σ58 hp58 => ?_)
            obtain ⟨rfl, rfl⟩ := hp58
            refine mi_iadd h dX6_told_61 ?_
            refine mi_istore_n h dX6_told_62 (by decide) ?_
            refine mi_iload h dX6_told_63 (by rfl) ?_
            refine mi_aload_n h dX6_told_65 (by rfl) ?_
            refine gf_X6_32 h dX6_told_66 fl_RX6_97 ?_
            refine mi_iload h dX6_told_69 (by rfl) ?_
            refine mn_baload (k) h dX6_told_71 (by rfl) (by omega) (by omega) (by decide) ?_
            refine mi_cS1i (hw := Nat.le_of_ble_eq_true rfl) h dX6_told_72 ml_RX6_200 ym_yX6_asInt (c_X6_asInt (by omega)) (fun r72 σ72 hp72 => ?_)
            obtain ⟨rfl, rfl⟩ := hp72
            refine mi_iadd h dX6_told_75 ?_
            refine mi_istore h dX6_told_76 (by decide) ?_
            refine mi_iinc h dX6_told_78 (by rfl) ?_ (by decide)
            refine mi_goto (tgt := 10) h dX6_told_81 (by decide) ?_
            first | (rw [show opM σ k = 0 by omega] at h9; exact h9) | (rw [show opM σ k = 1 by omega] at h9; exact h9)
          · refine mi_iconst h dX6_told_53 ?_
            refine mi_goto (tgt := 58) h dX6_told_54 (by decide) ?_
            refine mi_cS1i (hw := Nat.le_of_ble_eq_true rfl) h dX6_told_58 ml_RX6_200 ym_yX6_asInt (c_X6_asInt (by omega)) (fun r58 σ58 hp58 => ?_)
            obtain ⟨rfl, rfl⟩ := hp58
            refine mi_iadd h dX6_told_61 ?_
            refine mi_istore_n h dX6_told_62 (by decide) ?_
            refine mi_iload h dX6_told_63 (by rfl) ?_
            refine mi_aload_n h dX6_told_65 (by rfl) ?_
            refine gf_X6_32 h dX6_told_66 fl_RX6_97 ?_
            refine mi_iload h dX6_told_69 (by rfl) ?_
            refine mn_baload (k) h dX6_told_71 (by rfl) (by omega) (by omega) (by decide) ?_
            refine mi_cS1i (hw := Nat.le_of_ble_eq_true rfl) h dX6_told_72 ml_RX6_200 ym_yX6_asInt (c_X6_asInt (by omega)) (fun r72 σ72 hp72 => ?_)
            obtain ⟨rfl, rfl⟩ := hp72
            refine mi_iadd h dX6_told_75 ?_
            refine mi_istore h dX6_told_76 (by decide) ?_
            refine mi_iinc h dX6_told_78 (by rfl) ?_ (by decide)
            refine mi_goto (tgt := 10) h dX6_told_81 (by decide) ?_
            first | (rw [show opM σ k = 0 by omega] at h9; exact h9) | (rw [show opM σ k = 1 by omega] at h9; exact h9)
  refine mi_iconst h dX6_told_0 ?_
  refine mi_istore_n h dX6_told_1 (by decide) ?_
  refine mi_iconst h dX6_told_2 ?_
  refine mi_istore_n h dX6_told_3 (by decide) ?_
  refine mi_iconst h dX6_told_4 ?_
  refine mi_istore h dX6_told_5 (by decide) ?_
  refine mi_iconst h dX6_told_7 ?_
  refine mi_istore h dX6_told_8 (by decide) ?_
  exact loop1 (σ 28 11).toNat 0 (by omega)
