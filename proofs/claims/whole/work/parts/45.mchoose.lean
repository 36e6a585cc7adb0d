/-! the reference's choose -/
def dm (σ F : Mem) : Mem := fun c => if c = 33 ∨ (42 ≤ c ∧ c ≤ 48) ∨ (50 ≤ c ∧ c ≤ 52) then F c else σ c
def em (σ F : Mem) : Mem := fun c => if (42 ≤ c ∧ c ≤ 48) ∨ (50 ≤ c ∧ c ≤ 52) then F c else σ c
theorem dm_app (σ F : Mem) (c k : Nat) : dm σ F c k = if c = 33 ∨ (42 ≤ c ∧ c ≤ 48) ∨ (50 ≤ c ∧ c ≤ 52) then F c k else σ c k := by
  unfold dm
  split <;> rfl
theorem dm_up (σ F : Mem) {c : Nat} (hc : c = 33 ∨ (42 ≤ c ∧ c ≤ 48) ∨ (50 ≤ c ∧ c ≤ 52)) (k : Nat) (z : Int) : up (dm σ F) c k z = dm σ (up F c k z) := by
  funext c' j
  simp only [up_app, dm_app]
  by_cases h1 : c' = c
  · subst h1; simp [hc]
  · simp [h1]
theorem dm_self (σ : Mem) : dm σ σ = σ := by
  funext c k
  rw [dm_app]
  split <;> rfl
theorem dm_wm (σ F W : Mem) : wm (dm σ F) W = dm σ (wm F W) := by
  funext c k
  simp only [wm_app, dm_app]
  by_cases h1 : 42 ≤ c ∧ c ≤ 48
  · rw [if_pos h1, if_pos (Or.inr (Or.inl h1)), if_pos h1]
  · rw [if_neg h1, if_neg h1]
theorem dm_em (σ F : Mem) : dm σ F = em (upC σ 33 (F 33)) F := by
  funext c k
  unfold dm em
  by_cases h1 : (42 ≤ c ∧ c ≤ 48) ∨ (50 ≤ c ∧ c ≤ 52)
  · rw [if_pos h1, if_pos (Or.inr h1)]
  · rw [if_neg h1, upC_app]
    by_cases h2 : c = 33
    · rw [if_pos (Or.inl h2), if_pos h2, h2]
    · rw [if_neg (fun z => by rcases z with z | z; exact h2 z; exact h1 z), if_neg h2]
def cntM (σ : Mem) : Nat := rkN (σ 36) (σ 28 11).toNat
def zM (σ : Mem) : Nat := (σ 28 4).toNat
def rzM (σ : Mem) (z : Nat → Nat) : Mem := upC σ 33 (fun p => if (p : Int) < σ 28 11 ∧ σ 36 p = 1 then (z p : Int) else σ 33 p)
def ziM (σ : Mem) (i p : Nat) : Nat := dg (zM σ) (cntM σ) i (rkN (σ 36) p)
def cstM (σ : Mem) (i : Nat) : Int := sm (prcM (rzM σ (ziM σ i))) (σ 28 11).toNat
def mtM (σ : Mem) (i : Nat) : Prop := ∀ h : Nat, (h : Int) < σ 28 25 → 0 ≤ lsM (rzM σ (ziM σ i)) h (σ 28 0)
theorem Z_posM {σ : Mem} (hJ : JS σ) (hP : JP σ) (hQ : JQ σ) {p : Nat} (hp : (p : Int) < σ 28 11) : 0 < zM σ ∧ zM σ ≤ 6 := by
  obtain ⟨j1, j2, j3, j4, j5, j6, j7⟩ := hJ
  have h1 := (hP p (by omega)).2.2.1
  have h2 := (hQ p hp).2
  unfold zM
  omega
def SZ (σ : Mem) (i k1 : Nat) (s : Nat → Int) : Prop := ∀ p : Nat, s p = if (p : Int) < σ 28 11 ∧ σ 36 p = 1 then (if rkN (σ 36) p < k1 then (ziM σ i p : Int) else 0) else σ 33 p
theorem SZ_eq {σ : Mem} {i : Nat} {s : Nat → Int} (h : SZ σ i (cntM σ) s) : upC σ 33 s = rzM σ (ziM σ i) := by
  unfold rzM
  refine congrArg (upC σ 33) (funext fun p => ?_)
  rw [h p]
  by_cases q : (p : Int) < σ 28 11 ∧ σ 36 p = 1
  · have q2 : rkN (σ 36) p < cntM σ := rkN_lt q.2 (by omega)
    rw [if_pos q, if_pos q, if_pos q2]
  · rw [if_neg q, if_neg q]
theorem JP_rz {σ : Mem} {z : Nat → Nat} (hP : JP σ) (hz : ∀ p : Nat, (p : Int) < σ 28 11 → z p < zM σ ∧ zM σ ≤ 6) : JP (rzM σ z) := by
  intro p hp
  obtain ⟨h1, h2, h3, h4⟩ := hP p hp
  refine ⟨h1, h2, ?_, h4⟩
  show 0 ≤ (if (p : Int) < σ 28 11 ∧ σ 36 p = 1 then (z p : Int) else σ 33 p) ∧ (if (p : Int) < σ 28 11 ∧ σ 36 p = 1 then (z p : Int) else σ 33 p) ≤ 5
  by_cases q : (p : Int) < σ 28 11 ∧ σ 36 p = 1
  · have := hz p q.1
    rw [if_pos q]; omega
  · rw [if_neg q]; exact h3
theorem JQ_rz {σ : Mem} {z : Nat → Nat} (hQ : JQ σ) (hz : ∀ p : Nat, (p : Int) < σ 28 11 → z p < zM σ ∧ zM σ ≤ 6) : JQ (rzM σ z) := by
  intro p hp
  have hp : (p : Int) < σ 28 11 := hp
  refine ⟨(hQ p hp).1, ?_⟩
  show (if (p : Int) < σ 28 11 ∧ σ 36 p = 1 then (z p : Int) else σ 33 p) < σ 28 4
  have hZn : zM σ = (σ 28 4).toNat := rfl
  by_cases q : (p : Int) < σ 28 11 ∧ σ 36 p = 1
  · have := hz p q.1
    rw [if_pos q]; omega
  · rw [if_neg q]; exact (hQ p hp).2
theorem ziM_lt {σ : Mem} (hJ : JS σ) (hP : JP σ) (hQ : JQ σ) (i : Nat) {p : Nat} (hp : (p : Int) < σ 28 11) : ziM σ i p < zM σ ∧ zM σ ≤ 6 := by
  have := Z_posM hJ hP hQ hp
  exact ⟨dg_lt this.1, this.2⟩
theorem cstM_rng {σ : Mem} (hJ : JS σ) (hZ : JZ σ) (hP : JP σ) (hQ : JQ σ) (i : Nat) : 0 ≤ cstM σ i ∧ cstM σ i ≤ 240000 := by
  obtain ⟨j1, j2, j3, j4, j5, j6, j7⟩ := id hJ
  have hP2 := JP_rz (z := ziM σ i) hP (fun p hp => ziM_lt hJ hP hQ i hp)
  refine sm_24 (b := 10000) (by omega) (by omega) (fun p hp => ?_)
  obtain ⟨k1, k2, k3, -⟩ := hP2 p (by omega)
  exact ml_rng k2 (hZ (rzM σ (ziM σ i) 33 p).toNat (by omega)).2 rfl
def BM (σ : Mem) (N : Nat) (b : Nat → Int) (x : Int) : Prop := (fO (cstM σ) (mtM σ) N = none → x = -1) ∧ ∀ i, fO (cstM σ) (mtM σ) N = some i → x = cstM σ i ∧ ∀ k, k < cntM σ → b k = (dg (zM σ) (cntM σ) i k : Int)
theorem dg_last {Z c t : Nat} (hZ : 0 < Z) (ht : t < c) : (Z ^ c - 1) / Z ^ t % Z = Z - 1 := by
  have hp : 0 < Z ^ t := Nat.pow_pos hZ
  obtain ⟨u, rfl⟩ : ∃ u, c = u + 1 + t := ⟨c - t - 1, by omega⟩
  have hu : 0 < Z ^ u := Nat.pow_pos hZ
  have hu1 : 0 < Z ^ (u + 1) := Nat.pow_pos hZ
  have e1 : (Z ^ (u + 1 + t) - 1) / Z ^ t = Z ^ (u + 1) - 1 := by
    rw [Nat.pow_add]
    generalize Z ^ (u + 1) = A at *
    generalize Z ^ t = B at *
    have h1 : 1 * B ≤ A * B := Nat.mul_le_mul_right B hu1
    refine Nat.div_eq_of_lt_le ?_ ?_
    · rw [Nat.sub_mul]; omega
    · rw [Nat.sub_add_cancel hu1]; omega
  rw [e1, Nat.pow_succ]
  have h2 : 1 * Z ≤ Z ^ u * Z := Nat.mul_le_mul_right Z hu
  have e2 : Z ^ u * Z - 1 = Z * (Z ^ u - 1) + (Z - 1) := by
    rw [Nat.mul_sub, Nat.mul_comm Z, Nat.mul_one]; omega
  rw [e2, Nat.mul_add_mod, Nat.mod_eq_of_lt (by omega)]
theorem rd_f {σ : Mem} {f : Nat → Int} (hF : FL (σ 36) (σ 28 11).toNat f) {k : Nat} (hk : k < cntM σ) : 0 ≤ f k ∧ f k < σ 28 11 ∧ σ 36 (f k).toNat = 1 ∧ rkN (σ 36) (f k).toNat = k := by
  have := hF.2 k hk
  exact ⟨this.1, by omega, this.2.2⟩
/-- one rank written -/
theorem SZ_w {σ : Mem} {f s : Nat → Int} {i i' k1 k2 k : Nat} {v : Int} (hF : FL (σ 36) (σ 28 11).toNat f) (hk : k < cntM σ) (h : SZ σ i k1 s) (h1 : ∀ p : Nat, (p : Int) < σ 28 11 → σ 36 p = 1 → rkN (σ 36) p ≠ k → (if rkN (σ 36) p < k1 then (ziM σ i p : Int) else 0) = if rkN (σ 36) p < k2 then (ziM σ i' p : Int) else 0) (h2 : v = if k < k2 then (dg (zM σ) (cntM σ) i' k : Int) else 0) : SZ σ i' k2 (st s (f k).toNat v) := by
  have c1 := rd_f hF hk
  intro p
  rw [st_at]
  by_cases e : p = (f k).toNat
  · rw [if_pos e, e, if_pos ⟨by omega, c1.2.2.1⟩, c1.2.2.2, h2]
    unfold ziM
    rw [c1.2.2.2]
  · rw [if_neg e, h p]
    by_cases q : (p : Int) < σ 28 11 ∧ σ 36 p = 1
    · rw [if_pos q, if_pos q]
      exact h1 p q.1 q.2 (fun z => e (rkN_inj q.2 c1.2.2.1 (by rw [z, c1.2.2.2])))
    · rw [if_neg q, if_neg q]
set_option maxHeartbeats 4000000 in
set_option maxRecDepth 100000 in
theorem c_X6_choose {σ : Mem} (hJ : JS σ) (hZ : JZ σ) (hP : JP σ) (hB : JB σ) (hQ : JQ σ) (hc5 : cntM σ ≤ 5) : Sp1 yX6_choose cX6_choose 8 (some .long) 2 6 [vr 28] σ (fun r σ' => (r = -5 ∧ fO (cstM σ) (mtM σ) (zM σ ^ cntM σ) = none ∧ ∃ F, em σ F = σ') ∨ (∃ b F, fO (cstM σ) (mtM σ) (zM σ ^ cntM σ) = some b ∧ em (rzM σ (ziM σ b)) F = σ' ∧ r = cstM σ b)) := by
  refine Sp1_in RX6 rfl (by decide +kernel) (Nat.le_of_ble_eq_true rfl) [some (vr 28), none, none, none, none, none, none, none] rfl ?_
  intro K h hr
  obtain ⟨j1, j2, j3, j4, j5, j6, j7⟩ := id hJ
  have hZn : zM σ = (σ 28 4).toNat := rfl
  have hcn : cntM σ = rkN (σ 36) (σ 28 11).toNat := rfl
  have hx64 : ∀ {N : Nat} {b : Nat → Int} {x : Int}, BM σ N b x → (x = -1 ∨ 0 ≤ x) ∧ x ≤ 240000 := fun {N b x} h => by
    cases e : fO (cstM σ) (mtM σ) N with
    | none => have := h.1 e; omega
    | some i => have := (h.2 i e).1; have := cstM_rng hJ hZ hP hQ i; omega
  -- the end
  have fin : ∀ (f g b : Nat → Int) (x : Int) (l7 : Option MV), FL (σ 36) (σ 28 11).toNat f → (∀ k, k < cntM σ → g k = σ 33 (f k).toNat) → BM σ (zM σ ^ cntM σ) b x → ∀ (j k : Nat) (F : Mem), k + j = cntM σ → F 50 = f → F 51 = g → F 52 = b → (∀ p : Nat, ¬ ((p : Int) < σ 28 11 ∧ σ 36 p = 1) → F 33 p = σ 33 p) → (∀ p : Nat, (p : Int) < σ 28 11 → σ 36 p = 1 → rkN (σ 36) p < k → F 33 p = if x < 0 then g (rkN (σ 36) p) else b (rkN (σ 36) p)) → M K 220 [some (vr 28), some (vi (cntM σ : Int)), some (vl x), none, some (vi 0), some (vi (k : Int)), none, l7] [] (dm σ F) := by
    intro f g b x l7 hF hg hBM j
    have hx := hx64 hBM
    induction j with
    | zero =>
      intro k F hk h50 h51 h52 hno hyes
      have hk : k = cntM σ := by omega
      subst hk
      have hall : ∀ p : Nat, (p : Int) < σ 28 11 → σ 36 p = 1 → F 33 p = if x < 0 then g (rkN (σ 36) p) else b (rkN (σ 36) p) := fun p h1 h2 => hyes p h1 h2 (rkN_lt h2 (by omega))
      cases e : fO (cstM σ) (mtM σ) (zM σ ^ cntM σ) with
      | none =>
        have hx1 := hBM.1 e
        have e33 : F 33 = σ 33 := by
          funext p
          by_cases q : (p : Int) < σ 28 11 ∧ σ 36 p = 1
          · have a1 := hF.1 p (by omega) q.2
            rw [hall p q.1 q.2, if_pos (by omega), hg _ (rkN_lt q.2 (by omega)), a1, Int.toNat_natCast]
          · exact hno p q
        refine mi_iload h dX6_choose_220 (by rfl) ?_
        refine mi_iload_n h dX6_choose_222 (by rfl) ?_
        refine mi_icmp_ge (tgt := 267) h dX6_choose_223 (by decide) ⟨by omega, by omega⟩ ⟨by omega, by omega⟩ (fun e223 => ?_) (fun e223 => ?_)
        · refine mi_lload_n h dX6_choose_267 (by rfl) ?_
          refine mi_lconst0 h dX6_choose_268 ?_
          refine mi_lcmp_ge (tgt := 279) h dX6_choose_269 dX6_choose_270 (by decide) ⟨by omega, by omega⟩ ⟨by omega, by omega⟩ (fun e269 => ?_) (fun e269 => ?_)
          · exfalso; omega
          · refine mi_ldc2 (z := -5) h dX6_choose_273 kc_RX6_231 rfl ?_
            refine mi_goto (tgt := 280) h dX6_choose_276 (by decide) ?_
            refine mi_lreturn h hr dX6_choose_280 ?_
            refine Or.inl ⟨rfl, e, F, ?_⟩
            rw [dm_em, e33, upC_0]
        · exfalso; omega
      | some b9 =>
        have hx1 := hBM.2 b9 e
        have hx2 := cstM_rng hJ hZ hP hQ b9
        have e33 : SZ σ b9 (cntM σ) (F 33) := by
          intro p
          by_cases q : (p : Int) < σ 28 11 ∧ σ 36 p = 1
          · have a1 := rkN_lt q.2 (show p < (σ 28 11).toNat by omega)
            rw [hall p q.1 q.2, if_neg (by omega), if_pos q, if_pos (by omega), hx1.2 _ a1]
            rfl
          · rw [if_neg q]; exact hno p q
        refine mi_iload h dX6_choose_220 (by rfl) ?_
        refine mi_iload_n h dX6_choose_222 (by rfl) ?_
        refine mi_icmp_ge (tgt := 267) h dX6_choose_223 (by decide) ⟨by omega, by omega⟩ ⟨by omega, by omega⟩ (fun e223 => ?_) (fun e223 => ?_)
        · refine mi_lload_n h dX6_choose_267 (by rfl) ?_
          refine mi_lconst0 h dX6_choose_268 ?_
          refine mi_lcmp_ge (tgt := 279) h dX6_choose_269 dX6_choose_270 (by decide) ⟨by omega, by omega⟩ ⟨by omega, by omega⟩ (fun e269 => ?_) (fun e269 => ?_)
          · refine mi_lload_n h dX6_choose_279 (by rfl) ?_
            refine mi_lreturn h hr dX6_choose_280 ?_
            refine Or.inr ⟨b9, F, e, ?_, hx1.1⟩
            rw [dm_em, SZ_eq e33]
          · exfalso; omega
        · exfalso; omega
    | succ j ih =>
      intro k F hk h50 h51 h52 hno hyes
      have c1 := rd_f hF (k := k) (by omega)
      have e50 : F 50 k = (((f k).toNat : Nat) : Int) := by rw [h50]; omega
      have e51 : F 51 k = g k := by rw [h51]
      have e52 : F 52 k = b k := by rw [h52]
      have nx : ∀ v : Int, (v = if x < 0 then g k else b k) → M K 220 [some (vr 28), some (vi (cntM σ : Int)), some (vl x), none, some (vi 0), some (vi ((k : Int) + 1)), none, l7] [] (up (dm σ F) 33 (f k).toNat v) := by
        intro v hv
        rw [dm_up _ _ (by decide)]
        refine ih (k + 1) _ (by omega) h50 h51 h52 (fun p q => ?_) (fun p q1 q2 q3 => ?_)
        · rw [up_at, if_neg (fun z => q ⟨by rw [z]; omega, by rw [z]; exact c1.2.2.1⟩)]
          exact hno p q
        · rw [up_at]
          by_cases e9 : p = (f k).toNat
          · rw [if_pos e9, e9, c1.2.2.2, hv]
          · rw [if_neg e9]
            have : rkN (σ 36) p ≠ k := fun z => e9 (rkN_inj q2 c1.2.2.1 (by rw [z, c1.2.2.2]))
            exact hyes p q1 q2 (by omega)
      refine mi_iload h dX6_choose_220 (by rfl) ?_
      refine mi_iload_n h dX6_choose_222 (by rfl) ?_
      refine mi_icmp_ge (tgt := 267) h dX6_choose_223 (by decide) ⟨by omega, by omega⟩ ⟨by omega, by omega⟩ (fun e223 => ?_) (fun e223 => ?_)
      · exfalso; omega
      · refine mi_aload_n h dX6_choose_226 (by rfl) ?_
        refine gf_X6_7 h dX6_choose_227 fl_RX6_26 ?_
        refine mi_aload_n h dX6_choose_230 (by rfl) ?_
        refine gf_X6_26 h dX6_choose_231 fl_RX6_79 ?_
        refine mi_iload h dX6_choose_234 (by rfl) ?_
        refine mn_iaload (k) h dX6_choose_236 (by rfl) (by omega) (by omega) (by decide) ?_
        try simp only [up_app, upC_app, dm_app, Nat.reduceEqDiff, reduceIte, Nat.reduceLeDiff, and_self, and_true, true_and, and_false, false_and, or_self, or_true, true_or, or_false, false_or, Nat.add_eq_zero_iff, Nat.succ_ne_self, Nat.add_right_cancel_iff]
        rw [e50]
        refine mi_lload_n h dX6_choose_237 (by rfl) ?_
        refine mi_lconst0 h dX6_choose_238 ?_
        refine mi_lcmp_ge (tgt := 253) h dX6_choose_239 dX6_choose_240 (by decide) ⟨by omega, by omega⟩ ⟨by omega, by omega⟩ (fun e239 => ?_) (fun e239 => ?_)
        · refine mi_aload_n h dX6_choose_253 (by rfl) ?_
          refine gf_X6_28 h dX6_choose_254 fl_RX6_85 ?_
          refine mi_iload h dX6_choose_257 (by rfl) ?_
          refine mn_iaload (k) h dX6_choose_259 (by rfl) (by omega) (by omega) (by decide) ?_
          try simp only [up_app, upC_app, dm_app, Nat.reduceEqDiff, reduceIte, Nat.reduceLeDiff, and_self, and_true, true_and, and_false, false_and, or_self, or_true, true_or, or_false, false_or, Nat.add_eq_zero_iff, Nat.succ_ne_self, Nat.add_right_cancel_iff]
          rw [e52]
          refine mn_iastore ((f k).toNat) h dX6_choose_260 (by rfl) (by omega) (by omega) (by decide) ?_
          refine mi_iinc h dX6_choose_261 (by rfl) ?_ (by decide)
          refine mi_goto (tgt := 220) h dX6_choose_264 (by decide) ?_
          first | exact nx _ (by rw [if_pos (by omega)]) | exact nx _ (by rw [if_neg (by omega)])
        · refine mi_aload_n h dX6_choose_243 (by rfl) ?_
          refine gf_X6_27 h dX6_choose_244 fl_RX6_82 ?_
          refine mi_iload h dX6_choose_247 (by rfl) ?_
          refine mn_iaload (k) h dX6_choose_249 (by rfl) (by omega) (by omega) (by decide) ?_
          try simp only [up_app, upC_app, dm_app, Nat.reduceEqDiff, reduceIte, Nat.reduceLeDiff, and_self, and_true, true_and, and_false, false_and, or_self, or_true, true_or, or_false, false_or, Nat.add_eq_zero_iff, Nat.succ_ne_self, Nat.add_right_cancel_iff]
          rw [e51]
          refine mi_goto (tgt := 260) h dX6_choose_250 (by decide) ?_
          refine mn_iastore ((f k).toNat) h dX6_choose_260 (by rfl) (by omega) (by omega) (by decide) ?_
          refine mi_iinc h dX6_choose_261 (by rfl) ?_ (by decide)
          refine mi_goto (tgt := 220) h dX6_choose_264 (by decide) ?_
          first | exact nx _ (by rw [if_pos (by omega)]) | exact nx _ (by rw [if_neg (by omega)])
  -- one choice
  have body : ∀ (f g : Nat → Int), FL (σ 36) (σ 28 11).toNat f → (∀ k, k < cntM σ → g k = σ 33 (f k).toNat) → ∀ (i : Nat) (F : Mem) (x : Int) (l5 l7 : Option MV), i + 1 ≤ zM σ ^ cntM σ → F 50 = f → F 51 = g → BM σ i (F 52) x → SZ σ i (cntM σ) (F 33) → (i + 1 < zM σ ^ cntM σ → ∀ (F : Mem) (x : Int) (l5 l7 : Option MV), F 50 = f → F 51 = g → BM σ (i + 1) (F 52) x → SZ σ (i + 1) (cntM σ) (F 33) → M K 63 [some (vr 28), some (vi (cntM σ : Int)), some (vl x), none, some (vi 1), l5, none, l7] [] (dm σ F)) → M K 63 [some (vr 28), some (vi (cntM σ : Int)), some (vl x), none, some (vi 1), l5, none, l7] [] (dm σ F) := by
    intro f g hF hg i F x l5 l7 hi h50 h51 hBM hSZ nxt
    have hx := hx64 hBM
    have hci := cstM_rng hJ hZ hP hQ i
    have inc : ∀ (x : Int) (l5 : Option MV) (b : Nat → Int), BM σ (i + 1) b x → ∀ (k1 : Nat) (F : Mem), k1 ≤ cntM σ → i % zM σ ^ (cntM σ - k1) = zM σ ^ (cntM σ - k1) - 1 → F 50 = f → F 51 = g → F 52 = b → SZ σ i k1 (F 33) → M K 136 [some (vr 28), some (vi (cntM σ : Int)), some (vl x), none, some (vi 1), l5, none, some (vi ((k1 : Int) - 1))] [] (dm σ F) := by
      intro x l5 b hBM k1
      induction k1 with
      | zero =>
        intro F hk hmod h50 h51 h52 hSZ
        have eN : i + 1 = zM σ ^ cntM σ := by
          rw [Nat.sub_zero, Nat.mod_eq_of_lt (by omega)] at hmod
          omega
        rw [eN] at hBM
        refine mi_iload h dX6_choose_136 (by rfl) ?_
        refine mi_if_lt (tgt := 181) h dX6_choose_138 (by decide) ⟨by omega, by omega⟩ (fun e138 => ?_) (fun e138 => ?_)
        · refine mi_iload h dX6_choose_181 (by rfl) ?_
          refine mi_if_lt (tgt := 190) h dX6_choose_183 (by decide) ⟨by omega, by omega⟩ (fun e183 => ?_) (fun e183 => ?_)
          · refine mi_iconst h dX6_choose_190 ?_
            refine mi_istore h dX6_choose_191 (by decide) ?_
            refine mi_iload h dX6_choose_193 (by rfl) ?_
            refine mi_if_eq (tgt := 214) h dX6_choose_195 (by decide) ⟨by omega, by omega⟩ (fun e195 => ?_) (fun e195 => ?_)
            · refine mi_goto (tgt := 63) h dX6_choose_214 (by decide) ?_
              refine mi_iload h dX6_choose_63 (by rfl) ?_
              refine mi_if_eq (tgt := 217) h dX6_choose_65 (by decide) ⟨by omega, by omega⟩ (fun e65 => ?_) (fun e65 => ?_)
              · refine mi_iconst h dX6_choose_217 ?_
                refine mi_istore h dX6_choose_218 (by decide) ?_
                exact fin f g b x _ hF hg hBM (cntM σ) 0 F (by omega) h50 h51 h52 (fun p q => by have := hSZ p; rw [if_neg q] at this; exact this) (fun p q1 q2 q3 => by omega)
              · exfalso; omega
            · exfalso; omega
          · exfalso; omega
        · exfalso; omega
      | succ k1 ih =>
        intro F hk hmod h50 h51 h52 hSZ
        have c1 := rd_f hF (k := k1) (by omega)
        have z6 := Z_posM hJ hP hQ (p := (f k1).toNat) (by omega)
        have e50 : F 50 k1 = (((f k1).toNat : Nat) : Int) := by rw [h50]; omega
        have e33 : F 33 (f k1).toNat = (dg (zM σ) (cntM σ) i k1 : Int) := by
          rw [hSZ, if_pos ⟨by omega, c1.2.2.1⟩, c1.2.2.2, if_pos (by omega)]
          unfold ziM
          rw [c1.2.2.2]
        have hdl : dg (zM σ) (cntM σ) i k1 < zM σ := dg_lt z6.1
        have et : cntM σ - 1 - k1 = cntM σ - (k1 + 1) := by omega
        have edg : dg (zM σ) (cntM σ) i k1 = i / zM σ ^ (cntM σ - (k1 + 1)) % zM σ := by unfold dg; rw [et]
        rw [show ((k1 + 1 : Nat) : Int) - 1 = (k1 : Int) by omega]
        refine mi_iload h dX6_choose_136 (by rfl) ?_
        refine mi_if_lt (tgt := 181) h dX6_choose_138 (by decide) ⟨by omega, by omega⟩ (fun e138 => ?_) (fun e138 => ?_)
        · exfalso; omega
        · refine mi_aload_n h dX6_choose_141 (by rfl) ?_
          refine gf_X6_7 h dX6_choose_142 fl_RX6_26 ?_
          refine mi_aload_n h dX6_choose_145 (by rfl) ?_
          refine gf_X6_26 h dX6_choose_146 fl_RX6_79 ?_
          refine mi_iload h dX6_choose_149 (by rfl) ?_
          refine mn_iaload (k1) h dX6_choose_151 (by rfl) (by omega) (by omega) (by decide) ?_
          try simp only [up_app, upC_app, dm_app, Nat.reduceEqDiff, reduceIte, Nat.reduceLeDiff, and_self, and_true, true_and, and_false, false_and, or_self, or_true, true_or, or_false, false_or, Nat.add_eq_zero_iff, Nat.succ_ne_self, Nat.add_right_cancel_iff]
          rw [e50]
          refine mn_iaload ((f k1).toNat) h dX6_choose_152 (by rfl) (by omega) (by omega) (by decide) ?_
          try simp only [up_app, upC_app, dm_app, Nat.reduceEqDiff, reduceIte, Nat.reduceLeDiff, and_self, and_true, true_and, and_false, false_and, or_self, or_true, true_or, or_false, false_or, Nat.add_eq_zero_iff, Nat.succ_ne_self, Nat.add_right_cancel_iff]
          rw [e33]
          refine mi_aload_n h dX6_choose_153 (by rfl) ?_
          refine gf_X6_4 h dX6_choose_154 fl_RX6_131 ?_
          try simp only [up_app, upC_app, dm_app, Nat.reduceEqDiff, reduceIte, Nat.reduceLeDiff, and_self, and_true, true_and, and_false, false_and, or_self, or_true, true_or, or_false, false_or, Nat.add_eq_zero_iff, Nat.succ_ne_self, Nat.add_right_cancel_iff]
          refine mi_iconst h dX6_choose_157 ?_
          refine mi_isub h dX6_choose_158 ?_
          refine mi_icmp_ne (tgt := 181) h dX6_choose_159 (by decide) ⟨by omega, by omega⟩ ⟨by omega, by omega⟩ (fun e159 => ?_) (fun e159 => ?_)
          · refine mi_iload h dX6_choose_181 (by rfl) ?_
            refine mi_if_lt (tgt := 190) h dX6_choose_183 (by decide) ⟨by omega, by omega⟩ (fun e183 => ?_) (fun e183 => ?_)
            · exfalso; omega
            · refine mi_iconst h dX6_choose_186 ?_
              refine mi_goto (tgt := 191) h dX6_choose_187 (by decide) ?_
              refine mi_istore h dX6_choose_191 (by decide) ?_
              refine mi_iload h dX6_choose_193 (by rfl) ?_
              refine mi_if_eq (tgt := 214) h dX6_choose_195 (by decide) ⟨by omega, by omega⟩ (fun e195 => ?_) (fun e195 => ?_)
              · exfalso; omega
              · refine mi_aload_n h dX6_choose_198 (by rfl) ?_
                refine gf_X6_7 h dX6_choose_199 fl_RX6_26 ?_
                refine mi_aload_n h dX6_choose_202 (by rfl) ?_
                refine gf_X6_26 h dX6_choose_203 fl_RX6_79 ?_
                refine mi_iload h dX6_choose_206 (by rfl) ?_
                refine mn_iaload (k1) h dX6_choose_208 (by rfl) (by omega) (by omega) (by decide) ?_
                try simp only [up_app, upC_app, dm_app, Nat.reduceEqDiff, reduceIte, Nat.reduceLeDiff, and_self, and_true, true_and, and_false, false_and, or_self, or_true, true_or, or_false, false_or, Nat.add_eq_zero_iff, Nat.succ_ne_self, Nat.add_right_cancel_iff]
                rw [e50]
                refine mi_dup2 h dX6_choose_209 (fun _ => rfl) (fun _ => rfl) ?_
                refine mn_iaload ((f k1).toNat) h dX6_choose_210 (by rfl) (by omega) (by omega) (by decide) ?_
                try simp only [up_app, upC_app, dm_app, Nat.reduceEqDiff, reduceIte, Nat.reduceLeDiff, and_self, and_true, true_and, and_false, false_and, or_self, or_true, true_or, or_false, false_or, Nat.add_eq_zero_iff, Nat.succ_ne_self, Nat.add_right_cancel_iff]
                rw [e33]
                refine mi_iconst h dX6_choose_211 ?_
                refine mi_iadd h dX6_choose_212 ?_
                refine mn_iastore ((f k1).toNat) h dX6_choose_213 (by rfl) (by omega) (by omega) (by decide) ?_
                refine mi_goto (tgt := 63) h dX6_choose_214 (by decide) ?_
                rw [dm_up _ _ (by decide)]
                have hne : i / zM σ ^ (cntM σ - (k1 + 1)) % zM σ ≠ zM σ - 1 := by rw [← edg]; omega
                refine nxt ?_ _ x l5 _ h50 h51 (by show BM σ (i + 1) (F 52) x; rw [h52]; exact hBM) ?_
                · rcases Nat.lt_or_ge (i + 1) (zM σ ^ cntM σ) with q | q
                  · exact q
                  · exfalso
                    have e9 : i = zM σ ^ cntM σ - 1 := by omega
                    apply hne
                    rw [e9]
                    exact dg_last z6.1 (by omega)
                · rw [up_st2]
                  have inc9 : ∀ j, j < cntM σ → dg (zM σ) (cntM σ) (i + 1) j = if j < k1 then dg (zM σ) (cntM σ) i j else if j = k1 then dg (zM σ) (cntM σ) i k1 + 1 else 0 := fun j hj => by
                    have t9 := dg_inc (Z := zM σ) (t := cntM σ - (k1 + 1)) (i := i) (k := k1) (j := j) z6.1 hmod hne (by omega)
                    rw [show k1 + 1 + (cntM σ - (k1 + 1)) = cntM σ by omega] at t9
                    exact t9
                  refine SZ_w hF (by omega) hSZ (fun p q1 q2 q3 => ?_) (by rw [if_pos (by omega), inc9 k1 (by omega), if_neg (by omega), if_pos rfl]; omega)
                  have q5 : rkN (σ 36) p < cntM σ := rkN_lt q2 (by omega)
                  rw [if_pos q5]
                  unfold ziM
                  rw [inc9 _ q5]
                  by_cases q4 : rkN (σ 36) p < k1
                  · rw [if_pos q4, if_pos (by omega)]
                  · rw [if_neg q4, if_neg q3, if_neg (by omega)]; rfl
          · refine mi_aload_n h dX6_choose_162 (by rfl) ?_
            refine gf_X6_7 h dX6_choose_163 fl_RX6_26 ?_
            refine mi_aload_n h dX6_choose_166 (by rfl) ?_
            refine gf_X6_26 h dX6_choose_167 fl_RX6_79 ?_
            refine mi_iload h dX6_choose_170 (by rfl) ?_
            refine mn_iaload (k1) h dX6_choose_172 (by rfl) (by omega) (by omega) (by decide) ?_
            try simp only [up_app, upC_app, dm_app, Nat.reduceEqDiff, reduceIte, Nat.reduceLeDiff, and_self, and_true, true_and, and_false, false_and, or_self, or_true, true_or, or_false, false_or, Nat.add_eq_zero_iff, Nat.succ_ne_self, Nat.add_right_cancel_iff]
            rw [e50]
            refine mi_iconst h dX6_choose_173 ?_
            refine mn_iastore ((f k1).toNat) h dX6_choose_174 (by rfl) (by omega) (by omega) (by decide) ?_
            refine mi_iinc h dX6_choose_175 (by rfl) ?_ (by decide)
            refine mi_goto (tgt := 136) h dX6_choose_178 (by decide) ?_
            rw [dm_up _ _ (by decide)]
            refine ih _ (by omega) ?_ h50 h51 h52 ?_
            · have t9 := dg_tail hmod (by rw [← edg]; omega) z6.1
              rw [show cntM σ - (k1 + 1) + 1 = cntM σ - k1 by omega] at t9
              exact t9
            · rw [up_st2]
              refine SZ_w hF (by omega) hSZ (fun p q1 q2 q3 => ?_) (by rw [if_neg (by omega)])
              by_cases q4 : rkN (σ 36) p < k1
              · rw [if_pos q4, if_pos (by omega)]
              · rw [if_neg q4, if_neg (by omega)]
    have toinc : ∀ (F : Mem) (x : Int) (l5 l7 : Option MV), F 50 = f → F 51 = g → BM σ (i + 1) (F 52) x → SZ σ i (cntM σ) (F 33) → M K 131 [some (vr 28), some (vi (cntM σ : Int)), some (vl x), none, some (vi 1), l5, none, l7] [] (dm σ F) := by
      intro F x l5 l7 h50 h51 hBM hSZ
      have h9 := inc x l5 (F 52) hBM (cntM σ) F (Nat.le_refl _) (by rw [Nat.sub_self, Nat.pow_zero, Nat.mod_one]) h50 h51 rfl hSZ
      refine mi_iload_n h dX6_choose_131 (by rfl) ?_
      refine mi_iconst h dX6_choose_132 ?_
      refine mi_isub h dX6_choose_133 ?_
      refine mi_istore h dX6_choose_134 (by decide) ?_
      exact h9
    have keep : ¬ (mtM σ i ∧ ∀ b, fO (cstM σ) (mtM σ) i = some b → cstM σ i < cstM σ b) → ∀ (b : Nat → Int) (x : Int), BM σ i b x → BM σ (i + 1) b x := by
      intro q b x h9
      unfold BM
      rw [fO_keep q]
      exact h9
    have cpy : mtM σ i → (∀ b, fO (cstM σ) (mtM σ) i = some b → cstM σ i < cstM σ b) → ∀ (j k : Nat) (F : Mem), k + j = cntM σ → F 50 = f → F 51 = g → SZ σ i (cntM σ) (F 33) → (∀ k', k' < k → F 52 k' = (dg (zM σ) (cntM σ) i k' : Int)) → M K 100 [some (vr 28), some (vi (cntM σ : Int)), some (vl (cstM σ i)), none, some (vi 1), some (vl (cstM σ i)), none, some (vi (k : Int))] [] (dm σ F) := by
      intro q1 q2 j
      induction j with
      | zero =>
        intro k F hk h50 h51 hSZ h52
        have hB9 : BM σ (i + 1) (F 52) (cstM σ i) := by
          refine ⟨fun z => ?_, fun b z => ?_⟩
          · rw [fO_take q1 q2] at z; cases z
          · rw [fO_take q1 q2] at z; cases z
            exact ⟨rfl, fun k' hk' => h52 k' (by omega)⟩
        refine mi_iload h dX6_choose_100 (by rfl) ?_
        refine mi_iload_n h dX6_choose_102 (by rfl) ?_
        refine mi_icmp_ge (tgt := 131) h dX6_choose_103 (by decide) ⟨by omega, by omega⟩ ⟨by omega, by omega⟩ (fun e103 => ?_) (fun e103 => ?_)
        · exact toinc F _ _ _ h50 h51 hB9 hSZ
        · exfalso; omega
      | succ j ih =>
        intro k F hk h50 h51 hSZ h52
        have c1 := rd_f hF (k := k) (by omega)
        have e50 : F 50 k = (((f k).toNat : Nat) : Int) := by rw [h50]; omega
        have e33 : F 33 (f k).toNat = (dg (zM σ) (cntM σ) i k : Int) := by
          rw [hSZ, if_pos ⟨by omega, c1.2.2.1⟩, c1.2.2.2, if_pos (by omega)]
          unfold ziM
          rw [c1.2.2.2]
        refine mi_iload h dX6_choose_100 (by rfl) ?_
        refine mi_iload_n h dX6_choose_102 (by rfl) ?_
        refine mi_icmp_ge (tgt := 131) h dX6_choose_103 (by decide) ⟨by omega, by omega⟩ ⟨by omega, by omega⟩ (fun e103 => ?_) (fun e103 => ?_)
        · exfalso; omega
        · refine mi_aload_n h dX6_choose_106 (by rfl) ?_
          refine gf_X6_28 h dX6_choose_107 fl_RX6_85 ?_
          refine mi_iload h dX6_choose_110 (by rfl) ?_
          refine mi_aload_n h dX6_choose_112 (by rfl) ?_
          refine gf_X6_7 h dX6_choose_113 fl_RX6_26 ?_
          refine mi_aload_n h dX6_choose_116 (by rfl) ?_
          refine gf_X6_26 h dX6_choose_117 fl_RX6_79 ?_
          refine mi_iload h dX6_choose_120 (by rfl) ?_
          refine mn_iaload (k) h dX6_choose_122 (by rfl) (by omega) (by omega) (by decide) ?_
          try simp only [up_app, upC_app, dm_app, Nat.reduceEqDiff, reduceIte, Nat.reduceLeDiff, and_self, and_true, true_and, and_false, false_and, or_self, or_true, true_or, or_false, false_or, Nat.add_eq_zero_iff, Nat.succ_ne_self, Nat.add_right_cancel_iff]
          rw [e50]
          refine mn_iaload ((f k).toNat) h dX6_choose_123 (by rfl) (by omega) (by omega) (by decide) ?_
          try simp only [up_app, upC_app, dm_app, Nat.reduceEqDiff, reduceIte, Nat.reduceLeDiff, and_self, and_true, true_and, and_false, false_and, or_self, or_true, true_or, or_false, false_or, Nat.add_eq_zero_iff, Nat.succ_ne_self, Nat.add_right_cancel_iff]
          rw [e33]
          refine mn_iastore (k) h dX6_choose_124 (by rfl) (by omega) (by omega) (by decide) ?_
          refine mi_iinc h dX6_choose_125 (by rfl) ?_ (by decide)
          refine mi_goto (tgt := 100) h dX6_choose_128 (by decide) ?_
          rw [dm_up _ _ (by decide)]
          refine ih (k + 1) _ (by omega) h50 h51 hSZ (fun k9 hk9 => ?_)
          rw [up_at]
          by_cases e9 : k9 = k
          · rw [if_pos e9, e9]
          · rw [if_neg e9]; exact h52 k9 (by omega)
    have hPd : JP (dm σ F) := by
      have := JP_rz (z := ziM σ i) hP (fun p hp => ziM_lt hJ hP hQ i hp)
      rw [← SZ_eq hSZ] at this
      exact this
    have hQd : JQ (dm σ F) := by
      have := JQ_rz (z := ziM σ i) hQ (fun p hp => ziM_lt hJ hP hQ i hp)
      rw [← SZ_eq hSZ] at this
      exact this
    have hcost : sm (prcM (dm σ F)) (σ 28 11).toNat = cstM σ i := by
      unfold cstM
      rw [← SZ_eq hSZ]
      rfl
    refine mi_iload h dX6_choose_63 (by rfl) ?_
    refine mi_if_eq (tgt := 217) h dX6_choose_65 (by decide) ⟨by omega, by omega⟩ (fun e65 => ?_) (fun e65 => ?_)
    · exfalso; omega
    · refine mi_aload_n h dX6_choose_68 (by rfl) ?_
      refine mi_cV0l (hw := Nat.le_of_ble_eq_true rfl) h dX6_choose_69 ml_RX6_223 ym_yX6_price (by rfl) (by rfl) (c_X6_price (σ := dm σ F) hJ hZ hPd) (fun r69 σ69 hp69 => ?_)
      obtain ⟨rfl, hv69⟩ := hp69
      have hv69 : r69 = cstM σ i := hv69.trans hcost
      subst hv69
      refine mi_lstore h dX6_choose_72 (by decide) ?_
      refine mi_lload_n h dX6_choose_74 (by rfl) ?_
      refine mi_lconst0 h dX6_choose_75 ?_
      refine mi_lcmp_lt (tgt := 87) h dX6_choose_76 dX6_choose_77 (by decide) ⟨by omega, by omega⟩ ⟨by omega, by omega⟩ (fun e76 => ?_) (fun e76 => ?_)
      · refine mi_aload_n h dX6_choose_87 (by rfl) ?_
        refine mi_cV0i (hw := Nat.le_of_ble_eq_true rfl) h dX6_choose_88 ml_RX6_227 ym_yX6_areMet (by rfl) (by rfl) (by have := c_X6_areMet (σ := dm σ F) (F0 := dm σ F) hJ hZ hPd hB hQd; rw [wm_self] at this; exact this) (fun r88 σ88 hp88 => ?_)
        obtain ⟨⟨W9, rfl⟩, hb88, hc88⟩ := hp88
        rw [dm_wm]
        have hc88 : r88 = 1 ↔ mtM σ i := by
          rw [hc88]
          unfold mtM
          rw [← SZ_eq hSZ]
          exact Iff.rfl
        refine mi_if_eq (tgt := 131) h dX6_choose_91 (by decide) ⟨by omega, by omega⟩ (fun e91 => ?_) (fun e91 => ?_)
        · exact toinc (wm F W9) _ _ _ h50 h51 (keep (fun z => by have := hc88.mpr z.1; omega) _ _ hBM) hSZ
        · refine mi_lload h dX6_choose_94 (by rfl) ?_
          refine mi_lstore_n h dX6_choose_96 (by decide) ?_
          refine mi_iconst h dX6_choose_97 ?_
          refine mi_istore h dX6_choose_98 (by decide) ?_
          refine cpy (hc88.mp (by omega)) (fun b9 hb9 => ?_) (cntM σ) 0 (wm F W9) (by omega) h50 h51 hSZ (fun k9 hk9 => by omega)
          have := (hBM.2 b9 hb9).1
          have := cstM_rng hJ hZ hP hQ b9
          omega
      · refine mi_lload h dX6_choose_80 (by rfl) ?_
        refine mi_lload_n h dX6_choose_82 (by rfl) ?_
        refine mi_lcmp_ge (tgt := 131) h dX6_choose_83 dX6_choose_84 (by decide) ⟨by omega, by omega⟩ ⟨by omega, by omega⟩ (fun e83 => ?_) (fun e83 => ?_)
        · exact toinc F _ _ _ h50 h51 (keep (fun z => by
            cases e : fO (cstM σ) (mtM σ) i with
            | none => have := hBM.1 e; omega
            | some b9 => have := z.2 b9 e; have := (hBM.2 b9 e).1; omega) _ _ hBM) hSZ
        · refine mi_aload_n h dX6_choose_87 (by rfl) ?_
          refine mi_cV0i (hw := Nat.le_of_ble_eq_true rfl) h dX6_choose_88 ml_RX6_227 ym_yX6_areMet (by rfl) (by rfl) (by have := c_X6_areMet (σ := dm σ F) (F0 := dm σ F) hJ hZ hPd hB hQd; rw [wm_self] at this; exact this) (fun r88 σ88 hp88 => ?_)
          obtain ⟨⟨W9, rfl⟩, hb88, hc88⟩ := hp88
          rw [dm_wm]
          have hc88 : r88 = 1 ↔ mtM σ i := by
            rw [hc88]
            unfold mtM
            rw [← SZ_eq hSZ]
            exact Iff.rfl
          refine mi_if_eq (tgt := 131) h dX6_choose_91 (by decide) ⟨by omega, by omega⟩ (fun e91 => ?_) (fun e91 => ?_)
          · exact toinc (wm F W9) _ _ _ h50 h51 (keep (fun z => by have := hc88.mpr z.1; omega) _ _ hBM) hSZ
          · refine mi_lload h dX6_choose_94 (by rfl) ?_
            refine mi_lstore_n h dX6_choose_96 (by decide) ?_
            refine mi_iconst h dX6_choose_97 ?_
            refine mi_istore h dX6_choose_98 (by decide) ?_
            refine cpy (hc88.mp (by omega)) (fun b9 hb9 => ?_) (cntM σ) 0 (wm F W9) (by omega) h50 h51 hSZ (fun k9 hk9 => by omega)
            have := (hBM.2 b9 hb9).1
            have := cstM_rng hJ hZ hP hQ b9
            omega
  have main : ∀ (f g : Nat → Int), FL (σ 36) (σ 28 11).toNat f → (∀ k, k < cntM σ → g k = σ 33 (f k).toNat) → ∀ (j i : Nat) (F : Mem) (x : Int) (l5 l7 : Option MV), i + j + 1 = zM σ ^ cntM σ → F 50 = f → F 51 = g → BM σ i (F 52) x → SZ σ i (cntM σ) (F 33) → M K 63 [some (vr 28), some (vi (cntM σ : Int)), some (vl x), none, some (vi 1), l5, none, l7] [] (dm σ F) := by
    intro f g hF hg j
    induction j with
    | zero => exact fun i F x l5 l7 hi h50 h51 hBM hSZ => body f g hF hg i F x l5 l7 (by omega) h50 h51 hBM hSZ (fun z => by omega)
    | succ j ih => exact fun i F x l5 l7 hi h50 h51 hBM hSZ => body f g hF hg i F x l5 l7 (by omega) h50 h51 hBM hSZ (fun z F x l5 l7 a1 a2 a3 a4 => ih (i + 1) F x l5 l7 (by omega) a1 a2 a3 a4)
  have hN : 0 < zM σ ^ cntM σ := by
    by_cases hn : 0 < σ 28 11
    · exact Nat.pow_pos (Z_posM hJ hP hQ (p := 0) hn).1
    · rw [show cntM σ = 0 by rw [hcn, show (σ 28 11).toNat = 0 by omega]; rfl]; exact Nat.one_pos
  have loop1 : ∀ (j p : Nat) (F : Mem), (p : Int) + j = σ 28 11 → FL (σ 36) p (F 50) → (∀ k, k < rkN (σ 36) p → F 51 k = σ 33 (F 50 k).toNat) → (∀ q : Nat, F 33 q = if q < p ∧ σ 36 q = 1 then 0 else σ 33 q) → M K 4 [some (vr 28), some (vi (rkN (σ 36) p : Int)), some (vi (p : Int)), none, none, none, none, none] [] (dm σ F) := by
    intro j
    induction j with
    | zero =>
      intro p F hp hF h51 h33
      have ep : (σ 28 11).toNat = p := by omega
      have ec : rkN (σ 36) p = cntM σ := by rw [hcn, ep]
      have h9 := main (F 50) (F 51) (by rw [ep]; exact hF) (by rw [← ec]; exact h51) (zM σ ^ cntM σ - 1) 0 F (-1) none none (by omega) rfl rfl ⟨fun _ => rfl, fun b z => by cases z⟩ (fun q => by
        rw [h33 q]
        by_cases q1 : (q : Int) < σ 28 11 ∧ σ 36 q = 1
        · rw [if_pos q1, if_pos ⟨by omega, q1.2⟩]
          unfold ziM
          rw [dg_0]
          split <;> rfl
        · rw [if_neg q1, if_neg (fun z => q1 ⟨by omega, z.2⟩)])
      rw [ec]
      refine mi_iload_n h dX6_choose_4 (by rfl) ?_
      refine mi_aload_n h dX6_choose_5 (by rfl) ?_
      refine gf_X6_11 h dX6_choose_6 fl_RX6_109 ?_
      try simp only [up_app, upC_app, dm_app, Nat.reduceEqDiff, reduceIte, Nat.reduceLeDiff, and_self, and_true, true_and, and_false, false_and, or_self, or_true, true_or, or_false, false_or, Nat.add_eq_zero_iff, Nat.succ_ne_self, Nat.add_right_cancel_iff]
      refine mi_icmp_ge (tgt := 56) h dX6_choose_9 (by decide) ⟨by omega, by omega⟩ ⟨by omega, by omega⟩ (fun e9 => ?_) (fun e9 => ?_)
      · refine mi_ldc2 (z := -1) h dX6_choose_56 kc_RX6_189 rfl ?_
        refine mi_lstore_n h dX6_choose_59 (by decide) ?_
        refine mi_iconst h dX6_choose_60 ?_
        refine mi_istore h dX6_choose_61 (by decide) ?_
        exact h9
      · exfalso; omega
    | succ j ih =>
      intro p F hp hF h51 h33
      have b1 := (hB.1 p (by omega)).2.1
      have ck : σ 36 p = 1 → rkN (σ 36) p < 5 := fun q => by have := rkN_lt q (show p < (σ 28 11).toNat by omega); omega
      have e33 : F 33 p = σ 33 p := by rw [h33, if_neg (by omega)]
      refine mi_iload_n h dX6_choose_4 (by rfl) ?_
      refine mi_aload_n h dX6_choose_5 (by rfl) ?_
      refine gf_X6_11 h dX6_choose_6 fl_RX6_109 ?_
      try simp only [up_app, upC_app, dm_app, Nat.reduceEqDiff, reduceIte, Nat.reduceLeDiff, and_self, and_true, true_and, and_false, false_and, or_self, or_true, true_or, or_false, false_or, Nat.add_eq_zero_iff, Nat.succ_ne_self, Nat.add_right_cancel_iff]
      refine mi_icmp_ge (tgt := 56) h dX6_choose_9 (by decide) ⟨by omega, by omega⟩ ⟨by omega, by omega⟩ (fun e9 => ?_) (fun e9 => ?_)
      · exfalso; omega
      · refine mi_aload_n h dX6_choose_12 (by rfl) ?_
        refine gf_X6_10 h dX6_choose_13 fl_RX6_36 ?_
        refine mi_iload_n h dX6_choose_16 (by rfl) ?_
        refine mn_baload (p) h dX6_choose_17 (by rfl) (by omega) (by omega) (by decide) ?_
        try simp only [up_app, upC_app, dm_app, Nat.reduceEqDiff, reduceIte, Nat.reduceLeDiff, and_self, and_true, true_and, and_false, false_and, or_self, or_true, true_or, or_false, false_or, Nat.add_eq_zero_iff, Nat.succ_ne_self, Nat.add_right_cancel_iff]
        refine mi_if_eq (tgt := 50) h dX6_choose_18 (by decide) ⟨by omega, by omega⟩ (fun e18 => ?_) (fun e18 => ?_)
        · refine mi_iinc h dX6_choose_50 (by rfl) ?_ (by decide)
          refine mi_goto (tgt := 4) h dX6_choose_53 (by decide) ?_
          first
          | (rw [dm_up _ _ (by decide), dm_up _ _ (by decide), dm_up _ _ (by decide)]
             have h9 := ih (p + 1) (up (up (up F 50 (rkN (σ 36) p) p) 51 (rkN (σ 36) p) (σ 33 p)) 33 p 0) (by omega) (by
               have z9 := FL_yes hF e36
               rw [← up_st2] at z9
               exact z9) (fun k hk => by
               rw [rkN, if_pos e36] at hk
               show (if k = rkN (σ 36) p then σ 33 p else F 51 k) = σ 33 (if k = rkN (σ 36) p then (p : Int) else F 50 k).toNat
               by_cases e9 : k = rkN (σ 36) p
               · rw [if_pos e9, if_pos e9, Int.toNat_natCast]
               · rw [if_neg e9, if_neg e9]; exact h51 k (by omega)) (fun q => by
               show (if q = p then (0 : Int) else F 33 q) = _
               by_cases e9 : q = p
               · rw [if_pos e9, e9, if_pos ⟨by omega, e36⟩]
               · rw [if_neg e9, h33 q]
                 by_cases e8 : q < p ∧ σ 36 q = 1
                 · rw [if_pos e8, if_pos ⟨by omega, e8.2⟩]
                 · rw [if_neg e8, if_neg (fun z => e8 ⟨by omega, z.2⟩)])
             rw [rkN, if_pos e36] at h9
             exact h9)
          | (have e36 : ¬ σ 36 p = 1 := by omega
             have h9 := ih (p + 1) F (by omega) (FL_no hF e36) (by rw [rkN, if_neg e36]; exact h51) (fun q => by
               rw [h33 q]
               by_cases e8 : q < p ∧ σ 36 q = 1
               · rw [if_pos e8, if_pos ⟨by omega, e8.2⟩]
               · rw [if_neg e8, if_neg (fun z => e8 ⟨by
                   by_cases e9 : q = p
                   · rw [e9] at z; exact absurd z.2 e36
                   · omega, z.2⟩)])
             rw [rkN, if_neg e36] at h9
             exact h9)
        · have ck9 := ck (by omega)
          have e36 : σ 36 p = 1 := by omega
          refine mi_aload_n h dX6_choose_21 (by rfl) ?_
          refine gf_X6_26 h dX6_choose_22 fl_RX6_79 ?_
          refine mi_iload_n h dX6_choose_25 (by rfl) ?_
          refine mi_iload_n h dX6_choose_26 (by rfl) ?_
          refine mn_iastore (rkN (σ 36) p) h dX6_choose_27 (by rfl) (by omega) (by omega) (by decide) ?_
          refine mi_aload_n h dX6_choose_28 (by rfl) ?_
          refine gf_X6_27 h dX6_choose_29 fl_RX6_82 ?_
          refine mi_iload_n h dX6_choose_32 (by rfl) ?_
          refine mi_aload_n h dX6_choose_33 (by rfl) ?_
          refine gf_X6_7 h dX6_choose_34 fl_RX6_26 ?_
          refine mi_iload_n h dX6_choose_37 (by rfl) ?_
          refine mn_iaload (p) h dX6_choose_38 (by rfl) (by omega) (by omega) (by decide) ?_
          try simp only [up_app, upC_app, dm_app, Nat.reduceEqDiff, reduceIte, Nat.reduceLeDiff, and_self, and_true, true_and, and_false, false_and, or_self, or_true, true_or, or_false, false_or, Nat.add_eq_zero_iff, Nat.succ_ne_self, Nat.add_right_cancel_iff]
          rw [e33]
          refine mn_iastore (rkN (σ 36) p) h dX6_choose_39 (by rfl) (by omega) (by omega) (by decide) ?_
          refine mi_aload_n h dX6_choose_40 (by rfl) ?_
          refine gf_X6_7 h dX6_choose_41 fl_RX6_26 ?_
          refine mi_iload_n h dX6_choose_44 (by rfl) ?_
          refine mi_iconst h dX6_choose_45 ?_
          refine mn_iastore (p) h dX6_choose_46 (by rfl) (by omega) (by omega) (by decide) ?_
          refine mi_iinc h dX6_choose_47 (by rfl) ?_ (by decide)
          refine mi_iinc h dX6_choose_50 (by rfl) ?_ (by decide)
          refine mi_goto (tgt := 4) h dX6_choose_53 (by decide) ?_
          first
          | (rw [dm_up _ _ (by decide), dm_up _ _ (by decide), dm_up _ _ (by decide)]
             have h9 := ih (p + 1) (up (up (up F 50 (rkN (σ 36) p) p) 51 (rkN (σ 36) p) (σ 33 p)) 33 p 0) (by omega) (by
               have z9 := FL_yes hF e36
               rw [← up_st2] at z9
               exact z9) (fun k hk => by
               rw [rkN, if_pos e36] at hk
               show (if k = rkN (σ 36) p then σ 33 p else F 51 k) = σ 33 (if k = rkN (σ 36) p then (p : Int) else F 50 k).toNat
               by_cases e9 : k = rkN (σ 36) p
               · rw [if_pos e9, if_pos e9, Int.toNat_natCast]
               · rw [if_neg e9, if_neg e9]; exact h51 k (by omega)) (fun q => by
               show (if q = p then (0 : Int) else F 33 q) = _
               by_cases e9 : q = p
               · rw [if_pos e9, e9, if_pos ⟨by omega, e36⟩]
               · rw [if_neg e9, h33 q]
                 by_cases e8 : q < p ∧ σ 36 q = 1
                 · rw [if_pos e8, if_pos ⟨by omega, e8.2⟩]
                 · rw [if_neg e8, if_neg (fun z => e8 ⟨by omega, z.2⟩)])
             rw [rkN, if_pos e36] at h9
             exact h9)
          | (have e36 : ¬ σ 36 p = 1 := by omega
             have h9 := ih (p + 1) F (by omega) (FL_no hF e36) (by rw [rkN, if_neg e36]; exact h51) (fun q => by
               rw [h33 q]
               by_cases e8 : q < p ∧ σ 36 q = 1
               · rw [if_pos e8, if_pos ⟨by omega, e8.2⟩]
               · rw [if_neg e8, if_neg (fun z => e8 ⟨by
                   by_cases e9 : q = p
                   · rw [e9] at z; exact absurd z.2 e36
                   · omega, z.2⟩)])
             rw [rkN, if_neg e36] at h9
             exact h9)
  have h9 := loop1 (σ 28 11).toNat 0 σ (by omega) FL_0 (fun k hk => by rw [rkN] at hk; omega) (fun q => by rw [if_neg (by omega)])
  rw [dm_self] at h9
  refine mi_iconst h dX6_choose_0 ?_
  refine mi_istore_n h dX6_choose_1 (by decide) ?_
  refine mi_iconst h dX6_choose_2 ?_
  refine mi_istore_n h dX6_choose_3 (by decide) ?_
  exact h9
