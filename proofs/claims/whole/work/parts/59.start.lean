/-! THE CLAIM OUT OF ONE WALK OF THE LAW'S BODY. Your part is whole_start (and what it stands on); all else here is the same for every law, but numbers. -/
def R_law : String := "SprinklerHouseLaw"
def lw_P (b : Addr) (xs : List Int32) (args : Array Value) (s : State) : Prop := args = #[.ref b] ∧ s.IntsAt b xs ∧ xs.length ≤ 2560 ∧ (Jvm.Cond.and given_1 narrow_1).before args s = true
def lw_Q (_ : Array Value) (s : State) (o : Outcome) (t : State) : Prop := o = .returned (some (.int 1)) ∧ Framed s o t [] 600000 7302250
def lw_Z (below : List Frame) (a : Array Value) (s : State) : State → Prop := fun t => ∃ o, t.status = .running ∧ Ended t below o ∧ lw_Q a s o t
/-- the law's own end, with 1 on the stack, nothing written that was there before, its room as the claim has it -/
theorem lw_ret {p : Program} {l : Launch} {e : Env} {s : State} {m : MethodId} {below : List Frame} {meth : Method} {c : Code} {b : Nat} (hx : p.tables.exec = Jvm.exec) (hb : c.code = code) (hr : meth.sig.returnType = ret) (hlocks : meth.locks = false) {pc : Nat} {H : Heap} {ls : Array Slot} (hdg : decode code pc = .ok (.ireturn, 1)) : W p l e room_1 s m #[Value.ref b] below meth c H [] 600000 7302250 (lw_Z below #[Value.ref b] s) (F0 m pc ls [.int 1]) := by
  intro T hT X
  obtain ⟨fs, hret, hrun, hended, hW, hframe⟩ := X.leave (v := some (.int 1)) (hlocks := hlocks) (fun h => by rw [hr] at h; cases h)
  have hmeth' : T.vm.method? m = some meth := X.method'
  refine ⟨T.setFrames fs, ?_, .returned (some (.int 1)), hrun, hended, rfl, ⟨_, rfl⟩, hW, hframe⟩
  jvm_step X.here [X.here.top, hx, hb, hdg, hmeth', hr, ret, narrow_b1]
  (try refine ⟨rfl, ?_⟩); (try refine ⟨rfl, ?_⟩)
  first | (intro acts; rw [hret _ acts rfl rfl rfl]) | rw [hret _ _ rfl rfl rfl]
  exact Steps.refl _
/-- what holds at the law's entry: the machine, the code, the tables' words (any of lw_tbl by 'hts w (by decide +kernel)'), the script of L ints xs at the cell b, what the Statement gives of the start (any of its parts by flat_of_before) -/
def lw_At (p : Program) (s : State) (m : MethodId) (meth : Method) (c : Code) (b L : Nat) (xs : Nat → Int32) : Prop :=
  p.tables.exec = Jvm.exec ∧ c.code = code ∧ meth.sig.returnType = ret ∧ c.maxLocals = 4 ∧ s.vm.findClass R_law = some m.cls ∧ (∀ w ∈ lw_tbl, w.before #[Value.ref b] s = true) ∧ va_X b L xs s s.heap ∧ b < s.heap.size ∧ meth.locks = false ∧ (Jvm.Cond.and given_1 narrow_1).before #[Value.ref b] s = true
/-- the law from its entry -/
theorem arr_k {s : State} {cA : ClassId} {kA : Class} {comp : ClassId} {ty : FieldType} (h2 : s.vm.classes[cA]? = some kA) (h3 : kA.kind = .array comp ty) : ArrOfT s cA ty := fun n z => ⟨fun k h => (by cases h), kA, h2, comp, h3⟩
set_option maxHeartbeats 4000000 in
set_option maxRecDepth 100000 in
theorem whole_start {p : Program} {e : Env} {s : State} {m : MethodId} {below : List Frame} {meth : Method} {c : Code} (l : Launch) {b L : Nat} {xs : Nat → Int32} (hL : L ≤ 2560) (C0 : lw_At p s m meth c b L xs) : W p l e room_1 s m #[Value.ref b] below meth c s.heap [] 0 0 (lw_Z below #[Value.ref b] s) (entryFrame m ([Value.ref b] : List Value).toArray 4) := by
  obtain ⟨hx, hb, hr, hml, hown, hts, hX, hbl, hlocks, hgv⟩ := id C0
  have hw : ∀ w ∈ wT, w.before #[Value.ref b] s = true := fun w h => hts w (List.mem_filter.mp h).1
  obtain ⟨c0, s0, k0⟩ := u_known (C := RX0) (T := TX0) (N := 13) (n := 13) hw uw_RX0 (hw _ (wT_at 158 (by decide +kernel) (by decide +kernel)))
  obtain ⟨c1, s1, k1⟩ := u_known (C := RX1) (T := TX1) (N := 17) (n := 17) hw uw_RX1 (hw _ (wT_at 58 (by decide +kernel) (by decide +kernel)))
  obtain ⟨c2, s2, k2⟩ := u_known (C := RX2) (T := TX2) (N := 7) (n := 7) hw uw_RX2 (hw _ (wT_at 204 (by decide +kernel) (by decide +kernel)))
  obtain ⟨c3, s3, k3⟩ := u_known (C := RX4) (T := TX4) (N := 3) (n := 3) hw uw_RX4 (hw _ (wT_at 140 (by decide +kernel) (by decide +kernel)))
  obtain ⟨c4, s4, k4⟩ := u_known (C := RX5) (T := TX5) (N := 6) (n := 6) hw uw_RX5 (hw _ (wT_at 50 (by decide +kernel) (by decide +kernel)))
  obtain ⟨c5, s5, k5⟩ := u_known (C := RX6) (T := TX6) (N := 36) (n := 36) hw uw_RX6 (hw _ (wT_at 645 (by decide +kernel) (by decide +kernel)))
  obtain ⟨dC, dI, hKc⟩ : ∃ (dC : Nat → ClassId) (dI : Nat → Nat → Nat), ∀ (k : Nat) (q : vw_C), classes[k]? = some q → u_Kn s q.1 q.2.1 q.2.2 (dC k) (dI k) := by
    refine ⟨fun k => if k = 0 then c0 else if k = 1 then c1 else if k = 2 then c2 else if k = 3 then c3 else if k = 4 then c4 else c5, fun k => if k = 0 then s0 else if k = 1 then s1 else if k = 2 then s2 else if k = 3 then s3 else if k = 4 then s4 else s5, ?_⟩
    intro k q hq
    match k, hq with
    | 0, hq => cases hq; exact k0
    | 1, hq => cases hq; exact k1
    | 2, hq => cases hq; exact k2
    | 3, hq => cases hq; exact k3
    | 4, hq => cases hq; exact k4
    | 5, hq => cases hq; exact k5
    | k + 6, hq => simp [classes] at hq
  obtain ⟨a0, ka0, co0, f0, g0, e0⟩ := Cond.arrayClass_spec (hw (.arrayClass .int) (wT_at 138 (by decide +kernel) (by decide +kernel)))
  obtain ⟨a1, ka1, co1, f1, g1, e1⟩ := Cond.arrayClass_spec (hw (.arrayClass .long) (wT_at 156 (by decide +kernel) (by decide +kernel)))
  obtain ⟨a2, ka2, co2, f2, g2, e2⟩ := Cond.arrayClass_spec (hw (.arrayClass .boolean) (wT_at 759 (by decide +kernel) (by decide +kernel)))
  obtain ⟨cA, hcA⟩ : ∃ cA : Nat → ClassId, va_K (dC, dI) classes (tyA cA) s := by
    refine ⟨fun k => if k = 0 then a0 else if k = 1 then a1 else a2, hKc, ?_⟩
    intro k q hq
    match k, hq with
    | 0, hq => cases hq; exact ⟨arr_k g0 e0, f0⟩
    | 1, hq => cases hq; exact ⟨arr_k g1 e1, f1⟩
    | 2, hq => cases hq; exact ⟨arr_k g2 e2, f2⟩
    | k + 3, hq => simp [tyA] at hq
  have n1 : va_Nw (.methodLinkNest RX1 63 yX5_withBit "SprinklerHouse") s := va_Nw.of rfl (hts _ (List.mem_of_getElem? (i := 306) (by decide +kernel)))
  have n2 : va_Nw (.methodLinkNest RX4 48 yX5_bit "SprinklerHouse") s := va_Nw.of rfl (hts _ (List.mem_of_getElem? (i := 350) (by decide +kernel)))
  have n3 : va_Nw (.methodLinkNest RX0 78 yX5_bit "SprinklerHouse") s := va_Nw.of rfl (hts _ (List.mem_of_getElem? (i := 489) (by decide +kernel)))
  have n6 : va_Nw (.methodLinkNest RX5 186 yX0_search "SprinklerHouse") s := va_Nw.of rfl (hts _ (List.mem_of_getElem? (i := 509) (by decide +kernel)))
  have n4 : va_Nw (.methodLinkNest RX2 44 yX5_bit "SprinklerHouse") s := va_Nw.of rfl (hts _ (List.mem_of_getElem? (i := 576) (by decide +kernel)))
  have n5 : va_Nw (.methodLinkNest RX2 47 yX5_withBit "SprinklerHouse") s := va_Nw.of rfl (hts _ (List.mem_of_getElem? (i := 589) (by decide +kernel)))
  have hN : nests s := by
    intro q hq
    rcases List.mem_cons.mp hq with rfl | hq
    · exact n1
    rcases List.mem_cons.mp hq with rfl | hq
    · exact n2
    rcases List.mem_cons.mp hq with rfl | hq
    · exact n3
    rcases List.mem_cons.mp hq with rfl | hq
    · exact n6
    rcases List.mem_cons.mp hq with rfl | hq
    · exact n4
    rcases List.mem_cons.mp hq with rfl | hq
    · exact n5
    exact absurd hq List.not_mem_nil
  have hl := lv_entry ([.ref b]) (n := 4) (Nat.le_of_ble_eq_true rfl)
  have hP0 : va_P (dC, dI) classes [] s.heap := fun k q h => by simp at h
  have hD0 : va_D (fun q : Nat => s.heap.size ≤ q) [] := ⟨fun i j p q h => by simp at h, fun k q h => by simp at h⟩
  rw [lg_entry_eq]
  refine law_cons (D := (dC, dI)) (cA := cA) (b := b) ⟨hx, hb, hml, hown, hw, hlocks, hcA, fun q h => h, Nat.le_refl _, Nat.le_refl _, Nat.le_refl _, Nat.le_refl _⟩ ?_ s.heap [] _ hP0 hD0 va_S.rf (by rw [hml]; exact hl)
  intro ad H locs LS had hge hP hD hS hlv
  have hbA : ¬ A0 ad s.heap.size b := by
    rintro (⟨c9, h1, h2⟩ | h1)
    · have := hge c9 h1
      omega
    · omega
  have hMC : MC (p, l, e, room_1, s, m, #[Value.ref b], below, meth, c, (dC, dI), ad, cA, lw_Z below #[Value.ref b] s, 58, 1704) cL_law 4 RL 16 := ⟨hx, hb, hml, hown, hw, hlocks, hcA, hN, Nat.le_of_ble_eq_true rfl, Nat.le_of_ble_eq_true rfl, Nat.le_of_ble_eq_true rfl, Nat.le_of_ble_eq_true rfl⟩
  have hend : ∀ (i : Nat) (σ : Mem), M (p, l, e, room_1, s, m, #[Value.ref b], below, meth, c, (dC, dI), ad, cA, lw_Z below #[Value.ref b] s, 58, 1704) 1135 (lls i) [] σ := by
    intro i σ H locs LS hP hD hS hl
    refine lv_iconst (v := 1) hx hb dL_law_1135 (by decide) ?_
    refine va_forget (fun q hq => ?_) ?_
    · rcases hS.2.2 q hq with ⟨c9, h1, h2⟩ | h1
      · rw [h2]; exact hge c9 h1
      · exact h1
    · refine W.widen (k := 600000) (n := 7302250) (Nat.le_of_ble_eq_true rfl) (Nat.le_of_ble_eq_true rfl) ?_
      exact lw_ret hx hb hr hlocks dL_law_1136
  have main := law_loop (b := b) (L := L) (xs := xs) ⟨hMC, ⟨had, hX, hbl, hbA⟩, hL⟩ hend L 0 sg0 (by omega) (by omega) RR_0
  have m16 : M (p, l, e, room_1, s, m, #[Value.ref b], below, meth, c, (dC, dI), ad, cA, lw_Z below #[Value.ref b] s, 58, 1704) 16 [some (vr 58), some (vr 0), some (vr 28), none] [] sg0 := by
    refine mi_iconst hMC dL_law_16 ?_
    refine mi_istore_n hMC dL_law_17 (by decide) ?_
    exact main
  refine m16 H locs LS hP (mkW_A hD) ⟨hS.1, fun q h1 h2 => hS.2.1 q h1 (fun z => h2 (Or.inr z)), fun q h1 => Or.inr (hS.2.2 q h1)⟩ (lvs_of hlv (fun k v hv => ?_))
  match k, hv with
  | 0, hv => cases hv; show (0, Value.ref (ad 58)) ∈ _; rw [had]; simp
  | 1, hv => cases hv; show (1, Value.ref (ad 0)) ∈ _; simp
  | 2, hv => cases hv; show (2, Value.ref (ad 28)) ∈ _; simp
  | 3, hv => cases hv
  | k + 4, hv => simp at hv
