/-! words -/
def wT : List Cond := lw_tbl.filter goodWord
theorem wT_good : GoodIn wT wT := fun _ hw => ⟨hw, good_of_word (List.mem_filter.mp hw).2⟩
theorem wT_at (i : Nat) {w : Cond} (h : lw_tbl[i]? = some w) (hg : goodWord w = true) : w ∈ wT := List.mem_filter.mpr ⟨List.mem_of_getElem? h, hg⟩
theorem wT_cons {w : Cond} (h : w ∈ wT) : GoodIn wT (w :: wT) := fun x hx => by
  rcases List.mem_cons.mp hx with e | h2
  · rw [e]; exact wT_good w h
  · exact wT_good x h2
abbrev nestL : List (String × Nat × MethodName × String) := [(RX1, 63, yX5_withBit, "SprinklerHouse"), (RX4, 48, yX5_bit, "SprinklerHouse"), (RX0, 78, yX5_bit, "SprinklerHouse"), (RX5, 186, yX0_search, "SprinklerHouse"), (RX2, 44, yX5_bit, "SprinklerHouse"), (RX2, 47, yX5_withBit, "SprinklerHouse")]
def nests (U : State) : Prop := ∀ q ∈ nestL, va_Nw (.methodLinkNest q.1 q.2.1 q.2.2.1 q.2.2.2) U
theorem nests_warm {s U : State} (hW : s.WarmedH U.vm) (h : nests s) : nests U := fun q hq => va_Nw.warmM hW (h q hq)
theorem nests_same {u U : State} (e : u.vm = U.vm) (h : nests u) : nests U := fun q hq => va_Nw.same rfl e (h q hq)
/-- the world at a state -/
def WD (D : va_G) (ad : Nat → Nat) (cA : Nat → ClassId) (σ : Mem) (U : State) : Prop := va_P D classes (mkW ad cA σ) U.heap ∧ va_K D classes (tyA cA) U ∧ va_D (fun _ => True) (mkW ad cA σ) ∧ nests U
def cvr : Nat → Int → Option Value
  | 0, _ => none
  | 1, r => some (.int (Int32.ofInt r))
  | _, r => some (.long (Int64.ofInt r))
def rv : Nat → Int → List MV
  | 0, _ => []
  | 1, r => [vi r]
  | _, r => [vl r]
theorem rv_map (ad : Nat → Nat) (rk : Nat) (r : Int) : (rv rk r).map (cvv ad) = (cvr rk r).toList := by
  match rk with
  | 0 => rfl
  | 1 => rfl
  | n + 2 => rfl
def QS (rk : Nat) (D : va_G) (ad : Nat → Nat) (cA : Nat → ClassId) (sz : Nat) (po : Int → Mem → Prop) : Array Value → State → Outcome → State → Prop := fun _ st oc t =>
  ∃ (r : Int) (σ' : Mem), oc = .returned (cvr rk r) ∧ po r σ' ∧ va_P D classes (mkW ad cA σ') t.heap ∧ va_F (A0 ad sz) st t
abbrev Rm (lev : Nat) : Room := { frames := lev, cells := 0, slots := 0, locals := 40 * lev }
/-- a contract at given arguments and a given memory -/
def Sp1 (y : MethodName) (bytes : ByteArray) (maxL : Nat) (rt : Option FieldType) (rk lev : Nat) (as : List MV) (σ : Mem) (po : Int → Mem → Prop) : Prop :=
  ∀ (l : Launch) (D : va_G) (ad : Nat → Nat) (cA : Nat → ClassId) (sz : Nat), Met l y (.code y bytes maxL rt :: wT) (Rm lev) (va_Pc (as.map (cvv ad)) (fun U => U.heap.size = sz ∧ WD D ad cA σ U)) (QS rk D ad cA sz po) 0 0 (A0 ad sz)
abbrev KT : Type := Program × Launch × Env × Room × State × MethodId × Array Value × List Frame × Method × Code × va_G × (Nat → Nat) × (Nat → ClassId) × (State → Prop) × Nat × Nat
def lvs (ad : Nat → Nat) (nL : Nat) (ls : List (Option MV)) (LS : Array Slot) : Prop := LS.size = nL ∧ lv_wf LS ∧ ∀ (k : Nat) (v : MV), ls[k]? = some (some v) → LS[k]? = some (.val (cvv ad v))
def M (K : KT) (pc : Nat) (ls : List (Option MV)) (st : List MV) (σ : Mem) : Prop := match K with
  | (p, l, e, R, s, m, args, below, meth, c, D, ad, cA, Q, cells, slots) => ∀ (H : Heap) (locs : List Loc) (LS : Array Slot), va_P D classes (mkW ad cA σ) H → va_D (A0 ad s.heap.size) (mkW ad cA σ) → va_S (A0 ad s.heap.size) s.heap H locs → lvs ad c.maxLocals ls LS → W p l e R s m args below meth c H locs cells slots Q (F0 m pc LS (st.map (cvv ad)))
def MC (K : KT) (cc : ByteArray) (nL : Nat) (own : String) (lev : Nat) : Prop := match K with
  | (p, _, _, R, s, m, args, _, meth, c, D, _, cA, _, cells, slots) => p.tables.exec = Jvm.exec ∧ c.code = cc ∧ c.maxLocals = nL ∧ s.vm.findClass own = some m.cls ∧ (∀ w ∈ wT, w.before args s = true) ∧ meth.locks = false ∧ va_K D classes (tyA cA) s ∧ nests s ∧ lev ≤ R.frames ∧ 40 * lev ≤ R.locals ∧ cells ≤ R.cells ∧ slots ≤ R.slots
def MR (K : KT) (rk : Nat) (rt : Option FieldType) (po : Int → Mem → Prop) : Prop := match K with
  | (_, _, _, _, s, _, args, below, meth, _, D, ad, cA, Q, cells, slots) => meth.sig.returnType = rt ∧ Q = MQ below (QS rk D ad cA s.heap.size po) args s cells slots (A0 ad s.heap.size)
/-! locals -/
def ent : List MV → List (Option MV)
  | [] => []
  | .inl x :: r => some (.inl x) :: ent r
  | .inr (.inl x) :: r => some (.inr (.inl x)) :: none :: ent r
  | .inr (.inr x) :: r => some (.inr (.inr x)) :: ent r
theorem ent_args (ad : Nat → Nat) : ∀ (as : List MV) (i k : Nat) (v : MV), (ent as)[k]? = some (some v) → (i + k, cvv ad v) ∈ lv_args i (as.map (cvv ad))
  | [], i, k, v, h => by simp [ent] at h
  | .inl x :: r, i, k, v, h => by
    cases k with
    | zero => simp [ent] at h; subst h; simp [lv_args]
    | succ k =>
      simp only [ent, List.getElem?_cons_succ] at h
      have := ent_args ad r (i + 1) k v h
      have e : lv_args i ((.inl x :: r : List MV).map (cvv ad)) = (i, cvv ad (.inl x)) :: lv_args (i + 1) (r.map (cvv ad)) := by simp [lv_args, cvv, Value.category]
      rw [e, show i + (k + 1) = i + 1 + k by omega]
      exact List.mem_cons_of_mem _ this
  | .inr (.inl x) :: r, i, k, v, h => by
    match k with
    | 0 => simp [ent] at h; subst h; simp [lv_args]
    | 1 => simp [ent] at h
    | k + 2 =>
      simp only [ent, List.getElem?_cons_succ] at h
      have := ent_args ad r (i + 2) k v h
      have e : lv_args i ((.inr (.inl x) :: r : List MV).map (cvv ad)) = (i, cvv ad (.inr (.inl x))) :: lv_args (i + 2) (r.map (cvv ad)) := by simp [lv_args, cvv, Value.category]
      rw [e, show i + (k + 2) = i + 2 + k by omega]
      exact List.mem_cons_of_mem _ this
  | .inr (.inr x) :: r, i, k, v, h => by
    cases k with
    | zero => simp [ent] at h; subst h; simp [lv_args]
    | succ k =>
      simp only [ent, List.getElem?_cons_succ] at h
      have := ent_args ad r (i + 1) k v h
      have e : lv_args i ((.inr (.inr x) :: r : List MV).map (cvv ad)) = (i, cvv ad (.inr (.inr x))) :: lv_args (i + 1) (r.map (cvv ad)) := by simp [lv_args, cvv, Value.category]
      rw [e, show i + (k + 1) = i + 1 + k by omega]
      exact List.mem_cons_of_mem _ this
def kill (ls : List (Option MV)) : Nat → List (Option MV)
  | 0 => ls
  | j + 1 => match ls[j]? with
    | some (some (.inr (.inl _))) => ls.set j none
    | _ => ls
def ls1 (ls : List (Option MV)) (k : Nat) (v : MV) : List (Option MV) := (kill ls k).set k (some v)
def ls2 (ls : List (Option MV)) (k : Nat) (v : MV) : List (Option MV) := ((kill ls k).set k (some v)).set (k + 1) none
theorem kill_at {ls : List (Option MV)} {k i : Nat} {v : MV} (h : (kill ls k)[i]? = some (some v)) : ls[i]? = some (some v) ∧ ¬ (i + 1 = k ∧ ∃ x, v = .inr (.inl x)) := by
  cases k with
  | zero => exact ⟨h, fun q => by omega⟩
  | succ j =>
    simp only [kill] at h
    split at h
    · next x hx =>
      by_cases hij : i = j
      · subst hij
        rw [List.getElem?_set] at h
        have hl : i < ls.length := (List.getElem?_eq_some_iff.mp hx).1
        simp [hl] at h
      · rw [List.getElem?_set_ne (Ne.symm hij)] at h
        exact ⟨h, fun q => hij (by omega)⟩
    · next hx =>
      refine ⟨h, fun q => ?_⟩
      obtain ⟨q1, x, rfl⟩ := q
      have : i = j := by omega
      subst this
      exact hx x h
theorem cvv_cat (ad : Nat → Nat) (v : MV) : (cvv ad v).category = 2 ↔ ∃ x, v = .inr (.inl x) := by
  match v with
  | .inl x => simp [cvv, Value.category]
  | .inr (.inl x) => simp [cvv, Value.category]
  | .inr (.inr x) => simp [cvv, Value.category]
/-- my locals as the kit's list -/
def lsl (ad : Nat → Nat) (ls : List (Option MV)) : List (Nat × Value) := (List.range ls.length).filterMap (fun k => match ls[k]? with
  | some (some v) => some (k, cvv ad v)
  | _ => none)
theorem lsl_mem {ad : Nat → Nat} {ls : List (Option MV)} {k : Nat} {v : MV} (h : ls[k]? = some (some v)) : (k, cvv ad v) ∈ lsl ad ls := by
  refine List.mem_filterMap.mpr ⟨k, List.mem_range.mpr (List.getElem?_eq_some_iff.mp h).1, ?_⟩
  simp [h]
theorem lvs_has {ad : Nat → Nat} {nL : Nat} {ls : List (Option MV)} {LS : Array Slot} (h : lvs ad nL ls LS) : lv_has LS nL (lsl ad ls) := by
  refine ⟨h.1, h.2.1, fun q hq => ?_⟩
  obtain ⟨k, -, hk⟩ := List.mem_filterMap.mp hq
  split at hk
  · next v hv => cases hk; exact h.2.2 k v hv
  · cases hk
theorem lvs_of {ad : Nat → Nat} {nL : Nat} {ls : List (Option MV)} {LS : Array Slot} {l : List (Nat × Value)} (h : lv_has LS nL l) (hm : ∀ (k : Nat) (v : MV), ls[k]? = some (some v) → (k, cvv ad v) ∈ l) : lvs ad nL ls LS :=
  ⟨h.1, h.2.1, fun k v hv => h.2.2 (k, cvv ad v) (hm k v hv)⟩
theorem lvs_1 {ad : Nat → Nat} {nL : Nat} {ls : List (Option MV)} {LS' : Array Slot} {i : Nat} {v : MV} {V : Value} (hV : cvv ad v = V)
    (h : lv_has LS' nL ((i, V) :: (lsl ad ls).filter (fun q => !(q.1 == i) && !(q.1 + 1 == i && q.2.category == 2)))) : lvs ad nL (ls1 ls i v) LS' := by
  subst hV
  refine lvs_of h (fun k w hw => ?_)
  by_cases hk : k = i
  · subst hk
    unfold ls1 at hw
    rw [List.getElem?_set] at hw
    by_cases hl : k < (kill ls k).length
    · simp [hl] at hw; subst hw; exact List.mem_cons_self
    · simp [hl] at hw
  · unfold ls1 at hw
    rw [List.getElem?_set_ne (Ne.symm hk)] at hw
    obtain ⟨h1, h2⟩ := kill_at hw
    refine List.mem_cons_of_mem _ (List.mem_filter.mpr ⟨lsl_mem h1, ?_⟩)
    have hc := cvv_cat ad w
    by_cases h3 : k + 1 = i
    · have : ¬ (cvv ad w).category = 2 := fun q => h2 ⟨h3, hc.mp q⟩
      simp [hk, h3, this]
    · simp [hk, h3]
theorem lvs_2 {ad : Nat → Nat} {nL : Nat} {ls : List (Option MV)} {LS' : Array Slot} {i : Nat} {v : MV} {V : Value} (hV : cvv ad v = V)
    (h : lv_has LS' nL ((i, V) :: (lsl ad ls).filter (fun q => !(q.1 == i) && (!(q.1 == i + 1) && !(q.1 + 1 == i && q.2.category == 2))))) : lvs ad nL (ls2 ls i v) LS' := by
  subst hV
  refine lvs_of h (fun k w hw => ?_)
  by_cases hk1 : k = i + 1
  · subst hk1
    unfold ls2 at hw
    rw [List.getElem?_set] at hw
    split at hw
    · split at hw <;> simp at hw
    · omega
  unfold ls2 at hw
  rw [List.getElem?_set_ne (Ne.symm hk1)] at hw
  by_cases hk : k = i
  · subst hk
    rw [List.getElem?_set] at hw
    by_cases hl : k < (kill ls k).length
    · simp [hl] at hw; subst hw; exact List.mem_cons_self
    · simp [hl] at hw
  · rw [List.getElem?_set_ne (Ne.symm hk)] at hw
    obtain ⟨h1, h2⟩ := kill_at hw
    refine List.mem_cons_of_mem _ (List.mem_filter.mpr ⟨lsl_mem h1, ?_⟩)
    have hc := cvv_cat ad w
    by_cases h3 : k + 1 = i
    · have : ¬ (cvv ad w).category = 2 := fun q => h2 ⟨h3, hc.mp q⟩
      simp [hk, hk1, h3, this]
    · simp [hk, hk1, h3]
