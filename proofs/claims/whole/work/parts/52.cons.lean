/-! the constructors: worlds that grow -/
abbrev CT : Type := Program × Launch × Env × Room × State × MethodId × Array Value × List Frame × Method × Code × va_G × (Nat → ClassId) × (Nat → Prop) × (State → Prop)
def CJ (K : CT) (pc : Nat) (lv : List (Nat × Value)) (st : List Value) (ws : va_W) (nc ns : Nat) : Prop := match K with
  | (p, l, e, R, s, m, args, below, meth, c, D, _, A, Q) => ∀ (H : Heap) (locs : List Loc) (LS : Array Slot), va_P D classes ws H → va_D A ws → va_S A s.heap H locs → lv_has LS c.maxLocals lv → W p l e R s m args below meth c H locs nc ns Q (F0 m pc LS st)
def CC (K : CT) (cc : ByteArray) (nL : Nat) (own : String) (fr lo nC nS : Nat) : Prop := match K with
  | (p, _, _, R, s, m, args, _, meth, c, D, cA, A, _) => p.tables.exec = Jvm.exec ∧ c.code = cc ∧ c.maxLocals = nL ∧ s.vm.findClass own = some m.cls ∧ (∀ w ∈ wT, w.before args s = true) ∧ meth.locks = false ∧ va_K D classes (tyA cA) s ∧ (∀ q : Nat, s.heap.size ≤ q → A q) ∧ fr ≤ R.frames ∧ lo ≤ R.locals ∧ nC ≤ R.cells ∧ nS ≤ R.slots
def isI (K : CT) : Prop := match K with
  | (_, _, _, _, _, _, _, _, meth, _, _, _, _, _) => meth.name = "<init>"
def cAof (K : CT) : Nat → ClassId := match K with
  | (_, _, _, _, _, _, _, _, _, _, _, cA, _, _) => cA
section CJS
variable {K : CT} {cc : ByteArray} {nL : Nat} {own : String} {fr lo nC nS pc nc ns : Nat} {lv : List (Nat × Value)} {st : List Value} {ws : va_W}
theorem cj_iconst {n : Int} {v : Int32} (h : CC K cc nL own fr lo nC nS) (hd : decode cc pc = .ok (.iconst n, 1)) (hv : Int32.ofInt n = v) (k : CJ K (pc + 1) lv (.int v :: st) ws nc ns) : CJ K pc lv st ws nc ns := by
  obtain ⟨p, l, e, R, s, m, args, below, meth, c, D, cA, A, Q⟩ := K
  intro H locs LS hP hD hS hl
  exact lv_iconst h.1 h.2.1 hd hv (k H locs LS hP hD hS hl)
theorem cj_bipush {n : Int} {v : Int32} (h : CC K cc nL own fr lo nC nS) (hd : decode cc pc = .ok (.bipush n, 2)) (hv : (Int8.ofInt n).toInt32 = v) (k : CJ K (pc + 2) lv (.int v :: st) ws nc ns) : CJ K pc lv st ws nc ns := by
  obtain ⟨p, l, e, R, s, m, args, below, meth, c, D, cA, A, Q⟩ := K
  intro H locs LS hP hD hS hl
  exact lv_bipush h.1 h.2.1 hd hv (k H locs LS hP hD hS hl)
theorem cj_sipush {n : Int} {v : Int32} (h : CC K cc nL own fr lo nC nS) (hd : decode cc pc = .ok (.sipush n, 3)) (hv : (Int16.ofInt n).toInt32 = v) (k : CJ K (pc + 3) lv (.int v :: st) ws nc ns) : CJ K pc lv st ws nc ns := by
  obtain ⟨p, l, e, R, s, m, args, below, meth, c, D, cA, A, Q⟩ := K
  intro H locs LS hP hD hS hl
  exact lv_sipush h.1 h.2.1 hd hv (k H locs LS hP hD hS hl)
theorem cj_aload {i : Fin 4} {j : Nat} {x : Nat} (h : CC K cc nL own fr lo nC nS) (hd : decode cc pc = .ok (.aload_n i, 1)) (j0 : Nat) (hj : lv[j0]? = some (j, .ref x)) (hi : (i : Nat) = j) (k : CJ K (pc + 1) lv (.ref x :: st) ws nc ns) : CJ K pc lv st ws nc ns := by
  obtain ⟨p, l, e, R, s, m, args, below, meth, c, D, cA, A, Q⟩ := K
  intro H locs LS hP hD hS hl
  exact lv_aload_n h.1 h.2.1 hd hi (lv_at hl j0 hj) (k H locs LS hP hD hS hl)
theorem cj_astore {i : Fin 4} {j : Nat} {x : Nat} {lv' : List (Nat × Value)} (h : CC K cc nL own fr lo nC nS) (hd : decode cc pc = .ok (.astore_n i, 1)) (hi : (i : Nat) = j) (hn : j < nL) (hl' : (j, Value.ref x) :: lv.filter (fun q => !(q.1 == j) && !(q.1 + 1 == j && q.2.category == 2)) = lv') (k : CJ K (pc + 1) lv' st ws nc ns) : CJ K pc lv (.ref x :: st) ws nc ns := by
  obtain ⟨p, l, e, R, s, m, args, below, meth, c, D, cA, A, Q⟩ := K
  intro H locs LS hP hD hS hl
  exact lv_astore_n h.1 h.2.1 hd hi hl (by rw [h.2.2.1]; exact hn) hl' (fun LS' hl9 => k H locs LS' hP hD hS hl9)
theorem cj_dup {x : Nat} (h : CC K cc nL own fr lo nC nS) (hd : decode cc pc = .ok (.dup, 1)) (k : CJ K (pc + 1) lv (.ref x :: .ref x :: st) ws nc ns) : CJ K pc lv (.ref x :: st) ws nc ns := by
  obtain ⟨p, l, e, R, s, m, args, below, meth, c, D, cA, A, Q⟩ := K
  intro H locs LS hP hD hS hl
  exact lv_dup h.1 h.2.1 hd rfl (k H locs LS hP hD hS hl)
theorem cj_obj {x idx : Nat} (h : CC K cc nL own fr lo nC nS) (hd : decode cc pc = .ok (.invokespecial idx, 3)) (hw : Cond.methodLink own idx objectInit ∈ wT) (hfr : 1 ≤ fr) (hlo : 20 ≤ lo) (hst : (st.map fun v => v.category).sum ≤ 8) (k : CJ K (pc + 3) lv st ws nc ns) : CJ K pc lv (.ref x :: st) ws nc ns := by
  obtain ⟨p, l, e, R, s, m, args, below, meth, c, D, cA, A, Q⟩ := K
  intro H locs LS hP hD hS hl
  obtain ⟨g1, g2, g3, g4, g5, g6, g7, g8, g9, g10, g11, g12⟩ := h
  refine W.objInit g1 g2 g4 (g5 _ hw) (g5 _ (wT_at 55 (by decide +kernel) (by decide +kernel))) (g5 _ (wT_at 56 rfl rfl)) rfl hl.1 rfl hd (by omega) (by show 2 * 0 + _ + 12 ≤ R.locals; omega) ?_
  exact k H locs LS hP hD hS hl
theorem cA_eq {D : va_G} {cA : Nat → ClassId} {c' : ClassId} {ty : FieldType} {s : State} {i : Nat} (hi : (tyA cA)[i]? = some (cA i, ty)) (hty : ty = .int ∨ ty = .long ∨ ty = .boolean) (h : va_K D classes (tyA cA ++ [(c', ty)]) s) : c' = cA i := by
  have h1 := (h.2 i (cA i, ty) (by rw [List.getElem?_append_left (List.getElem?_eq_some_iff.mp hi).1]; exact hi)).2
  have h2 := (h.2 3 (c', ty) rfl).2
  rcases hty with rfl | rfl | rfl
  · exact Option.some.inj (h2.symm.trans h1)
  · exact Option.some.inj (h2.symm.trans h1)
  · exact Option.some.inj (h2.symm.trans h1)
theorem cj_newi {n : Int32} {N : Nat} (h : CC K cc nL own fr lo nC nS) (hd : decode cc pc = .ok (.newarray .int, 2)) (hn : ¬ n < 0) (hN : n.toNatClampNeg = N) (hb : N ≤ 1000) (h1 : nc + 1 ≤ nC) (h2 : ns + N ≤ nS) (k : ∀ q : Nat, CJ K (pc + 2) lv (.ref q :: st) (ws ++ [(q, .inl (cAof K 0, N, .inl (fun _ => Int32.ofInt 0)))]) (nc + 1) (ns + N)) : CJ K pc lv (.int n :: st) ws nc ns := by
  obtain ⟨p, l, e, R, s, m, args, below, meth, c, D, cA, A, Q⟩ := K
  intro H locs LS hP hD hS hl
  obtain ⟨g1, g2, g3, g4, g5, g6, g7, g8, g9, g10, g11, g12⟩ := h
  refine va_newa (ty := .int) g1 g2 (g5 _ (wT_at 138 (by decide +kernel) (by decide +kernel))) rfl g7 hP hD hS g8 (a0 := (N, .inl (fun _ => Int32.ofInt 0))) (fun cA => rfl) hn hN (by show N * 4 ≤ _; omega) (by omega) (by omega) hd (fun q c' H1 hK1 hP1 hD1 hS1 => ?_)
  have e1 := cA_eq (i := 0) rfl (Or.inl rfl) hK1
  subst e1
  exact k q H1 locs LS hP1 hD1 hS1 hl
theorem cj_newl {n : Int32} {N : Nat} (h : CC K cc nL own fr lo nC nS) (hd : decode cc pc = .ok (.newarray .long, 2)) (hn : ¬ n < 0) (hN : n.toNatClampNeg = N) (hb : N ≤ 1000) (h1 : nc + 1 ≤ nC) (h2 : ns + N ≤ nS) (k : ∀ q : Nat, CJ K (pc + 2) lv (.ref q :: st) (ws ++ [(q, .inl (cAof K 1, N, .inr (.inl (fun _ => Int64.ofInt 0))))]) (nc + 1) (ns + N)) : CJ K pc lv (.int n :: st) ws nc ns := by
  obtain ⟨p, l, e, R, s, m, args, below, meth, c, D, cA, A, Q⟩ := K
  intro H locs LS hP hD hS hl
  obtain ⟨g1, g2, g3, g4, g5, g6, g7, g8, g9, g10, g11, g12⟩ := h
  refine va_newa (ty := .long) g1 g2 (g5 _ (wT_at 156 (by decide +kernel) (by decide +kernel))) rfl g7 hP hD hS g8 (a0 := (N, .inr (.inl (fun _ => Int64.ofInt 0)))) (fun cA => rfl) hn hN (by show N * 8 ≤ _; omega) (by omega) (by omega) hd (fun q c' H1 hK1 hP1 hD1 hS1 => ?_)
  have e1 := cA_eq (i := 1) rfl (Or.inr (Or.inl rfl)) hK1
  subst e1
  exact k q H1 locs LS hP1 hD1 hS1 hl
theorem cj_newb {n : Int32} {N : Nat} (h : CC K cc nL own fr lo nC nS) (hd : decode cc pc = .ok (.newarray .boolean, 2)) (hn : ¬ n < 0) (hN : n.toNatClampNeg = N) (hb : N ≤ 1000) (h1 : nc + 1 ≤ nC) (h2 : ns + N ≤ nS) (k : ∀ q : Nat, CJ K (pc + 2) lv (.ref q :: st) (ws ++ [(q, .inl (cAof K 2, N, .inl (fun _ => Int32.ofInt 0)))]) (nc + 1) (ns + N)) : CJ K pc lv (.int n :: st) ws nc ns := by
  obtain ⟨p, l, e, R, s, m, args, below, meth, c, D, cA, A, Q⟩ := K
  intro H locs LS hP hD hS hl
  obtain ⟨g1, g2, g3, g4, g5, g6, g7, g8, g9, g10, g11, g12⟩ := h
  refine va_newa (ty := .boolean) g1 g2 (g5 _ (wT_at 759 (by decide +kernel) (by decide +kernel))) rfl g7 hP hD hS g8 (a0 := (N, .inl (fun _ => Int32.ofInt 0))) (fun cA => rfl) hn hN (by show N * 1 ≤ _; omega) (by omega) (by omega) hd (fun q c' H1 hK1 hP1 hD1 hS1 => ?_)
  have e1 := cA_eq (i := 2) rfl (Or.inr (Or.inr rfl)) hK1
  subst e1
  exact k q H1 locs LS hP1 hD1 hS1 hl
theorem cj_putF {a ci k0 idx N : Nat} {fs : List Value} {tl : va_W} {C ref name desc : String} {T : u_T} {ty0 : Nat → FieldType} {v : Value} {ty : FieldType} (h : CC K cc nL own fr lo nC nS) (hi : isI K) (hd : decode cc pc = .ok (.putfield idx, 3)) (hcl : classes[ci]? = some (C, T, N)) (hin : ∀ w ∈ u_ws C T N, w ∈ wT) (hk : k0 < N) (hT : (T k0).1 = ref ∧ (T k0).2.1 = name ∧ (T k0).2.2.1 = desc) (hw : Cond.fieldLink own idx ref name desc ∈ wT) (hty : ∀ k, k < N → parseFieldDescriptor (T k).2.2.1 = some (ty0 k)) (hnm : ∀ a, a < N → ∀ b, b < N → a ≠ b → (T a).2.1 ≠ (T b).2.1) (hfin : (T k0).2.2.2 = true) (hdecl : (T k0).1 = own) (hty0 : ty0 k0 = ty) (hn : narrow ty v = v) (hfit : fits ty v = true) (hl0 : k0 < fs.length) (k : CJ K (pc + 3) lv st ((a, .inr (ci, fs.set k0 v)) :: tl) nc ns) : CJ K pc lv (v :: .ref a :: st) ((a, .inr (ci, fs)) :: tl) nc ns := by
  obtain ⟨p, l, e, R, s, m, args, below, meth, c, D, cA, A, Q⟩ := K
  intro H locs LS hP hD hS hl
  obtain ⟨g1, g2, g3, g4, g5, g6, g7, g8, g9, g10, g11, g12⟩ := h
  obtain ⟨e1, e2, e3⟩ := hT
  subst e1 e2 e3
  exact va_putF (D := D) (T := T) (ty := ty) g1 g2 g5 hin ty0 hty hnm g4 g7 hP hD hS 0 rfl hcl k0 hk (g5 _ hw) (fun _ h9 => h9) hfin hi hdecl (by rw [hty k0 hk, hty0]) hn hfit hl0 hd (fun H1 locs1 hP1 hD1 hS1 => k H1 locs1 LS hP1 hD1 hS1 hl)
theorem cj_put {a ci k0 idx N : Nat} {fs : List Value} {tl : va_W} {C ref name desc : String} {T : u_T} {ty0 : Nat → FieldType} {v : Value} {ty : FieldType} (h : CC K cc nL own fr lo nC nS) (hd : decode cc pc = .ok (.putfield idx, 3)) (hcl : classes[ci]? = some (C, T, N)) (hin : ∀ w ∈ u_ws C T N, w ∈ wT) (hk : k0 < N) (hT : (T k0).1 = ref ∧ (T k0).2.1 = name ∧ (T k0).2.2.1 = desc) (hw : Cond.fieldLink own idx ref name desc ∈ wT) (hty : ∀ k, k < N → parseFieldDescriptor (T k).2.2.1 = some (ty0 k)) (hnm : ∀ a, a < N → ∀ b, b < N → a ≠ b → (T a).2.1 ≠ (T b).2.1) (hfin : (T k0).2.2.2 = false) (hty0 : ty0 k0 = ty) (hn : narrow ty v = v) (hfit : fits ty v = true) (hl0 : k0 < fs.length) (k : CJ K (pc + 3) lv st ((a, .inr (ci, fs.set k0 v)) :: tl) nc ns) : CJ K pc lv (v :: .ref a :: st) ((a, .inr (ci, fs)) :: tl) nc ns := by
  obtain ⟨p, l, e, R, s, m, args, below, meth, c, D, cA, A, Q⟩ := K
  intro H locs LS hP hD hS hl
  obtain ⟨g1, g2, g3, g4, g5, g6, g7, g8, g9, g10, g11, g12⟩ := h
  obtain ⟨e1, e2, e3⟩ := hT
  subst e1 e2 e3
  exact va_put (D := D) (T := T) (ty := ty) g1 g2 g5 hin ty0 hty hnm g4 g7 hP hD hS 0 rfl hcl k0 hk (g5 _ hw) (fun _ h9 => h9) hfin (by rw [hty k0 hk, hty0]) hn hfit hl0 hd (fun H1 locs1 hP1 hD1 hS1 => k H1 locs1 LS hP1 hD1 hS1 hl)
theorem cj_new {ci N idx : Nat} {C : String} {T : u_T} {ty0 : Nat → FieldType} {fs : List Value} (h : CC K cc nL own fr lo nC nS) (hd : decode cc pc = .ok (.new idx, 3)) (hcl : classes[ci]? = some (C, T, N)) (hin : ∀ w ∈ u_ws C T N, w ∈ wT) (hty : ∀ k, k < N → parseFieldDescriptor (T k).2.2.1 = some (ty0 k)) (hw1 : Cond.classLink own idx C ∈ wT) (hw2 : Cond.instantiable C N ∈ wT) (hw3 : Cond.initialized C ∈ wT) (hfs : ∀ j, j < N → defaultValue (ty0 j) = vp_V fs j) (h1 : nc + 1 ≤ nC) (h2 : ns + N ≤ nS) (k : ∀ q : Nat, CJ K (pc + 3) lv (.ref q :: st) (ws ++ [(q, .inr (ci, fs))]) (nc + 1) (ns + N)) : CJ K pc lv st ws nc ns := by
  obtain ⟨p, l, e, R, s, m, args, below, meth, c, D, cA, A, Q⟩ := K
  intro H locs LS hP hD hS hl
  obtain ⟨g1, g2, g3, g4, g5, g6, g7, g8, g9, g10, g11, g12⟩ := h
  exact va_new (ci := ci) (fs := fs) g1 g2 g5 hin ty0 hty g4 (g5 _ hw1) (g5 _ hw2) (g5 _ hw3) g7 hP hD hS g8 hcl hfs (by omega) (by omega) hd (fun q H1 hP1 hD1 hS1 => k q H1 locs LS hP1 hD1 hS1 hl)
end CJS
abbrev RmI (lev nC nS : Nat) : Room := { frames := lev, cells := nC, slots := nS, locals := 40 * lev }
/-- a constructor's contract -/
def SpI (y : MethodName) (bytes : ByteArray) (maxL lev nC nS : Nat) (as : List Value) (cA : Nat → ClassId) (ws : va_W) (po : va_W → Prop) : Prop :=
  ∀ (l : Launch) (D : va_G) (sz : Nat), Met l y (.code y bytes maxL none :: wT) (RmI lev nC nS) (va_Pc as (fun U => U.heap.size = sz ∧ va_P D classes ws U.heap ∧ va_K D classes (tyA cA) U ∧ va_D (fun _ => True) ws)) (va_Qv po (fun w1 t => va_P D classes w1 t.heap ∧ va_D (va_A ws sz) w1) (va_A ws sz)) nC nS (va_A ws sz)
def CR (K : CT) (ws0 : va_W) (po : va_W → Prop) (nC nS : Nat) : Prop := match K with
  | (_, _, _, _, s, _, args, below, meth, _, D, _, A, Q) => meth.sig.returnType = none ∧ A = va_A ws0 s.heap.size ∧ Q = MQ below (va_Qv po (fun w1 t => va_P D classes w1 t.heap ∧ va_D (va_A ws0 s.heap.size) w1) (va_A ws0 s.heap.size)) args s nC nS (va_A ws0 s.heap.size)
theorem SpI_in {y : MethodName} {bytes : ByteArray} {maxL lev nC nS : Nat} {as : List Value} {cA : Nat → ClassId} {ws : va_W} {po : va_W → Prop} (own : String) (hown : y.cls = own) (hy : plainName y.cls = true) (hinit : y.name = "<init>") (hlen : (lg_sl as).length ≤ maxL) (lv : List (Nat × Value)) (hlv : lv_args 0 as = lv)
    (k : ∀ K : CT, CC K bytes maxL own lev (40 * lev) nC nS → isI K → cAof K = cA → CR K ws po nC nS → CJ K 0 lv [] ws 0 0) : SpI y bytes maxL lev nC nS as cA ws po := by
  subst hown
  subst hlv
  intro l D sz
  refine Met.ofW (cc := bytes) (maxL := maxL) (ret := none) hy rfl ?_
  intro p e s m args below meth c s₁ B hml hv
  obtain ⟨rfl, hsz, hP, hK, hD0⟩ := hv
  have hts := atoms_spec (ws := Cond.code y bytes maxL none :: wT) B.pre
  have hfc : s.vm.findClass y.cls = some m.cls := findClass_of_methodNamed B.named
  have hin : meth.name = "<init>" := (name_of_methodNamed B.named B.method).1.trans hinit
  subst hsz
  have hl := lv_entry as (n := maxL) hlen
  rw [lg_entry_eq]
  refine k (p, l, e, _, s, m, _, below, meth, c, D, cA, va_A ws s.heap.size, _) ⟨B.exec, B.bytes, hml, hfc, fun w hw => hts w (List.mem_cons_of_mem _ hw), B.notSynchronized, hK, fun q hq => Or.inr hq, Nat.le_refl _, Nat.le_refl _, Nat.le_refl _, Nat.le_refl _⟩ hin rfl ⟨B.returns, rfl, rfl⟩ s.heap [] _ hP hD0.self va_S.rf ?_
  rw [hml]
  exact hl
theorem cj_ret {K : CT} {cc : ByteArray} {nL : Nat} {own : String} {fr lo nC nS pc nc ns nC' nS' : Nat} {lv : List (Nat × Value)} {ws ws0 : va_W} {po : va_W → Prop} (h : CC K cc nL own fr lo nC' nS') (hr : CR K ws0 po nC nS) (hd : decode cc pc = .ok (.return_, 1)) (h1 : nc ≤ nC) (h2 : ns ≤ nS) (hpo : po ws) : CJ K pc lv [] ws nc ns := by
  obtain ⟨p, l, e, R, s, m, args, below, meth, c, D, cA, A, Q⟩ := K
  intro H locs LS hP hD hS hl
  obtain ⟨g1, g2, g3, g4, g5, g6, g7, g8, g9, g10, g11, g12⟩ := h
  obtain ⟨r1, rfl, rfl⟩ := hr
  refine W.widen h1 h2 ?_
  exact W.vret g1 g2 r1 (fun t ht hW => ⟨⟨ws, rfl, hpo, by rw [ht]; exact hP, hD⟩, hS.F ht⟩) hS.2.2 hd g6
theorem ci_blind {D : va_G} {cA : Nat → ClassId} {sz : Nat} {av : List Value} {ws : va_W} : FrameBlind (va_Pc av (fun U => U.heap.size = sz ∧ va_P D classes ws U.heap ∧ va_K D classes (tyA cA) U ∧ va_D (fun _ => True) ws)) := by
  intro a U g mk q
  obtain ⟨q0, q1, qP, qK, qD⟩ := q
  exact ⟨q0, q1, qP, va_K.moved (u := U) (U := U.calling g mk a) (Vm.Alike.refl U.vm) qK, qD⟩
/-- a constructor's call; the new object is the last cell -/
theorem cj_call {K : CT} {cc : ByteArray} {nL : Nat} {own : String} {fr lo nC nS pc nc ns : Nat} {lv : List (Nat × Value)} {rest : List Value} {ws wc : va_W} {y : MethodName} {bytes : ByteArray} {maxL lev' nC' nS' n idx x : Nat} {As : List Value} {po : va_W → Prop} (h : CC K cc nL own fr lo nC nS) (hd : decode cc pc = .ok (.invokespecial idx, 3)) (hl : Cond.methodLink own idx y ∈ wT) (hy1 : Cond.code y bytes maxL none ∈ wT) (hy2 : Cond.instanceMethod y ∈ wT) (hy3 : Cond.initialized y.cls ∈ wT) (hy4 : y.name = "<init>") (hy5 : y.cls ≠ "java/lang/invoke/MethodHandle" ∧ y.cls ≠ "java/lang/invoke/VarHandle" ∧ (parseMethodDescriptor y.desc).map (fun d => d.parameters.length) = some n) (hn : As.length = n) (hw : (rest.map fun v => v.category).sum ≤ 8) (hSp : SpI y bytes maxL lev' nC' nS' (.ref x :: As) (cAof K) wc po) (hlev : lev' + 1 ≤ fr) (hlo : 19 + maxL + 40 * lev' ≤ lo) (h1 : nc + nC' ≤ nC) (h2 : ns + nS' ≤ nS)
    (isR : List Nat) {wr : va_W} (i : Nat) (hC : [i].map (fun j => ws[j]?) = wc.map some) (hR : isR.map (fun j => ws[j]?) = wr.map some) (hnd : va_nd isR = true) (hdis : ∀ j ∈ isR, j ∉ [i])
    (k : ∀ w1, po w1 → CJ K (pc + 3) lv rest (wr ++ w1) (nc + nC') (ns + nS')) : CJ K pc lv (As.reverse ++ .ref x :: rest) ws nc ns := by
  obtain ⟨p, l, e, R, s, m, args, below, meth, c, D, cA, A, Q⟩ := K
  intro H locs LS hP hD hS hl9
  obtain ⟨g1, g2, g3, g4, g5, g6, g7, g8, g9, g10, g11, g12⟩ := h
  have hFc := va_free (wc := wc) hD hS g8 [i] hC
  have hPc : va_P D classes wc H := by
    refine hP.sub [i] ?_
    cases e9 : ws[i]? with
    | none => rw [List.map_cons, e9] at hC; cases wc <;> simp at hC
    | some q => rw [List.map_cons, e9] at hC; cases wc <;> simp at hC; simp [e9, hC]
  have hDc := hD.sub (ws' := wc) [i] (by simp [va_nd]) hC
  refine va_callv (va_runI (Ts := wT) (own := own) (nL := nL) (As := As) (rest := rest) ⟨g1, g2, g3, g4, g5⟩ (hSp l D H.size) (cwI n g5 (wT_cons hy1) rfl rfl rfl (g5 _ hy3) (g5 _ hl) (g5 _ hy2) hy4 hy5 ⟨by show lev' + 1 ≤ R.frames; omega, by show 8 + (maxL + 11) + 40 * lev' ≤ R.locals; omega⟩) ⟨ci_blind, fun U hU hW => ⟨rfl, by rw [hU], by rw [hU]; exact hPc, va_K.moved hW.alike g7, hDc.weaken (fun _ _ _ _ => trivial)⟩⟩ rfl hn (hl9.1.trans g3) rfl (lv_room hw) hd ⟨by omega, by omega⟩) hS (fun q _ h => hFc q h) hFc (fun u t H1 locs1 ht hvm hpo hB hz1 hk1 hS1 => ?_)
  obtain ⟨hP1, hD1⟩ := hB
  rw [ht] at hP1
  obtain ⟨hP2, hD2⟩ := va_join (wr := wr) (w1 := u) hP hD [i] isR hC hR hnd hdis hk1 hFc hP1 hD1
  exact k u hpo H1 locs1 LS hP2 hD2 hS1 hl9
