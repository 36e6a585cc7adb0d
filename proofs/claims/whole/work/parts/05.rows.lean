theorem mi_iadd {K : KT} {cc : ByteArray} {nL : Nat} {own : String} {lev pc : Nat} {ls : List (Option MV)} {st : List MV} {σ : Mem} {x y : Int} (h : MC K cc nL own lev) (hd : decode cc pc = .ok (.iadd, 1)) (k : M K (pc + 1) ls (vi (x + y) :: st) σ) : M K pc ls (vi y :: vi x :: st) σ := by
  obtain ⟨p, l, e, R, s, m, args, below, meth, c, D, ad, cA, Q, cells, slots⟩ := K
  intro H locs LS hP hD hS hl
  have k2 := k H locs LS hP hD hS hl
  show W p l e R s m args below meth c H locs cells slots Q (F0 m pc LS (.int (Int32.ofInt y) :: .int (Int32.ofInt x) :: st.map (cvv ad)))
  refine lv_iadd h.1 h.2.1 hd ?_
  rw [← Int32.ofInt_add]
  exact k2
theorem mi_isub {K : KT} {cc : ByteArray} {nL : Nat} {own : String} {lev pc : Nat} {ls : List (Option MV)} {st : List MV} {σ : Mem} {x y : Int} (h : MC K cc nL own lev) (hd : decode cc pc = .ok (.isub, 1)) (k : M K (pc + 1) ls (vi (x - y) :: st) σ) : M K pc ls (vi y :: vi x :: st) σ := by
  obtain ⟨p, l, e, R, s, m, args, below, meth, c, D, ad, cA, Q, cells, slots⟩ := K
  intro H locs LS hP hD hS hl
  have k2 := k H locs LS hP hD hS hl
  show W p l e R s m args below meth c H locs cells slots Q (F0 m pc LS (.int (Int32.ofInt y) :: .int (Int32.ofInt x) :: st.map (cvv ad)))
  refine lv_isub h.1 h.2.1 hd ?_
  rw [← Int32.ofInt_sub]
  exact k2
theorem mi_imul {K : KT} {cc : ByteArray} {nL : Nat} {own : String} {lev pc : Nat} {ls : List (Option MV)} {st : List MV} {σ : Mem} {x y : Int} (h : MC K cc nL own lev) (hd : decode cc pc = .ok (.imul, 1)) (k : M K (pc + 1) ls (vi (x * y) :: st) σ) : M K pc ls (vi y :: vi x :: st) σ := by
  obtain ⟨p, l, e, R, s, m, args, below, meth, c, D, ad, cA, Q, cells, slots⟩ := K
  intro H locs LS hP hD hS hl
  have k2 := k H locs LS hP hD hS hl
  show W p l e R s m args below meth c H locs cells slots Q (F0 m pc LS (.int (Int32.ofInt y) :: .int (Int32.ofInt x) :: st.map (cvv ad)))
  refine lv_imul h.1 h.2.1 hd ?_
  rw [← Int32.ofInt_mul]
  exact k2
theorem mi_ladd {K : KT} {cc : ByteArray} {nL : Nat} {own : String} {lev pc : Nat} {ls : List (Option MV)} {st : List MV} {σ : Mem} {x y : Int} (h : MC K cc nL own lev) (hd : decode cc pc = .ok (.ladd, 1)) (k : M K (pc + 1) ls (vl (x + y) :: st) σ) : M K pc ls (vl y :: vl x :: st) σ := by
  obtain ⟨p, l, e, R, s, m, args, below, meth, c, D, ad, cA, Q, cells, slots⟩ := K
  intro H locs LS hP hD hS hl
  have k2 := k H locs LS hP hD hS hl
  show W p l e R s m args below meth c H locs cells slots Q (F0 m pc LS (.long (Int64.ofInt y) :: .long (Int64.ofInt x) :: st.map (cvv ad)))
  refine lv_ladd h.1 h.2.1 hd ?_
  rw [← Int64.ofInt_add]
  exact k2
theorem mi_lsub {K : KT} {cc : ByteArray} {nL : Nat} {own : String} {lev pc : Nat} {ls : List (Option MV)} {st : List MV} {σ : Mem} {x y : Int} (h : MC K cc nL own lev) (hd : decode cc pc = .ok (.lsub, 1)) (k : M K (pc + 1) ls (vl (x - y) :: st) σ) : M K pc ls (vl y :: vl x :: st) σ := by
  obtain ⟨p, l, e, R, s, m, args, below, meth, c, D, ad, cA, Q, cells, slots⟩ := K
  intro H locs LS hP hD hS hl
  have k2 := k H locs LS hP hD hS hl
  show W p l e R s m args below meth c H locs cells slots Q (F0 m pc LS (.long (Int64.ofInt y) :: .long (Int64.ofInt x) :: st.map (cvv ad)))
  refine lv_lsub h.1 h.2.1 hd ?_
  rw [← Int64.ofInt_sub]
  exact k2
theorem mi_lmul {K : KT} {cc : ByteArray} {nL : Nat} {own : String} {lev pc : Nat} {ls : List (Option MV)} {st : List MV} {σ : Mem} {x y : Int} (h : MC K cc nL own lev) (hd : decode cc pc = .ok (.lmul, 1)) (k : M K (pc + 1) ls (vl (x * y) :: st) σ) : M K pc ls (vl y :: vl x :: st) σ := by
  obtain ⟨p, l, e, R, s, m, args, below, meth, c, D, ad, cA, Q, cells, slots⟩ := K
  intro H locs LS hP hD hS hl
  have k2 := k H locs LS hP hD hS hl
  show W p l e R s m args below meth c H locs cells slots Q (F0 m pc LS (.long (Int64.ofInt y) :: .long (Int64.ofInt x) :: st.map (cvv ad)))
  refine lv_lmul h.1 h.2.1 hd ?_
  rw [← Int64.ofInt_mul]
  exact k2
theorem mi_ineg {K : KT} {cc : ByteArray} {nL : Nat} {own : String} {lev pc : Nat} {ls : List (Option MV)} {st : List MV} {σ : Mem} {x : Int} (h : MC K cc nL own lev) (hd : decode cc pc = .ok (.ineg, 1)) (k : M K (pc + 1) ls (vi (-x) :: st) σ) : M K pc ls (vi x :: st) σ := by
  obtain ⟨p, l, e, R, s, m, args, below, meth, c, D, ad, cA, Q, cells, slots⟩ := K
  intro H locs LS hP hD hS hl
  have k2 := k H locs LS hP hD hS hl
  show W p l e R s m args below meth c H locs cells slots Q (F0 m pc LS (.int (Int32.ofInt x) :: st.map (cvv ad)))
  refine lv_ineg h.1 h.2.1 hd ?_
  rw [← Int32.ofInt_neg]
  exact k2
theorem mi_idiv {K : KT} {cc : ByteArray} {nL : Nat} {own : String} {lev pc : Nat} {ls : List (Option MV)} {st : List MV} {σ : Mem} {x y : Int} (h : MC K cc nL own lev) (hd : decode cc pc = .ok (.idiv, 1)) (hx : 0 ≤ x ∧ x < 2147483648) (hy : 0 < y ∧ y < 2147483648) (k : M K (pc + 1) ls (vi (x / y) :: st) σ) : M K pc ls (vi y :: vi x :: st) σ := by
  obtain ⟨p, l, e, R, s, m, args, below, meth, c, D, ad, cA, Q, cells, slots⟩ := K
  intro H locs LS hP hD hS hl
  have k2 := k H locs LS hP hD hS hl
  show W p l e R s m args below meth c H locs cells slots Q (F0 m pc LS (.int (Int32.ofInt y) :: .int (Int32.ofInt x) :: st.map (cvv ad)))
  refine lv_idiv h.1 h.2.1 hd (i32_ne0 ⟨by omega, by omega⟩ (by omega)) ?_
  rw [i32_div hx hy]
  exact k2
theorem mi_irem {K : KT} {cc : ByteArray} {nL : Nat} {own : String} {lev pc : Nat} {ls : List (Option MV)} {st : List MV} {σ : Mem} {x y : Int} (h : MC K cc nL own lev) (hd : decode cc pc = .ok (.irem, 1)) (hx : 0 ≤ x ∧ x < 2147483648) (hy : 0 < y ∧ y < 2147483648) (k : M K (pc + 1) ls (vi (x % y) :: st) σ) : M K pc ls (vi y :: vi x :: st) σ := by
  obtain ⟨p, l, e, R, s, m, args, below, meth, c, D, ad, cA, Q, cells, slots⟩ := K
  intro H locs LS hP hD hS hl
  have k2 := k H locs LS hP hD hS hl
  show W p l e R s m args below meth c H locs cells slots Q (F0 m pc LS (.int (Int32.ofInt y) :: .int (Int32.ofInt x) :: st.map (cvv ad)))
  refine lv_irem h.1 h.2.1 hd (i32_ne0 ⟨by omega, by omega⟩ (by omega)) ?_
  rw [i32_div hx hy, ← Int32.ofInt_mul, ← Int32.ofInt_sub, show x - x / y * y = x % y by rw [Int.emod_def, Int.mul_comm]]
  exact k2
theorem mi_ldiv {K : KT} {cc : ByteArray} {nL : Nat} {own : String} {lev pc : Nat} {ls : List (Option MV)} {st : List MV} {σ : Mem} {x y : Int} (h : MC K cc nL own lev) (hd : decode cc pc = .ok (.ldiv, 1)) (hx : 0 ≤ x ∧ x < 9223372036854775808) (hy : 0 < y ∧ y < 9223372036854775808) (k : M K (pc + 1) ls (vl (x / y) :: st) σ) : M K pc ls (vl y :: vl x :: st) σ := by
  obtain ⟨p, l, e, R, s, m, args, below, meth, c, D, ad, cA, Q, cells, slots⟩ := K
  intro H locs LS hP hD hS hl
  have k2 := k H locs LS hP hD hS hl
  show W p l e R s m args below meth c H locs cells slots Q (F0 m pc LS (.long (Int64.ofInt y) :: .long (Int64.ofInt x) :: st.map (cvv ad)))
  refine lv_ldiv h.1 h.2.1 hd (i64_ne0 ⟨by omega, by omega⟩ (by omega)) ?_
  rw [i64_div hx hy]
  exact k2
theorem mi_lrem {K : KT} {cc : ByteArray} {nL : Nat} {own : String} {lev pc : Nat} {ls : List (Option MV)} {st : List MV} {σ : Mem} {x y : Int} (h : MC K cc nL own lev) (hd : decode cc pc = .ok (.lrem, 1)) (hx : 0 ≤ x ∧ x < 9223372036854775808) (hy : 0 < y ∧ y < 9223372036854775808) (k : M K (pc + 1) ls (vl (x % y) :: st) σ) : M K pc ls (vl y :: vl x :: st) σ := by
  obtain ⟨p, l, e, R, s, m, args, below, meth, c, D, ad, cA, Q, cells, slots⟩ := K
  intro H locs LS hP hD hS hl
  have k2 := k H locs LS hP hD hS hl
  show W p l e R s m args below meth c H locs cells slots Q (F0 m pc LS (.long (Int64.ofInt y) :: .long (Int64.ofInt x) :: st.map (cvv ad)))
  refine lv_lrem h.1 h.2.1 hd (i64_ne0 ⟨by omega, by omega⟩ (by omega)) ?_
  rw [i64_div hx hy, ← Int64.ofInt_mul, ← Int64.ofInt_sub, show x - x / y * y = x % y by rw [Int.emod_def, Int.mul_comm]]
  exact k2
theorem mi_iand {K : KT} {cc : ByteArray} {nL : Nat} {own : String} {lev pc : Nat} {ls : List (Option MV)} {st : List MV} {σ : Mem} {x y z : Int} (h : MC K cc nL own lev) (hd : decode cc pc = .ok (.iand, 1)) (hz : Int32.ofInt x &&& Int32.ofInt y = Int32.ofInt z) (k : M K (pc + 1) ls (vi z :: st) σ) : M K pc ls (vi y :: vi x :: st) σ := by
  obtain ⟨p, l, e, R, s, m, args, below, meth, c, D, ad, cA, Q, cells, slots⟩ := K
  intro H locs LS hP hD hS hl
  have k2 := k H locs LS hP hD hS hl
  show W p l e R s m args below meth c H locs cells slots Q (F0 m pc LS (.int (Int32.ofInt y) :: .int (Int32.ofInt x) :: st.map (cvv ad)))
  refine lv_iand h.1 h.2.1 hd ?_
  rw [hz]
  exact k2
theorem mi_ior {K : KT} {cc : ByteArray} {nL : Nat} {own : String} {lev pc : Nat} {ls : List (Option MV)} {st : List MV} {σ : Mem} {x y z : Int} (h : MC K cc nL own lev) (hd : decode cc pc = .ok (.ior, 1)) (hz : Int32.ofInt x ||| Int32.ofInt y = Int32.ofInt z) (k : M K (pc + 1) ls (vi z :: st) σ) : M K pc ls (vi y :: vi x :: st) σ := by
  obtain ⟨p, l, e, R, s, m, args, below, meth, c, D, ad, cA, Q, cells, slots⟩ := K
  intro H locs LS hP hD hS hl
  have k2 := k H locs LS hP hD hS hl
  show W p l e R s m args below meth c H locs cells slots Q (F0 m pc LS (.int (Int32.ofInt y) :: .int (Int32.ofInt x) :: st.map (cvv ad)))
  refine lv_ior h.1 h.2.1 hd ?_
  rw [hz]
  exact k2
theorem mi_ixor {K : KT} {cc : ByteArray} {nL : Nat} {own : String} {lev pc : Nat} {ls : List (Option MV)} {st : List MV} {σ : Mem} {x y z : Int} (h : MC K cc nL own lev) (hd : decode cc pc = .ok (.ixor, 1)) (hz : Int32.ofInt x ^^^ Int32.ofInt y = Int32.ofInt z) (k : M K (pc + 1) ls (vi z :: st) σ) : M K pc ls (vi y :: vi x :: st) σ := by
  obtain ⟨p, l, e, R, s, m, args, below, meth, c, D, ad, cA, Q, cells, slots⟩ := K
  intro H locs LS hP hD hS hl
  have k2 := k H locs LS hP hD hS hl
  show W p l e R s m args below meth c H locs cells slots Q (F0 m pc LS (.int (Int32.ofInt y) :: .int (Int32.ofInt x) :: st.map (cvv ad)))
  refine lv_ixor h.1 h.2.1 hd ?_
  rw [hz]
  exact k2
theorem mi_ishl {K : KT} {cc : ByteArray} {nL : Nat} {own : String} {lev pc : Nat} {ls : List (Option MV)} {st : List MV} {σ : Mem} {x y z : Int} (h : MC K cc nL own lev) (hd : decode cc pc = .ok (.ishl, 1)) (hz : Int32.ofInt x <<< (Int32.ofInt y &&& 31) = Int32.ofInt z) (k : M K (pc + 1) ls (vi z :: st) σ) : M K pc ls (vi y :: vi x :: st) σ := by
  obtain ⟨p, l, e, R, s, m, args, below, meth, c, D, ad, cA, Q, cells, slots⟩ := K
  intro H locs LS hP hD hS hl
  have k2 := k H locs LS hP hD hS hl
  show W p l e R s m args below meth c H locs cells slots Q (F0 m pc LS (.int (Int32.ofInt y) :: .int (Int32.ofInt x) :: st.map (cvv ad)))
  refine lv_ishl h.1 h.2.1 hd ?_
  rw [hz]
  exact k2
theorem mi_iushr {K : KT} {cc : ByteArray} {nL : Nat} {own : String} {lev pc : Nat} {ls : List (Option MV)} {st : List MV} {σ : Mem} {x y z : Int} (h : MC K cc nL own lev) (hd : decode cc pc = .ok (.iushr, 1)) (hz : ((Int32.ofInt x).toUInt32 >>> ((Int32.ofInt y).toUInt32 &&& Int32.toUInt32 31)).toInt32 = Int32.ofInt z) (k : M K (pc + 1) ls (vi z :: st) σ) : M K pc ls (vi y :: vi x :: st) σ := by
  obtain ⟨p, l, e, R, s, m, args, below, meth, c, D, ad, cA, Q, cells, slots⟩ := K
  intro H locs LS hP hD hS hl
  have k2 := k H locs LS hP hD hS hl
  show W p l e R s m args below meth c H locs cells slots Q (F0 m pc LS (.int (Int32.ofInt y) :: .int (Int32.ofInt x) :: st.map (cvv ad)))
  refine lv_iushr h.1 h.2.1 hd hz ?_
  exact k2
theorem mi_lshl {K : KT} {cc : ByteArray} {nL : Nat} {own : String} {lev pc : Nat} {ls : List (Option MV)} {st : List MV} {σ : Mem} {x y z : Int} (h : MC K cc nL own lev) (hd : decode cc pc = .ok (.lshl, 1)) (hz : Int64.ofInt x <<< ((Int32.ofInt y).toInt64 &&& 63) = Int64.ofInt z) (k : M K (pc + 1) ls (vl z :: st) σ) : M K pc ls (vi y :: vl x :: st) σ := by
  obtain ⟨p, l, e, R, s, m, args, below, meth, c, D, ad, cA, Q, cells, slots⟩ := K
  intro H locs LS hP hD hS hl
  have k2 := k H locs LS hP hD hS hl
  show W p l e R s m args below meth c H locs cells slots Q (F0 m pc LS (.int (Int32.ofInt y) :: .long (Int64.ofInt x) :: st.map (cvv ad)))
  refine lv_lshl h.1 h.2.1 hd hz ?_
  exact k2
theorem mi_lshr {K : KT} {cc : ByteArray} {nL : Nat} {own : String} {lev pc : Nat} {ls : List (Option MV)} {st : List MV} {σ : Mem} {x y z : Int} (h : MC K cc nL own lev) (hd : decode cc pc = .ok (.lshr, 1)) (hz : Int64.ofInt x >>> ((Int32.ofInt y).toInt64 &&& 63) = Int64.ofInt z) (k : M K (pc + 1) ls (vl z :: st) σ) : M K pc ls (vi y :: vl x :: st) σ := by
  obtain ⟨p, l, e, R, s, m, args, below, meth, c, D, ad, cA, Q, cells, slots⟩ := K
  intro H locs LS hP hD hS hl
  have k2 := k H locs LS hP hD hS hl
  show W p l e R s m args below meth c H locs cells slots Q (F0 m pc LS (.int (Int32.ofInt y) :: .long (Int64.ofInt x) :: st.map (cvv ad)))
  refine lv_lshr h.1 h.2.1 hd hz ?_
  exact k2
theorem mi_lushr {K : KT} {cc : ByteArray} {nL : Nat} {own : String} {lev pc : Nat} {ls : List (Option MV)} {st : List MV} {σ : Mem} {x y z : Int} (h : MC K cc nL own lev) (hd : decode cc pc = .ok (.lushr, 1)) (hz : ((Int64.ofInt x).toUInt64 >>> ((Int32.ofInt y).toInt64.toUInt64 &&& Int64.toUInt64 63)).toInt64 = Int64.ofInt z) (k : M K (pc + 1) ls (vl z :: st) σ) : M K pc ls (vi y :: vl x :: st) σ := by
  obtain ⟨p, l, e, R, s, m, args, below, meth, c, D, ad, cA, Q, cells, slots⟩ := K
  intro H locs LS hP hD hS hl
  have k2 := k H locs LS hP hD hS hl
  show W p l e R s m args below meth c H locs cells slots Q (F0 m pc LS (.int (Int32.ofInt y) :: .long (Int64.ofInt x) :: st.map (cvv ad)))
  refine lv_lushr h.1 h.2.1 hd hz ?_
  exact k2
theorem mi_i2l {K : KT} {cc : ByteArray} {nL : Nat} {own : String} {lev pc : Nat} {ls : List (Option MV)} {st : List MV} {σ : Mem} {x : Int} (h : MC K cc nL own lev) (hd : decode cc pc = .ok (.i2l, 1)) (hx : R32 x) (k : M K (pc + 1) ls (vl x :: st) σ) : M K pc ls (vi x :: st) σ := by
  obtain ⟨p, l, e, R, s, m, args, below, meth, c, D, ad, cA, Q, cells, slots⟩ := K
  intro H locs LS hP hD hS hl
  have k2 := k H locs LS hP hD hS hl
  show W p l e R s m args below meth c H locs cells slots Q (F0 m pc LS (.int (Int32.ofInt x) :: st.map (cvv ad)))
  refine lv_i2l h.1 h.2.1 hd (i32_long hx) ?_
  exact k2
theorem mi_l2i {K : KT} {cc : ByteArray} {nL : Nat} {own : String} {lev pc : Nat} {ls : List (Option MV)} {st : List MV} {σ : Mem} {x : Int} (h : MC K cc nL own lev) (hd : decode cc pc = .ok (.l2i, 1)) (hx : R64 x) (k : M K (pc + 1) ls (vi x :: st) σ) : M K pc ls (vl x :: st) σ := by
  obtain ⟨p, l, e, R, s, m, args, below, meth, c, D, ad, cA, Q, cells, slots⟩ := K
  intro H locs LS hP hD hS hl
  have k2 := k H locs LS hP hD hS hl
  show W p l e R s m args below meth c H locs cells slots Q (F0 m pc LS (.long (Int64.ofInt x) :: st.map (cvv ad)))
  refine lv_l2i h.1 h.2.1 hd (i64_int hx) ?_
  exact k2
theorem mi_iconst {K : KT} {cc : ByteArray} {nL : Nat} {own : String} {lev pc : Nat} {ls : List (Option MV)} {st : List MV} {σ : Mem} {n : Int} (h : MC K cc nL own lev) (hd : decode cc pc = .ok (.iconst n, 1)) (k : M K (pc + 1) ls (vi n :: st) σ) : M K pc ls (st) σ := by
  obtain ⟨p, l, e, R, s, m, args, below, meth, c, D, ad, cA, Q, cells, slots⟩ := K
  intro H locs LS hP hD hS hl
  have k2 := k H locs LS hP hD hS hl
  show W p l e R s m args below meth c H locs cells slots Q (F0 m pc LS (st.map (cvv ad)))
  refine lv_iconst (v := Int32.ofInt n) h.1 h.2.1 hd rfl ?_
  exact k2
theorem mi_bipush {K : KT} {cc : ByteArray} {nL : Nat} {own : String} {lev pc : Nat} {ls : List (Option MV)} {st : List MV} {σ : Mem} {n : Int} (h : MC K cc nL own lev) (hd : decode cc pc = .ok (.bipush n, 2)) (hn : (Int8.ofInt n).toInt32 = Int32.ofInt n := by decide) (k : M K (pc + 2) ls (vi n :: st) σ) : M K pc ls (st) σ := by
  obtain ⟨p, l, e, R, s, m, args, below, meth, c, D, ad, cA, Q, cells, slots⟩ := K
  intro H locs LS hP hD hS hl
  have k2 := k H locs LS hP hD hS hl
  show W p l e R s m args below meth c H locs cells slots Q (F0 m pc LS (st.map (cvv ad)))
  refine lv_bipush (v := Int32.ofInt n) h.1 h.2.1 hd hn ?_
  exact k2
theorem mi_sipush {K : KT} {cc : ByteArray} {nL : Nat} {own : String} {lev pc : Nat} {ls : List (Option MV)} {st : List MV} {σ : Mem} {n : Int} (h : MC K cc nL own lev) (hd : decode cc pc = .ok (.sipush n, 3)) (hn : (Int16.ofInt n).toInt32 = Int32.ofInt n := by decide) (k : M K (pc + 3) ls (vi n :: st) σ) : M K pc ls (st) σ := by
  obtain ⟨p, l, e, R, s, m, args, below, meth, c, D, ad, cA, Q, cells, slots⟩ := K
  intro H locs LS hP hD hS hl
  have k2 := k H locs LS hP hD hS hl
  show W p l e R s m args below meth c H locs cells slots Q (F0 m pc LS (st.map (cvv ad)))
  refine lv_sipush (v := Int32.ofInt n) h.1 h.2.1 hd hn ?_
  exact k2
theorem mi_lconst0 {K : KT} {cc : ByteArray} {nL : Nat} {own : String} {lev pc : Nat} {ls : List (Option MV)} {st : List MV} {σ : Mem} (h : MC K cc nL own lev) (hd : decode cc pc = .ok (.lconst 0, 1)) (k : M K (pc + 1) ls (vl 0 :: st) σ) : M K pc ls (st) σ := by
  obtain ⟨p, l, e, R, s, m, args, below, meth, c, D, ad, cA, Q, cells, slots⟩ := K
  intro H locs LS hP hD hS hl
  have k2 := k H locs LS hP hD hS hl
  show W p l e R s m args below meth c H locs cells slots Q (F0 m pc LS (st.map (cvv ad)))
  refine lv_lconst (v := Int64.ofInt 0) h.1 h.2.1 hd rfl ?_
  exact k2
theorem mi_lconst1 {K : KT} {cc : ByteArray} {nL : Nat} {own : String} {lev pc : Nat} {ls : List (Option MV)} {st : List MV} {σ : Mem} (h : MC K cc nL own lev) (hd : decode cc pc = .ok (.lconst 1, 1)) (k : M K (pc + 1) ls (vl 1 :: st) σ) : M K pc ls (st) σ := by
  obtain ⟨p, l, e, R, s, m, args, below, meth, c, D, ad, cA, Q, cells, slots⟩ := K
  intro H locs LS hP hD hS hl
  have k2 := k H locs LS hP hD hS hl
  show W p l e R s m args below meth c H locs cells slots Q (F0 m pc LS (st.map (cvv ad)))
  refine lv_lconst (v := Int64.ofInt 1) h.1 h.2.1 hd rfl ?_
  exact k2
theorem mi_ldc {K : KT} {cc : ByteArray} {nL : Nat} {own : String} {lev pc : Nat} {ls : List (Option MV)} {st : List MV} {σ : Mem} {idx : Nat} {v : Int32} {z : Int} (h : MC K cc nL own lev) (hd : decode cc pc = .ok (.ldc idx, 2)) (hw : Cond.constant own idx v ∈ wT) (hz : v = Int32.ofInt z) (k : M K (pc + 2) ls (vi z :: st) σ) : M K pc ls (st) σ := by
  obtain ⟨p, l, e, R, s, m, args, below, meth, c, D, ad, cA, Q, cells, slots⟩ := K
  intro H locs LS hP hD hS hl
  have k2 := k H locs LS hP hD hS hl
  show W p l e R s m args below meth c H locs cells slots Q (F0 m pc LS (st.map (cvv ad)))
  refine lv_ldc (v := Int32.ofInt z) h.1 h.2.1 h.2.2.2.1 (hz ▸ h.2.2.2.2.1 _ hw) hd ?_
  exact k2
theorem mi_ldc_w {K : KT} {cc : ByteArray} {nL : Nat} {own : String} {lev pc : Nat} {ls : List (Option MV)} {st : List MV} {σ : Mem} {idx : Nat} {v : Int32} {z : Int} (h : MC K cc nL own lev) (hd : decode cc pc = .ok (.ldc_w idx, 3)) (hw : Cond.constant own idx v ∈ wT) (hz : v = Int32.ofInt z) (k : M K (pc + 3) ls (vi z :: st) σ) : M K pc ls (st) σ := by
  obtain ⟨p, l, e, R, s, m, args, below, meth, c, D, ad, cA, Q, cells, slots⟩ := K
  intro H locs LS hP hD hS hl
  have k2 := k H locs LS hP hD hS hl
  show W p l e R s m args below meth c H locs cells slots Q (F0 m pc LS (st.map (cvv ad)))
  refine lv_ldcw (v := Int32.ofInt z) h.1 h.2.1 h.2.2.2.1 (hz ▸ h.2.2.2.2.1 _ hw) hd ?_
  exact k2
theorem mi_ldc2 {K : KT} {cc : ByteArray} {nL : Nat} {own : String} {lev pc : Nat} {ls : List (Option MV)} {st : List MV} {σ : Mem} {idx : Nat} {v : Int64} {z : Int} (h : MC K cc nL own lev) (hd : decode cc pc = .ok (.ldc2_w idx, 3)) (hw : Cond.constantLong own idx v ∈ wT) (hz : v = Int64.ofInt z) (k : M K (pc + 3) ls (vl z :: st) σ) : M K pc ls (st) σ := by
  obtain ⟨p, l, e, R, s, m, args, below, meth, c, D, ad, cA, Q, cells, slots⟩ := K
  intro H locs LS hP hD hS hl
  have k2 := k H locs LS hP hD hS hl
  show W p l e R s m args below meth c H locs cells slots Q (F0 m pc LS (st.map (cvv ad)))
  refine lv_ldc2 (v := Int64.ofInt z) h.1 h.2.1 h.2.2.2.1 (hz ▸ h.2.2.2.2.1 _ hw) hd ?_
  exact k2
theorem mi_iload_n {K : KT} {cc : ByteArray} {nL : Nat} {own : String} {lev pc : Nat} {ls : List (Option MV)} {st : List MV} {σ : Mem} {n : Fin 4} {x : Int} (h : MC K cc nL own lev) (hd : decode cc pc = .ok (.iload_n n, 1)) (hv : ls[(n : Nat)]? = some (some (vi x))) (k : M K (pc + 1) ls (vi x :: st) σ) : M K pc ls (st) σ := by
  obtain ⟨p, l, e, R, s, m, args, below, meth, c, D, ad, cA, Q, cells, slots⟩ := K
  intro H locs LS hP hD hS hl
  have k2 := k H locs LS hP hD hS hl
  show W p l e R s m args below meth c H locs cells slots Q (F0 m pc LS (st.map (cvv ad)))
  refine lv_iload_n h.1 h.2.1 hd rfl (hl.2.2 _ _ hv) ?_
  exact k2
theorem mi_iload {K : KT} {cc : ByteArray} {nL : Nat} {own : String} {lev pc : Nat} {ls : List (Option MV)} {st : List MV} {σ : Mem} {n : Nat} {x : Int} (h : MC K cc nL own lev) (hd : decode cc pc = .ok (.iload n, 2)) (hv : ls[n]? = some (some (vi x))) (k : M K (pc + 2) ls (vi x :: st) σ) : M K pc ls (st) σ := by
  obtain ⟨p, l, e, R, s, m, args, below, meth, c, D, ad, cA, Q, cells, slots⟩ := K
  intro H locs LS hP hD hS hl
  have k2 := k H locs LS hP hD hS hl
  show W p l e R s m args below meth c H locs cells slots Q (F0 m pc LS (st.map (cvv ad)))
  refine lv_iload h.1 h.2.1 hd (hl.2.2 _ _ hv) ?_
  exact k2
theorem mi_lload_n {K : KT} {cc : ByteArray} {nL : Nat} {own : String} {lev pc : Nat} {ls : List (Option MV)} {st : List MV} {σ : Mem} {n : Fin 4} {x : Int} (h : MC K cc nL own lev) (hd : decode cc pc = .ok (.lload_n n, 1)) (hv : ls[(n : Nat)]? = some (some (vl x))) (k : M K (pc + 1) ls (vl x :: st) σ) : M K pc ls (st) σ := by
  obtain ⟨p, l, e, R, s, m, args, below, meth, c, D, ad, cA, Q, cells, slots⟩ := K
  intro H locs LS hP hD hS hl
  have k2 := k H locs LS hP hD hS hl
  show W p l e R s m args below meth c H locs cells slots Q (F0 m pc LS (st.map (cvv ad)))
  refine lv_lload_n h.1 h.2.1 hd rfl (hl.2.2 _ _ hv) ?_
  exact k2
theorem mi_lload {K : KT} {cc : ByteArray} {nL : Nat} {own : String} {lev pc : Nat} {ls : List (Option MV)} {st : List MV} {σ : Mem} {n : Nat} {x : Int} (h : MC K cc nL own lev) (hd : decode cc pc = .ok (.lload n, 2)) (hv : ls[n]? = some (some (vl x))) (k : M K (pc + 2) ls (vl x :: st) σ) : M K pc ls (st) σ := by
  obtain ⟨p, l, e, R, s, m, args, below, meth, c, D, ad, cA, Q, cells, slots⟩ := K
  intro H locs LS hP hD hS hl
  have k2 := k H locs LS hP hD hS hl
  show W p l e R s m args below meth c H locs cells slots Q (F0 m pc LS (st.map (cvv ad)))
  refine lv_lload h.1 h.2.1 hd (hl.2.2 _ _ hv) ?_
  exact k2
theorem mi_aload_n {K : KT} {cc : ByteArray} {nL : Nat} {own : String} {lev pc : Nat} {ls : List (Option MV)} {st : List MV} {σ : Mem} {n : Fin 4} {x : Nat} (h : MC K cc nL own lev) (hd : decode cc pc = .ok (.aload_n n, 1)) (hv : ls[(n : Nat)]? = some (some (vr x))) (k : M K (pc + 1) ls (vr x :: st) σ) : M K pc ls (st) σ := by
  obtain ⟨p, l, e, R, s, m, args, below, meth, c, D, ad, cA, Q, cells, slots⟩ := K
  intro H locs LS hP hD hS hl
  have k2 := k H locs LS hP hD hS hl
  show W p l e R s m args below meth c H locs cells slots Q (F0 m pc LS (st.map (cvv ad)))
  refine lv_aload_n h.1 h.2.1 hd rfl (hl.2.2 _ _ hv) ?_
  exact k2
theorem mi_aload {K : KT} {cc : ByteArray} {nL : Nat} {own : String} {lev pc : Nat} {ls : List (Option MV)} {st : List MV} {σ : Mem} {n : Nat} {x : Nat} (h : MC K cc nL own lev) (hd : decode cc pc = .ok (.aload n, 2)) (hv : ls[n]? = some (some (vr x))) (k : M K (pc + 2) ls (vr x :: st) σ) : M K pc ls (st) σ := by
  obtain ⟨p, l, e, R, s, m, args, below, meth, c, D, ad, cA, Q, cells, slots⟩ := K
  intro H locs LS hP hD hS hl
  have k2 := k H locs LS hP hD hS hl
  show W p l e R s m args below meth c H locs cells slots Q (F0 m pc LS (st.map (cvv ad)))
  refine lv_aload h.1 h.2.1 hd (hl.2.2 _ _ hv) ?_
  exact k2
theorem mi_istore_n {K : KT} {cc : ByteArray} {nL : Nat} {own : String} {lev pc : Nat} {ls : List (Option MV)} {st : List MV} {σ : Mem} {n : Fin 4} {x : Int} (h : MC K cc nL own lev) (hd : decode cc pc = .ok (.istore_n n, 1)) (hn : (n : Nat) < nL := by decide) (k : M K (pc + 1) (ls1 ls n (vi x)) st σ) : M K pc ls (vi x :: st) σ := by
  obtain ⟨p, l, e, R, s, m, args, below, meth, c, D, ad, cA, Q, cells, slots⟩ := K
  intro H locs LS hP hD hS hl
  show W p l e R s m args below meth c H locs cells slots Q (F0 m pc LS (.int (Int32.ofInt x) :: st.map (cvv ad)))
  refine lv_istore_n h.1 h.2.1 hd rfl (lvs_has hl) (by rw [h.2.2.1]; exact hn) rfl (fun LS' hl' => k H locs LS' hP hD hS (lvs_1 rfl hl'))
theorem mi_istore {K : KT} {cc : ByteArray} {nL : Nat} {own : String} {lev pc : Nat} {ls : List (Option MV)} {st : List MV} {σ : Mem} {n : Nat} {x : Int} (h : MC K cc nL own lev) (hd : decode cc pc = .ok (.istore n, 2)) (hn : n < nL := by decide) (k : M K (pc + 2) (ls1 ls n (vi x)) st σ) : M K pc ls (vi x :: st) σ := by
  obtain ⟨p, l, e, R, s, m, args, below, meth, c, D, ad, cA, Q, cells, slots⟩ := K
  intro H locs LS hP hD hS hl
  show W p l e R s m args below meth c H locs cells slots Q (F0 m pc LS (.int (Int32.ofInt x) :: st.map (cvv ad)))
  refine lv_istore h.1 h.2.1 hd (lvs_has hl) (by rw [h.2.2.1]; exact hn) rfl (fun LS' hl' => k H locs LS' hP hD hS (lvs_1 rfl hl'))
theorem mi_lstore_n {K : KT} {cc : ByteArray} {nL : Nat} {own : String} {lev pc : Nat} {ls : List (Option MV)} {st : List MV} {σ : Mem} {n : Fin 4} {x : Int} (h : MC K cc nL own lev) (hd : decode cc pc = .ok (.lstore_n n, 1)) (hn : (n : Nat) + 1 < nL := by decide) (k : M K (pc + 1) (ls2 ls n (vl x)) st σ) : M K pc ls (vl x :: st) σ := by
  obtain ⟨p, l, e, R, s, m, args, below, meth, c, D, ad, cA, Q, cells, slots⟩ := K
  intro H locs LS hP hD hS hl
  show W p l e R s m args below meth c H locs cells slots Q (F0 m pc LS (.long (Int64.ofInt x) :: st.map (cvv ad)))
  refine lv_lstore_n h.1 h.2.1 hd rfl (lvs_has hl) (by rw [h.2.2.1]; exact hn) rfl (fun LS' hl' => k H locs LS' hP hD hS (lvs_2 rfl hl'))
theorem mi_lstore {K : KT} {cc : ByteArray} {nL : Nat} {own : String} {lev pc : Nat} {ls : List (Option MV)} {st : List MV} {σ : Mem} {n : Nat} {x : Int} (h : MC K cc nL own lev) (hd : decode cc pc = .ok (.lstore n, 2)) (hn : n + 1 < nL := by decide) (k : M K (pc + 2) (ls2 ls n (vl x)) st σ) : M K pc ls (vl x :: st) σ := by
  obtain ⟨p, l, e, R, s, m, args, below, meth, c, D, ad, cA, Q, cells, slots⟩ := K
  intro H locs LS hP hD hS hl
  show W p l e R s m args below meth c H locs cells slots Q (F0 m pc LS (.long (Int64.ofInt x) :: st.map (cvv ad)))
  refine lv_lstore h.1 h.2.1 hd (lvs_has hl) (by rw [h.2.2.1]; exact hn) rfl (fun LS' hl' => k H locs LS' hP hD hS (lvs_2 rfl hl'))
theorem mi_astore_n {K : KT} {cc : ByteArray} {nL : Nat} {own : String} {lev pc : Nat} {ls : List (Option MV)} {st : List MV} {σ : Mem} {n : Fin 4} {x : Nat} (h : MC K cc nL own lev) (hd : decode cc pc = .ok (.astore_n n, 1)) (hn : (n : Nat) < nL := by decide) (k : M K (pc + 1) (ls1 ls n (vr x)) st σ) : M K pc ls (vr x :: st) σ := by
  obtain ⟨p, l, e, R, s, m, args, below, meth, c, D, ad, cA, Q, cells, slots⟩ := K
  intro H locs LS hP hD hS hl
  show W p l e R s m args below meth c H locs cells slots Q (F0 m pc LS (.ref (ad x) :: st.map (cvv ad)))
  refine lv_astore_n h.1 h.2.1 hd rfl (lvs_has hl) (by rw [h.2.2.1]; exact hn) rfl (fun LS' hl' => k H locs LS' hP hD hS (lvs_1 rfl hl'))
theorem mi_astore {K : KT} {cc : ByteArray} {nL : Nat} {own : String} {lev pc : Nat} {ls : List (Option MV)} {st : List MV} {σ : Mem} {n : Nat} {x : Nat} (h : MC K cc nL own lev) (hd : decode cc pc = .ok (.astore n, 2)) (hn : n < nL := by decide) (k : M K (pc + 2) (ls1 ls n (vr x)) st σ) : M K pc ls (vr x :: st) σ := by
  obtain ⟨p, l, e, R, s, m, args, below, meth, c, D, ad, cA, Q, cells, slots⟩ := K
  intro H locs LS hP hD hS hl
  show W p l e R s m args below meth c H locs cells slots Q (F0 m pc LS (.ref (ad x) :: st.map (cvv ad)))
  refine lv_astore h.1 h.2.1 hd (lvs_has hl) (by rw [h.2.2.1]; exact hn) rfl (fun LS' hl' => k H locs LS' hP hD hS (lvs_1 rfl hl'))
theorem mi_iinc {K : KT} {cc : ByteArray} {nL : Nat} {own : String} {lev pc : Nat} {ls : List (Option MV)} {st : List MV} {σ : Mem} {n : Nat} {d : Int} {x : Int} (h : MC K cc nL own lev) (hd : decode cc pc = .ok (.iinc n d, 3)) (hv : ls[n]? = some (some (vi x))) (k : M K (pc + 3) (ls1 ls n (vi (x + d))) st σ) (hn : n < nL := by decide) : M K pc ls st σ := by
  obtain ⟨p, l, e, R, s, m, args, below, meth, c, D, ad, cA, Q, cells, slots⟩ := K
  intro H locs LS hP hD hS hl
  obtain ⟨j, hj⟩ := List.getElem?_of_mem (lsl_mem (ad := ad) hv)
  refine lv_iinc (v := Int32.ofInt (x + d)) h.1 h.2.1 hd (lvs_has hl) hj (Int32.ofInt_add x d).symm (by rw [h.2.2.1]; exact hn) rfl (fun LS' hl' => k H locs LS' hP hD hS (lvs_1 rfl hl'))
theorem mi_dup {K : KT} {cc : ByteArray} {nL : Nat} {own : String} {lev pc : Nat} {ls : List (Option MV)} {st : List MV} {σ : Mem} {v : MV} (h : MC K cc nL own lev) (hd : decode cc pc = .ok (.dup, 1)) (hv : ∀ ad, (cvv ad v).category = 1) (k : M K (pc + 1) ls (v :: v :: st) σ) : M K pc ls (v :: st) σ := by
  obtain ⟨p, l, e, R, s, m, args, below, meth, c, D, ad, cA, Q, cells, slots⟩ := K
  intro H locs LS hP hD hS hl
  exact lv_dup h.1 h.2.1 hd (hv ad) (k H locs LS hP hD hS hl)
theorem mi_dup_x1 {K : KT} {cc : ByteArray} {nL : Nat} {own : String} {lev pc : Nat} {ls : List (Option MV)} {st : List MV} {σ : Mem} {v w : MV} (h : MC K cc nL own lev) (hd : decode cc pc = .ok (.dup_x1, 1)) (hv : ∀ ad, (cvv ad v).category = 1) (hw : ∀ ad, (cvv ad w).category = 1) (k : M K (pc + 1) ls (v :: w :: v :: st) σ) : M K pc ls (v :: w :: st) σ := by
  obtain ⟨p, l, e, R, s, m, args, below, meth, c, D, ad, cA, Q, cells, slots⟩ := K
  intro H locs LS hP hD hS hl
  exact lv_dup_x1 h.1 h.2.1 hd (hv ad) (hw ad) (k H locs LS hP hD hS hl)
theorem mi_dup2 {K : KT} {cc : ByteArray} {nL : Nat} {own : String} {lev pc : Nat} {ls : List (Option MV)} {st : List MV} {σ : Mem} {v w : MV} (h : MC K cc nL own lev) (hd : decode cc pc = .ok (.dup2, 1)) (hv : ∀ ad, (cvv ad v).category = 1) (hw : ∀ ad, (cvv ad w).category = 1) (k : M K (pc + 1) ls (v :: w :: v :: w :: st) σ) : M K pc ls (v :: w :: st) σ := by
  obtain ⟨p, l, e, R, s, m, args, below, meth, c, D, ad, cA, Q, cells, slots⟩ := K
  intro H locs LS hP hD hS hl
  exact lv_dup2_11 h.1 h.2.1 hd (hv ad) (hw ad) (k H locs LS hP hD hS hl)
theorem mi_icmp_eq {K : KT} {cc : ByteArray} {nL : Nat} {own : String} {lev pc : Nat} {ls : List (Option MV)} {st : List MV} {σ : Mem} {off : Int} {tgt : Nat} (h : MC K cc nL own lev) (hd : decode cc pc = .ok (.if_icmp .eq off, 3)) (ht : (pc : Int) + off = (tgt : Int)) {x y : Int} (hx : R32 x) (hy : R32 y) (kt : x = y → M K tgt ls st σ) (kf : ¬ x = y → M K (pc + 3) ls st σ) : M K pc ls (vi y :: vi x :: st) σ := by
  obtain ⟨p, l, e, R, s, m, args, below, meth, c, D, ad, cA, Q, cells, slots⟩ := K
  intro H locs LS hP hD hS hl
  show W p l e R s m args below meth c H locs cells slots Q (F0 m pc LS (.int (Int32.ofInt y) :: .int (Int32.ofInt x) :: st.map (cvv ad)))
  exact lv_icmp_eq h.1 h.2.1 hd ht (fun q => kt ((i32_eq hx hy).mp q) H locs LS hP hD hS hl) (fun q => kf (fun z => q ((i32_eq hx hy).mpr z)) H locs LS hP hD hS hl)
theorem mi_if_eq {K : KT} {cc : ByteArray} {nL : Nat} {own : String} {lev pc : Nat} {ls : List (Option MV)} {st : List MV} {σ : Mem} {off : Int} {tgt : Nat} (h : MC K cc nL own lev) (hd : decode cc pc = .ok (.ifCond .eq off, 3)) (ht : (pc : Int) + off = (tgt : Int)) {x : Int} (hx : R32 x) (kt : x = 0 → M K tgt ls st σ) (kf : ¬ x = 0 → M K (pc + 3) ls st σ) : M K pc ls (vi x :: st) σ := by
  obtain ⟨p, l, e, R, s, m, args, below, meth, c, D, ad, cA, Q, cells, slots⟩ := K
  intro H locs LS hP hD hS hl
  show W p l e R s m args below meth c H locs cells slots Q (F0 m pc LS (.int (Int32.ofInt x) :: st.map (cvv ad)))
  exact lv_if_eq h.1 h.2.1 hd ht (fun q => kt ((i32_eq hx (show R32 0 by decide)).mp q) H locs LS hP hD hS hl) (fun q => kf (fun z => q ((i32_eq hx (show R32 0 by decide)).mpr z)) H locs LS hP hD hS hl)
theorem mi_icmp_lt {K : KT} {cc : ByteArray} {nL : Nat} {own : String} {lev pc : Nat} {ls : List (Option MV)} {st : List MV} {σ : Mem} {off : Int} {tgt : Nat} (h : MC K cc nL own lev) (hd : decode cc pc = .ok (.if_icmp .lt off, 3)) (ht : (pc : Int) + off = (tgt : Int)) {x y : Int} (hx : R32 x) (hy : R32 y) (kt : x < y → M K tgt ls st σ) (kf : ¬ x < y → M K (pc + 3) ls st σ) : M K pc ls (vi y :: vi x :: st) σ := by
  obtain ⟨p, l, e, R, s, m, args, below, meth, c, D, ad, cA, Q, cells, slots⟩ := K
  intro H locs LS hP hD hS hl
  show W p l e R s m args below meth c H locs cells slots Q (F0 m pc LS (.int (Int32.ofInt y) :: .int (Int32.ofInt x) :: st.map (cvv ad)))
  exact lv_icmp_lt h.1 h.2.1 hd ht (fun q => kt ((i32_lt hx hy).mp q) H locs LS hP hD hS hl) (fun q => kf (fun z => q ((i32_lt hx hy).mpr z)) H locs LS hP hD hS hl)
theorem mi_if_lt {K : KT} {cc : ByteArray} {nL : Nat} {own : String} {lev pc : Nat} {ls : List (Option MV)} {st : List MV} {σ : Mem} {off : Int} {tgt : Nat} (h : MC K cc nL own lev) (hd : decode cc pc = .ok (.ifCond .lt off, 3)) (ht : (pc : Int) + off = (tgt : Int)) {x : Int} (hx : R32 x) (kt : x < 0 → M K tgt ls st σ) (kf : ¬ x < 0 → M K (pc + 3) ls st σ) : M K pc ls (vi x :: st) σ := by
  obtain ⟨p, l, e, R, s, m, args, below, meth, c, D, ad, cA, Q, cells, slots⟩ := K
  intro H locs LS hP hD hS hl
  show W p l e R s m args below meth c H locs cells slots Q (F0 m pc LS (.int (Int32.ofInt x) :: st.map (cvv ad)))
  exact lv_if_lt h.1 h.2.1 hd ht (fun q => kt ((i32_lt hx (show R32 0 by decide)).mp q) H locs LS hP hD hS hl) (fun q => kf (fun z => q ((i32_lt hx (show R32 0 by decide)).mpr z)) H locs LS hP hD hS hl)
theorem mi_icmp_ge {K : KT} {cc : ByteArray} {nL : Nat} {own : String} {lev pc : Nat} {ls : List (Option MV)} {st : List MV} {σ : Mem} {off : Int} {tgt : Nat} (h : MC K cc nL own lev) (hd : decode cc pc = .ok (.if_icmp .ge off, 3)) (ht : (pc : Int) + off = (tgt : Int)) {x y : Int} (hx : R32 x) (hy : R32 y) (kt : y ≤ x → M K tgt ls st σ) (kf : ¬ y ≤ x → M K (pc + 3) ls st σ) : M K pc ls (vi y :: vi x :: st) σ := by
  obtain ⟨p, l, e, R, s, m, args, below, meth, c, D, ad, cA, Q, cells, slots⟩ := K
  intro H locs LS hP hD hS hl
  show W p l e R s m args below meth c H locs cells slots Q (F0 m pc LS (.int (Int32.ofInt y) :: .int (Int32.ofInt x) :: st.map (cvv ad)))
  exact lv_icmp_ge h.1 h.2.1 hd ht (fun q => kt ((i32_le hy hx).mp q) H locs LS hP hD hS hl) (fun q => kf (fun z => q ((i32_le hy hx).mpr z)) H locs LS hP hD hS hl)
theorem mi_if_ge {K : KT} {cc : ByteArray} {nL : Nat} {own : String} {lev pc : Nat} {ls : List (Option MV)} {st : List MV} {σ : Mem} {off : Int} {tgt : Nat} (h : MC K cc nL own lev) (hd : decode cc pc = .ok (.ifCond .ge off, 3)) (ht : (pc : Int) + off = (tgt : Int)) {x : Int} (hx : R32 x) (kt : 0 ≤ x → M K tgt ls st σ) (kf : ¬ 0 ≤ x → M K (pc + 3) ls st σ) : M K pc ls (vi x :: st) σ := by
  obtain ⟨p, l, e, R, s, m, args, below, meth, c, D, ad, cA, Q, cells, slots⟩ := K
  intro H locs LS hP hD hS hl
  show W p l e R s m args below meth c H locs cells slots Q (F0 m pc LS (.int (Int32.ofInt x) :: st.map (cvv ad)))
  exact lv_if_ge h.1 h.2.1 hd ht (fun q => kt ((i32_le (show R32 0 by decide) hx).mp q) H locs LS hP hD hS hl) (fun q => kf (fun z => q ((i32_le (show R32 0 by decide) hx).mpr z)) H locs LS hP hD hS hl)
theorem mi_icmp_gt {K : KT} {cc : ByteArray} {nL : Nat} {own : String} {lev pc : Nat} {ls : List (Option MV)} {st : List MV} {σ : Mem} {off : Int} {tgt : Nat} (h : MC K cc nL own lev) (hd : decode cc pc = .ok (.if_icmp .gt off, 3)) (ht : (pc : Int) + off = (tgt : Int)) {x y : Int} (hx : R32 x) (hy : R32 y) (kt : y < x → M K tgt ls st σ) (kf : ¬ y < x → M K (pc + 3) ls st σ) : M K pc ls (vi y :: vi x :: st) σ := by
  obtain ⟨p, l, e, R, s, m, args, below, meth, c, D, ad, cA, Q, cells, slots⟩ := K
  intro H locs LS hP hD hS hl
  show W p l e R s m args below meth c H locs cells slots Q (F0 m pc LS (.int (Int32.ofInt y) :: .int (Int32.ofInt x) :: st.map (cvv ad)))
  exact lv_icmp_gt h.1 h.2.1 hd ht (fun q => kt ((i32_lt hy hx).mp q) H locs LS hP hD hS hl) (fun q => kf (fun z => q ((i32_lt hy hx).mpr z)) H locs LS hP hD hS hl)
theorem mi_if_gt {K : KT} {cc : ByteArray} {nL : Nat} {own : String} {lev pc : Nat} {ls : List (Option MV)} {st : List MV} {σ : Mem} {off : Int} {tgt : Nat} (h : MC K cc nL own lev) (hd : decode cc pc = .ok (.ifCond .gt off, 3)) (ht : (pc : Int) + off = (tgt : Int)) {x : Int} (hx : R32 x) (kt : 0 < x → M K tgt ls st σ) (kf : ¬ 0 < x → M K (pc + 3) ls st σ) : M K pc ls (vi x :: st) σ := by
  obtain ⟨p, l, e, R, s, m, args, below, meth, c, D, ad, cA, Q, cells, slots⟩ := K
  intro H locs LS hP hD hS hl
  show W p l e R s m args below meth c H locs cells slots Q (F0 m pc LS (.int (Int32.ofInt x) :: st.map (cvv ad)))
  exact lv_if_gt h.1 h.2.1 hd ht (fun q => kt ((i32_lt (show R32 0 by decide) hx).mp q) H locs LS hP hD hS hl) (fun q => kf (fun z => q ((i32_lt (show R32 0 by decide) hx).mpr z)) H locs LS hP hD hS hl)
theorem mi_icmp_le {K : KT} {cc : ByteArray} {nL : Nat} {own : String} {lev pc : Nat} {ls : List (Option MV)} {st : List MV} {σ : Mem} {off : Int} {tgt : Nat} (h : MC K cc nL own lev) (hd : decode cc pc = .ok (.if_icmp .le off, 3)) (ht : (pc : Int) + off = (tgt : Int)) {x y : Int} (hx : R32 x) (hy : R32 y) (kt : x ≤ y → M K tgt ls st σ) (kf : ¬ x ≤ y → M K (pc + 3) ls st σ) : M K pc ls (vi y :: vi x :: st) σ := by
  obtain ⟨p, l, e, R, s, m, args, below, meth, c, D, ad, cA, Q, cells, slots⟩ := K
  intro H locs LS hP hD hS hl
  show W p l e R s m args below meth c H locs cells slots Q (F0 m pc LS (.int (Int32.ofInt y) :: .int (Int32.ofInt x) :: st.map (cvv ad)))
  exact lv_icmp_le h.1 h.2.1 hd ht (fun q => kt ((i32_le hx hy).mp q) H locs LS hP hD hS hl) (fun q => kf (fun z => q ((i32_le hx hy).mpr z)) H locs LS hP hD hS hl)
theorem mi_if_le {K : KT} {cc : ByteArray} {nL : Nat} {own : String} {lev pc : Nat} {ls : List (Option MV)} {st : List MV} {σ : Mem} {off : Int} {tgt : Nat} (h : MC K cc nL own lev) (hd : decode cc pc = .ok (.ifCond .le off, 3)) (ht : (pc : Int) + off = (tgt : Int)) {x : Int} (hx : R32 x) (kt : x ≤ 0 → M K tgt ls st σ) (kf : ¬ x ≤ 0 → M K (pc + 3) ls st σ) : M K pc ls (vi x :: st) σ := by
  obtain ⟨p, l, e, R, s, m, args, below, meth, c, D, ad, cA, Q, cells, slots⟩ := K
  intro H locs LS hP hD hS hl
  show W p l e R s m args below meth c H locs cells slots Q (F0 m pc LS (.int (Int32.ofInt x) :: st.map (cvv ad)))
  exact lv_if_le h.1 h.2.1 hd ht (fun q => kt ((i32_le hx (show R32 0 by decide)).mp q) H locs LS hP hD hS hl) (fun q => kf (fun z => q ((i32_le hx (show R32 0 by decide)).mpr z)) H locs LS hP hD hS hl)
theorem mi_icmp_ne {K : KT} {cc : ByteArray} {nL : Nat} {own : String} {lev pc : Nat} {ls : List (Option MV)} {st : List MV} {σ : Mem} {off : Int} {tgt : Nat} (h : MC K cc nL own lev) (hd : decode cc pc = .ok (.if_icmp .ne off, 3)) (ht : (pc : Int) + off = (tgt : Int)) {x y : Int} (hx : R32 x) (hy : R32 y) (kt : ¬ x = y → M K tgt ls st σ) (kf : x = y → M K (pc + 3) ls st σ) : M K pc ls (vi y :: vi x :: st) σ := by
  obtain ⟨p, l, e, R, s, m, args, below, meth, c, D, ad, cA, Q, cells, slots⟩ := K
  intro H locs LS hP hD hS hl
  show W p l e R s m args below meth c H locs cells slots Q (F0 m pc LS (.int (Int32.ofInt y) :: .int (Int32.ofInt x) :: st.map (cvv ad)))
  exact lv_icmp_ne h.1 h.2.1 hd ht (fun q => kt (fun z => q ((i32_eq hx hy).mpr z)) H locs LS hP hD hS hl) (fun q => kf ((i32_eq hx hy).mp q) H locs LS hP hD hS hl)
theorem mi_if_ne {K : KT} {cc : ByteArray} {nL : Nat} {own : String} {lev pc : Nat} {ls : List (Option MV)} {st : List MV} {σ : Mem} {off : Int} {tgt : Nat} (h : MC K cc nL own lev) (hd : decode cc pc = .ok (.ifCond .ne off, 3)) (ht : (pc : Int) + off = (tgt : Int)) {x : Int} (hx : R32 x) (kt : ¬ x = 0 → M K tgt ls st σ) (kf : x = 0 → M K (pc + 3) ls st σ) : M K pc ls (vi x :: st) σ := by
  obtain ⟨p, l, e, R, s, m, args, below, meth, c, D, ad, cA, Q, cells, slots⟩ := K
  intro H locs LS hP hD hS hl
  show W p l e R s m args below meth c H locs cells slots Q (F0 m pc LS (.int (Int32.ofInt x) :: st.map (cvv ad)))
  exact lv_if_ne h.1 h.2.1 hd ht (fun q => kt (fun z => q ((i32_eq hx (show R32 0 by decide)).mpr z)) H locs LS hP hD hS hl) (fun q => kf ((i32_eq hx (show R32 0 by decide)).mp q) H locs LS hP hD hS hl)
theorem mi_lcmp_eq {K : KT} {cc : ByteArray} {nL : Nat} {own : String} {lev pc : Nat} {ls : List (Option MV)} {st : List MV} {σ : Mem} {off : Int} {tgt : Nat} {x y : Int} (h : MC K cc nL own lev) (hd : decode cc pc = .ok (.lcmp, 1)) (hd2 : decode cc (pc + 1) = .ok (.ifCond .eq off, 3)) (ht : ((pc + 1 : Nat) : Int) + off = (tgt : Int)) (hx : R64 x) (hy : R64 y) (kt : x = y → M K tgt ls st σ) (kf : ¬ x = y → M K (pc + 4) ls st σ) : M K pc ls (vl y :: vl x :: st) σ := by
  obtain ⟨p, l, e, R, s, m, args, below, meth, c, D, ad, cA, Q, cells, slots⟩ := K
  intro H locs LS hP hD hS hl
  show W p l e R s m args below meth c H locs cells slots Q (F0 m pc LS (.long (Int64.ofInt y) :: .long (Int64.ofInt x) :: st.map (cvv ad)))
  refine W.lcmp h.1 h.2.1 hd ?_
  exact lv_if_eq h.1 h.2.1 hd2 ht (fun q => kt ((i64_eq hx hy).mp ((lg_cmp_eq _ _).mp q)) H locs LS hP hD hS hl) (fun q => kf (fun z => q ((lg_cmp_eq _ _).mpr ((i64_eq hx hy).mpr z))) H locs LS hP hD hS hl)
theorem mi_lcmp_lt {K : KT} {cc : ByteArray} {nL : Nat} {own : String} {lev pc : Nat} {ls : List (Option MV)} {st : List MV} {σ : Mem} {off : Int} {tgt : Nat} {x y : Int} (h : MC K cc nL own lev) (hd : decode cc pc = .ok (.lcmp, 1)) (hd2 : decode cc (pc + 1) = .ok (.ifCond .lt off, 3)) (ht : ((pc + 1 : Nat) : Int) + off = (tgt : Int)) (hx : R64 x) (hy : R64 y) (kt : x < y → M K tgt ls st σ) (kf : ¬ x < y → M K (pc + 4) ls st σ) : M K pc ls (vl y :: vl x :: st) σ := by
  obtain ⟨p, l, e, R, s, m, args, below, meth, c, D, ad, cA, Q, cells, slots⟩ := K
  intro H locs LS hP hD hS hl
  show W p l e R s m args below meth c H locs cells slots Q (F0 m pc LS (.long (Int64.ofInt y) :: .long (Int64.ofInt x) :: st.map (cvv ad)))
  refine W.lcmp h.1 h.2.1 hd ?_
  exact lv_if_lt h.1 h.2.1 hd2 ht (fun q => kt ((i64_lt hx hy).mp ((lg_cmp_lt _ _).mp q)) H locs LS hP hD hS hl) (fun q => kf (fun z => q ((lg_cmp_lt _ _).mpr ((i64_lt hx hy).mpr z))) H locs LS hP hD hS hl)
theorem mi_lcmp_ge {K : KT} {cc : ByteArray} {nL : Nat} {own : String} {lev pc : Nat} {ls : List (Option MV)} {st : List MV} {σ : Mem} {off : Int} {tgt : Nat} {x y : Int} (h : MC K cc nL own lev) (hd : decode cc pc = .ok (.lcmp, 1)) (hd2 : decode cc (pc + 1) = .ok (.ifCond .ge off, 3)) (ht : ((pc + 1 : Nat) : Int) + off = (tgt : Int)) (hx : R64 x) (hy : R64 y) (kt : y ≤ x → M K tgt ls st σ) (kf : ¬ y ≤ x → M K (pc + 4) ls st σ) : M K pc ls (vl y :: vl x :: st) σ := by
  obtain ⟨p, l, e, R, s, m, args, below, meth, c, D, ad, cA, Q, cells, slots⟩ := K
  intro H locs LS hP hD hS hl
  show W p l e R s m args below meth c H locs cells slots Q (F0 m pc LS (.long (Int64.ofInt y) :: .long (Int64.ofInt x) :: st.map (cvv ad)))
  refine W.lcmp h.1 h.2.1 hd ?_
  exact lv_if_ge h.1 h.2.1 hd2 ht (fun q => kt ((i64_le hy hx).mp ((lg_cmp_ge _ _).mp q)) H locs LS hP hD hS hl) (fun q => kf (fun z => q ((lg_cmp_ge _ _).mpr ((i64_le hy hx).mpr z))) H locs LS hP hD hS hl)
theorem mi_lcmp_gt {K : KT} {cc : ByteArray} {nL : Nat} {own : String} {lev pc : Nat} {ls : List (Option MV)} {st : List MV} {σ : Mem} {off : Int} {tgt : Nat} {x y : Int} (h : MC K cc nL own lev) (hd : decode cc pc = .ok (.lcmp, 1)) (hd2 : decode cc (pc + 1) = .ok (.ifCond .gt off, 3)) (ht : ((pc + 1 : Nat) : Int) + off = (tgt : Int)) (hx : R64 x) (hy : R64 y) (kt : y < x → M K tgt ls st σ) (kf : ¬ y < x → M K (pc + 4) ls st σ) : M K pc ls (vl y :: vl x :: st) σ := by
  obtain ⟨p, l, e, R, s, m, args, below, meth, c, D, ad, cA, Q, cells, slots⟩ := K
  intro H locs LS hP hD hS hl
  show W p l e R s m args below meth c H locs cells slots Q (F0 m pc LS (.long (Int64.ofInt y) :: .long (Int64.ofInt x) :: st.map (cvv ad)))
  refine W.lcmp h.1 h.2.1 hd ?_
  exact lv_if_gt h.1 h.2.1 hd2 ht (fun q => kt ((i64_lt hy hx).mp ((lg_cmp_gt _ _).mp q)) H locs LS hP hD hS hl) (fun q => kf (fun z => q ((lg_cmp_gt _ _).mpr ((i64_lt hy hx).mpr z))) H locs LS hP hD hS hl)
theorem mi_lcmp_le {K : KT} {cc : ByteArray} {nL : Nat} {own : String} {lev pc : Nat} {ls : List (Option MV)} {st : List MV} {σ : Mem} {off : Int} {tgt : Nat} {x y : Int} (h : MC K cc nL own lev) (hd : decode cc pc = .ok (.lcmp, 1)) (hd2 : decode cc (pc + 1) = .ok (.ifCond .le off, 3)) (ht : ((pc + 1 : Nat) : Int) + off = (tgt : Int)) (hx : R64 x) (hy : R64 y) (kt : x ≤ y → M K tgt ls st σ) (kf : ¬ x ≤ y → M K (pc + 4) ls st σ) : M K pc ls (vl y :: vl x :: st) σ := by
  obtain ⟨p, l, e, R, s, m, args, below, meth, c, D, ad, cA, Q, cells, slots⟩ := K
  intro H locs LS hP hD hS hl
  show W p l e R s m args below meth c H locs cells slots Q (F0 m pc LS (.long (Int64.ofInt y) :: .long (Int64.ofInt x) :: st.map (cvv ad)))
  refine W.lcmp h.1 h.2.1 hd ?_
  exact lv_if_le h.1 h.2.1 hd2 ht (fun q => kt ((i64_le hx hy).mp ((lg_cmp_le _ _).mp q)) H locs LS hP hD hS hl) (fun q => kf (fun z => q ((lg_cmp_le _ _).mpr ((i64_le hx hy).mpr z))) H locs LS hP hD hS hl)
theorem mi_lcmp_ne {K : KT} {cc : ByteArray} {nL : Nat} {own : String} {lev pc : Nat} {ls : List (Option MV)} {st : List MV} {σ : Mem} {off : Int} {tgt : Nat} {x y : Int} (h : MC K cc nL own lev) (hd : decode cc pc = .ok (.lcmp, 1)) (hd2 : decode cc (pc + 1) = .ok (.ifCond .ne off, 3)) (ht : ((pc + 1 : Nat) : Int) + off = (tgt : Int)) (hx : R64 x) (hy : R64 y) (kt : ¬ x = y → M K tgt ls st σ) (kf : x = y → M K (pc + 4) ls st σ) : M K pc ls (vl y :: vl x :: st) σ := by
  obtain ⟨p, l, e, R, s, m, args, below, meth, c, D, ad, cA, Q, cells, slots⟩ := K
  intro H locs LS hP hD hS hl
  show W p l e R s m args below meth c H locs cells slots Q (F0 m pc LS (.long (Int64.ofInt y) :: .long (Int64.ofInt x) :: st.map (cvv ad)))
  refine W.lcmp h.1 h.2.1 hd ?_
  exact lv_if_ne h.1 h.2.1 hd2 ht (fun q => kt (fun z => q ((lg_cmp_eq _ _).mpr ((i64_eq hx hy).mpr z))) H locs LS hP hD hS hl) (fun q => kf ((i64_eq hx hy).mp ((lg_cmp_eq _ _).mp q)) H locs LS hP hD hS hl)
theorem mi_goto {K : KT} {cc : ByteArray} {nL : Nat} {own : String} {lev pc : Nat} {ls : List (Option MV)} {st : List MV} {σ : Mem} {off : Int} {tgt : Nat} (h : MC K cc nL own lev) (hd : decode cc pc = .ok (.goto off, 3)) (ht : (pc : Int) + off = (tgt : Int)) (k : M K tgt ls st σ) : M K pc ls st σ := by
  obtain ⟨p, l, e, R, s, m, args, below, meth, c, D, ad, cA, Q, cells, slots⟩ := K
  intro H locs LS hP hD hS hl
  exact lv_goto h.1 h.2.1 hd ht (k H locs LS hP hD hS hl)
theorem mi_tabOut {K : KT} {cc : ByteArray} {nL : Nat} {own : String} {lev pc : Nat} {ls : List (Option MV)} {st : List MV} {σ : Mem} {dflt lo hi : Int} {offs : Array Int} {len tgt : Nat} {x : Int} (h : MC K cc nL own lev) (hd : decode cc pc = .ok (.tableswitch dflt lo hi offs, len)) (hx : R32 x) (hc : x < lo ∨ hi < x) (ht : (pc : Int) + dflt = (tgt : Int)) (k : M K tgt ls st σ) : M K pc ls (vi x :: st) σ := by
  obtain ⟨p, l, e, R, s, m, args, below, meth, c, D, ad, cA, Q, cells, slots⟩ := K
  intro H locs LS hP hD hS hl
  show W p l e R s m args below meth c H locs cells slots Q (F0 m pc LS (.int (Int32.ofInt x) :: st.map (cvv ad)))
  exact lv_tableOut h.1 h.2.1 hd (by rw [i32 hx]; exact hc) ht (k H locs LS hP hD hS hl)
theorem mi_tabIn {K : KT} {cc : ByteArray} {nL : Nat} {own : String} {lev pc : Nat} {ls : List (Option MV)} {st : List MV} {σ : Mem} {dflt lo hi : Int} {offs : Array Int} {len tgt : Nat} {off x : Int} (h : MC K cc nL own lev) (hd : decode cc pc = .ok (.tableswitch dflt lo hi offs, len)) (hx : R32 x) (h1 : ¬ x < lo) (h2 : ¬ hi < x) (ho : offs[(x - lo).toNat]? = some off) (ht : (pc : Int) + off = (tgt : Int)) (k : M K tgt ls st σ) : M K pc ls (vi x :: st) σ := by
  obtain ⟨p, l, e, R, s, m, args, below, meth, c, D, ad, cA, Q, cells, slots⟩ := K
  intro H locs LS hP hD hS hl
  show W p l e R s m args below meth c H locs cells slots Q (F0 m pc LS (.int (Int32.ofInt x) :: st.map (cvv ad)))
  exact lv_tableIn h.1 h.2.1 hd (by rw [i32 hx]; exact h1) (by rw [i32 hx]; exact h2) (by rw [i32 hx]; exact ho) ht (k H locs LS hP hD hS hl)
theorem mi_topi {K : KT} {cc : ByteArray} {nL : Nat} {own : String} {lev pc : Nat} {ls : List (Option MV)} {st : List MV} {σ : Mem} {x : Int} (k : ∀ y : Int, y = x → M K pc ls (vi y :: st) σ) : M K pc ls (vi x :: st) σ := k x rfl
theorem mi_topl {K : KT} {cc : ByteArray} {nL : Nat} {own : String} {lev pc : Nat} {ls : List (Option MV)} {st : List MV} {σ : Mem} {x : Int} (k : ∀ y : Int, y = x → M K pc ls (vl y :: st) σ) : M K pc ls (vl x :: st) σ := k x rfl
theorem mi_geti {K : KT} {cc : ByteArray} {nL : Nat} {own : String} {lev pc : Nat} {ls : List (Option MV)} {st : List MV} {σ : Mem} {ci : Nat} {fs : List (Option Nat)} {C : String} {T : u_T} {N idx c0 k0 : Nat} {ref name desc : String} (h : MC K cc nL own lev) (hd : decode cc pc = .ok (.getfield idx, 3)) (hlay : lay[c0]? = some (.inl (ci, fs))) (hcl : classes[ci]? = some (C, T, N)) (hin : ∀ w ∈ u_ws C T N, w ∈ wT) (hk : k0 < N) (hT : (T k0).1 = ref ∧ (T k0).2.1 = name ∧ (T k0).2.2.1 = desc) (hw : Cond.fieldLink own idx ref name desc ∈ wT) (hf : fs[k0]? = some none) (k : M K (pc + 3) ls (vi (σ c0 k0) :: st) σ) : M K pc ls (vr c0 :: st) σ := by
  obtain ⟨p, l, e, R, s, m, args, below, meth, c, D, ad, cA, Q, cells, slots⟩ := K
  intro H locs LS hP hD hS hl
  obtain ⟨e1, e2, e3⟩ := hT
  subst e1 e2 e3
  refine va_get (D := D) (T := T) (v := .int (Int32.ofInt (σ c0 k0))) h.1 h.2.1 h.2.2.2.2.1 hin h.2.2.2.1 h.2.2.2.2.2.2.1 hP c0 (mkW_at hlay) hcl k0 hk (h.2.2.2.2.1 _ hw) (fun _ h9 => h9) ?_ hd (k H locs LS hP hD hS hl)
  simp [hf, mkF]
theorem mi_getr {K : KT} {cc : ByteArray} {nL : Nat} {own : String} {lev pc : Nat} {ls : List (Option MV)} {st : List MV} {σ : Mem} {ci : Nat} {fs : List (Option Nat)} {C : String} {T : u_T} {N idx c0 k0 : Nat} {ref name desc : String} {r : Nat} (h : MC K cc nL own lev) (hd : decode cc pc = .ok (.getfield idx, 3)) (hlay : lay[c0]? = some (.inl (ci, fs))) (hcl : classes[ci]? = some (C, T, N)) (hin : ∀ w ∈ u_ws C T N, w ∈ wT) (hk : k0 < N) (hT : (T k0).1 = ref ∧ (T k0).2.1 = name ∧ (T k0).2.2.1 = desc) (hw : Cond.fieldLink own idx ref name desc ∈ wT) (hf : fs[k0]? = some (some r)) (k : M K (pc + 3) ls (vr r :: st) σ) : M K pc ls (vr c0 :: st) σ := by
  obtain ⟨p, l, e, R, s, m, args, below, meth, c, D, ad, cA, Q, cells, slots⟩ := K
  intro H locs LS hP hD hS hl
  obtain ⟨e1, e2, e3⟩ := hT
  subst e1 e2 e3
  refine va_get (D := D) (T := T) (v := .ref (ad r)) h.1 h.2.1 h.2.2.2.2.1 hin h.2.2.2.1 h.2.2.2.2.2.2.1 hP c0 (mkW_at hlay) hcl k0 hk (h.2.2.2.2.1 _ hw) (fun _ h9 => h9) ?_ hd (k H locs LS hP hD hS hl)
  simp [hf, mkF]
theorem mi_put {K : KT} {cc : ByteArray} {nL : Nat} {own : String} {lev pc : Nat} {ls : List (Option MV)} {st : List MV} {σ : Mem} {ci : Nat} {fs : List (Option Nat)} {C : String} {T : u_T} {N idx c0 k0 : Nat} {ref name desc : String} {x : Int} {ty0 : Nat → FieldType} (h : MC K cc nL own lev) (hd : decode cc pc = .ok (.putfield idx, 3)) (hlay : lay[c0]? = some (.inl (ci, fs))) (hcl : classes[ci]? = some (C, T, N)) (hin : ∀ w ∈ u_ws C T N, w ∈ wT) (hk : k0 < N) (hT : (T k0).1 = ref ∧ (T k0).2.1 = name ∧ (T k0).2.2.1 = desc) (hw : Cond.fieldLink own idx ref name desc ∈ wT) (hty : ∀ k, k < N → parseFieldDescriptor (T k).2.2.1 = some (ty0 k)) (hnm : ∀ a, a < N → ∀ b, b < N → a ≠ b → (T a).2.1 ≠ (T b).2.1) (hf : fs[k0]? = some none) (hfin : (T k0).2.2.2 = false) (hint : ty0 k0 = .int) (k : M K (pc + 3) ls st (up σ c0 k0 x)) : M K pc ls (vi x :: vr c0 :: st) σ := by
  obtain ⟨p, l, e, R, s, m, args, below, meth, c, D, ad, cA, Q, cells, slots⟩ := K
  intro H locs LS hP hD hS hl
  obtain ⟨e1, e2, e3⟩ := hT
  subst e1 e2 e3
  show W p l e R s m args below meth c H locs cells slots Q (F0 m pc LS (.int (Int32.ofInt x) :: .ref (ad c0) :: st.map (cvv ad)))
  refine va_put (D := D) (T := T) (ty := .int) h.1 h.2.1 h.2.2.2.2.1 hin ty0 hty hnm h.2.2.2.1 h.2.2.2.2.2.2.1 hP hD hS c0 (mkW_at hlay) hcl k0 hk (h.2.2.2.2.1 _ hw) (fun _ h9 => h9) hfin (by rw [hty k0 hk, hint]) rfl rfl (by simpa using (List.getElem?_eq_some_iff.mp hf).1) hd (fun H1 locs1 hP1 hD1 hS1 => ?_)
  have e : (mkW ad cA σ).set c0 (ad c0, .inr (ci, (fs.mapIdx (fun k o => mkF ad (σ c0) k o)).set k0 (.int (Int32.ofInt x)))) = mkW ad cA (up σ c0 k0 x) := by
    rw [mkF_set hf, ← mkW_set hlay]
    congr 2
    simp only [mkE]
    congr 3
    funext j o
    congr 1
    funext i
    simp [up]
  rw [e] at hP1 hD1
  exact k H1 locs1 LS hP1 hD1 hS1 hl
theorem mi_iaload {K : KT} {cc : ByteArray} {nL : Nat} {own : String} {lev pc : Nat} {ls : List (Option MV)} {st : List MV} {σ : Mem} {n c0 : Nat} {x : Int} (h : MC K cc nL own lev) (hd : decode cc pc = .ok (.iaload, 1)) (hlay : lay[c0]? = some (.inr (0, n))) (hx : 0 ≤ x ∧ x < n) (hn : n < 2147483648) (k : M K (pc + 1) ls (vi (σ c0 x.toNat) :: st) σ) : M K pc ls (vi x :: vr c0 :: st) σ := by
  obtain ⟨p, l, e, R, s, m, args, below, meth, c, D, ad, cA, Q, cells, slots⟩ := K
  intro H locs LS hP hD hS hl
  show W p l e R s m args below meth c H locs cells slots Q (F0 m pc LS (.int (Int32.ofInt x) :: .ref (ad c0) :: st.map (cvv ad)))
  refine va_iald h.1 h.2.1 h.2.2.2.2.2.2.1 hP c0 0 (mkW_at hlay) rfl (i32_in hx.1 hx.2 hn) hd ?_
  rw [i32_nat ⟨by omega, by omega⟩]
  exact k H locs LS hP hD hS hl
theorem mi_laload {K : KT} {cc : ByteArray} {nL : Nat} {own : String} {lev pc : Nat} {ls : List (Option MV)} {st : List MV} {σ : Mem} {n c0 : Nat} {x : Int} (h : MC K cc nL own lev) (hd : decode cc pc = .ok (.laload, 1)) (hlay : lay[c0]? = some (.inr (1, n))) (hx : 0 ≤ x ∧ x < n) (hn : n < 2147483648) (k : M K (pc + 1) ls (vl (σ c0 x.toNat) :: st) σ) : M K pc ls (vi x :: vr c0 :: st) σ := by
  obtain ⟨p, l, e, R, s, m, args, below, meth, c, D, ad, cA, Q, cells, slots⟩ := K
  intro H locs LS hP hD hS hl
  show W p l e R s m args below meth c H locs cells slots Q (F0 m pc LS (.int (Int32.ofInt x) :: .ref (ad c0) :: st.map (cvv ad)))
  refine va_lald h.1 h.2.1 h.2.2.2.2.2.2.1 hP c0 1 (mkW_at hlay) rfl (i32_in hx.1 hx.2 hn) hd ?_
  rw [i32_nat ⟨by omega, by omega⟩]
  exact k H locs LS hP hD hS hl
theorem mi_baload {K : KT} {cc : ByteArray} {nL : Nat} {own : String} {lev pc : Nat} {ls : List (Option MV)} {st : List MV} {σ : Mem} {n c0 : Nat} {x : Int} (h : MC K cc nL own lev) (hd : decode cc pc = .ok (.baload, 1)) (hlay : lay[c0]? = some (.inr (2, n))) (hx : 0 ≤ x ∧ x < n) (hn : n < 2147483648) (k : M K (pc + 1) ls (vi (σ c0 x.toNat) :: st) σ) : M K pc ls (vi x :: vr c0 :: st) σ := by
  obtain ⟨p, l, e, R, s, m, args, below, meth, c, D, ad, cA, Q, cells, slots⟩ := K
  intro H locs LS hP hD hS hl
  show W p l e R s m args below meth c H locs cells slots Q (F0 m pc LS (.int (Int32.ofInt x) :: .ref (ad c0) :: st.map (cvv ad)))
  refine va_zald h.1 h.2.1 h.2.2.2.2.2.2.1 hP c0 2 (mkW_at hlay) rfl (i32_in hx.1 hx.2 hn) hd ?_
  rw [i32_nat ⟨by omega, by omega⟩]
  exact k H locs LS hP hD hS hl
theorem mi_iastore {K : KT} {cc : ByteArray} {nL : Nat} {own : String} {lev pc : Nat} {ls : List (Option MV)} {st : List MV} {σ : Mem} {n c0 : Nat} {x z : Int} (h : MC K cc nL own lev) (hd : decode cc pc = .ok (.iastore, 1)) (hlay : lay[c0]? = some (.inr (0, n))) (hx : 0 ≤ x ∧ x < n) (hn : n < 2147483648) (k : M K (pc + 1) ls st (up σ c0 x.toNat z)) : M K pc ls (vi z :: vi x :: vr c0 :: st) σ := by
  obtain ⟨p, l, e, R, s, m, args, below, meth, c, D, ad, cA, Q, cells, slots⟩ := K
  intro H locs LS hP hD hS hl
  show W p l e R s m args below meth c H locs cells slots Q (F0 m pc LS (.int (Int32.ofInt z) :: .int (Int32.ofInt x) :: .ref (ad c0) :: st.map (cvv ad)))
  refine va_iast h.1 h.2.1 h.2.2.2.2.2.2.1 hP hD hS c0 0 (mkW_at hlay) rfl (i32_in hx.1 hx.2 hn) hd (fun H1 locs1 hP1 hD1 hS1 => ?_)
  rw [i32_nat ⟨by omega, by omega⟩] at hP1 hD1
  have e : (.inl (cA 0, n, .inl (upd (fun j => Int32.ofInt (σ c0 j)) x.toNat (Int32.ofInt z))) : va_E) = mkE ad cA (up σ c0 x.toNat z c0) (.inr (0, n)) := by
    simp only [mkE]
    congr 4
    funext j
    simp only [upd, vp_updL, up]
    by_cases hj : j = x.toNat <;> simp [hj]
  rw [e, mkW_set hlay] at hP1 hD1
  exact k H1 locs1 LS hP1 hD1 hS1 hl
theorem mi_lastore {K : KT} {cc : ByteArray} {nL : Nat} {own : String} {lev pc : Nat} {ls : List (Option MV)} {st : List MV} {σ : Mem} {n c0 : Nat} {x z : Int} (h : MC K cc nL own lev) (hd : decode cc pc = .ok (.lastore, 1)) (hlay : lay[c0]? = some (.inr (1, n))) (hx : 0 ≤ x ∧ x < n) (hn : n < 2147483648) (k : M K (pc + 1) ls st (up σ c0 x.toNat z)) : M K pc ls (vl z :: vi x :: vr c0 :: st) σ := by
  obtain ⟨p, l, e, R, s, m, args, below, meth, c, D, ad, cA, Q, cells, slots⟩ := K
  intro H locs LS hP hD hS hl
  show W p l e R s m args below meth c H locs cells slots Q (F0 m pc LS (.long (Int64.ofInt z) :: .int (Int32.ofInt x) :: .ref (ad c0) :: st.map (cvv ad)))
  refine va_last h.1 h.2.1 h.2.2.2.2.2.2.1 hP hD hS c0 1 (mkW_at hlay) rfl (i32_in hx.1 hx.2 hn) hd (fun H1 locs1 hP1 hD1 hS1 => ?_)
  rw [i32_nat ⟨by omega, by omega⟩] at hP1 hD1
  have e : (.inl (cA 1, n, .inr (.inl (vp_updL (fun j => Int64.ofInt (σ c0 j)) x.toNat (Int64.ofInt z)))) : va_E) = mkE ad cA (up σ c0 x.toNat z c0) (.inr (1, n)) := by
    simp only [mkE]
    congr 4
    congr 1
    funext j
    simp only [upd, vp_updL, up]
    by_cases hj : j = x.toNat <;> simp [hj]
  rw [e, mkW_set hlay] at hP1 hD1
  exact k H1 locs1 LS hP1 hD1 hS1 hl
theorem mi_bastore {K : KT} {cc : ByteArray} {nL : Nat} {own : String} {lev pc : Nat} {ls : List (Option MV)} {st : List MV} {σ : Mem} {n c0 : Nat} {x z : Int} (h : MC K cc nL own lev) (hd : decode cc pc = .ok (.bastore, 1)) (hlay : lay[c0]? = some (.inr (2, n))) (hx : 0 ≤ x ∧ x < n) (hn : n < 2147483648) (hz : z = 0 ∨ z = 1) (k : M K (pc + 1) ls st (up σ c0 x.toNat z)) : M K pc ls (vi z :: vi x :: vr c0 :: st) σ := by
  obtain ⟨p, l, e, R, s, m, args, below, meth, c, D, ad, cA, Q, cells, slots⟩ := K
  intro H locs LS hP hD hS hl
  show W p l e R s m args below meth c H locs cells slots Q (F0 m pc LS (.int (Int32.ofInt z) :: .int (Int32.ofInt x) :: .ref (ad c0) :: st.map (cvv ad)))
  refine va_zast h.1 h.2.1 h.2.2.2.2.2.2.1 hP hD hS c0 2 (mkW_at hlay) rfl (i32_in hx.1 hx.2 hn) hd (fun H1 locs1 hP1 hD1 hS1 => ?_)
  rw [i32_nat ⟨by omega, by omega⟩] at hP1 hD1
  rw [show vp_nar .boolean (Int32.ofInt z) = Int32.ofInt z by rcases hz with rfl | rfl <;> rfl] at hP1 hD1
  have e : (.inl (cA 2, n, .inl (upd (fun j => Int32.ofInt (σ c0 j)) x.toNat (Int32.ofInt z))) : va_E) = mkE ad cA (up σ c0 x.toNat z c0) (.inr (2, n)) := by
    simp only [mkE]
    congr 4
    funext j
    simp only [upd, vp_updL, up]
    by_cases hj : j = x.toNat <;> simp [hj]
  rw [e, mkW_set hlay] at hP1 hD1
  exact k H1 locs1 LS hP1 hD1 hS1 hl
theorem mi_alen {K : KT} {cc : ByteArray} {nL : Nat} {own : String} {lev pc : Nat} {ls : List (Option MV)} {st : List MV} {σ : Mem} {n t c0 : Nat} (h : MC K cc nL own lev) (hd : decode cc pc = .ok (.arraylength, 1)) (hlay : lay[c0]? = some (.inr (t, n))) (ht : t < 3) (k : M K (pc + 1) ls (vi (n : Int) :: st) σ) : M K pc ls (vr c0 :: st) σ := by
  obtain ⟨p, l, e, R, s, m, args, below, meth, c, D, ad, cA, Q, cells, slots⟩ := K
  intro H locs LS hP hD hS hl
  have e9 : Int32.ofNat n = Int32.ofInt (n : Int) := Int32.ofInt_eq_ofNat.symm
  show W p l e R s m args below meth c H locs cells slots Q (F0 m pc LS (.ref (ad c0) :: st.map (cvv ad)))
  match t, ht, hlay with
  | 0, _, hlay => exact va_alen h.1 h.2.1 h.2.2.2.2.2.2.1 hP c0 0 (mkW_at hlay) (ty := .int) rfl e9 hd (k H locs LS hP hD hS hl)
  | 1, _, hlay => exact va_alen h.1 h.2.1 h.2.2.2.2.2.2.1 hP c0 1 (mkW_at hlay) (ty := .long) rfl e9 hd (k H locs LS hP hD hS hl)
  | 2, _, hlay => exact va_alen h.1 h.2.1 h.2.2.2.2.2.2.1 hP c0 2 (mkW_at hlay) (ty := .boolean) rfl e9 hd (k H locs LS hP hD hS hl)
theorem mi_ireturn {K : KT} {cc : ByteArray} {nL : Nat} {own : String} {lev pc : Nat} {ls : List (Option MV)} {σ : Mem} {po : Int → Mem → Prop} {x : Int} (h : MC K cc nL own lev) (hr : MR K 1 (some .int) po) (hd : decode cc pc = .ok (.ireturn, 1)) (hp : po x σ) : M K pc ls [vi x] σ := by
  obtain ⟨p, l, e, R, s, m, args, below, meth, c, D, ad, cA, Q, cells, slots⟩ := K
  intro H locs LS hP hD hS hl
  obtain ⟨hr1, hr2⟩ := hr
  subst hr2
  have hlocks : meth.locks = false := h.2.2.2.2.2.1
  exact W.iret (v := Int32.ofInt x) h.1 h.2.1 hr1 (fun t ht hW => ⟨x, σ, rfl, hp, by rw [ht]; exact hP, hS.F ht⟩) hS.2.2 hd hlocks
theorem mi_zreturn {K : KT} {cc : ByteArray} {nL : Nat} {own : String} {lev pc : Nat} {ls : List (Option MV)} {σ : Mem} {po : Int → Mem → Prop} {x : Int} (h : MC K cc nL own lev) (hr : MR K 1 (some .boolean) po) (hd : decode cc pc = .ok (.ireturn, 1)) (hz : x = 0 ∨ x = 1) (hp : po x σ) : M K pc ls [vi x] σ := by
  obtain ⟨p, l, e, R, s, m, args, below, meth, c, D, ad, cA, Q, cells, slots⟩ := K
  intro H locs LS hP hD hS hl
  obtain ⟨hr1, hr2⟩ := hr
  subst hr2
  have hlocks : meth.locks = false := h.2.2.2.2.2.1
  exact W.zret (v := Int32.ofInt x) h.1 h.2.1 hr1 (by rcases hz with rfl | rfl <;> rfl) (fun t ht hW => ⟨x, σ, rfl, hp, by rw [ht]; exact hP, hS.F ht⟩) hS.2.2 hd hlocks
theorem mi_lreturn {K : KT} {cc : ByteArray} {nL : Nat} {own : String} {lev pc : Nat} {ls : List (Option MV)} {σ : Mem} {po : Int → Mem → Prop} {x : Int} (h : MC K cc nL own lev) (hr : MR K 2 (some .long) po) (hd : decode cc pc = .ok (.lreturn, 1)) (hp : po x σ) : M K pc ls [vl x] σ := by
  obtain ⟨p, l, e, R, s, m, args, below, meth, c, D, ad, cA, Q, cells, slots⟩ := K
  intro H locs LS hP hD hS hl
  obtain ⟨hr1, hr2⟩ := hr
  subst hr2
  have hlocks : meth.locks = false := h.2.2.2.2.2.1
  exact W.lret (v := Int64.ofInt x) h.1 h.2.1 hr1 (fun t ht hW => ⟨x, σ, rfl, hp, by rw [ht]; exact hP, hS.F ht⟩) hS.2.2 hd hlocks
theorem mi_return {K : KT} {cc : ByteArray} {nL : Nat} {own : String} {lev pc : Nat} {ls : List (Option MV)} {σ : Mem} {po : Int → Mem → Prop} {x : Int} (h : MC K cc nL own lev) (hr : MR K 0 (none) po) (hd : decode cc pc = .ok (.return_, 1)) (hp : po x σ) : M K pc ls [] σ := by
  obtain ⟨p, l, e, R, s, m, args, below, meth, c, D, ad, cA, Q, cells, slots⟩ := K
  intro H locs LS hP hD hS hl
  obtain ⟨hr1, hr2⟩ := hr
  subst hr2
  have hlocks : meth.locks = false := h.2.2.2.2.2.1
  exact W.vret h.1 h.2.1 hr1 (fun t ht hW => ⟨x, σ, rfl, hp, by rw [ht]; exact hP, hS.F ht⟩) hS.2.2 hd hlocks
