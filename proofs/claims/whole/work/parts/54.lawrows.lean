/-! the law's own rows -/
abbrev lls (i : Nat) : List (Option MV) := [some (vr 58), some (vr 0), some (vr 28), some (vi (i : Int))]
def LC (K : KT) (b L : Nat) (xs : Nat → Int32) : Prop := MC K cL_law 4 RL 16 ∧ (match K with
  | (_, _, _, _, s, _, _, _, _, _, _, ad, _, _, _, _) => ad 58 = b ∧ va_X b L xs s s.heap ∧ b < s.heap.size ∧ ¬ A0 ad s.heap.size b) ∧ L ≤ 2560
abbrev xv (xs : Nat → Int32) (j : Nat) : Int := (xs j).toInt
theorem xv_r (xs : Nat → Int32) (j : Nat) : R32 (xv xs j) := i32_rng _
def nz (x : Int) : Int := if x = 0 then 0 else 1
theorem nz_01 (x : Int) : nz x = 0 ∨ nz x = 1 := by unfold nz; split <;> omega
section LWR
variable {K : KT} {b L : Nat} {xs : Nat → Int32} {pc : Nat} {ls : List (Option MV)} {st : List MV} {σ : Mem}
theorem lw_ld {j : Nat} (h : LC K b L xs) (hj : j < L) (hd : decode cL_law pc = .ok (.iaload, 1)) (k : M K (pc + 1) ls (vi (xv xs j) :: st) σ) : M K pc ls (vi (j : Int) :: vr 58 :: st) σ := by
  obtain ⟨p, l, e, R, s, m, args, below, meth, c, D, ad, cA, Q, cells, slots⟩ := K
  intro H locs LS hP hD hS hl
  obtain ⟨h1, ⟨e1, hX, hbl, hbA⟩, hL⟩ := h
  show W p l e R s m args below meth c H locs cells slots Q (F0 m pc LS (.int (Int32.ofInt (j : Int)) :: .ref (ad 58) :: st.map (cvv ad)))
  rw [e1]
  refine va_sld h1.1 h1.2.1 hX hbl hbA hS (i32_in (by omega) (by omega) (by omega)) hd ?_
  rw [i32_nat ⟨by omega, by omega⟩, Int.toNat_natCast]
  have e9 : Int32.ofInt (xs j).toInt = xs j := Int32.ofInt_toInt _
  have k9 := k H locs LS hP hD hS hl
  have k8 : W p l e R s m args below meth c H locs cells slots Q (F0 m (pc + 1) LS (.int (Int32.ofInt (xs j).toInt) :: st.map (cvv ad))) := k9
  rw [e9] at k8
  exact k8
theorem lw_len (h : LC K b L xs) (hd : decode cL_law pc = .ok (.arraylength, 1)) (k : M K (pc + 1) ls (vi (L : Int) :: st) σ) : M K pc ls (vr 58 :: st) σ := by
  obtain ⟨p, l, e, R, s, m, args, below, meth, c, D, ad, cA, Q, cells, slots⟩ := K
  intro H locs LS hP hD hS hl
  obtain ⟨h1, ⟨e1, hX, hbl, hbA⟩, hL⟩ := h
  show W p l e R s m args below meth c H locs cells slots Q (F0 m pc LS (.ref (ad 58) :: st.map (cvv ad)))
  rw [e1]
  refine va_slen h1.1 h1.2.1 hX hbl hbA hS hd ?_
  have e9 : Int32.ofNat L = Int32.ofInt (L : Int) := Int32.ofInt_eq_ofNat.symm
  rw [e9]
  exact k H locs LS hP hD hS hl
theorem lw_arg {i k : Nat} (h : LC K b L xs) (hi : i + k < L) (d0 : decode cL_law pc = .ok (.aload_n 0, 1)) (d1 : decode cL_law (pc + 1) = .ok (.iload_n 3, 1)) (d2 : decode cL_law (pc + 2) = .ok (.iconst (k : Int), 1)) (d3 : decode cL_law (pc + 3) = .ok (.iadd, 1)) (d4 : decode cL_law (pc + 4) = .ok (.iaload, 1)) (kk : M K (pc + 5) (lls i) (vi (xv xs (i + k)) :: st) σ) : M K pc (lls i) st σ := by
  refine mi_aload_n h.1 d0 rfl ?_
  refine mi_iload_n h.1 d1 rfl ?_
  refine mi_iconst h.1 d2 ?_
  refine mi_iadd h.1 d3 ?_
  have := lw_ld (j := i + k) h hi d4 kk
  rw [Int.natCast_add] at this
  exact this
theorem lw_bool {x : Int} {cc : ByteArray} {nL : Nat} {own : String} {lev : Nat} (h : MC K cc nL own lev) (hx : R32 x) (d0 : decode cc pc = .ok (.ifCond .eq 7, 3)) (d1 : decode cc (pc + 3) = .ok (.iconst 1, 1)) (d2 : decode cc (pc + 3 + 1) = .ok (.goto 4, 3)) (d3 : decode cc (pc + 7) = .ok (.iconst 0, 1)) (k : M K (pc + 8) ls (vi (nz x) :: st) σ) : M K pc ls (vi x :: st) σ := by
  refine mi_if_eq (tgt := pc + 7) h d0 (by omega) hx (fun q => ?_) (fun q => ?_)
  · refine mi_iconst h d3 ?_
    have e : nz x = 0 := if_pos q
    rw [e] at k
    exact k
  · refine mi_iconst h d1 ?_
    refine mi_goto (tgt := pc + 8) h d2 (by omega) ?_
    have e : nz x = 1 := if_neg q
    rw [e] at k
    exact k
theorem lw_eqi {cc : ByteArray} {nL : Nat} {own : String} {lev tgt : Nat} {off r : Int} (h : MC K cc nL own lev) (hd : decode cc pc = .ok (.if_icmp .eq off, 3)) (ht : (pc : Int) + off = (tgt : Int)) (k : M K tgt ls st σ) : M K pc ls (vi r :: vi r :: st) σ := by
  obtain ⟨p, l, e, R, s, m, args, below, meth, c, D, ad, cA, Q, cells, slots⟩ := K
  intro H locs LS hP hD hS hl
  show W p l e R s m args below meth c H locs cells slots Q (F0 m pc LS (.int (Int32.ofInt r) :: .int (Int32.ofInt r) :: st.map (cvv ad)))
  exact lv_icmp_eq h.1 h.2.1 hd ht (fun _ => k H locs LS hP hD hS hl) (fun q => absurd rfl q)
theorem lw_eql {cc : ByteArray} {nL : Nat} {own : String} {lev tgt : Nat} {off r : Int} (h : MC K cc nL own lev) (hd : decode cc pc = .ok (.lcmp, 1)) (hd2 : decode cc (pc + 1) = .ok (.ifCond .eq off, 3)) (ht : ((pc + 1 : Nat) : Int) + off = (tgt : Int)) (k : M K tgt ls st σ) : M K pc ls (vl r :: vl r :: st) σ := by
  obtain ⟨p, l, e, R, s, m, args, below, meth, c, D, ad, cA, Q, cells, slots⟩ := K
  intro H locs LS hP hD hS hl
  show W p l e R s m args below meth c H locs cells slots Q (F0 m pc LS (.long (Int64.ofInt r) :: .long (Int64.ofInt r) :: st.map (cvv ad)))
  refine W.lcmp h.1 h.2.1 hd ?_
  exact lv_if_eq h.1 h.2.1 hd2 ht (fun _ => k H locs LS hP hD hS hl) (fun q => absurd ((lg_cmp_eq _ _).mpr rfl) q)
end LWR
theorem and31 (a : Int32) : ∃ z : Int, (0 ≤ z ∧ z < 32) ∧ a &&& Int32.ofInt 31 = Int32.ofInt z := by
  refine ⟨(a &&& Int32.ofInt 31).toInt, ?_, (Int32.ofInt_toInt _).symm⟩
  have h : (a &&& Int32.ofInt 31).toBitVec.toNat < 32 := by
    rw [Int32.toBitVec_and, BitVec.toNat_and]
    exact Nat.lt_of_le_of_lt Nat.and_le_right (by decide)
  have e : (a &&& Int32.ofInt 31).toInt = ((a &&& Int32.ofInt 31).toBitVec.toNat : Int) := by
    show (a &&& Int32.ofInt 31).toBitVec.toInt = _
    rw [BitVec.toInt_eq_toNat_cond, if_pos (by omega)]
  omega
