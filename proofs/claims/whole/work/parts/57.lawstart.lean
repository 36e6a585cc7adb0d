/-! the law's start -/
def sg0 : Mem := fun c => if c = 1 then (fun k => if k = 0 then 1000 else 0) else if c = 4 then (fun k => if k = 0 then 2 else if k = 1 then 2 else 0) else if c = 28 then (fun k => if k = 0 then 1000 else if k = 29 then 2 else if k = 30 then 2 else 0) else fun _ => 0
def lat (l : List Nat) (b : Nat) (c : Nat) : Nat := (l ++ [b]).getD c 0
theorem RR_0 : RR sg0 := by
  have z : ∀ p, bv 0 p = 0 := bv_0
  have n01 : ¬ (0 : Int) = 1 := by decide
  refine ⟨⟨by unfold IS; decide, fun i hi => by show (0 ≤ (0 : Int) ∧ (0 : Int) ≤ 400) ∧ (0 ≤ (0 : Int) ∧ (0 : Int) ≤ 1000) ∧ (0 ≤ (0 : Int) ∧ (0 : Int) < 16777216); decide, fun p hp => by show (-1 ≤ (0 : Int) ∧ (0 : Int) ≤ 23) ∧ (0 ≤ (0 : Int) ∧ (0 : Int) ≤ 10) ∧ (0 ≤ (0 : Int) ∧ (0 : Int) ≤ 5) ∧ (0 ≤ (0 : Int) ∧ (0 : Int) ≤ 200) ∧ (0 ≤ (0 : Int) ∧ (0 : Int) ≤ 30000) ∧ (0 ≤ (0 : Int) ∧ (0 : Int) ≤ 100); decide, fun e he => by show (0 ≤ (0 : Int) ∧ (0 : Int) ≤ 8) ∧ (0 ≤ (0 : Int) ∧ (0 : Int) ≤ 4000); decide, fun p hp => absurd (show (p : Int) < 0 from hp) (by omega), ⟨fun p hp => absurd ((z p).symm.trans hp) n01, fun p hp => absurd ((z p).symm.trans hp) n01, fun p hp => absurd ((z p).symm.trans hp) n01, fun p hp => absurd ((z p).symm.trans hp) n01, by show sm (bv 0) 24 ≤ 5; rw [sm_0 (fun k _ => z k)]; decide, fun h p hh hp => absurd ((z p).symm.trans hp) n01, fun p hp hz => ⟨rfl, rfl, rfl⟩⟩, ⟨by show 2 ≤ (2 : Int) ∧ (2 : Int) ≤ 16; decide, by show 2 ≤ (2 : Int) ∧ (2 : Int) ≤ 16; decide, by show 0 ≤ (0 : Int) ∧ (0 : Int) < 16777216; decide, fun k hk => by show 0 ≤ (0 : Int) ∧ (0 : Int) ≤ 2; decide, fun p hp => by show (0 ≤ (0 : Int) ∧ (0 : Int) ≤ 15) ∧ (0 ≤ (0 : Int) ∧ (0 : Int) ≤ 15) ∧ (0 ≤ (0 : Int) ∧ (0 : Int) ≤ 12); decide, fun p hp => absurd ((z p).symm.trans hp) n01⟩⟩, ⟨rfl, rfl, rfl, rfl, rfl, rfl, rfl, rfl⟩, fun i hi => ⟨rfl, rfl⟩, fun p hp => ⟨rfl, rfl, rfl, rfl⟩, fun p hp => ⟨(z p).symm, (z p).symm, (z p).symm, (z p).symm⟩, fun p hp => ⟨rfl, rfl, rfl⟩, fun h p hh hp => (z p).symm, fun k hk => rfl, fun p hp => ⟨(z p).symm, rfl, rfl, rfl⟩⟩
def mkFs (ad : Nat → Nat) (f : Nat → Int) : Nat → List (Option Nat) → List Value
  | _, [] => []
  | k, o :: r => mkF ad f k o :: mkFs ad f (k + 1) r
theorem mkFs_eq (ad : Nat → Nat) (f : Nat → Int) : ∀ (fs : List (Option Nat)) (n : Nat), fs.mapIdx (fun k o => mkF ad f (n + k) o) = mkFs ad f n fs
  | [], _ => rfl
  | o :: r, n => by
    rw [List.mapIdx_cons, mkFs, ← mkFs_eq ad f r (n + 1)]
    refine congrArg (List.cons _) (congrArg (fun g => List.mapIdx g r) ?_)
    funext k o
    rw [show n + (k + 1) = n + 1 + k by omega]
theorem mkE_o {ad : Nat → Nat} {cA : Nat → ClassId} {f : Nat → Int} {ci : Nat} {fs : List (Option Nat)} : mkE ad cA f (.inl (ci, fs)) = .inr (ci, mkFs ad f 0 fs) := by
  rw [← mkFs_eq]
  simp only [mkE, Nat.zero_add]
set_option maxHeartbeats 8000000 in
set_option maxRecDepth 100000 in
theorem W_P {D : va_G} {cA : Nat → ClassId} {b q1 q2 q3 q4 q5 q6 q7 q8 q9 q10 q11 q12 q13 q14 q15 q16 q17 q18 q19 q20 q21 q22 q23 q24 q25 q26 q27 q28 q29 q30 q31 q32 q33 q34 q35 q36 q37 q38 q39 q40 q41 q42 q43 q44 q45 q46 q47 q48 q49 q50 q51 q52 q53 q54 q55 q56 q57 q58 : Nat} {H : Heap} (hP : va_P D classes [(q1, .inr (4, [.ref q2, .ref q13, .ref q17, .ref q24, .ref q16, .int (Int32.ofInt 0)])), (q2, .inr (1, [.int (Int32.ofInt 1000), .int (Int32.ofInt 0), .ref q3, .ref q4, .int (Int32.ofInt 0), .ref q5, .ref q6, .ref q7, .ref q8, .ref q9, .int (Int32.ofInt 0), .int (Int32.ofInt 0), .int (Int32.ofInt 0), .int (Int32.ofInt 0), .ref q10, .ref q11, .ref q12])), (q3, .inl (cA 0, 6, .inl (fun _ => Int32.ofInt 0))), (q4, .inl (cA 0, 6, .inl (fun _ => Int32.ofInt 0))), (q5, .inl (cA 0, 24, .inl (fun _ => Int32.ofInt 0))), (q6, .inl (cA 0, 24, .inl (fun _ => Int32.ofInt 0))), (q7, .inl (cA 0, 24, .inl (fun _ => Int32.ofInt 0))), (q8, .inl (cA 0, 25, .inl (fun _ => Int32.ofInt 0))), (q9, .inl (cA 0, 25, .inl (fun _ => Int32.ofInt 0))), (q10, .inl (cA 0, 24, .inl (fun _ => Int32.ofInt 0))), (q11, .inl (cA 0, 24, .inl (fun _ => Int32.ofInt 0))), (q12, .inl (cA 0, 24, .inl (fun _ => Int32.ofInt 0))), (q13, .inr (3, [.ref q2, .ref q14, .ref q15])), (q14, .inl (cA 1, 25, .inr (.inl (fun _ => Int64.ofInt 0)))), (q15, .inl (cA 1, 25, .inr (.inl (fun _ => Int64.ofInt 0)))), (q16, .inl (cA 0, 6, .inl (fun _ => Int32.ofInt 0))), (q17, .inr (0, [.ref q2, .ref q13, .ref q16, .int (Int32.ofInt 0), .int (Int32.ofInt 0), .ref q18, .ref q19, .ref q20, .int (Int32.ofInt 0), .ref q21, .ref q22, .ref q23, .int (Int32.ofInt 0)])), (q18, .inl (cA 0, 5, .inl (fun _ => Int32.ofInt 0))), (q19, .inl (cA 0, 5, .inl (fun _ => Int32.ofInt 0))), (q20, .inl (cA 0, 5, .inl (fun _ => Int32.ofInt 0))), (q21, .inl (cA 0, 6, .inl (fun _ => Int32.ofInt 0))), (q22, .inl (cA 0, 25, .inl (fun _ => Int32.ofInt 0))), (q23, .inl (cA 0, 25, .inl (fun _ => Int32.ofInt 0))), (q24, .inr (2, [.int (Int32.ofInt 2), .int (Int32.ofInt 2), .ref q25, .int (Int32.ofInt 0), .ref q26, .ref q27, .ref q28])), (q25, .inl (cA 0, 256, .inl (fun _ => Int32.ofInt 0))), (q26, .inl (cA 0, 24, .inl (fun _ => Int32.ofInt 0))), (q27, .inl (cA 0, 24, .inl (fun _ => Int32.ofInt 0))), (q28, .inl (cA 0, 24, .inl (fun _ => Int32.ofInt 0))), (q29, .inr (5, [.int (Int32.ofInt 1000), .int (Int32.ofInt 0), .ref q30, .ref q31, .int (Int32.ofInt 0), .ref q32, .ref q33, .ref q34, .ref q35, .ref q36, .ref q37, .int (Int32.ofInt 0), .ref q38, .ref q39, .ref q40, .ref q41, .ref q42, .ref q43, .ref q44, .ref q45, .ref q46, .ref q47, .ref q48, .ref q49, .ref q50, .int (Int32.ofInt 0), .ref q51, .ref q52, .ref q53, .int (Int32.ofInt 2), .int (Int32.ofInt 2), .ref q54, .ref q55, .ref q56, .ref q57, .ref q58])), (q30, .inl (cA 0, 6, .inl (fun _ => Int32.ofInt 0))), (q31, .inl (cA 0, 6, .inl (fun _ => Int32.ofInt 0))), (q32, .inl (cA 0, 24, .inl (fun _ => Int32.ofInt 0))), (q33, .inl (cA 0, 24, .inl (fun _ => Int32.ofInt 0))), (q34, .inl (cA 0, 24, .inl (fun _ => Int32.ofInt 0))), (q35, .inl (cA 0, 24, .inl (fun _ => Int32.ofInt 0))), (q36, .inl (cA 2, 24, .inl (fun _ => Int32.ofInt 0))), (q37, .inl (cA 2, 24, .inl (fun _ => Int32.ofInt 0))), (q38, .inl (cA 2, 24, .inl (fun _ => Int32.ofInt 0))), (q39, .inl (cA 0, 24, .inl (fun _ => Int32.ofInt 0))), (q40, .inl (cA 0, 24, .inl (fun _ => Int32.ofInt 0))), (q41, .inl (cA 2, 24, .inl (fun _ => Int32.ofInt 0))), (q42, .inl (cA 0, 24, .inl (fun _ => Int32.ofInt 0))), (q43, .inl (cA 2, 24, .inl (fun _ => Int32.ofInt 0))), (q44, .inl (cA 1, 25, .inr (.inl (fun _ => Int64.ofInt 0)))), (q45, .inl (cA 1, 25, .inr (.inl (fun _ => Int64.ofInt 0)))), (q46, .inl (cA 1, 25, .inr (.inl (fun _ => Int64.ofInt 0)))), (q47, .inl (cA 1, 25, .inr (.inl (fun _ => Int64.ofInt 0)))), (q48, .inl (cA 1, 25, .inr (.inl (fun _ => Int64.ofInt 0)))), (q49, .inl (cA 1, 25, .inr (.inl (fun _ => Int64.ofInt 0)))), (q50, .inl (cA 2, 144, .inl (fun _ => Int32.ofInt 0))), (q51, .inl (cA 0, 5, .inl (fun _ => Int32.ofInt 0))), (q52, .inl (cA 0, 5, .inl (fun _ => Int32.ofInt 0))), (q53, .inl (cA 0, 5, .inl (fun _ => Int32.ofInt 0))), (q54, .inl (cA 0, 256, .inl (fun _ => Int32.ofInt 0))), (q55, .inl (cA 2, 24, .inl (fun _ => Int32.ofInt 0))), (q56, .inl (cA 0, 24, .inl (fun _ => Int32.ofInt 0))), (q57, .inl (cA 0, 24, .inl (fun _ => Int32.ofInt 0))), (q58, .inl (cA 0, 24, .inl (fun _ => Int32.ofInt 0)))] H) : va_P D classes (mkW (lat [q1, q2, q13, q17, q24, q16, q3, q4, q5, q6, q7, q8, q9, q10, q11, q12, q14, q15, q18, q19, q20, q21, q22, q23, q25, q26, q27, q28, q29, q30, q31, q32, q33, q34, q35, q36, q37, q38, q39, q40, q41, q42, q43, q44, q45, q46, q47, q48, q49, q50, q51, q52, q53, q54, q55, q56, q57, q58] b) cA sg0) H := by
  intro k q hq
  obtain ⟨e, he, rfl⟩ := mkW_get hq
  have hk : k < 58 := by rw [← lay_len]; exact (List.getElem?_eq_some_iff.mp he).1
  rcases (show k = 0 ∨ k = 1 ∨ k = 2 ∨ k = 3 ∨ k = 4 ∨ k = 5 ∨ k = 6 ∨ k = 7 ∨ k = 8 ∨ k = 9 ∨ k = 10 ∨ k = 11 ∨ k = 12 ∨ k = 13 ∨ k = 14 ∨ k = 15 ∨ k = 16 ∨ k = 17 ∨ k = 18 ∨ k = 19 ∨ k = 20 ∨ k = 21 ∨ k = 22 ∨ k = 23 ∨ k = 24 ∨ k = 25 ∨ k = 26 ∨ k = 27 ∨ k = 28 ∨ k = 29 ∨ k = 30 ∨ k = 31 ∨ k = 32 ∨ k = 33 ∨ k = 34 ∨ k = 35 ∨ k = 36 ∨ k = 37 ∨ k = 38 ∨ k = 39 ∨ k = 40 ∨ k = 41 ∨ k = 42 ∨ k = 43 ∨ k = 44 ∨ k = 45 ∨ k = 46 ∨ k = 47 ∨ k = 48 ∨ k = 49 ∨ k = 50 ∨ k = 51 ∨ k = 52 ∨ k = 53 ∨ k = 54 ∨ k = 55 ∨ k = 56 ∨ k = 57 by omega) with rfl | rfl | rfl | rfl | rfl | rfl | rfl | rfl | rfl | rfl | rfl | rfl | rfl | rfl | rfl | rfl | rfl | rfl | rfl | rfl | rfl | rfl | rfl | rfl | rfl | rfl | rfl | rfl | rfl | rfl | rfl | rfl | rfl | rfl | rfl | rfl | rfl | rfl | rfl | rfl | rfl | rfl | rfl | rfl | rfl | rfl | rfl | rfl | rfl | rfl | rfl | rfl | rfl | rfl | rfl | rfl | rfl | rfl
  · obtain rfl : (.inl (4, [some 1, some 2, some 3, some 4, some 5, none]) : LK) = e := Option.some.inj he; rw [mkE_o]; exact hP 0 _ rfl
  · obtain rfl : (.inl (1, [none, none, some 6, some 7, none, some 8, some 9, some 10, some 11, some 12, none, none, none, none, some 13, some 14, some 15]) : LK) = e := Option.some.inj he; rw [mkE_o]; exact hP 1 _ rfl
  · obtain rfl : (.inl (3, [some 1, some 16, some 17]) : LK) = e := Option.some.inj he; rw [mkE_o]; exact hP 12 _ rfl
  · obtain rfl : (.inl (0, [some 1, some 2, some 5, none, none, some 18, some 19, some 20, none, some 21, some 22, some 23, none]) : LK) = e := Option.some.inj he; rw [mkE_o]; exact hP 16 _ rfl
  · obtain rfl : (.inl (2, [none, none, some 24, none, some 25, some 26, some 27]) : LK) = e := Option.some.inj he; rw [mkE_o]; exact hP 23 _ rfl
  · obtain rfl : (.inr (0, 6) : LK) = e := Option.some.inj he; exact hP 15 _ rfl
  · obtain rfl : (.inr (0, 6) : LK) = e := Option.some.inj he; exact hP 2 _ rfl
  · obtain rfl : (.inr (0, 6) : LK) = e := Option.some.inj he; exact hP 3 _ rfl
  · obtain rfl : (.inr (0, 24) : LK) = e := Option.some.inj he; exact hP 4 _ rfl
  · obtain rfl : (.inr (0, 24) : LK) = e := Option.some.inj he; exact hP 5 _ rfl
  · obtain rfl : (.inr (0, 24) : LK) = e := Option.some.inj he; exact hP 6 _ rfl
  · obtain rfl : (.inr (0, 25) : LK) = e := Option.some.inj he; exact hP 7 _ rfl
  · obtain rfl : (.inr (0, 25) : LK) = e := Option.some.inj he; exact hP 8 _ rfl
  · obtain rfl : (.inr (0, 24) : LK) = e := Option.some.inj he; exact hP 9 _ rfl
  · obtain rfl : (.inr (0, 24) : LK) = e := Option.some.inj he; exact hP 10 _ rfl
  · obtain rfl : (.inr (0, 24) : LK) = e := Option.some.inj he; exact hP 11 _ rfl
  · obtain rfl : (.inr (1, 25) : LK) = e := Option.some.inj he; exact hP 13 _ rfl
  · obtain rfl : (.inr (1, 25) : LK) = e := Option.some.inj he; exact hP 14 _ rfl
  · obtain rfl : (.inr (0, 5) : LK) = e := Option.some.inj he; exact hP 17 _ rfl
  · obtain rfl : (.inr (0, 5) : LK) = e := Option.some.inj he; exact hP 18 _ rfl
  · obtain rfl : (.inr (0, 5) : LK) = e := Option.some.inj he; exact hP 19 _ rfl
  · obtain rfl : (.inr (0, 6) : LK) = e := Option.some.inj he; exact hP 20 _ rfl
  · obtain rfl : (.inr (0, 25) : LK) = e := Option.some.inj he; exact hP 21 _ rfl
  · obtain rfl : (.inr (0, 25) : LK) = e := Option.some.inj he; exact hP 22 _ rfl
  · obtain rfl : (.inr (0, 256) : LK) = e := Option.some.inj he; exact hP 24 _ rfl
  · obtain rfl : (.inr (0, 24) : LK) = e := Option.some.inj he; exact hP 25 _ rfl
  · obtain rfl : (.inr (0, 24) : LK) = e := Option.some.inj he; exact hP 26 _ rfl
  · obtain rfl : (.inr (0, 24) : LK) = e := Option.some.inj he; exact hP 27 _ rfl
  · obtain rfl : (.inl (5, [none, none, some 29, some 30, none, some 31, some 32, some 33, some 34, some 35, some 36, none, some 37, some 38, some 39, some 40, some 41, some 42, some 43, some 44, some 45, some 46, some 47, some 48, some 49, none, some 50, some 51, some 52, none, none, some 53, some 54, some 55, some 56, some 57]) : LK) = e := Option.some.inj he; rw [mkE_o]; exact hP 28 _ rfl
  · obtain rfl : (.inr (0, 6) : LK) = e := Option.some.inj he; exact hP 29 _ rfl
  · obtain rfl : (.inr (0, 6) : LK) = e := Option.some.inj he; exact hP 30 _ rfl
  · obtain rfl : (.inr (0, 24) : LK) = e := Option.some.inj he; exact hP 31 _ rfl
  · obtain rfl : (.inr (0, 24) : LK) = e := Option.some.inj he; exact hP 32 _ rfl
  · obtain rfl : (.inr (0, 24) : LK) = e := Option.some.inj he; exact hP 33 _ rfl
  · obtain rfl : (.inr (0, 24) : LK) = e := Option.some.inj he; exact hP 34 _ rfl
  · obtain rfl : (.inr (2, 24) : LK) = e := Option.some.inj he; exact hP 35 _ rfl
  · obtain rfl : (.inr (2, 24) : LK) = e := Option.some.inj he; exact hP 36 _ rfl
  · obtain rfl : (.inr (2, 24) : LK) = e := Option.some.inj he; exact hP 37 _ rfl
  · obtain rfl : (.inr (0, 24) : LK) = e := Option.some.inj he; exact hP 38 _ rfl
  · obtain rfl : (.inr (0, 24) : LK) = e := Option.some.inj he; exact hP 39 _ rfl
  · obtain rfl : (.inr (2, 24) : LK) = e := Option.some.inj he; exact hP 40 _ rfl
  · obtain rfl : (.inr (0, 24) : LK) = e := Option.some.inj he; exact hP 41 _ rfl
  · obtain rfl : (.inr (2, 24) : LK) = e := Option.some.inj he; exact hP 42 _ rfl
  · obtain rfl : (.inr (1, 25) : LK) = e := Option.some.inj he; exact hP 43 _ rfl
  · obtain rfl : (.inr (1, 25) : LK) = e := Option.some.inj he; exact hP 44 _ rfl
  · obtain rfl : (.inr (1, 25) : LK) = e := Option.some.inj he; exact hP 45 _ rfl
  · obtain rfl : (.inr (1, 25) : LK) = e := Option.some.inj he; exact hP 46 _ rfl
  · obtain rfl : (.inr (1, 25) : LK) = e := Option.some.inj he; exact hP 47 _ rfl
  · obtain rfl : (.inr (1, 25) : LK) = e := Option.some.inj he; exact hP 48 _ rfl
  · obtain rfl : (.inr (2, 144) : LK) = e := Option.some.inj he; exact hP 49 _ rfl
  · obtain rfl : (.inr (0, 5) : LK) = e := Option.some.inj he; exact hP 50 _ rfl
  · obtain rfl : (.inr (0, 5) : LK) = e := Option.some.inj he; exact hP 51 _ rfl
  · obtain rfl : (.inr (0, 5) : LK) = e := Option.some.inj he; exact hP 52 _ rfl
  · obtain rfl : (.inr (0, 256) : LK) = e := Option.some.inj he; exact hP 53 _ rfl
  · obtain rfl : (.inr (2, 24) : LK) = e := Option.some.inj he; exact hP 54 _ rfl
  · obtain rfl : (.inr (0, 24) : LK) = e := Option.some.inj he; exact hP 55 _ rfl
  · obtain rfl : (.inr (0, 24) : LK) = e := Option.some.inj he; exact hP 56 _ rfl
  · obtain rfl : (.inr (0, 24) : LK) = e := Option.some.inj he; exact hP 57 _ rfl
def prm : List Nat := [0, 1, 12, 16, 23, 15, 2, 3, 4, 5, 6, 7, 8, 9, 10, 11, 13, 14, 17, 18, 19, 20, 21, 22, 24, 25, 26, 27, 28, 29, 30, 31, 32, 33, 34, 35, 36, 37, 38, 39, 40, 41, 42, 43, 44, 45, 46, 47, 48, 49, 50, 51, 52, 53, 54, 55, 56, 57]
set_option maxHeartbeats 8000000 in
set_option maxRecDepth 100000 in
theorem W_D {A : Nat → Prop} {cA : Nat → ClassId} {b q1 q2 q3 q4 q5 q6 q7 q8 q9 q10 q11 q12 q13 q14 q15 q16 q17 q18 q19 q20 q21 q22 q23 q24 q25 q26 q27 q28 q29 q30 q31 q32 q33 q34 q35 q36 q37 q38 q39 q40 q41 q42 q43 q44 q45 q46 q47 q48 q49 q50 q51 q52 q53 q54 q55 q56 q57 q58 : Nat} (hD : va_D A [(q1, .inr (4, [.ref q2, .ref q13, .ref q17, .ref q24, .ref q16, .int (Int32.ofInt 0)])), (q2, .inr (1, [.int (Int32.ofInt 1000), .int (Int32.ofInt 0), .ref q3, .ref q4, .int (Int32.ofInt 0), .ref q5, .ref q6, .ref q7, .ref q8, .ref q9, .int (Int32.ofInt 0), .int (Int32.ofInt 0), .int (Int32.ofInt 0), .int (Int32.ofInt 0), .ref q10, .ref q11, .ref q12])), (q3, .inl (cA 0, 6, .inl (fun _ => Int32.ofInt 0))), (q4, .inl (cA 0, 6, .inl (fun _ => Int32.ofInt 0))), (q5, .inl (cA 0, 24, .inl (fun _ => Int32.ofInt 0))), (q6, .inl (cA 0, 24, .inl (fun _ => Int32.ofInt 0))), (q7, .inl (cA 0, 24, .inl (fun _ => Int32.ofInt 0))), (q8, .inl (cA 0, 25, .inl (fun _ => Int32.ofInt 0))), (q9, .inl (cA 0, 25, .inl (fun _ => Int32.ofInt 0))), (q10, .inl (cA 0, 24, .inl (fun _ => Int32.ofInt 0))), (q11, .inl (cA 0, 24, .inl (fun _ => Int32.ofInt 0))), (q12, .inl (cA 0, 24, .inl (fun _ => Int32.ofInt 0))), (q13, .inr (3, [.ref q2, .ref q14, .ref q15])), (q14, .inl (cA 1, 25, .inr (.inl (fun _ => Int64.ofInt 0)))), (q15, .inl (cA 1, 25, .inr (.inl (fun _ => Int64.ofInt 0)))), (q16, .inl (cA 0, 6, .inl (fun _ => Int32.ofInt 0))), (q17, .inr (0, [.ref q2, .ref q13, .ref q16, .int (Int32.ofInt 0), .int (Int32.ofInt 0), .ref q18, .ref q19, .ref q20, .int (Int32.ofInt 0), .ref q21, .ref q22, .ref q23, .int (Int32.ofInt 0)])), (q18, .inl (cA 0, 5, .inl (fun _ => Int32.ofInt 0))), (q19, .inl (cA 0, 5, .inl (fun _ => Int32.ofInt 0))), (q20, .inl (cA 0, 5, .inl (fun _ => Int32.ofInt 0))), (q21, .inl (cA 0, 6, .inl (fun _ => Int32.ofInt 0))), (q22, .inl (cA 0, 25, .inl (fun _ => Int32.ofInt 0))), (q23, .inl (cA 0, 25, .inl (fun _ => Int32.ofInt 0))), (q24, .inr (2, [.int (Int32.ofInt 2), .int (Int32.ofInt 2), .ref q25, .int (Int32.ofInt 0), .ref q26, .ref q27, .ref q28])), (q25, .inl (cA 0, 256, .inl (fun _ => Int32.ofInt 0))), (q26, .inl (cA 0, 24, .inl (fun _ => Int32.ofInt 0))), (q27, .inl (cA 0, 24, .inl (fun _ => Int32.ofInt 0))), (q28, .inl (cA 0, 24, .inl (fun _ => Int32.ofInt 0))), (q29, .inr (5, [.int (Int32.ofInt 1000), .int (Int32.ofInt 0), .ref q30, .ref q31, .int (Int32.ofInt 0), .ref q32, .ref q33, .ref q34, .ref q35, .ref q36, .ref q37, .int (Int32.ofInt 0), .ref q38, .ref q39, .ref q40, .ref q41, .ref q42, .ref q43, .ref q44, .ref q45, .ref q46, .ref q47, .ref q48, .ref q49, .ref q50, .int (Int32.ofInt 0), .ref q51, .ref q52, .ref q53, .int (Int32.ofInt 2), .int (Int32.ofInt 2), .ref q54, .ref q55, .ref q56, .ref q57, .ref q58])), (q30, .inl (cA 0, 6, .inl (fun _ => Int32.ofInt 0))), (q31, .inl (cA 0, 6, .inl (fun _ => Int32.ofInt 0))), (q32, .inl (cA 0, 24, .inl (fun _ => Int32.ofInt 0))), (q33, .inl (cA 0, 24, .inl (fun _ => Int32.ofInt 0))), (q34, .inl (cA 0, 24, .inl (fun _ => Int32.ofInt 0))), (q35, .inl (cA 0, 24, .inl (fun _ => Int32.ofInt 0))), (q36, .inl (cA 2, 24, .inl (fun _ => Int32.ofInt 0))), (q37, .inl (cA 2, 24, .inl (fun _ => Int32.ofInt 0))), (q38, .inl (cA 2, 24, .inl (fun _ => Int32.ofInt 0))), (q39, .inl (cA 0, 24, .inl (fun _ => Int32.ofInt 0))), (q40, .inl (cA 0, 24, .inl (fun _ => Int32.ofInt 0))), (q41, .inl (cA 2, 24, .inl (fun _ => Int32.ofInt 0))), (q42, .inl (cA 0, 24, .inl (fun _ => Int32.ofInt 0))), (q43, .inl (cA 2, 24, .inl (fun _ => Int32.ofInt 0))), (q44, .inl (cA 1, 25, .inr (.inl (fun _ => Int64.ofInt 0)))), (q45, .inl (cA 1, 25, .inr (.inl (fun _ => Int64.ofInt 0)))), (q46, .inl (cA 1, 25, .inr (.inl (fun _ => Int64.ofInt 0)))), (q47, .inl (cA 1, 25, .inr (.inl (fun _ => Int64.ofInt 0)))), (q48, .inl (cA 1, 25, .inr (.inl (fun _ => Int64.ofInt 0)))), (q49, .inl (cA 1, 25, .inr (.inl (fun _ => Int64.ofInt 0)))), (q50, .inl (cA 2, 144, .inl (fun _ => Int32.ofInt 0))), (q51, .inl (cA 0, 5, .inl (fun _ => Int32.ofInt 0))), (q52, .inl (cA 0, 5, .inl (fun _ => Int32.ofInt 0))), (q53, .inl (cA 0, 5, .inl (fun _ => Int32.ofInt 0))), (q54, .inl (cA 0, 256, .inl (fun _ => Int32.ofInt 0))), (q55, .inl (cA 2, 24, .inl (fun _ => Int32.ofInt 0))), (q56, .inl (cA 0, 24, .inl (fun _ => Int32.ofInt 0))), (q57, .inl (cA 0, 24, .inl (fun _ => Int32.ofInt 0))), (q58, .inl (cA 0, 24, .inl (fun _ => Int32.ofInt 0)))]) : va_D A (mkW (lat [q1, q2, q13, q17, q24, q16, q3, q4, q5, q6, q7, q8, q9, q10, q11, q12, q14, q15, q18, q19, q20, q21, q22, q23, q25, q26, q27, q28, q29, q30, q31, q32, q33, q34, q35, q36, q37, q38, q39, q40, q41, q42, q43, q44, q45, q46, q47, q48, q49, q50, q51, q52, q53, q54, q55, q56, q57, q58] b) cA sg0) := by
  have key : ∀ (k : Nat), k < 58 → ∃ x, ([(q1, .inr (4, [.ref q2, .ref q13, .ref q17, .ref q24, .ref q16, .int (Int32.ofInt 0)])), (q2, .inr (1, [.int (Int32.ofInt 1000), .int (Int32.ofInt 0), .ref q3, .ref q4, .int (Int32.ofInt 0), .ref q5, .ref q6, .ref q7, .ref q8, .ref q9, .int (Int32.ofInt 0), .int (Int32.ofInt 0), .int (Int32.ofInt 0), .int (Int32.ofInt 0), .ref q10, .ref q11, .ref q12])), (q3, .inl (cA 0, 6, .inl (fun _ => Int32.ofInt 0))), (q4, .inl (cA 0, 6, .inl (fun _ => Int32.ofInt 0))), (q5, .inl (cA 0, 24, .inl (fun _ => Int32.ofInt 0))), (q6, .inl (cA 0, 24, .inl (fun _ => Int32.ofInt 0))), (q7, .inl (cA 0, 24, .inl (fun _ => Int32.ofInt 0))), (q8, .inl (cA 0, 25, .inl (fun _ => Int32.ofInt 0))), (q9, .inl (cA 0, 25, .inl (fun _ => Int32.ofInt 0))), (q10, .inl (cA 0, 24, .inl (fun _ => Int32.ofInt 0))), (q11, .inl (cA 0, 24, .inl (fun _ => Int32.ofInt 0))), (q12, .inl (cA 0, 24, .inl (fun _ => Int32.ofInt 0))), (q13, .inr (3, [.ref q2, .ref q14, .ref q15])), (q14, .inl (cA 1, 25, .inr (.inl (fun _ => Int64.ofInt 0)))), (q15, .inl (cA 1, 25, .inr (.inl (fun _ => Int64.ofInt 0)))), (q16, .inl (cA 0, 6, .inl (fun _ => Int32.ofInt 0))), (q17, .inr (0, [.ref q2, .ref q13, .ref q16, .int (Int32.ofInt 0), .int (Int32.ofInt 0), .ref q18, .ref q19, .ref q20, .int (Int32.ofInt 0), .ref q21, .ref q22, .ref q23, .int (Int32.ofInt 0)])), (q18, .inl (cA 0, 5, .inl (fun _ => Int32.ofInt 0))), (q19, .inl (cA 0, 5, .inl (fun _ => Int32.ofInt 0))), (q20, .inl (cA 0, 5, .inl (fun _ => Int32.ofInt 0))), (q21, .inl (cA 0, 6, .inl (fun _ => Int32.ofInt 0))), (q22, .inl (cA 0, 25, .inl (fun _ => Int32.ofInt 0))), (q23, .inl (cA 0, 25, .inl (fun _ => Int32.ofInt 0))), (q24, .inr (2, [.int (Int32.ofInt 2), .int (Int32.ofInt 2), .ref q25, .int (Int32.ofInt 0), .ref q26, .ref q27, .ref q28])), (q25, .inl (cA 0, 256, .inl (fun _ => Int32.ofInt 0))), (q26, .inl (cA 0, 24, .inl (fun _ => Int32.ofInt 0))), (q27, .inl (cA 0, 24, .inl (fun _ => Int32.ofInt 0))), (q28, .inl (cA 0, 24, .inl (fun _ => Int32.ofInt 0))), (q29, .inr (5, [.int (Int32.ofInt 1000), .int (Int32.ofInt 0), .ref q30, .ref q31, .int (Int32.ofInt 0), .ref q32, .ref q33, .ref q34, .ref q35, .ref q36, .ref q37, .int (Int32.ofInt 0), .ref q38, .ref q39, .ref q40, .ref q41, .ref q42, .ref q43, .ref q44, .ref q45, .ref q46, .ref q47, .ref q48, .ref q49, .ref q50, .int (Int32.ofInt 0), .ref q51, .ref q52, .ref q53, .int (Int32.ofInt 2), .int (Int32.ofInt 2), .ref q54, .ref q55, .ref q56, .ref q57, .ref q58])), (q30, .inl (cA 0, 6, .inl (fun _ => Int32.ofInt 0))), (q31, .inl (cA 0, 6, .inl (fun _ => Int32.ofInt 0))), (q32, .inl (cA 0, 24, .inl (fun _ => Int32.ofInt 0))), (q33, .inl (cA 0, 24, .inl (fun _ => Int32.ofInt 0))), (q34, .inl (cA 0, 24, .inl (fun _ => Int32.ofInt 0))), (q35, .inl (cA 0, 24, .inl (fun _ => Int32.ofInt 0))), (q36, .inl (cA 2, 24, .inl (fun _ => Int32.ofInt 0))), (q37, .inl (cA 2, 24, .inl (fun _ => Int32.ofInt 0))), (q38, .inl (cA 2, 24, .inl (fun _ => Int32.ofInt 0))), (q39, .inl (cA 0, 24, .inl (fun _ => Int32.ofInt 0))), (q40, .inl (cA 0, 24, .inl (fun _ => Int32.ofInt 0))), (q41, .inl (cA 2, 24, .inl (fun _ => Int32.ofInt 0))), (q42, .inl (cA 0, 24, .inl (fun _ => Int32.ofInt 0))), (q43, .inl (cA 2, 24, .inl (fun _ => Int32.ofInt 0))), (q44, .inl (cA 1, 25, .inr (.inl (fun _ => Int64.ofInt 0)))), (q45, .inl (cA 1, 25, .inr (.inl (fun _ => Int64.ofInt 0)))), (q46, .inl (cA 1, 25, .inr (.inl (fun _ => Int64.ofInt 0)))), (q47, .inl (cA 1, 25, .inr (.inl (fun _ => Int64.ofInt 0)))), (q48, .inl (cA 1, 25, .inr (.inl (fun _ => Int64.ofInt 0)))), (q49, .inl (cA 1, 25, .inr (.inl (fun _ => Int64.ofInt 0)))), (q50, .inl (cA 2, 144, .inl (fun _ => Int32.ofInt 0))), (q51, .inl (cA 0, 5, .inl (fun _ => Int32.ofInt 0))), (q52, .inl (cA 0, 5, .inl (fun _ => Int32.ofInt 0))), (q53, .inl (cA 0, 5, .inl (fun _ => Int32.ofInt 0))), (q54, .inl (cA 0, 256, .inl (fun _ => Int32.ofInt 0))), (q55, .inl (cA 2, 24, .inl (fun _ => Int32.ofInt 0))), (q56, .inl (cA 0, 24, .inl (fun _ => Int32.ofInt 0))), (q57, .inl (cA 0, 24, .inl (fun _ => Int32.ofInt 0))), (q58, .inl (cA 0, 24, .inl (fun _ => Int32.ofInt 0)))] : va_W)[prm.getD k 0]? = some x ∧ x.1 = lat [q1, q2, q13, q17, q24, q16, q3, q4, q5, q6, q7, q8, q9, q10, q11, q12, q14, q15, q18, q19, q20, q21, q22, q23, q25, q26, q27, q28, q29, q30, q31, q32, q33, q34, q35, q36, q37, q38, q39, q40, q41, q42, q43, q44, q45, q46, q47, q48, q49, q50, q51, q52, q53, q54, q55, q56, q57, q58] b k := fun k hk => by
    rcases (show k = 0 ∨ k = 1 ∨ k = 2 ∨ k = 3 ∨ k = 4 ∨ k = 5 ∨ k = 6 ∨ k = 7 ∨ k = 8 ∨ k = 9 ∨ k = 10 ∨ k = 11 ∨ k = 12 ∨ k = 13 ∨ k = 14 ∨ k = 15 ∨ k = 16 ∨ k = 17 ∨ k = 18 ∨ k = 19 ∨ k = 20 ∨ k = 21 ∨ k = 22 ∨ k = 23 ∨ k = 24 ∨ k = 25 ∨ k = 26 ∨ k = 27 ∨ k = 28 ∨ k = 29 ∨ k = 30 ∨ k = 31 ∨ k = 32 ∨ k = 33 ∨ k = 34 ∨ k = 35 ∨ k = 36 ∨ k = 37 ∨ k = 38 ∨ k = 39 ∨ k = 40 ∨ k = 41 ∨ k = 42 ∨ k = 43 ∨ k = 44 ∨ k = 45 ∨ k = 46 ∨ k = 47 ∨ k = 48 ∨ k = 49 ∨ k = 50 ∨ k = 51 ∨ k = 52 ∨ k = 53 ∨ k = 54 ∨ k = 55 ∨ k = 56 ∨ k = 57 by omega) with rfl | rfl | rfl | rfl | rfl | rfl | rfl | rfl | rfl | rfl | rfl | rfl | rfl | rfl | rfl | rfl | rfl | rfl | rfl | rfl | rfl | rfl | rfl | rfl | rfl | rfl | rfl | rfl | rfl | rfl | rfl | rfl | rfl | rfl | rfl | rfl | rfl | rfl | rfl | rfl | rfl | rfl | rfl | rfl | rfl | rfl | rfl | rfl | rfl | rfl | rfl | rfl | rfl | rfl | rfl | rfl | rfl | rfl
    · exact ⟨_, rfl, rfl⟩
    · exact ⟨_, rfl, rfl⟩
    · exact ⟨_, rfl, rfl⟩
    · exact ⟨_, rfl, rfl⟩
    · exact ⟨_, rfl, rfl⟩
    · exact ⟨_, rfl, rfl⟩
    · exact ⟨_, rfl, rfl⟩
    · exact ⟨_, rfl, rfl⟩
    · exact ⟨_, rfl, rfl⟩
    · exact ⟨_, rfl, rfl⟩
    · exact ⟨_, rfl, rfl⟩
    · exact ⟨_, rfl, rfl⟩
    · exact ⟨_, rfl, rfl⟩
    · exact ⟨_, rfl, rfl⟩
    · exact ⟨_, rfl, rfl⟩
    · exact ⟨_, rfl, rfl⟩
    · exact ⟨_, rfl, rfl⟩
    · exact ⟨_, rfl, rfl⟩
    · exact ⟨_, rfl, rfl⟩
    · exact ⟨_, rfl, rfl⟩
    · exact ⟨_, rfl, rfl⟩
    · exact ⟨_, rfl, rfl⟩
    · exact ⟨_, rfl, rfl⟩
    · exact ⟨_, rfl, rfl⟩
    · exact ⟨_, rfl, rfl⟩
    · exact ⟨_, rfl, rfl⟩
    · exact ⟨_, rfl, rfl⟩
    · exact ⟨_, rfl, rfl⟩
    · exact ⟨_, rfl, rfl⟩
    · exact ⟨_, rfl, rfl⟩
    · exact ⟨_, rfl, rfl⟩
    · exact ⟨_, rfl, rfl⟩
    · exact ⟨_, rfl, rfl⟩
    · exact ⟨_, rfl, rfl⟩
    · exact ⟨_, rfl, rfl⟩
    · exact ⟨_, rfl, rfl⟩
    · exact ⟨_, rfl, rfl⟩
    · exact ⟨_, rfl, rfl⟩
    · exact ⟨_, rfl, rfl⟩
    · exact ⟨_, rfl, rfl⟩
    · exact ⟨_, rfl, rfl⟩
    · exact ⟨_, rfl, rfl⟩
    · exact ⟨_, rfl, rfl⟩
    · exact ⟨_, rfl, rfl⟩
    · exact ⟨_, rfl, rfl⟩
    · exact ⟨_, rfl, rfl⟩
    · exact ⟨_, rfl, rfl⟩
    · exact ⟨_, rfl, rfl⟩
    · exact ⟨_, rfl, rfl⟩
    · exact ⟨_, rfl, rfl⟩
    · exact ⟨_, rfl, rfl⟩
    · exact ⟨_, rfl, rfl⟩
    · exact ⟨_, rfl, rfl⟩
    · exact ⟨_, rfl, rfl⟩
    · exact ⟨_, rfl, rfl⟩
    · exact ⟨_, rfl, rfl⟩
    · exact ⟨_, rfl, rfl⟩
    · exact ⟨_, rfl, rfl⟩
  have nd : ∀ i, i < 58 → ∀ j, j < 58 → prm.getD i 0 = prm.getD j 0 → i = j := by decide
  refine ⟨fun i j p q hp hq hpq => ?_, fun k q hq => ?_⟩
  · obtain ⟨e1, he1, rfl⟩ := mkW_get hp
    obtain ⟨e2, he2, rfl⟩ := mkW_get hq
    have hi : i < 58 := by rw [← lay_len]; exact (List.getElem?_eq_some_iff.mp he1).1
    have hj : j < 58 := by rw [← lay_len]; exact (List.getElem?_eq_some_iff.mp he2).1
    obtain ⟨x, hx, ex⟩ := key i hi
    obtain ⟨y, hy, ey⟩ := key j hj
    exact nd i hi j hj (hD.1 _ _ x y hx hy (by rw [ex, ey]; exact hpq))
  · obtain ⟨e1, he1, rfl⟩ := mkW_get hq
    have hi : k < 58 := by rw [← lay_len]; exact (List.getElem?_eq_some_iff.mp he1).1
    obtain ⟨x, hx, ex⟩ := key k hi
    have := hD.2 _ x hx
    rw [ex] at this
    exact this
