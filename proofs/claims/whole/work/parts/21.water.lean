/-! water: the words, in whole numbers -/
theorem upC_app (σ : Mem) (c : Nat) (f : Nat → Int) (c' k : Nat) : upC σ c f c' k = if c' = c then f k else σ c' k := by
  unfold upC
  split <;> rfl
def cnd (s r g : Int) : Int := if s = 0 then g * 33554432 / rtu (1125899906842624 + r * g * g) else qu (g * 33554432) (rt (1125899906842624 + r * g * g))
def fln (s r g b : Int) : Int := if s = 0 then b * 1073741824 / (1073741824 + qu (r * g * g) 1048576) else qu (b * 1073741824) (1073741824 + r * g * g / 1048576)
def ad (E : Nat → Int) (k : Nat) (v : Int) : Nat → Int := fun j => if j = k then E j + v else E j
def st (E : Nat → Int) (k : Nat) (v : Int) : Nat → Int := fun j => if j = k then v else E j
theorem ad_0 (E : Nat → Int) (k : Nat) : ad E k 0 = E := by
  funext j
  unfold ad
  split <;> omega
theorem ad_at (E : Nat → Int) (k : Nat) (v : Int) (j : Nat) : ad E k v j = if j = k then E j + v else E j := rfl
theorem ad_nn {E : Nat → Int} {k : Nat} {v : Int} (j : Nat) (h : 0 ≤ E j) (hv : 0 ≤ v) : 0 ≤ ad E k v j := by
  unfold ad
  split <;> omega
theorem up_ad (σ : Mem) (c : Nat) (E : Nat → Int) (k : Nat) (x : Int) : up (upC σ c E) c k (E k + x) = upC σ c (ad E k x) := by
  funext c' j
  by_cases hc : c' = c
  · subst hc
    simp only [up_app, upC_app, if_true, ad]
    by_cases hj : j = k
    · subst hj; simp
    · simp [hj]
  · simp only [up_app, upC_app, if_neg hc]
theorem up_st (σ : Mem) (c : Nat) (E : Nat → Int) (k : Nat) (x : Int) : up (upC σ c E) c k x = upC σ c (st E k x) := by
  funext c' j
  by_cases hc : c' = c
  · subst hc
    simp only [up_app, upC_app, if_true, st]
  · simp only [up_app, upC_app, if_neg hc]
theorem sm_ad (E : Nat → Int) (k : Nat) (v : Int) : ∀ n, sm (ad E k v) n = sm E n + if k < n then v else 0
  | 0 => by simp [sm]
  | n + 1 => by
    rw [sm, sm, sm_ad E k v n]
    unfold ad
    by_cases h1 : n = k
    · subst h1; simp; omega
    · by_cases h2 : k < n
      · rw [if_neg h1, if_pos h2, if_pos (by omega)]; omega
      · rw [if_neg h1, if_neg h2, if_neg (by omega)]; omega
theorem sm_nn {E : Nat → Int} : ∀ {n : Nat}, (∀ k, k < n → 0 ≤ E k) → 0 ≤ sm E n
  | 0, _ => by simp [sm]
  | n + 1, h => by
    have h1 := sm_nn (E := E) (n := n) (fun k hk => h k (by omega))
    have h2 := h n (by omega)
    rw [sm]; omega
/-- r g g, and what stands on it -/
theorem rgg {r g : Int} (hr : 0 ≤ r ∧ r ≤ 4000) (hg : 0 ≤ g ∧ g ≤ 4915200) : 0 ≤ r * g ∧ r * g ≤ 19660800000 ∧ 0 ≤ r * g * g ∧ r * g * g ≤ 96636764160000000 := by
  have h1 : 0 ≤ r * g := Int.mul_nonneg hr.1 hg.1
  have h2 : r * g ≤ 4000 * 4915200 := Int.mul_le_mul hr.2 hg.2 hg.1 (by omega)
  have h3 : 0 ≤ r * g * g := Int.mul_nonneg h1 hg.1
  have h4 : r * g * g ≤ 19660800000 * 4915200 := Int.mul_le_mul (by omega) hg.2 hg.1 (by omega)
  omega
theorem rt_25 {D : Int} (h : 1125899906842624 ≤ D) : 33554432 ≤ rt D := by
  have h1 := rt_lt (n := D) (by omega)
  have h2 := rt_nn D
  rcases Int.lt_or_le (rt D) 33554432 with q | q
  · have := sq_le (a := rt D + 1) (b := 33554432) (by omega) (by omega)
    omega
  · exact q
theorem rtu_ge (D : Int) : rt D ≤ rtu D ∧ rtu D ≤ rt D + 1 := by
  unfold rtu
  split <;> omega
theorem dv_le {a b g : Int} (hg : 0 ≤ g) (hb : 33554432 ≤ b) (ha : a = g * 33554432) : 0 ≤ a / b ∧ a / b ≤ g := by
  have h1 : g * 33554432 ≤ g * b := Int.mul_le_mul_of_nonneg_left hb hg
  refine ⟨Int.ediv_nonneg (by omega) (by omega), ?_⟩
  have := Int.ediv_lt_of_lt_mul (a := a) (b := g + 1) (c := b) (by omega) (by rw [Int.add_mul]; omega)
  omega
theorem qu_le {a b g : Int} (hg : 0 ≤ g) (hb : 33554432 ≤ b) (ha : a = g * 33554432) : 0 ≤ qu a b ∧ qu a b ≤ g := by
  have h1 : g * 33554432 ≤ g * b := Int.mul_le_mul_of_nonneg_left hb hg
  unfold qu
  refine ⟨Int.ediv_nonneg (by omega) (by omega), ?_⟩
  have := Int.ediv_lt_of_lt_mul (a := a + b - 1) (b := g + 1) (c := b) (by omega) (by rw [Int.add_mul]; omega)
  omega
theorem cnd_rng {s r g : Int} (hr : 0 ≤ r ∧ r ≤ 4000) (hg : 0 ≤ g ∧ g ≤ 4915200) : 0 ≤ cnd s r g ∧ cnd s r g ≤ g := by
  have h := rgg hr hg
  have h1 := rt_25 (D := 1125899906842624 + r * g * g) (by omega)
  have h2 := rtu_ge (1125899906842624 + r * g * g)
  unfold cnd
  split
  · exact dv_le hg.1 (by omega) rfl
  · exact qu_le hg.1 h1 rfl
theorem cnd_0 {s r : Int} (hr : 0 ≤ r ∧ r ≤ 4000) : cnd s r 0 = 0 := by
  have := cnd_rng (s := s) hr (g := 0) (by omega)
  omega
theorem fln_rng {s r g b : Int} (hr : 0 ≤ r ∧ r ≤ 4000) (hg : 0 ≤ g ∧ g ≤ 4915200) (hb : 0 ≤ b) : 0 ≤ fln s r g b ∧ fln s r g b ≤ b := by
  have h := rgg hr hg
  have h1 := qu_nn (a := r * g * g) (b := 1048576) (by omega) (by omega)
  have h2 : 0 ≤ r * g * g / 1048576 := by omega
  unfold fln
  split
  · refine ⟨Int.ediv_nonneg (by omega) (by omega), ?_⟩
    have h3 : b * 1073741824 ≤ b * (1073741824 + qu (r * g * g) 1048576) := Int.mul_le_mul_of_nonneg_left (by omega) hb
    have := Int.ediv_lt_of_lt_mul (a := b * 1073741824) (b := b + 1) (c := 1073741824 + qu (r * g * g) 1048576) (by omega) (by rw [Int.add_mul]; omega)
    omega
  · have h3 : b * 1073741824 ≤ b * (1073741824 + r * g * g / 1048576) := Int.mul_le_mul_of_nonneg_left (by omega) hb
    unfold qu
    refine ⟨Int.ediv_nonneg (by omega) (by omega), ?_⟩
    have := Int.ediv_lt_of_lt_mul (a := b * 1073741824 + (1073741824 + r * g * g / 1048576) - 1) (b := b + 1) (c := 1073741824 + r * g * g / 1048576) (by omega) (by rw [Int.add_mul]; omega)
    omega
/-! G: one pipe, all pipes; ends: 0 behind the supply, p + 1 behind the pipe p -/
def gst (s : Int) (fr hd dr cl : Nat → Int) (p : Nat) (E : Nat → Int) : Nat → Int := ad (ad E (p + 1) (hd p)) (fr p + 1).toNat (if cl p = 1 then 0 else cnd s (dr (p + 1)) (E (p + 1) + hd p))
def gath (s : Int) (fr hd dr cl : Nat → Int) : Nat → (Nat → Int) → (Nat → Int)
  | 0, E => E
  | p + 1, E => gath s fr hd dr cl p (gst s fr hd dr cl p E)
/-- what is asked of a net of n pipes -/
def NetOk (n : Nat) (fr hd dr : Nat → Int) : Prop := n ≤ 24 ∧ (∀ p, p < n → -1 ≤ fr p ∧ fr p < p) ∧ (∀ p, p < n → 0 ≤ hd p ∧ hd p ≤ 204800) ∧ (∀ e, e < 25 → 0 ≤ dr e ∧ dr e ≤ 4000)
/-- ahead of the pipes below p: the ends up to p hold no less than 0, and together no more than B -/
def EOk (p : Nat) (E : Nat → Int) (B : Int) : Prop := (∀ e, e ≤ p → 0 ≤ E e) ∧ sm E (p + 1) ≤ B
theorem EOk_at {p : Nat} {E : Nat → Int} {B : Int} (h : EOk p E B) : 0 ≤ E p ∧ E p ≤ B := by
  have h1 := h.1 p (by omega)
  have h2 := sm_nn (E := E) (n := p) (fun k hk => h.1 k (by omega))
  have h3 := h.2
  rw [sm] at h3
  omega
theorem gst_ok {n : Nat} {s : Int} {fr hd dr cl : Nat → Int} (hN : NetOk n fr hd dr) {p : Nat} (hp : p < n) {E : Nat → Int} {B : Int} (hE : EOk (p + 1) E B) (hB : B + 204800 ≤ 4915200) : EOk p (gst s fr hd dr cl p E) (B + 204800) := by
  obtain ⟨h0, h1, h2, h3⟩ := hN
  have a := EOk_at hE
  have b := h2 p hp
  have c := h1 p hp
  have d := h3 (p + 1) (by omega)
  have e := cnd_rng (s := s) d (g := E (p + 1) + hd p) (by omega)
  have f : 0 ≤ (if cl p = 1 then 0 else cnd s (dr (p + 1)) (E (p + 1) + hd p)) ∧ (if cl p = 1 then 0 else cnd s (dr (p + 1)) (E (p + 1) + hd p)) ≤ E (p + 1) + hd p := by split <;> omega
  refine ⟨fun k hk => ad_nn _ (ad_nn _ (hE.1 k (by omega)) b.1) f.1, ?_⟩
  unfold gst
  rw [sm_ad, sm_ad, if_pos (show (fr p + 1).toNat < p + 1 by omega), if_neg (show ¬ p + 1 < p + 1 by omega)]
  have g := hE.2
  rw [sm] at g
  omega
/-- the end of every pipe below n, when it is used, and the supply's -/
theorem gath_lo {s : Int} {fr hd dr cl : Nat → Int} : ∀ (p : Nat) (E : Nat → Int) (e : Nat), (∀ q, q < p → fr q < q) → p < e → gath s fr hd dr cl p E e = E e
  | 0, E, e, _, _ => rfl
  | p + 1, E, e, h, he => by
    rw [gath, gath_lo p _ e (fun q hq => h q (by omega)) (by omega)]
    have := h p (by omega)
    unfold gst
    rw [ad_at, ad_at, if_neg (by omega), if_neg (by omega)]
theorem gath_rng {n : Nat} {s : Int} {fr hd dr cl : Nat → Int} (hN : NetOk n fr hd dr) : ∀ (p : Nat) (E : Nat → Int) (B : Int), p ≤ n → EOk p E B → B + p * 204800 ≤ 4915200 → ∀ e, e ≤ p → 0 ≤ gath s fr hd dr cl p E e ∧ gath s fr hd dr cl p E e ≤ 4915200
  | 0, E, B, _, hE, hB, e, he => by
    have h1 : e = 0 := by omega
    subst h1
    have := EOk_at hE
    rw [gath]
    omega
  | p + 1, E, B, hp, hE, hB, e, he => by
    have hE2 := gst_ok (s := s) (cl := cl) hN (p := p) (by omega) hE (by omega)
    rw [gath]
    by_cases h1 : e = p + 1
    · subst h1
      rw [gath_lo p _ _ (fun q hq => (hN.2.1 q (by omega)).2) (by omega)]
      have a := EOk_at hE
      have b := hN.2.2.1 p (by omega)
      have c := hN.2.1 p (by omega)
      unfold gst
      rw [ad_at, ad_at, if_neg (by omega), if_pos rfl]
      omega
    · exact gath_rng hN p _ _ (by omega) hE2 (by omega) e (by omega)
theorem EOk_0 {n : Nat} {E : Nat → Int} (h : ∀ e, e ≤ n → E e = 0) : EOk n E 0 := ⟨fun e he => by rw [h e he]; exact Int.le_refl _, by rw [sm_0 (fun k hk => h k (by omega))]; exact Int.le_refl _⟩
theorem gath_cong {s : Int} {fr hd dr cl : Nat → Int} : ∀ (p m : Nat) (E F : Nat → Int), (∀ q, q < p → fr q < q) → p ≤ m → (∀ e, e ≤ m → E e = F e) → ∀ e, e ≤ m → gath s fr hd dr cl p E e = gath s fr hd dr cl p F e
  | 0, m, E, F, _, _, h, e, he => h e he
  | p + 1, m, E, F, hf, hp, h, e, he => by
    rw [gath, gath]
    refine gath_cong p m _ _ (fun q hq => hf q (by omega)) (by omega) (fun k hk => ?_) e he
    unfold gst
    rw [ad_at, ad_at, ad_at, ad_at, h k hk, h (p + 1) hp]
def Gv (s : Int) (n : Nat) (fr hd dr cl : Nat → Int) : Nat → Int := gath s fr hd dr cl n (fun _ => 0)
theorem Gv_rng {n : Nat} {s : Int} {fr hd dr cl : Nat → Int} (hN : NetOk n fr hd dr) {e : Nat} (he : e ≤ n) : 0 ≤ Gv s n fr hd dr cl e ∧ Gv s n fr hd dr cl e ≤ 4915200 :=
  gath_rng hN n _ 0 (Nat.le_refl _) (EOk_0 (fun _ _ => rfl)) (by have := hN.1; omega) e he
/-! P -/
def prs (s : Int) (fr dr cl G : Nat → Int) (P0 : Int) : Nat → (Nat → Int) → (Nat → Int)
  | 0, F => st F 0 (fln s (dr 0) (G 0) P0)
  | k + 1, F => st (prs s fr dr cl G P0 k F) (k + 1) (if cl k = 1 then 0 else fln s (dr (k + 1)) (G (k + 1)) (prs s fr dr cl G P0 k F (fr k + 1).toNat))
theorem st_at (E : Nat → Int) (k : Nat) (v : Int) (j : Nat) : st E k v j = if j = k then v else E j := rfl
theorem prs_rng {n : Nat} {s : Int} {fr dr cl G : Nat → Int} {P0 : Int} (hn : n ≤ 24) (hf : ∀ p, p < n → -1 ≤ fr p ∧ fr p < p) (hd : ∀ e, e < 25 → 0 ≤ dr e ∧ dr e ≤ 4000) (hG : ∀ e, e ≤ n → 0 ≤ G e ∧ G e ≤ 4915200) (hP : 0 ≤ P0) (F : Nat → Int) : ∀ k, k ≤ n → ∀ e, e ≤ k → 0 ≤ prs s fr dr cl G P0 k F e ∧ prs s fr dr cl G P0 k F e ≤ P0
  | 0, _, e, he => by
    have h1 : e = 0 := by omega
    subst h1
    rw [prs, st_at, if_pos rfl]
    exact fln_rng (hd 0 (by omega)) (hG 0 (by omega)) hP
  | k + 1, hk, e, he => by
    have ih := prs_rng (s := s) (cl := cl) hn hf hd hG hP F k (by omega)
    rw [prs, st_at]
    by_cases h1 : e = k + 1
    · rw [if_pos h1]
      have c := hf k (by omega)
      have d := ih (fr k + 1).toNat (by omega)
      have f := fln_rng (s := s) (hd (k + 1) (by omega)) (hG (k + 1) (by omega)) d.1
      split <;> omega
    · rw [if_neg h1]
      exact ih e (by omega)
theorem prs_cong {n : Nat} {s : Int} {fr dr cl G G' : Nat → Int} {P0 : Int} (hf : ∀ p, p < n → -1 ≤ fr p ∧ fr p < p) (hG : ∀ e, e ≤ n → G e = G' e) (F F' : Nat → Int) : ∀ k, k ≤ n → ∀ e, e ≤ k → prs s fr dr cl G P0 k F e = prs s fr dr cl G' P0 k F' e
  | 0, hk, e, he => by
    have h1 : e = 0 := by omega
    subst h1
    rw [prs, prs, st_at, st_at, if_pos rfl, if_pos rfl, hG 0 (by omega)]
  | k + 1, hk, e, he => by
    have ih := prs_cong (s := s) (dr := dr) (cl := cl) (P0 := P0) hf hG F F' k (by omega)
    rw [prs, prs, st_at, st_at]
    by_cases h1 : e = k + 1
    · rw [if_pos h1, if_pos h1, hG (k + 1) (by omega), ih (fr k + 1).toNat (by have := hf k (by omega); omega)]
    · rw [if_neg h1, if_neg h1]
      exact ih e (by omega)
def Pv (s : Int) (n : Nat) (fr hd dr cl : Nat → Int) (P0 : Int) : Nat → Int := prs s fr dr cl (Gv (1 - s) n fr hd dr cl) P0 n (fun _ => 0)
def fl (s k P : Int) : Int := k * (if s = 1 then rtu (P * 1024) else rt (P * 1024))
theorem fl_rng {s k P : Int} (hk : 0 ≤ k ∧ k ≤ 200) (hP : 0 ≤ P ∧ P ≤ 102400000) : 0 ≤ fl s k P ∧ fl s k P ≤ 64800000 := by
  have h0 : 0 ≤ P * 1024 := by omega
  have h1 := rt_nn (P * 1024)
  have h2 := rt_le h0
  have h3 := rtu_ge (P * 1024)
  have h4 : rt (P * 1024) ≤ 323999 := by
    rcases Int.lt_or_le 323999 (rt (P * 1024)) with q | q
    · have := sq_le (a := 324000) (b := rt (P * 1024)) (by omega) (by omega)
      omega
    · exact q
  unfold fl
  generalize hx : (if s = 1 then rtu (P * 1024) else rt (P * 1024)) = x
  have h5 : 0 ≤ x ∧ x ≤ 324000 := by split at hx <;> omega
  have h6 : 0 ≤ k * x := Int.mul_nonneg hk.1 h5.1
  have h7 : k * x ≤ 200 * 324000 := Int.mul_le_mul hk.2 h5.2 h5.1 (by omega)
  omega
/-! the least of some -/
def lsO (b sp : Nat → Int) : Nat → Option Int
  | 0 => none
  | k + 1 => if b k = 1 then some (match lsO b sp k with | none => sp k | some l => min l (sp k)) else lsO b sp k
def lsV (b sp : Nat → Int) (n : Nat) : Int := (lsO b sp n).getD 0
theorem lsO_cong {b b' sp sp' : Nat → Int} : ∀ {n : Nat}, (∀ k, k < n → b k = b' k) → (∀ k, k < n → b k = 1 → sp k = sp' k) → lsO b sp n = lsO b' sp' n
  | 0, _, _ => rfl
  | n + 1, h, h2 => by
    rw [lsO, lsO, lsO_cong (n := n) (fun k hk => h k (by omega)) (fun k hk => h2 k (by omega)), ← h n (by omega)]
    by_cases q : b n = 1
    · rw [if_pos q, if_pos q, h2 n (by omega) q]
    · rw [if_neg q, if_neg q]
theorem lsO_none {b sp : Nat → Int} : ∀ {n : Nat}, lsO b sp n = none ↔ ∀ k, k < n → ¬ b k = 1
  | 0 => ⟨fun _ k hk => by omega, fun _ => rfl⟩
  | n + 1 => by
    rw [lsO]
    by_cases q : b n = 1
    · rw [if_pos q]
      exact ⟨fun z => (by cases z), fun z => absurd q (z n (by omega))⟩
    · rw [if_neg q, lsO_none (n := n)]
      refine ⟨fun z k hk => ?_, fun z k hk => z k (by omega)⟩
      by_cases e : k = n
      · subst e; exact q
      · exact z k (by omega)
theorem lsO_lt {b sp : Nat → Int} {B : Int} : ∀ {n : Nat} {l : Int}, (∀ k, k < n → sp k < B) → lsO b sp n = some l → l < B
  | 0, l, _, h => by cases h
  | n + 1, l, hb, h => by
    rw [lsO] at h
    by_cases q : b n = 1
    · rw [if_pos q] at h
      have := hb n (by omega)
      cases h2 : lsO b sp n with
      | none => rw [h2] at h; cases h; exact this
      | some l9 =>
        rw [h2] at h
        have e : min l9 (sp n) = l := Option.some.inj h
        omega
    · rw [if_neg q] at h
      exact lsO_lt (n := n) (fun k hk => hb k (by omega)) h
