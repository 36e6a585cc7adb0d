/-! the law's loop -/
set_option maxHeartbeats 4000000 in
theorem law_loop {K : KT} {b L : Nat} {xs : Nat → Int32} (h : LC K b L xs) (hend : ∀ (i : Nat) (σ : Mem), M K 1135 (lls i) [] σ) : ∀ (n i : Nat) (σ : Mem), L ≤ i + n → i ≤ L → RR σ → M K 18 (lls i) [] σ := by
  have hL := h.2.2
  have step : ∀ (i : Nat) (σ : Mem), i ≤ L → RR σ → (i + 4 < L → ∀ σ2, RR σ2 → M K 18 (lls (i + 5)) [] σ2) → M K 18 (lls i) [] σ := by
    intro i σ hiL hR ih
    refine mi_iload_n h.1 dL_law_18 (by rfl) ?_
    refine mi_aload_n h.1 dL_law_19 (by rfl) ?_
    refine lw_len h dL_law_20 ?_
    refine mi_iconst h.1 dL_law_21 ?_
    refine mi_isub h.1 dL_law_22 ?_
    refine mi_icmp_gt (tgt := 1135) h.1 dL_law_23 (by decide) ⟨by omega, by omega⟩ ⟨by omega, by omega⟩ (fun _ => hend i σ) (fun q => ?_)
    have hi : i + 4 < L := by omega
    have kk : ∀ σ2, RR σ2 → M K 1129 (lls i) [] σ2 := fun σ2 hR2 => by
      refine mi_iinc h.1 dL_law_1129 (by rfl) ?_
      refine mi_goto (tgt := 18) h.1 dL_law_1132 (by decide) ?_
      exact ih hi σ2 hR2
    refine mi_aload_n h.1 dL_law_26 (by rfl) ?_
    refine mi_iload_n h.1 dL_law_27 (by rfl) ?_
    refine lw_ld h (by omega) dL_law_28 ?_
    refine mi_bipush h.1 dL_law_29 (by decide) ?_
    obtain ⟨z, hz, e⟩ := and31 (Int32.ofInt (xv xs i))
    refine mi_iand h.1 dL_law_31 e ?_
    rcases (show z = 0 ∨ z = 1 ∨ z = 2 ∨ z = 3 ∨ z = 4 ∨ z = 5 ∨ z = 6 ∨ z = 7 ∨ z = 8 ∨ z = 9 ∨ z = 10 ∨ z = 11 ∨ z = 12 ∨ z = 13 ∨ z = 14 ∨ z = 15 ∨ z = 16 ∨ z = 17 ∨ z = 18 ∨ z = 19 ∨ z = 20 ∨ z = 21 ∨ z = 22 ∨ z = 23 ∨ z = 24 ∨ z = 25 ∨ z = 26 ∨ z = 27 ∨ z = 28 ∨ z = 29 ∨ 30 ≤ z by omega) with rfl | rfl | rfl | rfl | rfl | rfl | rfl | rfl | rfl | rfl | rfl | rfl | rfl | rfl | rfl | rfl | rfl | rfl | rfl | rfl | rfl | rfl | rfl | rfl | rfl | rfl | rfl | rfl | rfl | rfl | e30
    · exact mi_tabIn (off := 136) (tgt := 168) h.1 dL_law_32 ⟨by decide, by decide⟩ (by decide) (by decide) (by rfl) (by decide) (L_supply h hR hi kk)
    · exact mi_tabIn (off := 169) (tgt := 201) h.1 dL_law_32 ⟨by decide, by decide⟩ (by decide) (by decide) (by rfl) (by decide) (L_size h hR hi kk)
    · exact mi_tabIn (off := 202) (tgt := 234) h.1 dL_law_32 ⟨by decide, by decide⟩ (by decide) (by decide) (by rfl) (by decide) (L_pipe h hR hi kk)
    · exact mi_tabIn (off := 245) (tgt := 277) h.1 dL_law_32 ⟨by decide, by decide⟩ (by decide) (by decide) (by rfl) (by decide) (L_head h hR hi kk)
    · exact mi_tabIn (off := 288) (tgt := 320) h.1 dL_law_32 ⟨by decide, by decide⟩ (by decide) (by decide) (by rfl) (by decide) (L_open h hR hi kk)
    · exact mi_tabIn (off := 337) (tgt := 369) h.1 dL_law_32 ⟨by decide, by decide⟩ (by decide) (by decide) (by rfl) (by decide) (L_shut h hR hi kk)
    · exact mi_tabIn (off := 386) (tgt := 418) h.1 dL_law_32 ⟨by decide, by decide⟩ (by decide) (by decide) (by rfl) (by decide) (L_clog h hR hi kk)
    · exact mi_tabIn (off := 419) (tgt := 451) h.1 dL_law_32 ⟨by decide, by decide⟩ (by decide) (by decide) (by rfl) (by decide) (L_resize h hR hi kk)
    · exact mi_tabIn (off := 452) (tgt := 484) h.1 dL_law_32 ⟨by decide, by decide⟩ (by decide) (by decide) (by rfl) (by decide) (L_conduct h hR hi kk)
    · exact mi_tabIn (off := 486) (tgt := 518) h.1 dL_law_32 ⟨by decide, by decide⟩ (by decide) (by decide) (by rfl) (by decide) (L_pressure h hR hi kk)
    · exact mi_tabIn (off := 520) (tgt := 552) h.1 dL_law_32 ⟨by decide, by decide⟩ (by decide) (by decide) (by rfl) (by decide) (L_flow h hR hi kk)
    · exact mi_tabIn (off := 554) (tgt := 586) h.1 dL_law_32 ⟨by decide, by decide⟩ (by decide) (by decide) (by rfl) (by decide) (L_total h hR hi kk)
    · exact mi_tabIn (off := 578) (tgt := 610) h.1 dL_law_32 ⟨by decide, by decide⟩ (by decide) (by decide) (by rfl) (by decide) (L_about h hR hi kk)
    · exact mi_tabIn (off := 611) (tgt := 643) h.1 dL_law_32 ⟨by decide, by decide⟩ (by decide) (by decide) (by rfl) (by decide) (L_worst h hR hi kk)
    · exact mi_tabIn (off := 624) (tgt := 656) h.1 dL_law_32 ⟨by decide, by decide⟩ (by decide) (by decide) (by rfl) (by decide) (L_heap h hR hi kk)
    · exact mi_tabIn (off := 637) (tgt := 669) h.1 dL_law_32 ⟨by decide, by decide⟩ (by decide) (by decide) (by rfl) (by decide) (L_put h hR hi kk)
    · exact mi_tabIn (off := 696) (tgt := 728) h.1 dL_law_32 ⟨by decide, by decide⟩ (by decide) (by decide) (by rfl) (by decide) (L_least h hR hi kk)
    · exact mi_tabIn (off := 720) (tgt := 752) h.1 dL_law_32 ⟨by decide, by decide⟩ (by decide) (by decide) (by rfl) (by decide) (L_thinnest h hR hi kk)
    · exact mi_tabIn (off := 733) (tgt := 765) h.1 dL_law_32 ⟨by decide, by decide⟩ (by decide) (by decide) (by rfl) (by decide) (L_free h hR hi kk)
    · exact mi_tabIn (off := 782) (tgt := 814) h.1 dL_law_32 ⟨by decide, by decide⟩ (by decide) (by decide) (by rfl) (by decide) (L_choose h hR hi kk)
    · exact mi_tabIn (off := 796) (tgt := 828) h.1 dL_law_32 ⟨by decide, by decide⟩ (by decide) (by decide) (by rfl) (by decide) (L_bill h hR hi kk)
    · exact mi_tabIn (off := 810) (tgt := 842) h.1 dL_law_32 ⟨by decide, by decide⟩ (by decide) (by decide) (by rfl) (by decide) (L_margin h hR hi kk)
    · exact mi_tabIn (off := 833) (tgt := 865) h.1 dL_law_32 ⟨by decide, by decide⟩ (by decide) (by decide) (by rfl) (by decide) (L_floor h hR hi kk)
    · exact mi_tabIn (off := 866) (tgt := 898) h.1 dL_law_32 ⟨by decide, by decide⟩ (by decide) (by decide) (by rfl) (by decide) (L_cell h hR hi kk)
    · exact mi_tabIn (off := 909) (tgt := 941) h.1 dL_law_32 ⟨by decide, by decide⟩ (by decide) (by decide) (by rfl) (by decide) (L_stand h hR hi kk)
    · exact mi_tabIn (off := 962) (tgt := 994) h.1 dL_law_32 ⟨by decide, by decide⟩ (by decide) (by decide) (by rfl) (by decide) (L_lift h hR hi kk)
    · exact mi_tabIn (off := 985) (tgt := 1017) h.1 dL_law_32 ⟨by decide, by decide⟩ (by decide) (by decide) (by rfl) (by decide) (L_wets h hR hi kk)
    · exact mi_tabIn (off := 1028) (tgt := 1060) h.1 dL_law_32 ⟨by decide, by decide⟩ (by decide) (by decide) (by rfl) (by decide) (L_dry h hR hi kk)
    · exact mi_tabIn (off := 1051) (tgt := 1083) h.1 dL_law_32 ⟨by decide, by decide⟩ (by decide) (by decide) (by rfl) (by decide) (L_near h hR hi kk)
    · exact mi_tabIn (off := 1074) (tgt := 1106) h.1 dL_law_32 ⟨by decide, by decide⟩ (by decide) (by decide) (by rfl) (by decide) (L_told h hR hi kk)
    · exact mi_tabOut (tgt := 1129) h.1 dL_law_32 ⟨by omega, by omega⟩ (Or.inr (by omega)) (by decide) (kk σ hR)
  intro n
  induction n with
  | zero => exact fun i σ h1 h2 hR => step i σ h2 hR (fun q => absurd q (by omega))
  | succ n ih => exact fun i σ h1 h2 hR => step i σ h2 hR (fun q σ2 hR2 => ih (i + 5) σ2 (by omega) (by omega) hR2)
