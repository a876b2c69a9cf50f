/-! the law's loop (own work; written by a program) -/
set_option maxRecDepth 100000 in
set_option maxHeartbeats 4000000 in
theorem law_loop {X : CX} {E : EnvD} {A : Nat → Prop} {Q : State → Prop} {b0 L z b : Nat} {xs : Nat → Int32} (h : OK X E cL_law RL 4 room_1) (hX : va_X b0 L xs (xS X) (xS X).heap) (hbl : b0 < (xS X).heap.size) (hbA : ¬ A b0) (hL : L ≤ 2560) (hfin : ∀ (k n : Nat) (vs : List (Option Value)) (σ : Sto), k ≤ 600000 → n ≤ 7302250 → G X E 4 A Q k n 1011 vs [.int (nI 1)] σ) :
    ∀ (m0 i k n : Nat) (S : PSt) (σ : Sto), Inv S → LI E z b S S σ → i ≤ L → k ≤ 1000 + i → n ≤ 10000 + i → L - i < m0 → G X E 4 A Q k n 18 [some (.ref b0), some (.ref z), some (.ref b), some (.int (nI i))] [] σ := by
  intro m0
  induction m0 with
  | zero => intro i k n S σ _ _ _ _ _ hm0; exact absurd hm0 (Nat.not_lt_zero _)
  | succ m0 ih =>
    intro i k n S σ hI hR hi hk hn hm0
    refine g_iload_n h 3 dL_law_18 rfl rfl ?_
    refine g_aload_n h 0 dL_law_19 rfl rfl ?_
    refine g_slen h hX hbl hbA dL_law_20 ?_
    refine g_iconst h (nI 5) dL_law_21 (by decide) ?_
    refine g_isub h dL_law_22 ?_
    refine g_icmp_gt h 1010 dL_law_23 (by decide) (fun c => ?_) (fun c => ?_)
    · refine g_iconst h (nI 1) dL_law_1010 (by decide) ?_
      exact hfin k n _ _ (by omega) (by omega)
    · have hi5 := law_more (by omega) hL c
      have kk : ∀ (S2 : PSt), Inv S2 → ∀ σ', LI E z b S2 S2 σ' → G X E 4 A Q (k + 1) (n + 4) 1004 [some (.ref b0), some (.ref z), some (.ref b), some (.int (nI i))] [] σ' := fun S2 hI2 σ' hR2 => by
        refine g_iinc (vs' := [_, _, _, _]) h (nI (i + 5)) dL_law_1004 rfl (nI_add i 5) (Nat.le_of_ble_eq_true rfl) rfl rfl ?_
        refine g_goto h 18 dL_law_1007 (by decide) ?_
        exact ih (i + 5) (k + 1) (n + 4) S2 σ' hI2 hR2 hi5 (by omega) (by omega) (by omega)
      refine g_aload_n h 0 dL_law_26 rfl rfl ?_
      refine g_iload_n h 3 dL_law_27 rfl rfl ?_
      refine g_scr h hX hbl hbA (by omega) (by omega) dL_law_28 ?_
      refine g_bipush h (nI 31) dL_law_29 (by decide) ?_
      refine g_iand h dL_law_31 ?_
      obtain ⟨j, hj, ej⟩ := and31 (xs i)
      refine g_top ej ?_
      by_cases hj2 : j ≤ 24
      · rcases (show j = 0 ∨ j = 1 ∨ j = 2 ∨ j = 3 ∨ j = 4 ∨ j = 5 ∨ j = 6 ∨ j = 7 ∨ j = 8 ∨ j = 9 ∨ j = 10 ∨ j = 11 ∨ j = 12 ∨ j = 13 ∨ j = 14 ∨ j = 15 ∨ j = 16 ∨ j = 17 ∨ j = 18 ∨ j = 19 ∨ j = 20 ∨ j = 21 ∨ j = 22 ∨ j = 23 ∨ j = 24 by omega) with rfl | rfl | rfl | rfl | rfl | rfl | rfl | rfl | rfl | rfl | rfl | rfl | rfl | rfl | rfl | rfl | rfl | rfl | rfl | rfl | rfl | rfl | rfl | rfl | rfl
        · refine g_tabIn h 148 dL_law_32 (by decide) (by decide) (off := 116) (by decide) (by decide) ?_
          exact law_put h hX hbl hbA hi5 hL (by omega) (by omega) hI hR (kk _ (inv_put hI (xs (i + 1)) (xs (i + 2)) (xs (i + 3))))
        · refine g_tabIn h 191 dL_law_32 (by decide) (by decide) (off := 159) (by decide) (by decide) ?_
          exact law_take h hX hbl hbA hi5 hL (by omega) (by omega) hI hR (kk _ (inv_take hI (xs (i + 1)) (xs (i + 2))))
        · refine g_tabIn h 224 dL_law_32 (by decide) (by decide) (off := 192) (by decide) (by decide) ?_
          exact law_copy h hX hbl hbA hi5 hL (by omega) (by omega) hI hR (kk _ (inv_copy hI (xs (i + 1)) (xs (i + 2))))
        · refine g_tabIn h 257 dL_law_32 (by decide) (by decide) (off := 225) (by decide) (by decide) ?_
          exact law_lineAt h hX hbl hbA hi5 hL (by omega) (by omega) hI hR (kk _ (hI))
        · refine g_tabIn h 290 dL_law_32 (by decide) (by decide) (off := 258) (by decide) (by decide) ?_
          exact law_differ h hX hbl hbA hi5 hL (by omega) (by omega) hI hR (kk _ (hI))
        · refine g_tabIn h 323 dL_law_32 (by decide) (by decide) (off := 291) (by decide) (by decide) ?_
          exact law_step h hX hbl hbA hi5 hL (by omega) (by omega) hI hR (kk _ (hI))
        · refine g_tabIn h 366 dL_law_32 (by decide) (by decide) (off := 334) (by decide) (by decide) ?_
          exact law_condition h hX hbl hbA hi5 hL (by omega) (by omega) hI hR (kk _ (inv_cond hI (xs (i + 1)) (xs (i + 2)) (xs (i + 3))))
        · refine g_tabIn h 409 dL_law_32 (by decide) (by decide) (off := 377) (by decide) (by decide) ?_
          exact law_clear h hX hbl hbA hi5 hL (by omega) (by omega) hI hR (kk _ (inv_clear hI))
        · refine g_tabIn h 422 dL_law_32 (by decide) (by decide) (off := 390) (by decide) (by decide) ?_
          exact law_breaks h hX hbl hbA hi5 hL (by omega) (by omega) hI hR (kk _ (hI))
        · refine g_tabIn h 445 dL_law_32 (by decide) (by decide) (off := 413) (by decide) (by decide) ?_
          exact law_hear h hX hbl hbA hi5 hL (by omega) (by omega) hI hR (kk _ (inv_hear hI (xs (i + 1)) (xs (i + 2))))
        · refine g_tabIn h 478 dL_law_32 (by decide) (by decide) (off := 446) (by decide) (by decide) ?_
          exact law_forget h hX hbl hbA hi5 hL (by omega) (by omega) hI hR (kk _ (inv_forget hI (xs (i + 1))))
        · refine g_tabIn h 501 dL_law_32 (by decide) (by decide) (off := 469) (by decide) (by decide) ?_
          exact law_heard h hX hbl hbA hi5 hL (by omega) (by omega) hI hR (kk _ (hI))
        · refine g_tabIn h 534 dL_law_32 (by decide) (by decide) (off := 502) (by decide) (by decide) ?_
          exact law_judge h hX hbl hbA hi5 hL (by omega) (by omega) hI hR (kk _ (hI))
        · refine g_tabIn h 567 dL_law_32 (by decide) (by decide) (off := 535) (by decide) (by decide) ?_
          exact law_verdict h hX hbl hbA hi5 hL (by omega) (by omega) hI hR (kk _ (hI))
        · refine g_tabIn h 590 dL_law_32 (by decide) (by decide) (off := 558) (by decide) (by decide) ?_
          exact law_both h hX hbl hbA hi5 hL (by omega) (by omega) hI hR (kk _ (inv_both hI (xs (i + 1)) (xs (i + 2)) (xs (i + 3))))
        · refine g_tabIn h 633 dL_law_32 (by decide) (by decide) (off := 601) (by decide) (by decide) ?_
          exact law_may h hX hbl hbA hi5 hL (by omega) (by omega) hI hR (kk _ (hI))
        · refine g_tabIn h 666 dL_law_32 (by decide) (by decide) (off := 634) (by decide) (by decide) ?_
          exact law_mark h hX hbl hbA hi5 hL (by omega) (by omega) hI hR (kk _ (inv_mark hI (xs (i + 1)) (xs (i + 2))))
        · refine g_tabIn h 699 dL_law_32 (by decide) (by decide) (off := 667) (by decide) (by decide) ?_
          exact law_rule h hX hbl hbA hi5 hL (by omega) (by omega) hI hR (kk _ (inv_rule hI (xs (i + 1)) (xs (i + 2)) (xs (i + 3)) (xs (i + 4))))
        · refine g_tabIn h 752 dL_law_32 (by decide) (by decide) (off := 720) (by decide) (by decide) ?_
          exact law_cut h hX hbl hbA hi5 hL (by omega) (by omega) hI hR (kk _ (hI))
        · refine g_tabIn h 795 dL_law_32 (by decide) (by decide) (off := 763) (by decide) (by decide) ?_
          exact law_fit h hX hbl hbA hi5 hL (by omega) (by omega) hI hR (kk _ (inv_fit hI (xs (i + 1)) (xs (i + 2)) (xs (i + 3)) (xs (i + 4))))
        · refine g_tabIn h 848 dL_law_32 (by decide) (by decide) (off := 816) (by decide) (by decide) ?_
          exact law_tour h hX hbl hbA hi5 hL (by omega) (by omega) hI hR (kk _ (inv_tour hI (xs (i + 1)) (xs (i + 2)) (xs (i + 3)) (xs (i + 4))))
        · refine g_tabIn h 901 dL_law_32 (by decide) (by decide) (off := 869) (by decide) (by decide) ?_
          exact law_town h hX hbl hbA hi5 hL (by omega) (by omega) hI hR (kk _ (hI))
        · refine g_tabIn h 924 dL_law_32 (by decide) (by decide) (off := 892) (by decide) (by decide) ?_
          exact law_free h hX hbl hbA hi5 hL (by omega) (by omega) hI hR (kk _ (hI))
        · refine g_tabIn h 967 dL_law_32 (by decide) (by decide) (off := 935) (by decide) (by decide) ?_
          exact law_count h hX hbl hbA hi5 hL (by omega) (by omega) hI hR (kk _ (hI))
        · refine g_tabIn h 990 dL_law_32 (by decide) (by decide) (off := 958) (by decide) (by decide) ?_
          exact law_digest h hX hbl hbA hi5 hL (by omega) (by omega) hI hR (kk _ (hI))
      · refine g_tabOut h 1004 dL_law_32 (Or.inr (by rw [nI_toInt (by omega)]; omega)) (by decide) ?_
        exact g_widen (Nat.le_succ k) (by omega : n ≤ n + 4) (kk S hI σ hR)
