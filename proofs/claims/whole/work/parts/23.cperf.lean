abbrev rm_X5_condition : Room := { frames := 2, cells := 1, slots := 3, locals := 39 }
set_option maxRecDepth 100000 in
set_option maxHeartbeats 4000000 in
theorem C_condition (lau : Launch) (E : EnvD) (σ : Sto) {z : Nat} {S : PSt} (hI : Inv S) (hR : RepC E z S σ) (a1 a2 a3 : Int32) : CC lau yX5_condition cX5_condition 4 (some .int) rm_X5_condition E [.ref z, .int a1, .int a2, .int a3] σ (fun o s => o = some (.int (opCond S a1 a2 a3).1) ∧ RepC E z (opCond S a1 a2 a3).2 s) := by
  refine cc_of (vs := [_, _, _, _]) (by decide) (Nat.le_of_ble_eq_true rfl) rfl ?_
  intro X h hr hn
  obtain ⟨r0, ⟨fV, rV, eV⟩, ⟨fP, rP, eP⟩, ⟨fC, rC, eC⟩, ⟨fR, rR, eR⟩, ⟨fM, rM, eM⟩, rCh, rT, rO, ⟨nE, gE, hE, rE⟩, rows, prows⟩ := id hR
  have hc12 := hI.2.2.1.1
  refine g_iload_n h 1 dX5_condition_0 rfl rfl ?_
  refine g_if_lt h 24 dX5_condition_1 (by decide) (fun c1_1 => ?_) (fun c1_1 => ?_)
  · skip
    refine g_bipush h (-2) dX5_condition_24 (by decide) ?_
    exact g_iret h hr dX5_condition_26 ((fun e => ⟨by rw [e], by rw [e]; exact hR⟩) (show opCond S a1 a2 a3 = (-2, S) from cif_f (fun q => inR_neg c1_1 (by omega) q.1))) (Nat.le_of_ble_eq_true rfl) (Nat.le_of_ble_eq_true rfl)
  · skip
    refine g_iload_n h 1 dX5_condition_4 rfl rfl ?_
    refine g_bipush h (nI 6) dX5_condition_5 (by decide) ?_
    refine g_icmp_gt h 24 dX5_condition_7 (by decide) (fun c7_2 => ?_) (fun c7_2 => ?_)
    · skip
      refine g_bipush h (-2) dX5_condition_24 (by decide) ?_
      exact g_iret h hr dX5_condition_26 ((fun e => ⟨by rw [e], by rw [e]; exact hR⟩) (show opCond S a1 a2 a3 = (-2, S) from cif_f (fun q => inR_gt c7_2 rfl (by omega) q.1))) (Nat.le_of_ble_eq_true rfl) (Nat.le_of_ble_eq_true rfl)
    · skip
      refine g_iload_n h 2 dX5_condition_10 rfl rfl ?_
      refine g_callS h [] (c_X5_isLine (xL X) E _ a2) cf_X5_67 cs_X5_isLine dX5_condition_11 rfl rfl (Nat.le_of_ble_eq_true rfl) ⟨(Nat.le_of_ble_eq_true rfl), (Nat.le_of_ble_eq_true rfl)⟩ ⟨(Nat.le_of_ble_eq_true rfl), (Nat.le_of_ble_eq_true rfl)⟩ ?_
      refine kk_det ?_
      refine g_if_eqB h 24 dX5_condition_14 (by decide) (fun c14_3 => ?_) (fun c14_3 => ?_)
      · skip
        refine g_bipush h (-2) dX5_condition_24 (by decide) ?_
        exact g_iret h hr dX5_condition_26 ((fun e => ⟨by rw [e], by rw [e]; exact hR⟩) (show opCond S a1 a2 a3 = (-2, S) from cif_f (fun q => c14_3 q.2.1))) (Nat.le_of_ble_eq_true rfl) (Nat.le_of_ble_eq_true rfl)
      · skip
        obtain ⟨x, hx, rfl⟩ := c14_3
        have ex : cl (nI x) = x := cl_nI (by omega)
        refine g_iload_n h 3 dX5_condition_17 rfl rfl ?_
        refine g_callS h [] (c_X5_isLine (xL X) E _ a3) cf_X5_67 cs_X5_isLine dX5_condition_18 rfl rfl (Nat.le_of_ble_eq_true rfl) ⟨(Nat.le_of_ble_eq_true rfl), (Nat.le_of_ble_eq_true rfl)⟩ ⟨(Nat.le_of_ble_eq_true rfl), (Nat.le_of_ble_eq_true rfl)⟩ ?_
        refine kk_det ?_
        refine g_if_neB h 27 dX5_condition_21 (by decide) (fun c21_4 => ?_) (fun c21_4 => ?_)
        · skip
          have ht9 : inR a1 7 := inR_of2 c1_1 c7_2 rfl (by omega)
          obtain ⟨t, ht, rfl⟩ := ht9
          obtain ⟨y, hy, rfl⟩ := c21_4
          have ey : cl (nI y) = y := cl_nI (by omega)
          have et : cl (nI t) = t := cl_nI (by omega)
          refine g_iload_n h 1 dX5_condition_27 rfl rfl ?_
          refine g_iconst h (nI 1) dX5_condition_28 (by decide) ?_
          refine g_icmp_neN h 41 dX5_condition_29 (by decide) (by omega) (by decide) (fun c29_5 => ?_) (fun c29_5 => ?_)
          · skip
            refine g_aload_n h 0 dX5_condition_41 rfl rfl ?_
            refine g_get h 8 fa_X5_53 dX5_condition_42 r0 rfl ?_
            refine g_bipush h (nI 12) dX5_condition_45 (by decide) ?_
            refine g_icmp_ltN h 53 dX5_condition_47 (by decide) (by omega) (by decide) (fun c47_6 => ?_) (fun c47_6 => ?_)
            · skip
              refine g_aload_n h 0 dX5_condition_53 rfl rfl ?_
              refine g_get h 2 fa_X5_20 dX5_condition_54 r0 rfl ?_
              refine g_aload_n h 0 dX5_condition_57 rfl rfl ?_
              refine g_get h 8 fa_X5_53 dX5_condition_58 r0 rfl ?_
              refine g_lt (fun hlt_7 => ?_)
              refine g_new h 1 (ty := tyX1) [.int 0, .int 0, .int 0] rfl tyX1_ok nw_X5_18 dX5_condition_61 (fun j hj => by rcases (show j = 0 ∨ j = 1 ∨ j = 2 by omega) with rfl | rfl | rfl <;> rfl) (Nat.le_of_ble_eq_true rfl) (Nat.le_of_ble_eq_true rfl) ?_
              refine g_dup h dX5_condition_64 rfl ?_
              refine g_iload_n h 1 dX5_condition_65 rfl rfl ?_
              refine g_iload_n h 2 dX5_condition_66 rfl rfl ?_
              refine g_iload_n h 3 dX5_condition_67 rfl rfl ?_
              refine g_callI h [_, _, _] (c_X1_init (xL X) E _ (nI t) (nI x) (nI y) spush_new) cf_X5_106 ci_X1_init dX5_condition_68 rfl rfl (Nat.le_of_ble_eq_true rfl) ⟨(Nat.le_of_ble_eq_true rfl), (Nat.le_of_ble_eq_true rfl)⟩ ⟨(Nat.le_of_ble_eq_true rfl), (Nat.le_of_ble_eq_true rfl)⟩ ?_
              refine kk_detv ?_
              refine g_aast h 3 1 dX5_condition_71 rfl rfl (sup_k ((spush_old (Nat.ne_of_lt (hlt_7 _ _ rC))).trans rC) spush_new (by simp)) sup_eq (by omega) (by omega) ?_
              refine g_aload_n h 0 dX5_condition_72 rfl rfl ?_
              refine g_dup h dX5_condition_73 rfl ?_
              refine g_get h 8 fa_X5_53 dX5_condition_74 (sup_k (sup_k ((spush_old (Nat.ne_of_lt (hlt_7 _ _ r0))).trans r0) spush_new (by simp)) (sup_k ((spush_old (Nat.ne_of_lt (hlt_7 _ _ rC))).trans rC) spush_new (by simp)) (by simp)) rfl ?_
              refine g_iconst h (nI 1) dX5_condition_77 (by decide) ?_
              refine g_iaddN h dX5_condition_78 ?_
              refine g_put (fs' := [_, _, _, _, _, _, _, _, _, _]) h 8 fp_X5_53 dX5_condition_79 (sup_k (sup_k ((spush_old (Nat.ne_of_lt (hlt_7 _ _ r0))).trans r0) spush_new (by simp)) (sup_k ((spush_old (Nat.ne_of_lt (hlt_7 _ _ rC))).trans rC) spush_new (by simp)) (by simp)) (Nat.le_of_ble_eq_true rfl) rfl rfl rfl ?_
              refine g_aload_n h 0 dX5_condition_82 rfl rfl ?_
              refine g_get h 8 fa_X5_53 dX5_condition_83 sup_eq rfl ?_
              refine g_iconst h (nI 1) dX5_condition_86 (by decide) ?_
              refine g_isubN h dX5_condition_87 (by omega) ?_
              exact g_iret h hr dX5_condition_88 ((fun e => ⟨by rw [e]; rfl, by rw [e]; exact hR.newC rC eC (a := σ.2) (by cases hq : σ.1 σ.2 with | none => rfl | some e9 => exact absurd (hlt_7 _ _ hq) (Nat.lt_irrefl _)) (sup_eq) ((sup_k sup_eq (sup_k (sup_k ((spush_old (Nat.ne_of_lt (hlt_7 _ _ r0))).trans r0) spush_new (by simp)) (sup_k ((spush_old (Nat.ne_of_lt (hlt_7 _ _ rC))).trans rC) spush_new (by simp)) (by simp)) (by simp))) ((sup_k (sup_k sup_eq (sup_k ((spush_old (Nat.ne_of_lt (hlt_7 _ _ rC))).trans rC) spush_new (by simp)) (by simp)) (sup_k (sup_k ((spush_old (Nat.ne_of_lt (hlt_7 _ _ r0))).trans r0) spush_new (by simp)) (sup_k ((spush_old (Nat.ne_of_lt (hlt_7 _ _ rC))).trans rC) spush_new (by simp)) (by simp)) (by simp))) (fun b b1 b2 b3 => (sup_ne b1).trans ((sup_ne b2).trans ((sup_ne b3).trans (spush_old b3))))⟩) (show opCond S (nI t) (nI x) (nI y) = (nI (sCn S), addC S t x y) from by unfold opCond; rw [cif_t ⟨⟨t, ht, rfl⟩, ⟨x, hx, rfl⟩, ⟨y, by split <;> (first | omega | (rename_i hq; have := nI_inj (by omega) (by omega) hq; omega)), rfl⟩⟩, cif_f (by omega), et, ex, ey])) (Nat.le_of_ble_eq_true rfl) (Nat.le_of_ble_eq_true rfl)
            · skip
              refine g_bipush h (-4) dX5_condition_50 (by decide) ?_
              exact g_iret h hr dX5_condition_52 ((fun e => ⟨by rw [e], by rw [e]; exact hR⟩) (show opCond S (nI t) (nI x) (nI y) = (-4, S) from by unfold opCond; rw [cif_t ⟨⟨t, ht, rfl⟩, ⟨x, hx, rfl⟩, ⟨y, by split <;> (first | omega | (rename_i hq; have := nI_inj (by omega) (by omega) hq; omega)), rfl⟩⟩, cif_t (by omega)])) (Nat.le_of_ble_eq_true rfl) (Nat.le_of_ble_eq_true rfl)
          · skip
            refine g_iload_n h 3 dX5_condition_32 rfl rfl ?_
            refine g_bipush h (nI 40) dX5_condition_33 (by decide) ?_
            refine g_icmp_leN h 41 dX5_condition_35 (by decide) (by omega) (by decide) (fun c35_8 => ?_) (fun c35_8 => ?_)
            · skip
              refine g_aload_n h 0 dX5_condition_41 rfl rfl ?_
              refine g_get h 8 fa_X5_53 dX5_condition_42 r0 rfl ?_
              refine g_bipush h (nI 12) dX5_condition_45 (by decide) ?_
              refine g_icmp_ltN h 53 dX5_condition_47 (by decide) (by omega) (by decide) (fun c47_9 => ?_) (fun c47_9 => ?_)
              · skip
                refine g_aload_n h 0 dX5_condition_53 rfl rfl ?_
                refine g_get h 2 fa_X5_20 dX5_condition_54 r0 rfl ?_
                refine g_aload_n h 0 dX5_condition_57 rfl rfl ?_
                refine g_get h 8 fa_X5_53 dX5_condition_58 r0 rfl ?_
                refine g_lt (fun hlt_10 => ?_)
                refine g_new h 1 (ty := tyX1) [.int 0, .int 0, .int 0] rfl tyX1_ok nw_X5_18 dX5_condition_61 (fun j hj => by rcases (show j = 0 ∨ j = 1 ∨ j = 2 by omega) with rfl | rfl | rfl <;> rfl) (Nat.le_of_ble_eq_true rfl) (Nat.le_of_ble_eq_true rfl) ?_
                refine g_dup h dX5_condition_64 rfl ?_
                refine g_iload_n h 1 dX5_condition_65 rfl rfl ?_
                refine g_iload_n h 2 dX5_condition_66 rfl rfl ?_
                refine g_iload_n h 3 dX5_condition_67 rfl rfl ?_
                refine g_callI h [_, _, _] (c_X1_init (xL X) E _ (nI t) (nI x) (nI y) spush_new) cf_X5_106 ci_X1_init dX5_condition_68 rfl rfl (Nat.le_of_ble_eq_true rfl) ⟨(Nat.le_of_ble_eq_true rfl), (Nat.le_of_ble_eq_true rfl)⟩ ⟨(Nat.le_of_ble_eq_true rfl), (Nat.le_of_ble_eq_true rfl)⟩ ?_
                refine kk_detv ?_
                refine g_aast h 3 1 dX5_condition_71 rfl rfl (sup_k ((spush_old (Nat.ne_of_lt (hlt_10 _ _ rC))).trans rC) spush_new (by simp)) sup_eq (by omega) (by omega) ?_
                refine g_aload_n h 0 dX5_condition_72 rfl rfl ?_
                refine g_dup h dX5_condition_73 rfl ?_
                refine g_get h 8 fa_X5_53 dX5_condition_74 (sup_k (sup_k ((spush_old (Nat.ne_of_lt (hlt_10 _ _ r0))).trans r0) spush_new (by simp)) (sup_k ((spush_old (Nat.ne_of_lt (hlt_10 _ _ rC))).trans rC) spush_new (by simp)) (by simp)) rfl ?_
                refine g_iconst h (nI 1) dX5_condition_77 (by decide) ?_
                refine g_iaddN h dX5_condition_78 ?_
                refine g_put (fs' := [_, _, _, _, _, _, _, _, _, _]) h 8 fp_X5_53 dX5_condition_79 (sup_k (sup_k ((spush_old (Nat.ne_of_lt (hlt_10 _ _ r0))).trans r0) spush_new (by simp)) (sup_k ((spush_old (Nat.ne_of_lt (hlt_10 _ _ rC))).trans rC) spush_new (by simp)) (by simp)) (Nat.le_of_ble_eq_true rfl) rfl rfl rfl ?_
                refine g_aload_n h 0 dX5_condition_82 rfl rfl ?_
                refine g_get h 8 fa_X5_53 dX5_condition_83 sup_eq rfl ?_
                refine g_iconst h (nI 1) dX5_condition_86 (by decide) ?_
                refine g_isubN h dX5_condition_87 (by omega) ?_
                exact g_iret h hr dX5_condition_88 ((fun e => ⟨by rw [e]; rfl, by rw [e]; exact hR.newC rC eC (a := σ.2) (by cases hq : σ.1 σ.2 with | none => rfl | some e9 => exact absurd (hlt_10 _ _ hq) (Nat.lt_irrefl _)) (sup_eq) ((sup_k sup_eq (sup_k (sup_k ((spush_old (Nat.ne_of_lt (hlt_10 _ _ r0))).trans r0) spush_new (by simp)) (sup_k ((spush_old (Nat.ne_of_lt (hlt_10 _ _ rC))).trans rC) spush_new (by simp)) (by simp)) (by simp))) ((sup_k (sup_k sup_eq (sup_k ((spush_old (Nat.ne_of_lt (hlt_10 _ _ rC))).trans rC) spush_new (by simp)) (by simp)) (sup_k (sup_k ((spush_old (Nat.ne_of_lt (hlt_10 _ _ r0))).trans r0) spush_new (by simp)) (sup_k ((spush_old (Nat.ne_of_lt (hlt_10 _ _ rC))).trans rC) spush_new (by simp)) (by simp)) (by simp))) (fun b b1 b2 b3 => (sup_ne b1).trans ((sup_ne b2).trans ((sup_ne b3).trans (spush_old b3))))⟩) (show opCond S (nI t) (nI x) (nI y) = (nI (sCn S), addC S t x y) from by unfold opCond; rw [cif_t ⟨⟨t, ht, rfl⟩, ⟨x, hx, rfl⟩, ⟨y, by split <;> (first | omega | (rename_i hq; have := nI_inj (by omega) (by omega) hq; omega)), rfl⟩⟩, cif_f (by omega), et, ex, ey])) (Nat.le_of_ble_eq_true rfl) (Nat.le_of_ble_eq_true rfl)
              · skip
                refine g_bipush h (-4) dX5_condition_50 (by decide) ?_
                exact g_iret h hr dX5_condition_52 ((fun e => ⟨by rw [e], by rw [e]; exact hR⟩) (show opCond S (nI t) (nI x) (nI y) = (-4, S) from by unfold opCond; rw [cif_t ⟨⟨t, ht, rfl⟩, ⟨x, hx, rfl⟩, ⟨y, by split <;> (first | omega | (rename_i hq; have := nI_inj (by omega) (by omega) hq; omega)), rfl⟩⟩, cif_t (by omega)])) (Nat.le_of_ble_eq_true rfl) (Nat.le_of_ble_eq_true rfl)
            · skip
              refine g_bipush h (-2) dX5_condition_38 (by decide) ?_
              exact g_iret h hr dX5_condition_40 ((fun e => ⟨by rw [e], by rw [e]; exact hR⟩) (show opCond S (nI t) (nI x) (nI y) = (-2, S) from cif_f (fun q => by rw [if_pos (congrArg nI c29_5)] at q; have := (inR_nI (by omega) (by omega)).mp q.2.2; omega))) (Nat.le_of_ble_eq_true rfl) (Nat.le_of_ble_eq_true rfl)
        · skip
          refine g_bipush h (-2) dX5_condition_24 (by decide) ?_
          exact g_iret h hr dX5_condition_26 ((fun e => ⟨by rw [e], by rw [e]; exact hR⟩) (show opCond S a1 (nI x) a3 = (-2, S) from cif_f (fun q => by obtain ⟨y, hy, rfl⟩ := q.2.2; exact c21_4 ⟨y, by split at hy <;> omega, rfl⟩))) (Nat.le_of_ble_eq_true rfl) (Nat.le_of_ble_eq_true rfl)
abbrev rm_X5_clear : Room := { frames := 0, cells := 0, slots := 0, locals := 0 }
set_option maxRecDepth 100000 in
set_option maxHeartbeats 4000000 in
theorem C_clear (lau : Launch) (E : EnvD) (σ : Sto) {z : Nat} {S : PSt} (hI : Inv S) (hR : RepC E z S σ) : CC lau yX5_clear cX5_clear 2 (some .int) rm_X5_clear E [.ref z] σ (fun o s => o = some (.int (opClear S).1) ∧ RepC E z (opClear S).2 s) := by
  refine cc_of (vs := [_, _]) (by decide) (Nat.le_of_ble_eq_true rfl) rfl ?_
  intro X h hr hn
  obtain ⟨r0, ⟨fV, rV, eV⟩, ⟨fP, rP, eP⟩, ⟨fC, rC, eC⟩, ⟨fR, rR, eR⟩, ⟨fM, rM, eM⟩, rCh, rT, rO, ⟨nE, gE, hE, rE⟩, rows, prows⟩ := id hR
  refine g_aload_n h 0 dX5_clear_0 rfl rfl ?_
  refine g_get h 8 fa_X5_53 dX5_clear_1 r0 rfl ?_
  refine g_istore_n (vs' := [_, _]) h 1 dX5_clear_4 rfl (Nat.le_of_ble_eq_true rfl) rfl rfl ?_
  refine g_aload_n h 0 dX5_clear_5 rfl rfl ?_
  refine g_iconst h (nI 0) dX5_clear_6 (by decide) ?_
  refine g_put (fs' := [_, _, _, _, _, _, _, _, _, _]) h 8 fp_X5_53 dX5_clear_7 r0 (Nat.le_of_ble_eq_true rfl) rfl rfl rfl ?_
  refine g_iload_n h 1 dX5_clear_10 rfl rfl ?_
  exact g_iret h hr dX5_clear_11 (⟨rfl, hR.clr⟩) (Nat.le_of_ble_eq_true rfl) (Nat.le_of_ble_eq_true rfl)
abbrev rm_X5_breaks : Room := { frames := 5, cells := 0, slots := 0, locals := 122 }
set_option maxRecDepth 100000 in
set_option maxHeartbeats 4000000 in
theorem C_breaks (lau : Launch) (E : EnvD) (σ : Sto) {z : Nat} {S : PSt} (hI : Inv S) (hR : RepC E z S σ) (a1 : Int32) : CC lau yX5_breaks cX5_breaks 4 (some .int) rm_X5_breaks E [.ref z, .int a1] σ (fun o s => o = some (.int (opBreaks S a1).1) ∧ RepC E z (opBreaks S a1).2 s) := by
  refine cc_of (vs := [_, _, _, _]) (by decide) (Nat.le_of_ble_eq_true rfl) rfl ?_
  intro X h hr hn
  obtain ⟨r0, ⟨fV, rV, eV⟩, ⟨fP, rP, eP⟩, ⟨fC, rC, eC⟩, ⟨fR, rR, eR⟩, ⟨fM, rM, eM⟩, rCh, rT, rO, ⟨nE, gE, hE, rE⟩, rows, prows⟩ := id hR
  by_cases ha1 : inR a1 8
  · skip
    obtain ⟨a, ha, rfl⟩ := ha1
    have ea : cl (nI a) = a := cl_nI (by omega)
    have hn40 := (hI.1 a ha).1
    have e0 : opBreaks S (nI a) = (fp (fun c => jdS S c (rwV S a) (sVn S a) = 2) 0 (sCn S), S) := by unfold opBreaks; rw [cif_t ⟨a, ha, rfl⟩, ea]
    refine g_aload_n h 0 dX5_breaks_0 rfl rfl ?_
    refine g_get h 0 fa_X5_11 dX5_breaks_1 r0 rfl ?_
    refine g_iload_n h 1 dX5_breaks_4 rfl rfl ?_
    refine g_callS h [] (c_X5_rowOf_in (xL X) E _ rV (by omega) (i := a) (by omega) (eV a (by omega))) cf_X5_60 cs_X5_rowOf dX5_breaks_5 rfl rfl (Nat.le_of_ble_eq_true rfl) ⟨(Nat.le_of_ble_eq_true rfl), (Nat.le_of_ble_eq_true rfl)⟩ ⟨(Nat.le_of_ble_eq_true rfl), (Nat.le_of_ble_eq_true rfl)⟩ ?_
    refine kk_det ?_
    refine g_astore_n (vs' := [_, _, _, _]) h 2 dX5_breaks_8 rfl (Nat.le_of_ble_eq_true rfl) rfl rfl ?_
    refine g_aload_n h 2 dX5_breaks_9 rfl rfl ?_
    refine g_ifnonnull h 16 dX5_breaks_10 (by decide) ?_
    refine g_iconst h (nI 0) dX5_breaks_16 (by decide) ?_
    refine g_istore_n (vs' := [_, _, _, _]) h 3 dX5_breaks_17 rfl (Nat.le_of_ble_eq_true rfl) rfl rfl ?_
    have L18 : ∀ (m0 : Nat) (c : Nat), (c ≤ sCn S) → (fp (fun c => jdS S c (rwV S a) (sVn S a) = 2) 0 (sCn S) = fp (fun c => jdS S c (rwV S a) (sVn S a) = 2) c (sCn S - c)) → (sCn S - c) < m0 → G X E 4 (AD σ) (QF X E σ (fun o s => o = some (.int (opBreaks S (nI a)).1) ∧ RepC E z (opBreaks S (nI a)).2 s) rm_X5_breaks) 0 0 18 [some (.ref z), some (.int (nI a)), some (.ref (z + 64 + 2 * a)), some (.int (nI c))] [] σ := by
      intro m0
      induction m0 with
      | zero => intro c _ _ hm0; exact absurd hm0 (Nat.not_lt_zero _)
      | succ m0 ih =>
        intro c hc hf hm0
        have hc12 := hI.2.2.1.1
        refine g_iload_n h 3 dX5_breaks_18 rfl rfl ?_
        refine g_aload_n h 0 dX5_breaks_19 rfl rfl ?_
        refine g_get h 8 fa_X5_53 dX5_breaks_20 r0 rfl ?_
        refine g_icmp_geN h 47 dX5_breaks_23 (by decide) (by omega) (by omega) (fun c23_1 => ?_) (fun c23_1 => ?_)
        · skip
          refine g_iconst h (-1) dX5_breaks_47 (by decide) ?_
          exact g_iret h hr dX5_breaks_48 (⟨by rw [e0]; exact congrArg (fun q => some (Value.int q)) (by rw [hf, show sCn S - c = 0 by omega]; rfl), by rw [e0]; exact hR⟩) (Nat.le_of_ble_eq_true rfl) (Nat.le_of_ble_eq_true rfl)
        · skip
          obtain ⟨cb, q1, q2⟩ := eC c (by omega)
          have k1 := hI.2.2.1.2 c (by omega)
          have j2 : jdS S c (rwV S a) (sVn S a) ≤ 2 := jdV_le
          have hc12 := hI.2.2.1.1
          refine g_aload_n h 2 dX5_breaks_26 rfl rfl ?_
          refine g_aload_n h 0 dX5_breaks_27 rfl rfl ?_
          refine g_iload_n h 3 dX5_breaks_28 rfl rfl ?_
          refine g_callV h [_] (c_X5_conditionOf_in (xL X) E _ r0 rC hI.2.2.1.1 (i := c) (by omega) q1) cf_X5_109 cv_X5_conditionOf dX5_breaks_29 rfl r0 rfl rfl (Nat.le_of_ble_eq_true rfl) ⟨(Nat.le_of_ble_eq_true rfl), (Nat.le_of_ble_eq_true rfl)⟩ ⟨(Nat.le_of_ble_eq_true rfl), (Nat.le_of_ble_eq_true rfl)⟩ ?_
          refine kk_det ?_
          refine g_callS h [] (c_X5_judgementOf (xL X) E _ q2 k1.1 k1.2.1 k1.2.2.1 k1.2.2.2 (rows a ha) (hI.1 a ha).1) cf_X5_113 cs_X5_judgementOf dX5_breaks_32 rfl rfl (Nat.le_of_ble_eq_true rfl) ⟨(Nat.le_of_ble_eq_true rfl), (Nat.le_of_ble_eq_true rfl)⟩ ⟨(Nat.le_of_ble_eq_true rfl), (Nat.le_of_ble_eq_true rfl)⟩ ?_
          refine kk_det ?_
          refine g_top (y := nI (jdS S c (rwV S a) (sVn S a))) rfl ?_
          refine g_iconst h (nI 2) dX5_breaks_35 (by decide) ?_
          refine g_icmp_neN h 41 dX5_breaks_36 (by decide) (by omega) (by decide) (fun c36_2 => ?_) (fun c36_2 => ?_)
          · skip
            refine g_iinc (vs' := [_, _, _, _]) h (nI (c + 1)) dX5_breaks_41 rfl (by first | exact nI_1 _ | rfl) (Nat.le_of_ble_eq_true rfl) rfl rfl ?_
            refine g_goto h 18 dX5_breaks_44 (by decide) ?_
            refine ih (c + 1) (by omega) (hf.trans ?_) (by omega)
            rw [show sCn S - c = (sCn S - (c + 1)) + 1 by omega, fp_f (p := fun c => jdS S c (rwV S a) (sVn S a) = 2) c36_2]
          · skip
            refine g_iload_n h 3 dX5_breaks_39 rfl rfl ?_
            exact g_iret h hr dX5_breaks_40 (⟨by rw [e0]; exact congrArg (fun q => some (Value.int q)) (by rw [hf, show sCn S - c = (sCn S - (c + 1)) + 1 by omega, fp_t (p := fun c => jdS S c (rwV S a) (sVn S a) = 2) c36_2]), by rw [e0]; exact hR⟩) (Nat.le_of_ble_eq_true rfl) (Nat.le_of_ble_eq_true rfl)
    exact L18 (sCn S + 1) 0 (by omega) rfl (by omega)
  · skip
    refine g_aload_n h 0 dX5_breaks_0 rfl rfl ?_
    refine g_get h 0 fa_X5_11 dX5_breaks_1 r0 rfl ?_
    refine g_iload_n h 1 dX5_breaks_4 rfl rfl ?_
    refine g_callS h [] (c_X5_rowOf_out (xL X) E _ a1 rV (by omega) ha1) cf_X5_60 cs_X5_rowOf dX5_breaks_5 rfl rfl (Nat.le_of_ble_eq_true rfl) ⟨(Nat.le_of_ble_eq_true rfl), (Nat.le_of_ble_eq_true rfl)⟩ ⟨(Nat.le_of_ble_eq_true rfl), (Nat.le_of_ble_eq_true rfl)⟩ ?_
    refine kk_det ?_
    refine g_astore_nN (vs' := [_, _, _, _]) h 2 dX5_breaks_8 rfl (Nat.le_of_ble_eq_true rfl) rfl rfl ?_
    refine g_aload_nN h 2 dX5_breaks_9 rfl rfl ?_
    refine g_ifnonnullN h dX5_breaks_10 ?_
    refine g_bipush h (-2) dX5_breaks_13 (by decide) ?_
    exact g_iret h hr dX5_breaks_15 ((fun e => ⟨by rw [e], by rw [e]; exact hR⟩) (show opBreaks S a1 = (-2, S) from by unfold opBreaks; rw [cif_f (ha1)])) (Nat.le_of_ble_eq_true rfl) (Nat.le_of_ble_eq_true rfl)
abbrev rm_X5_hear : Room := { frames := 2, cells := 0, slots := 0, locals := 43 }
set_option maxRecDepth 100000 in
set_option maxHeartbeats 4000000 in
theorem C_hear (lau : Launch) (E : EnvD) (σ : Sto) {z : Nat} {S : PSt} (hI : Inv S) (hR : RepC E z S σ) (a1 a2 : Int32) : CC lau yX5_hear cX5_hear 4 (some .int) rm_X5_hear E [.ref z, .int a1, .int a2] σ (fun o s => o = some (.int (opHear S a1 a2).1) ∧ RepC E z (opHear S a1 a2).2 s) := by
  refine cc_of (vs := [_, _, _, _]) (by decide) (Nat.le_of_ble_eq_true rfl) rfl ?_
  intro X h hr hn
  obtain ⟨r0, ⟨fV, rV, eV⟩, ⟨fP, rP, eP⟩, ⟨fC, rC, eC⟩, ⟨fR, rR, eR⟩, ⟨fM, rM, eM⟩, rCh, rT, rO, ⟨nE, gE, hE, rE⟩, rows, prows⟩ := id hR
  by_cases ha1 : inR a1 4
  · skip
    obtain ⟨a, ha, rfl⟩ := ha1
    have ea : cl (nI a) = a := cl_nI (by omega)
    have hn40 := (hI.2.1 a ha).1
    refine g_aload_n h 0 dX5_hear_0 rfl rfl ?_
    refine g_get h 1 fa_X5_15 dX5_hear_1 r0 rfl ?_
    refine g_iload_n h 1 dX5_hear_4 rfl rfl ?_
    refine g_callS h [] (c_X5_rowOf_in (xL X) E _ rP (by omega) (i := a) (by omega) (eP a (by omega))) cf_X5_60 cs_X5_rowOf dX5_hear_5 rfl rfl (Nat.le_of_ble_eq_true rfl) ⟨(Nat.le_of_ble_eq_true rfl), (Nat.le_of_ble_eq_true rfl)⟩ ⟨(Nat.le_of_ble_eq_true rfl), (Nat.le_of_ble_eq_true rfl)⟩ ?_
    refine kk_det ?_
    refine g_astore_n (vs' := [_, _, _, _]) h 3 dX5_hear_8 rfl (Nat.le_of_ble_eq_true rfl) rfl rfl ?_
    refine g_aload_n h 3 dX5_hear_9 rfl rfl ?_
    refine g_ifnull h dX5_hear_10 ?_
    refine g_iload_n h 2 dX5_hear_13 rfl rfl ?_
    refine g_iconst h (-1) dX5_hear_14 (by decide) ?_
    refine g_icmp_eq h 28 dX5_hear_15 (by decide) (fun c15_1 => ?_) (fun c15_1 => ?_)
    · skip
      have hx9 : a2 = -1 ∨ inR a2 100 := Or.inl c15_1
      refine g_aload_n h 3 dX5_hear_28 rfl rfl ?_
      refine g_callV h [] (r_isFull (xL X) (prows a ha) (hI.2.1 a ha).1) cf_X5_71 cv_X2_isFull dX5_hear_29 rfl (prows a ha).1 rfl rfl (Nat.le_of_ble_eq_true rfl) ⟨(Nat.le_of_ble_eq_true rfl), (Nat.le_of_ble_eq_true rfl)⟩ ⟨(Nat.le_of_ble_eq_true rfl), (Nat.le_of_ble_eq_true rfl)⟩ ?_
      refine kk_det ?_
      refine g_if_eqB h 38 dX5_hear_32 (by decide) (fun c32_2 => ?_) (fun c32_2 => ?_)
      · skip
        refine g_aload_n h 3 dX5_hear_38 rfl rfl ?_
        refine g_aload_n h 3 dX5_hear_39 rfl rfl ?_
        refine g_get h 1 fa_X5_64 dX5_hear_40 (prows a ha).1 rfl ?_
        refine g_iload_n h 2 dX5_hear_43 rfl rfl ?_
        refine g_callV h [] (r_insert (xL X) (prows a ha) (i := sPn S a) a2 (Nat.le_refl _) (by omega)) cf_X5_75 cv_X2_insert dX5_hear_44 rfl (prows a ha).1 rfl rfl (Nat.le_of_ble_eq_true rfl) ⟨(Nat.le_of_ble_eq_true rfl), (Nat.le_of_ble_eq_true rfl)⟩ ⟨(Nat.le_of_ble_eq_true rfl), (Nat.le_of_ble_eq_true rfl)⟩ ?_
        rintro _ s2 ⟨rfl, hch, hri⟩
        refine g_aload_n h 3 dX5_hear_47 rfl rfl ?_
        refine g_get h 1 fa_X5_64 dX5_hear_48 hri.1 rfl ?_
        exact g_iret h hr dX5_hear_51 ((fun e => ⟨by rw [e], by rw [e]; exact hR.rowP ha hch hri⟩) (show opHear S (nI a) a2 = (nI (sPn S a + 1), setP S a (sPn S a + 1) (insF (sPh S a) (sPn S a) (sPn S a) a2)) from by unfold opHear; rw [cif_t ⟨⟨a, ha, rfl⟩, hx9⟩, cif_f (by rw [ea]; omega), ea])) (Nat.le_of_ble_eq_true rfl) (Nat.le_of_ble_eq_true rfl)
      · skip
        refine g_bipush h (-4) dX5_hear_35 (by decide) ?_
        exact g_iret h hr dX5_hear_37 ((fun e => ⟨by rw [e], by rw [e]; exact hR⟩) (show opHear S (nI a) a2 = (-4, S) from by unfold opHear; rw [cif_t ⟨⟨a, ha, rfl⟩, hx9⟩, cif_t (by rw [ea]; omega)])) (Nat.le_of_ble_eq_true rfl) (Nat.le_of_ble_eq_true rfl)
    · skip
      refine g_iload_n h 2 dX5_hear_18 rfl rfl ?_
      refine g_callS h [] (c_X5_isLine (xL X) E _ a2) cf_X5_67 cs_X5_isLine dX5_hear_19 rfl rfl (Nat.le_of_ble_eq_true rfl) ⟨(Nat.le_of_ble_eq_true rfl), (Nat.le_of_ble_eq_true rfl)⟩ ⟨(Nat.le_of_ble_eq_true rfl), (Nat.le_of_ble_eq_true rfl)⟩ ?_
      refine kk_det ?_
      refine g_if_neB h 28 dX5_hear_22 (by decide) (fun c22_3 => ?_) (fun c22_3 => ?_)
      · skip
        have hx9 : a2 = -1 ∨ inR a2 100 := Or.inr c22_3
        refine g_aload_n h 3 dX5_hear_28 rfl rfl ?_
        refine g_callV h [] (r_isFull (xL X) (prows a ha) (hI.2.1 a ha).1) cf_X5_71 cv_X2_isFull dX5_hear_29 rfl (prows a ha).1 rfl rfl (Nat.le_of_ble_eq_true rfl) ⟨(Nat.le_of_ble_eq_true rfl), (Nat.le_of_ble_eq_true rfl)⟩ ⟨(Nat.le_of_ble_eq_true rfl), (Nat.le_of_ble_eq_true rfl)⟩ ?_
        refine kk_det ?_
        refine g_if_eqB h 38 dX5_hear_32 (by decide) (fun c32_4 => ?_) (fun c32_4 => ?_)
        · skip
          refine g_aload_n h 3 dX5_hear_38 rfl rfl ?_
          refine g_aload_n h 3 dX5_hear_39 rfl rfl ?_
          refine g_get h 1 fa_X5_64 dX5_hear_40 (prows a ha).1 rfl ?_
          refine g_iload_n h 2 dX5_hear_43 rfl rfl ?_
          refine g_callV h [] (r_insert (xL X) (prows a ha) (i := sPn S a) a2 (Nat.le_refl _) (by omega)) cf_X5_75 cv_X2_insert dX5_hear_44 rfl (prows a ha).1 rfl rfl (Nat.le_of_ble_eq_true rfl) ⟨(Nat.le_of_ble_eq_true rfl), (Nat.le_of_ble_eq_true rfl)⟩ ⟨(Nat.le_of_ble_eq_true rfl), (Nat.le_of_ble_eq_true rfl)⟩ ?_
          rintro _ s2 ⟨rfl, hch, hri⟩
          refine g_aload_n h 3 dX5_hear_47 rfl rfl ?_
          refine g_get h 1 fa_X5_64 dX5_hear_48 hri.1 rfl ?_
          exact g_iret h hr dX5_hear_51 ((fun e => ⟨by rw [e], by rw [e]; exact hR.rowP ha hch hri⟩) (show opHear S (nI a) a2 = (nI (sPn S a + 1), setP S a (sPn S a + 1) (insF (sPh S a) (sPn S a) (sPn S a) a2)) from by unfold opHear; rw [cif_t ⟨⟨a, ha, rfl⟩, hx9⟩, cif_f (by rw [ea]; omega), ea])) (Nat.le_of_ble_eq_true rfl) (Nat.le_of_ble_eq_true rfl)
        · skip
          refine g_bipush h (-4) dX5_hear_35 (by decide) ?_
          exact g_iret h hr dX5_hear_37 ((fun e => ⟨by rw [e], by rw [e]; exact hR⟩) (show opHear S (nI a) a2 = (-4, S) from by unfold opHear; rw [cif_t ⟨⟨a, ha, rfl⟩, hx9⟩, cif_t (by rw [ea]; omega)])) (Nat.le_of_ble_eq_true rfl) (Nat.le_of_ble_eq_true rfl)
      · skip
        refine g_bipush h (-2) dX5_hear_25 (by decide) ?_
        exact g_iret h hr dX5_hear_27 ((fun e => ⟨by rw [e], by rw [e]; exact hR⟩) (show opHear S (nI a) a2 = (-2, S) from cif_f (fun q => q.2.elim c15_1 c22_3))) (Nat.le_of_ble_eq_true rfl) (Nat.le_of_ble_eq_true rfl)
  · skip
    refine g_aload_n h 0 dX5_hear_0 rfl rfl ?_
    refine g_get h 1 fa_X5_15 dX5_hear_1 r0 rfl ?_
    refine g_iload_n h 1 dX5_hear_4 rfl rfl ?_
    refine g_callS h [] (c_X5_rowOf_out (xL X) E _ a1 rP (by omega) ha1) cf_X5_60 cs_X5_rowOf dX5_hear_5 rfl rfl (Nat.le_of_ble_eq_true rfl) ⟨(Nat.le_of_ble_eq_true rfl), (Nat.le_of_ble_eq_true rfl)⟩ ⟨(Nat.le_of_ble_eq_true rfl), (Nat.le_of_ble_eq_true rfl)⟩ ?_
    refine kk_det ?_
    refine g_astore_nN (vs' := [_, _, _, _]) h 3 dX5_hear_8 rfl (Nat.le_of_ble_eq_true rfl) rfl rfl ?_
    refine g_aload_nN h 3 dX5_hear_9 rfl rfl ?_
    refine g_ifnullN h 25 dX5_hear_10 (by decide) ?_
    refine g_bipush h (-2) dX5_hear_25 (by decide) ?_
    exact g_iret h hr dX5_hear_27 ((fun e => ⟨by rw [e], by rw [e]; exact hR⟩) (show opHear S a1 a2 = (-2, S) from cif_f (fun q => ha1 q.1))) (Nat.le_of_ble_eq_true rfl) (Nat.le_of_ble_eq_true rfl)
abbrev rm_X5_forget : Room := { frames := 1, cells := 0, slots := 0, locals := 21 }
set_option maxRecDepth 100000 in
set_option maxHeartbeats 4000000 in
theorem C_forget (lau : Launch) (E : EnvD) (σ : Sto) {z : Nat} {S : PSt} (hI : Inv S) (hR : RepC E z S σ) (a1 : Int32) : CC lau yX5_forget cX5_forget 4 (some .int) rm_X5_forget E [.ref z, .int a1] σ (fun o s => o = some (.int (opForget S a1).1) ∧ RepC E z (opForget S a1).2 s) := by
  refine cc_of (vs := [_, _, _, _]) (by decide) (Nat.le_of_ble_eq_true rfl) rfl ?_
  intro X h hr hn
  obtain ⟨r0, ⟨fV, rV, eV⟩, ⟨fP, rP, eP⟩, ⟨fC, rC, eC⟩, ⟨fR, rR, eR⟩, ⟨fM, rM, eM⟩, rCh, rT, rO, ⟨nE, gE, hE, rE⟩, rows, prows⟩ := id hR
  by_cases ha1 : inR a1 4
  · skip
    obtain ⟨a, ha, rfl⟩ := ha1
    have ea : cl (nI a) = a := cl_nI (by omega)
    have hn40 := (hI.2.1 a ha).1
    refine g_aload_n h 0 dX5_forget_0 rfl rfl ?_
    refine g_get h 1 fa_X5_15 dX5_forget_1 r0 rfl ?_
    refine g_iload_n h 1 dX5_forget_4 rfl rfl ?_
    refine g_callS h [] (c_X5_rowOf_in (xL X) E _ rP (by omega) (i := a) (by omega) (eP a (by omega))) cf_X5_60 cs_X5_rowOf dX5_forget_5 rfl rfl (Nat.le_of_ble_eq_true rfl) ⟨(Nat.le_of_ble_eq_true rfl), (Nat.le_of_ble_eq_true rfl)⟩ ⟨(Nat.le_of_ble_eq_true rfl), (Nat.le_of_ble_eq_true rfl)⟩ ?_
    refine kk_det ?_
    refine g_astore_n (vs' := [_, _, _, _]) h 2 dX5_forget_8 rfl (Nat.le_of_ble_eq_true rfl) rfl rfl ?_
    refine g_aload_n h 2 dX5_forget_9 rfl rfl ?_
    refine g_ifnonnull h 16 dX5_forget_10 (by decide) ?_
    refine g_aload_n h 2 dX5_forget_16 rfl rfl ?_
    refine g_get h 1 fa_X5_64 dX5_forget_17 (prows a ha).1 rfl ?_
    refine g_istore_n (vs' := [_, _, _, _]) h 3 dX5_forget_20 rfl (Nat.le_of_ble_eq_true rfl) rfl rfl ?_
    refine g_aload_n h 2 dX5_forget_21 rfl rfl ?_
    refine g_callV h [] (r_empty (xL X) (prows a ha) (sPh S a)) cf_X5_117 cv_X2_empty dX5_forget_22 rfl (prows a ha).1 rfl rfl (Nat.le_of_ble_eq_true rfl) ⟨(Nat.le_of_ble_eq_true rfl), (Nat.le_of_ble_eq_true rfl)⟩ ⟨(Nat.le_of_ble_eq_true rfl), (Nat.le_of_ble_eq_true rfl)⟩ ?_
    rintro _ s2 ⟨rfl, hch, hri⟩
    refine g_iload_n h 3 dX5_forget_25 rfl rfl ?_
    exact g_iret h hr dX5_forget_26 ((fun e => ⟨by rw [e], by rw [e]; exact hR.rowP ha hch hri⟩) (show opForget S (nI a) = (nI (sPn S a), setP S a 0 (sPh S a)) from by unfold opForget; rw [cif_t ⟨a, ha, rfl⟩, ea])) (Nat.le_of_ble_eq_true rfl) (Nat.le_of_ble_eq_true rfl)
  · skip
    refine g_aload_n h 0 dX5_forget_0 rfl rfl ?_
    refine g_get h 1 fa_X5_15 dX5_forget_1 r0 rfl ?_
    refine g_iload_n h 1 dX5_forget_4 rfl rfl ?_
    refine g_callS h [] (c_X5_rowOf_out (xL X) E _ a1 rP (by omega) ha1) cf_X5_60 cs_X5_rowOf dX5_forget_5 rfl rfl (Nat.le_of_ble_eq_true rfl) ⟨(Nat.le_of_ble_eq_true rfl), (Nat.le_of_ble_eq_true rfl)⟩ ⟨(Nat.le_of_ble_eq_true rfl), (Nat.le_of_ble_eq_true rfl)⟩ ?_
    refine kk_det ?_
    refine g_astore_nN (vs' := [_, _, _, _]) h 2 dX5_forget_8 rfl (Nat.le_of_ble_eq_true rfl) rfl rfl ?_
    refine g_aload_nN h 2 dX5_forget_9 rfl rfl ?_
    refine g_ifnonnullN h dX5_forget_10 ?_
    refine g_bipush h (-2) dX5_forget_13 (by decide) ?_
    exact g_iret h hr dX5_forget_15 ((fun e => ⟨by rw [e], by rw [e]; exact hR⟩) (show opForget S a1 = (-2, S) from cif_f (ha1))) (Nat.le_of_ble_eq_true rfl) (Nat.le_of_ble_eq_true rfl)
abbrev rm_X5_heard : Room := { frames := 2, cells := 0, slots := 0, locals := 42 }
set_option maxRecDepth 100000 in
set_option maxHeartbeats 4000000 in
theorem C_heard (lau : Launch) (E : EnvD) (σ : Sto) {z : Nat} {S : PSt} (hI : Inv S) (hR : RepC E z S σ) (a1 a2 : Int32) : CC lau yX5_heard cX5_heard 4 (some .int) rm_X5_heard E [.ref z, .int a1, .int a2] σ (fun o s => o = some (.int (opHeard S a1 a2).1) ∧ RepC E z (opHeard S a1 a2).2 s) := by
  refine cc_of (vs := [_, _, _, _]) (by decide) (Nat.le_of_ble_eq_true rfl) rfl ?_
  intro X h hr hn
  obtain ⟨r0, ⟨fV, rV, eV⟩, ⟨fP, rP, eP⟩, ⟨fC, rC, eC⟩, ⟨fR, rR, eR⟩, ⟨fM, rM, eM⟩, rCh, rT, rO, ⟨nE, gE, hE, rE⟩, rows, prows⟩ := id hR
  by_cases ha1 : inR a1 4
  · skip
    obtain ⟨a, ha, rfl⟩ := ha1
    have ea : cl (nI a) = a := cl_nI (by omega)
    have hn40 := (hI.2.1 a ha).1
    refine g_aload_n h 0 dX5_heard_0 rfl rfl ?_
    refine g_get h 1 fa_X5_15 dX5_heard_1 r0 rfl ?_
    refine g_iload_n h 1 dX5_heard_4 rfl rfl ?_
    refine g_callS h [] (c_X5_rowOf_in (xL X) E _ rP (by omega) (i := a) (by omega) (eP a (by omega))) cf_X5_60 cs_X5_rowOf dX5_heard_5 rfl rfl (Nat.le_of_ble_eq_true rfl) ⟨(Nat.le_of_ble_eq_true rfl), (Nat.le_of_ble_eq_true rfl)⟩ ⟨(Nat.le_of_ble_eq_true rfl), (Nat.le_of_ble_eq_true rfl)⟩ ?_
    refine kk_det ?_
    refine g_astore_n (vs' := [_, _, _, _]) h 3 dX5_heard_8 rfl (Nat.le_of_ble_eq_true rfl) rfl rfl ?_
    refine g_aload_n h 3 dX5_heard_9 rfl rfl ?_
    refine g_ifnull h dX5_heard_10 ?_
    refine g_aload_n h 3 dX5_heard_13 rfl rfl ?_
    refine g_iload_n h 2 dX5_heard_14 rfl rfl ?_
    refine g_callV h [] (r_has (xL X) (prows a ha) (hI.2.1 a ha).1 a2) cf_X5_79 cv_X2_has dX5_heard_15 rfl (prows a ha).1 rfl rfl (Nat.le_of_ble_eq_true rfl) ⟨(Nat.le_of_ble_eq_true rfl), (Nat.le_of_ble_eq_true rfl)⟩ ⟨(Nat.le_of_ble_eq_true rfl), (Nat.le_of_ble_eq_true rfl)⟩ ?_
    refine kk_det ?_
    refine g_if_neB h 26 dX5_heard_18 (by decide) (fun c18_1 => ?_) (fun c18_1 => ?_)
    · skip
      obtain ⟨b, hb, rfl⟩ := c18_1
      have eb : cl (nI b) = b := cl_nI (by omega)
      refine g_aload_n h 3 dX5_heard_26 rfl rfl ?_
      refine g_iload_n h 2 dX5_heard_27 rfl rfl ?_
      refine g_callV h [] (r_at (xL X) (prows a ha) (hI.2.1 a ha).1 (nI b)) cf_X5_82 cv_X2_at dX5_heard_28 rfl (prows a ha).1 rfl rfl (Nat.le_of_ble_eq_true rfl) ⟨(Nat.le_of_ble_eq_true rfl), (Nat.le_of_ble_eq_true rfl)⟩ ⟨(Nat.le_of_ble_eq_true rfl), (Nat.le_of_ble_eq_true rfl)⟩ ?_
      refine kk_det ?_
      refine g_top (atV_in (by omega) (by omega)) ?_
      exact g_iret h hr dX5_heard_31 ((fun e => ⟨by rw [e], by rw [e]; exact hR⟩) (show opHeard S (nI a) (nI b) = (sPh S a b, S) from by unfold opHeard; rw [cif_t ⟨⟨a, ha, rfl⟩, ⟨b, by rw [ea]; exact hb, rfl⟩⟩, ea, eb])) (Nat.le_of_ble_eq_true rfl) (Nat.le_of_ble_eq_true rfl)
    · skip
      refine g_bipush h (-2) dX5_heard_21 (by decide) ?_
      refine g_goto h 31 dX5_heard_23 (by decide) ?_
      exact g_iret h hr dX5_heard_31 ((fun e => ⟨by rw [e], by rw [e]; exact hR⟩) (show opHeard S (nI a) a2 = (-2, S) from by unfold opHeard; rw [cif_f (fun q => c18_1 (ea ▸ q.2))])) (Nat.le_of_ble_eq_true rfl) (Nat.le_of_ble_eq_true rfl)
  · skip
    refine g_aload_n h 0 dX5_heard_0 rfl rfl ?_
    refine g_get h 1 fa_X5_15 dX5_heard_1 r0 rfl ?_
    refine g_iload_n h 1 dX5_heard_4 rfl rfl ?_
    refine g_callS h [] (c_X5_rowOf_out (xL X) E _ a1 rP (by omega) ha1) cf_X5_60 cs_X5_rowOf dX5_heard_5 rfl rfl (Nat.le_of_ble_eq_true rfl) ⟨(Nat.le_of_ble_eq_true rfl), (Nat.le_of_ble_eq_true rfl)⟩ ⟨(Nat.le_of_ble_eq_true rfl), (Nat.le_of_ble_eq_true rfl)⟩ ?_
    refine kk_det ?_
    refine g_astore_nN (vs' := [_, _, _, _]) h 3 dX5_heard_8 rfl (Nat.le_of_ble_eq_true rfl) rfl rfl ?_
    refine g_aload_nN h 3 dX5_heard_9 rfl rfl ?_
    refine g_ifnullN h 21 dX5_heard_10 (by decide) ?_
    refine g_bipush h (-2) dX5_heard_21 (by decide) ?_
    refine g_goto h 31 dX5_heard_23 (by decide) ?_
    exact g_iret h hr dX5_heard_31 ((fun e => ⟨by rw [e], by rw [e]; exact hR⟩) (show opHeard S a1 a2 = (-2, S) from by unfold opHeard; rw [cif_f (fun q => ha1 q.1)])) (Nat.le_of_ble_eq_true rfl) (Nat.le_of_ble_eq_true rfl)
abbrev rm_X5_judge : Room := { frames := 5, cells := 0, slots := 0, locals := 122 }
set_option maxRecDepth 100000 in
set_option maxHeartbeats 4000000 in
theorem C_judge (lau : Launch) (E : EnvD) (σ : Sto) {z : Nat} {S : PSt} (hI : Inv S) (hR : RepC E z S σ) (a1 a2 : Int32) : CC lau yX5_judge cX5_judge 5 (some .int) rm_X5_judge E [.ref z, .int a1, .int a2] σ (fun o s => o = some (.int (opJudge S a1 a2).1) ∧ RepC E z (opJudge S a1 a2).2 s) := by
  refine cc_of (vs := [_, _, _, _, _]) (by decide) (Nat.le_of_ble_eq_true rfl) rfl ?_
  intro X h hr hn
  obtain ⟨r0, ⟨fV, rV, eV⟩, ⟨fP, rP, eP⟩, ⟨fC, rC, eC⟩, ⟨fR, rR, eR⟩, ⟨fM, rM, eM⟩, rCh, rT, rO, ⟨nE, gE, hE, rE⟩, rows, prows⟩ := id hR
  by_cases ha1 : inR a1 4
  · skip
    obtain ⟨a, ha, rfl⟩ := ha1
    have ea : cl (nI a) = a := cl_nI (by omega)
    have hn40 := (hI.2.1 a ha).1
    by_cases ha2 : inR a2 (sCn S)
    · skip
      obtain ⟨c, hc, rfl⟩ := ha2
      have hc12 := hI.2.2.1.1
      have ec : cl (nI c) = c := cl_nI (by omega)
      obtain ⟨cb, q1, q2⟩ := eC c (by omega)
      have k1 := hI.2.2.1.2 c (by omega)
      have j2 : jdS S c (sPh S a) (sPn S a) ≤ 2 := jdV_le
      have hc12 := hI.2.2.1.1
      refine g_aload_n h 0 dX5_judge_0 rfl rfl ?_
      refine g_get h 1 fa_X5_15 dX5_judge_1 r0 rfl ?_
      refine g_iload_n h 1 dX5_judge_4 rfl rfl ?_
      refine g_callS h [] (c_X5_rowOf_in (xL X) E _ rP (by omega) (i := a) (by omega) (eP a (by omega))) cf_X5_60 cs_X5_rowOf dX5_judge_5 rfl rfl (Nat.le_of_ble_eq_true rfl) ⟨(Nat.le_of_ble_eq_true rfl), (Nat.le_of_ble_eq_true rfl)⟩ ⟨(Nat.le_of_ble_eq_true rfl), (Nat.le_of_ble_eq_true rfl)⟩ ?_
      refine kk_det ?_
      refine g_astore_n (vs' := [_, _, _, _, _]) h 3 dX5_judge_8 rfl (Nat.le_of_ble_eq_true rfl) rfl rfl ?_
      refine g_aload_n h 0 dX5_judge_9 rfl rfl ?_
      refine g_iload_n h 2 dX5_judge_10 rfl rfl ?_
      refine g_callV h [] (c_X5_conditionOf_in (xL X) E _ r0 rC hI.2.2.1.1 (i := c) (by omega) q1) cf_X5_109 cv_X5_conditionOf dX5_judge_11 rfl r0 rfl rfl (Nat.le_of_ble_eq_true rfl) ⟨(Nat.le_of_ble_eq_true rfl), (Nat.le_of_ble_eq_true rfl)⟩ ⟨(Nat.le_of_ble_eq_true rfl), (Nat.le_of_ble_eq_true rfl)⟩ ?_
      refine kk_det ?_
      refine g_astore (vs' := [_, _, _, _, _]) h dX5_judge_14 (Nat.le_of_ble_eq_true rfl) rfl rfl ?_
      refine g_aload_n h 3 dX5_judge_16 rfl rfl ?_
      refine g_ifnull h dX5_judge_17 ?_
      refine g_aload h dX5_judge_20 rfl ?_
      refine g_ifnonnull h 30 dX5_judge_22 (by decide) ?_
      refine g_aload_n h 3 dX5_judge_30 rfl rfl ?_
      refine g_aload h dX5_judge_31 rfl ?_
      refine g_callS h [] (c_X5_judgementOf (xL X) E _ q2 k1.1 k1.2.1 k1.2.2.1 k1.2.2.2 (prows a ha) (hI.2.1 a ha).1) cf_X5_113 cs_X5_judgementOf dX5_judge_33 rfl rfl (Nat.le_of_ble_eq_true rfl) ⟨(Nat.le_of_ble_eq_true rfl), (Nat.le_of_ble_eq_true rfl)⟩ ⟨(Nat.le_of_ble_eq_true rfl), (Nat.le_of_ble_eq_true rfl)⟩ ?_
      refine kk_det ?_
      refine g_top (y := nI (jdS S c (sPh S a) (sPn S a))) rfl ?_
      exact g_iret h hr dX5_judge_36 ((fun e => ⟨by rw [e], by rw [e]; exact hR⟩) (show opJudge S (nI a) (nI c) = (nI (jdS S c (sPh S a) (sPn S a)), S) from by unfold opJudge; rw [cif_t ⟨⟨a, ha, rfl⟩, ⟨c, hc, rfl⟩⟩, ea, ec])) (Nat.le_of_ble_eq_true rfl) (Nat.le_of_ble_eq_true rfl)
    · skip
      refine g_aload_n h 0 dX5_judge_0 rfl rfl ?_
      refine g_get h 1 fa_X5_15 dX5_judge_1 r0 rfl ?_
      refine g_iload_n h 1 dX5_judge_4 rfl rfl ?_
      refine g_callS h [] (c_X5_rowOf_in (xL X) E _ rP (by omega) (i := a) (by omega) (eP a (by omega))) cf_X5_60 cs_X5_rowOf dX5_judge_5 rfl rfl (Nat.le_of_ble_eq_true rfl) ⟨(Nat.le_of_ble_eq_true rfl), (Nat.le_of_ble_eq_true rfl)⟩ ⟨(Nat.le_of_ble_eq_true rfl), (Nat.le_of_ble_eq_true rfl)⟩ ?_
      refine kk_det ?_
      refine g_astore_n (vs' := [_, _, _, _, _]) h 3 dX5_judge_8 rfl (Nat.le_of_ble_eq_true rfl) rfl rfl ?_
      refine g_aload_n h 0 dX5_judge_9 rfl rfl ?_
      refine g_iload_n h 2 dX5_judge_10 rfl rfl ?_
      refine g_callV h [] (c_X5_conditionOf_out (xL X) E _ a2 r0 hI.2.2.1.1 ha2) cf_X5_109 cv_X5_conditionOf dX5_judge_11 rfl r0 rfl rfl (Nat.le_of_ble_eq_true rfl) ⟨(Nat.le_of_ble_eq_true rfl), (Nat.le_of_ble_eq_true rfl)⟩ ⟨(Nat.le_of_ble_eq_true rfl), (Nat.le_of_ble_eq_true rfl)⟩ ?_
      refine kk_det ?_
      refine g_astoreN (vs' := [_, _, _, _, _]) h dX5_judge_14 (Nat.le_of_ble_eq_true rfl) rfl rfl ?_
      refine g_aload_n h 3 dX5_judge_16 rfl rfl ?_
      refine g_ifnull h dX5_judge_17 ?_
      refine g_aloadN h dX5_judge_20 rfl ?_
      refine g_ifnonnullN h dX5_judge_22 ?_
      refine g_bipush h (-2) dX5_judge_25 (by decide) ?_
      refine g_goto h 36 dX5_judge_27 (by decide) ?_
      exact g_iret h hr dX5_judge_36 ((fun e => ⟨by rw [e], by rw [e]; exact hR⟩) (show opJudge S (nI a) a2 = (-2, S) from by unfold opJudge; rw [cif_f (fun q => ha2 q.2)])) (Nat.le_of_ble_eq_true rfl) (Nat.le_of_ble_eq_true rfl)
  · skip
    by_cases ha2 : inR a2 (sCn S)
    · skip
      obtain ⟨c, hc, rfl⟩ := ha2
      have hc12 := hI.2.2.1.1
      obtain ⟨cb, q1, q2⟩ := eC c (by omega)
      have k1 := hI.2.2.1.2 c (by omega)
      have j2 : jdS S c (sPh S 0) (sPn S 0) ≤ 2 := jdV_le
      have hc12 := hI.2.2.1.1
      refine g_aload_n h 0 dX5_judge_0 rfl rfl ?_
      refine g_get h 1 fa_X5_15 dX5_judge_1 r0 rfl ?_
      refine g_iload_n h 1 dX5_judge_4 rfl rfl ?_
      refine g_callS h [] (c_X5_rowOf_out (xL X) E _ a1 rP (by omega) ha1) cf_X5_60 cs_X5_rowOf dX5_judge_5 rfl rfl (Nat.le_of_ble_eq_true rfl) ⟨(Nat.le_of_ble_eq_true rfl), (Nat.le_of_ble_eq_true rfl)⟩ ⟨(Nat.le_of_ble_eq_true rfl), (Nat.le_of_ble_eq_true rfl)⟩ ?_
      refine kk_det ?_
      refine g_astore_nN (vs' := [_, _, _, _, _]) h 3 dX5_judge_8 rfl (Nat.le_of_ble_eq_true rfl) rfl rfl ?_
      refine g_aload_n h 0 dX5_judge_9 rfl rfl ?_
      refine g_iload_n h 2 dX5_judge_10 rfl rfl ?_
      refine g_callV h [] (c_X5_conditionOf_in (xL X) E _ r0 rC hI.2.2.1.1 (i := c) (by omega) q1) cf_X5_109 cv_X5_conditionOf dX5_judge_11 rfl r0 rfl rfl (Nat.le_of_ble_eq_true rfl) ⟨(Nat.le_of_ble_eq_true rfl), (Nat.le_of_ble_eq_true rfl)⟩ ⟨(Nat.le_of_ble_eq_true rfl), (Nat.le_of_ble_eq_true rfl)⟩ ?_
      refine kk_det ?_
      refine g_astore (vs' := [_, _, _, _, _]) h dX5_judge_14 (Nat.le_of_ble_eq_true rfl) rfl rfl ?_
      refine g_aload_nN h 3 dX5_judge_16 rfl rfl ?_
      refine g_ifnullN h 25 dX5_judge_17 (by decide) ?_
      refine g_bipush h (-2) dX5_judge_25 (by decide) ?_
      refine g_goto h 36 dX5_judge_27 (by decide) ?_
      exact g_iret h hr dX5_judge_36 ((fun e => ⟨by rw [e], by rw [e]; exact hR⟩) (show opJudge S a1 (nI c) = (-2, S) from by unfold opJudge; rw [cif_f (fun q => ha1 q.1)])) (Nat.le_of_ble_eq_true rfl) (Nat.le_of_ble_eq_true rfl)
    · skip
      refine g_aload_n h 0 dX5_judge_0 rfl rfl ?_
      refine g_get h 1 fa_X5_15 dX5_judge_1 r0 rfl ?_
      refine g_iload_n h 1 dX5_judge_4 rfl rfl ?_
      refine g_callS h [] (c_X5_rowOf_out (xL X) E _ a1 rP (by omega) ha1) cf_X5_60 cs_X5_rowOf dX5_judge_5 rfl rfl (Nat.le_of_ble_eq_true rfl) ⟨(Nat.le_of_ble_eq_true rfl), (Nat.le_of_ble_eq_true rfl)⟩ ⟨(Nat.le_of_ble_eq_true rfl), (Nat.le_of_ble_eq_true rfl)⟩ ?_
      refine kk_det ?_
      refine g_astore_nN (vs' := [_, _, _, _, _]) h 3 dX5_judge_8 rfl (Nat.le_of_ble_eq_true rfl) rfl rfl ?_
      refine g_aload_n h 0 dX5_judge_9 rfl rfl ?_
      refine g_iload_n h 2 dX5_judge_10 rfl rfl ?_
      refine g_callV h [] (c_X5_conditionOf_out (xL X) E _ a2 r0 hI.2.2.1.1 ha2) cf_X5_109 cv_X5_conditionOf dX5_judge_11 rfl r0 rfl rfl (Nat.le_of_ble_eq_true rfl) ⟨(Nat.le_of_ble_eq_true rfl), (Nat.le_of_ble_eq_true rfl)⟩ ⟨(Nat.le_of_ble_eq_true rfl), (Nat.le_of_ble_eq_true rfl)⟩ ?_
      refine kk_det ?_
      refine g_astoreN (vs' := [_, _, _, _, _]) h dX5_judge_14 (Nat.le_of_ble_eq_true rfl) rfl rfl ?_
      refine g_aload_nN h 3 dX5_judge_16 rfl rfl ?_
      refine g_ifnullN h 25 dX5_judge_17 (by decide) ?_
      refine g_bipush h (-2) dX5_judge_25 (by decide) ?_
      refine g_goto h 36 dX5_judge_27 (by decide) ?_
      exact g_iret h hr dX5_judge_36 ((fun e => ⟨by rw [e], by rw [e]; exact hR⟩) (show opJudge S a1 a2 = (-2, S) from by unfold opJudge; rw [cif_f (fun q => ha1 q.1)])) (Nat.le_of_ble_eq_true rfl) (Nat.le_of_ble_eq_true rfl)
abbrev rm_X5_verdict : Room := { frames := 5, cells := 0, slots := 0, locals := 122 }
set_option maxRecDepth 100000 in
set_option maxHeartbeats 4000000 in
theorem C_verdict (lau : Launch) (E : EnvD) (σ : Sto) {z : Nat} {S : PSt} (hI : Inv S) (hR : RepC E z S σ) (a1 : Int32) : CC lau yX5_verdict cX5_verdict 5 (some .int) rm_X5_verdict E [.ref z, .int a1] σ (fun o s => o = some (.int (opVerdict S a1).1) ∧ RepC E z (opVerdict S a1).2 s) := by
  refine cc_of (vs := [_, _, _, _, _]) (by decide) (Nat.le_of_ble_eq_true rfl) rfl ?_
  intro X h hr hn
  obtain ⟨r0, ⟨fV, rV, eV⟩, ⟨fP, rP, eP⟩, ⟨fC, rC, eC⟩, ⟨fR, rR, eR⟩, ⟨fM, rM, eM⟩, rCh, rT, rO, ⟨nE, gE, hE, rE⟩, rows, prows⟩ := id hR
  by_cases ha1 : inR a1 4
  · skip
    obtain ⟨a, ha, rfl⟩ := ha1
    have ea : cl (nI a) = a := cl_nI (by omega)
    have hn40 := (hI.2.1 a ha).1
    refine g_aload_n h 0 dX5_verdict_0 rfl rfl ?_
    refine g_get h 1 fa_X5_15 dX5_verdict_1 r0 rfl ?_
    refine g_iload_n h 1 dX5_verdict_4 rfl rfl ?_
    refine g_callS h [] (c_X5_rowOf_in (xL X) E _ rP (by omega) (i := a) (by omega) (eP a (by omega))) cf_X5_60 cs_X5_rowOf dX5_verdict_5 rfl rfl (Nat.le_of_ble_eq_true rfl) ⟨(Nat.le_of_ble_eq_true rfl), (Nat.le_of_ble_eq_true rfl)⟩ ⟨(Nat.le_of_ble_eq_true rfl), (Nat.le_of_ble_eq_true rfl)⟩ ?_
    refine kk_det ?_
    refine g_astore_n (vs' := [_, _, _, _, _]) h 2 dX5_verdict_8 rfl (Nat.le_of_ble_eq_true rfl) rfl rfl ?_
    refine g_aload_n h 2 dX5_verdict_9 rfl rfl ?_
    refine g_ifnonnull h 16 dX5_verdict_10 (by decide) ?_
    refine g_iconst h (nI 0) dX5_verdict_16 (by decide) ?_
    refine g_istore_n (vs' := [_, _, _, _, _]) h 3 dX5_verdict_17 rfl (Nat.le_of_ble_eq_true rfl) rfl rfl ?_
    refine g_iconst h (nI 0) dX5_verdict_18 (by decide) ?_
    refine g_istore (vs' := [_, _, _, _, _]) h dX5_verdict_19 (Nat.le_of_ble_eq_true rfl) rfl rfl ?_
    have L21 : ∀ (m0 : Nat) (c : Nat), (c ≤ sCn S) → (sCn S - c) < m0 → G X E 5 (AD σ) (QF X E σ (fun o s => o = some (.int (opVerdict S (nI a)).1) ∧ RepC E z (opVerdict S (nI a)).2 s) rm_X5_verdict) 0 0 21 [some (.ref z), some (.int (nI a)), some (.ref (z + 80 + 2 * a)), some (.int (nI (vmx S a c))), some (.int (nI c))] [] σ := by
      intro m0
      induction m0 with
      | zero => intro c _ hm0; exact absurd hm0 (Nat.not_lt_zero _)
      | succ m0 ih =>
        intro c hc hm0
        have hc12 := hI.2.2.1.1
        have v2 := vmx_le (S := S) (p := a) c
        refine g_iload h dX5_verdict_21 rfl ?_
        refine g_aload_n h 0 dX5_verdict_23 rfl rfl ?_
        refine g_get h 8 fa_X5_53 dX5_verdict_24 r0 rfl ?_
        refine g_icmp_geN h 51 dX5_verdict_27 (by decide) (by omega) (by omega) (fun c27_1 => ?_) (fun c27_1 => ?_)
        · skip
          refine g_iload_n h 3 dX5_verdict_51 rfl rfl ?_
          exact g_iret h hr dX5_verdict_52 ((fun e => ⟨by rw [e]; exact congrArg (fun q => some (Value.int (nI (vmx S a q)))) (by omega), by rw [e]; exact hR⟩) (show opVerdict S (nI a) = (nI (vmx S a (sCn S)), S) from by unfold opVerdict; rw [cif_t ⟨a, ha, rfl⟩, ea])) (Nat.le_of_ble_eq_true rfl) (Nat.le_of_ble_eq_true rfl)
        · skip
          obtain ⟨cb, q1, q2⟩ := eC c (by omega)
          have k1 := hI.2.2.1.2 c (by omega)
          have j2 : jdS S c (sPh S a) (sPn S a) ≤ 2 := jdV_le
          have hc12 := hI.2.2.1.1
          refine g_iload_n h 3 dX5_verdict_30 rfl rfl ?_
          refine g_aload_n h 2 dX5_verdict_31 rfl rfl ?_
          refine g_aload_n h 0 dX5_verdict_32 rfl rfl ?_
          refine g_iload h dX5_verdict_33 rfl ?_
          refine g_callV h [_, _] (c_X5_conditionOf_in (xL X) E _ r0 rC hI.2.2.1.1 (i := c) (by omega) q1) cf_X5_109 cv_X5_conditionOf dX5_verdict_35 rfl r0 rfl rfl (Nat.le_of_ble_eq_true rfl) ⟨(Nat.le_of_ble_eq_true rfl), (Nat.le_of_ble_eq_true rfl)⟩ ⟨(Nat.le_of_ble_eq_true rfl), (Nat.le_of_ble_eq_true rfl)⟩ ?_
          refine kk_det ?_
          refine g_callS h [_] (c_X5_judgementOf (xL X) E _ q2 k1.1 k1.2.1 k1.2.2.1 k1.2.2.2 (prows a ha) (hI.2.1 a ha).1) cf_X5_113 cs_X5_judgementOf dX5_verdict_38 rfl rfl (Nat.le_of_ble_eq_true rfl) ⟨(Nat.le_of_ble_eq_true rfl), (Nat.le_of_ble_eq_true rfl)⟩ ⟨(Nat.le_of_ble_eq_true rfl), (Nat.le_of_ble_eq_true rfl)⟩ ?_
          refine kk_det ?_
          refine g_top (y := nI (jdS S c (sPh S a) (sPn S a))) rfl ?_
          refine g_max h mm_X5_120 dX5_verdict_41 ⟨(Nat.le_of_ble_eq_true rfl), (Nat.le_of_ble_eq_true rfl)⟩ (Nat.le_of_ble_eq_true rfl) (Nat.le_of_ble_eq_true rfl) ?_
          refine g_top (y := nI (vmx S a (c + 1))) (max_nI (by omega) (by omega)) ?_
          refine g_istore_n (vs' := [_, _, _, _, _]) h 3 dX5_verdict_44 rfl (Nat.le_of_ble_eq_true rfl) rfl rfl ?_
          refine g_iinc (vs' := [_, _, _, _, _]) h (nI (c + 1)) dX5_verdict_45 rfl (by first | exact nI_1 _ | rfl) (Nat.le_of_ble_eq_true rfl) rfl rfl ?_
          refine g_goto h 21 dX5_verdict_48 (by decide) ?_
          exact ih (c + 1) (by omega) (by omega)
    exact L21 (sCn S + 1) 0 (by omega) (by omega)
  · skip
    refine g_aload_n h 0 dX5_verdict_0 rfl rfl ?_
    refine g_get h 1 fa_X5_15 dX5_verdict_1 r0 rfl ?_
    refine g_iload_n h 1 dX5_verdict_4 rfl rfl ?_
    refine g_callS h [] (c_X5_rowOf_out (xL X) E _ a1 rP (by omega) ha1) cf_X5_60 cs_X5_rowOf dX5_verdict_5 rfl rfl (Nat.le_of_ble_eq_true rfl) ⟨(Nat.le_of_ble_eq_true rfl), (Nat.le_of_ble_eq_true rfl)⟩ ⟨(Nat.le_of_ble_eq_true rfl), (Nat.le_of_ble_eq_true rfl)⟩ ?_
    refine kk_det ?_
    refine g_astore_nN (vs' := [_, _, _, _, _]) h 2 dX5_verdict_8 rfl (Nat.le_of_ble_eq_true rfl) rfl rfl ?_
    refine g_aload_nN h 2 dX5_verdict_9 rfl rfl ?_
    refine g_ifnonnullN h dX5_verdict_10 ?_
    refine g_bipush h (-2) dX5_verdict_13 (by decide) ?_
    exact g_iret h hr dX5_verdict_15 ((fun e => ⟨by rw [e], by rw [e]; exact hR⟩) (show opVerdict S a1 = (-2, S) from by unfold opVerdict; rw [cif_f (ha1)])) (Nat.le_of_ble_eq_true rfl) (Nat.le_of_ble_eq_true rfl)
abbrev rm_X5_both : Room := { frames := 3, cells := 0, slots := 0, locals := 64 }
set_option maxRecDepth 100000 in
set_option maxHeartbeats 4000000 in
theorem C_both (lau : Launch) (E : EnvD) (σ : Sto) {z : Nat} {S : PSt} (hI : Inv S) (hR : RepC E z S σ) (a1 a2 a3 : Int32) : CC lau yX5_both cX5_both 9 (some .int) rm_X5_both E [.ref z, .int a1, .int a2, .int a3] σ (fun o s => o = some (.int (opBoth S a1 a2 a3).1) ∧ RepC E z (opBoth S a1 a2 a3).2 s) := by
  refine cc_of (vs := [_, _, _, _, _, _, _, _, _]) (by decide) (Nat.le_of_ble_eq_true rfl) rfl ?_
  intro X h hr hn
  obtain ⟨r0, ⟨fV, rV, eV⟩, ⟨fP, rP, eP⟩, ⟨fC, rC, eC⟩, ⟨fR, rR, eR⟩, ⟨fM, rM, eM⟩, rCh, rT, rO, ⟨nE, gE, hE, rE⟩, rows, prows⟩ := id hR
  by_cases ha1 : inR a1 4 <;> by_cases ha2 : inR a2 4 <;> by_cases ha3 : inR a3 4
  · skip
    obtain ⟨a, ha, rfl⟩ := ha1
    have ea : cl (nI a) = a := cl_nI (by omega)
    have hna := (hI.2.1 a ha).1
    obtain ⟨b, hb, rfl⟩ := ha2
    have eb : cl (nI b) = b := cl_nI (by omega)
    have hnb := (hI.2.1 b hb).1
    obtain ⟨u, hu, rfl⟩ := ha3
    have eu : cl (nI u) = u := cl_nI (by omega)
    have hnu := (hI.2.1 u hu).1
    refine g_aload_n h 0 dX5_both_0 rfl rfl ?_
    refine g_get h 1 fa_X5_15 dX5_both_1 r0 rfl ?_
    refine g_iload_n h 1 dX5_both_4 rfl rfl ?_
    refine g_callS h [] (c_X5_rowOf_in (xL X) E _ rP (by omega) (i := a) (by omega) (eP a (by omega))) cf_X5_60 cs_X5_rowOf dX5_both_5 rfl rfl (Nat.le_of_ble_eq_true rfl) ⟨(Nat.le_of_ble_eq_true rfl), (Nat.le_of_ble_eq_true rfl)⟩ ⟨(Nat.le_of_ble_eq_true rfl), (Nat.le_of_ble_eq_true rfl)⟩ ?_
    refine kk_det ?_
    refine g_astore (vs' := [_, _, _, _, _, _, _, _, _]) h dX5_both_8 (Nat.le_of_ble_eq_true rfl) rfl rfl ?_
    refine g_aload_n h 0 dX5_both_10 rfl rfl ?_
    refine g_get h 1 fa_X5_15 dX5_both_11 r0 rfl ?_
    refine g_iload_n h 2 dX5_both_14 rfl rfl ?_
    refine g_callS h [] (c_X5_rowOf_in (xL X) E _ rP (by omega) (i := b) (by omega) (eP b (by omega))) cf_X5_60 cs_X5_rowOf dX5_both_15 rfl rfl (Nat.le_of_ble_eq_true rfl) ⟨(Nat.le_of_ble_eq_true rfl), (Nat.le_of_ble_eq_true rfl)⟩ ⟨(Nat.le_of_ble_eq_true rfl), (Nat.le_of_ble_eq_true rfl)⟩ ?_
    refine kk_det ?_
    refine g_astore (vs' := [_, _, _, _, _, _, _, _, _]) h dX5_both_18 (Nat.le_of_ble_eq_true rfl) rfl rfl ?_
    refine g_aload_n h 0 dX5_both_20 rfl rfl ?_
    refine g_get h 1 fa_X5_15 dX5_both_21 r0 rfl ?_
    refine g_iload_n h 3 dX5_both_24 rfl rfl ?_
    refine g_callS h [] (c_X5_rowOf_in (xL X) E _ rP (by omega) (i := u) (by omega) (eP u (by omega))) cf_X5_60 cs_X5_rowOf dX5_both_25 rfl rfl (Nat.le_of_ble_eq_true rfl) ⟨(Nat.le_of_ble_eq_true rfl), (Nat.le_of_ble_eq_true rfl)⟩ ⟨(Nat.le_of_ble_eq_true rfl), (Nat.le_of_ble_eq_true rfl)⟩ ?_
    refine kk_det ?_
    refine g_astore (vs' := [_, _, _, _, _, _, _, _, _]) h dX5_both_28 (Nat.le_of_ble_eq_true rfl) rfl rfl ?_
    refine g_aload h dX5_both_30 rfl ?_
    refine g_ifnull h dX5_both_32 ?_
    refine g_aload h dX5_both_35 rfl ?_
    refine g_ifnull h dX5_both_37 ?_
    refine g_aload h dX5_both_40 rfl ?_
    refine g_ifnonnull h 48 dX5_both_42 (by decide) ?_
    refine g_aload h dX5_both_48 rfl ?_
    refine g_get h 1 fa_X5_64 dX5_both_50 (prows a ha).1 rfl ?_
    refine g_aload h dX5_both_53 rfl ?_
    refine g_get h 1 fa_X5_64 dX5_both_55 (prows b hb).1 rfl ?_
    refine g_icmp_eqN h 64 dX5_both_58 (by decide) (by omega) (by omega) (fun c58_1 => ?_) (fun c58_1 => ?_)
    · skip
      refine g_iconst h (nI 0) dX5_both_64 (by decide) ?_
      refine g_istore (vs' := [_, _, _, _, _, _, _, _, _]) h dX5_both_65 (Nat.le_of_ble_eq_true rfl) rfl rfl ?_
      refine g_aload_n h 0 dX5_both_67 rfl rfl ?_
      refine g_get h 7 fa_X5_49 dX5_both_68 r0 rfl ?_
      refine g_callV h [] (r_empty (xL X) rE (fun _ => 0)) cf_X5_117 cv_X2_empty dX5_both_71 rfl rE.1 rfl rfl (Nat.le_of_ble_eq_true rfl) ⟨(Nat.le_of_ble_eq_true rfl), (Nat.le_of_ble_eq_true rfl)⟩ ⟨(Nat.le_of_ble_eq_true rfl), (Nat.le_of_ble_eq_true rfl)⟩ ?_
      rintro _ s2 ⟨rfl, hch, hri⟩
      refine g_iconst h (nI 0) dX5_both_74 (by decide) ?_
      refine g_istore (vs' := [_, _, _, _, _, _, _, _, _]) h dX5_both_75 (Nat.le_of_ble_eq_true rfl) rfl rfl ?_
      have L77 : ∀ (m0 : Nat) (i : Nat) (gk : Nat → Int32) (s2 : Sto), (i ≤ sPn S a) → (RowCh σ s2 (z + 62)) → (RowIs E s2 (z + 62) i gk) → (∀ q, q < i → gk q = hb2 (sPh S a q) (sPh S b q)) → (sPn S a - i) < m0 → G X E 9 (AD σ) (QF X E σ (fun o s => o = some (.int (opBoth S (nI a) (nI b) (nI u)).1) ∧ RepC E z (opBoth S (nI a) (nI b) (nI u)).2 s) rm_X5_both) 0 0 77 [some (.ref z), some (.int (nI a)), some (.int (nI b)), some (.int (nI u)), some (.ref (z + 80 + 2 * a)), some (.ref (z + 80 + 2 * b)), some (.ref (z + 80 + 2 * u)), some (.int (nI (qrl (sPh S a) (sPh S b) i))), some (.int (nI i))] [] s2 := by
        intro m0
        induction m0 with
        | zero => intro i gk s2 _ _ _ _ hm0; exact absurd hm0 (Nat.not_lt_zero _)
        | succ m0 ih =>
          intro i gk s2 hi hch hri hk hm0
          have q40 := qrl_le (f := sPh S a) (g := sPh S b) i
          refine g_iload h dX5_both_77 rfl ?_
          refine g_aload h dX5_both_79 rfl ?_
          refine g_get h 1 fa_X5_64 dX5_both_81 ((hch.2 _ (by omega) (by omega)).trans (prows a ha).1) rfl ?_
          refine g_icmp_geN h 142 dX5_both_84 (by decide) (by omega) (by omega) (fun c84_2 => ?_) (fun c84_2 => ?_)
          · skip
            have ei : i = sPn S a := by omega
            subst ei
            refine g_aload h dX5_both_142 rfl ?_
            refine g_aload_n h 0 dX5_both_144 rfl rfl ?_
            refine g_get h 7 fa_X5_49 dX5_both_145 ((hch.2 z (by omega) (by omega)).trans r0) rfl ?_
            refine g_callV h [] (r_become (xL X) ((prows u hu).fr (hch.2 _ (by omega) (by omega)) (hch.2 _ (by omega) (by omega))) hnu hri hna) cf_X5_90 cv_X2_become dX5_both_148 rfl ((hch.2 _ (by omega) (by omega)).trans (prows u hu).1) rfl rfl (Nat.le_of_ble_eq_true rfl) ⟨(Nat.le_of_ble_eq_true rfl), (Nat.le_of_ble_eq_true rfl)⟩ ⟨(Nat.le_of_ble_eq_true rfl), (Nat.le_of_ble_eq_true rfl)⟩ ?_
            rintro _ s3 ⟨rfl, hch3, hri3⟩
            refine g_iload h dX5_both_151 rfl ?_
            exact g_iret h hr dX5_both_153 ((fun e => ⟨by rw [e], by rw [e]; exact (hR.ears hch hna hri).rowP hu hch3 (hri3.cong hk)⟩) (show opBoth S (nI a) (nI b) (nI u) = (nI (qrl (sPh S a) (sPh S b) (sPn S a)), setP S u (sPn S a) (fun i => hb2 (sPh S a i) (sPh S b i))) from by unfold opBoth; rw [cif_t ⟨⟨a, ha, rfl⟩, ⟨b, hb, rfl⟩, ⟨u, hu, rfl⟩⟩, cif_t (by rw [ea, eb]; exact c58_1), ea, eb, eu])) (Nat.le_of_ble_eq_true rfl) (Nat.le_of_ble_eq_true rfl)
          · skip
            refine g_aload h dX5_both_87 rfl ?_
            refine g_iload h dX5_both_89 rfl ?_
            refine g_callV h [] (r_at (xL X) ((prows a ha).fr (hch.2 _ (by omega) (by omega)) (hch.2 _ (by omega) (by omega))) hna (nI i)) cf_X5_82 cv_X2_at dX5_both_91 rfl ((hch.2 _ (by omega) (by omega)).trans (prows a ha).1) rfl rfl (Nat.le_of_ble_eq_true rfl) ⟨(Nat.le_of_ble_eq_true rfl), (Nat.le_of_ble_eq_true rfl)⟩ ⟨(Nat.le_of_ble_eq_true rfl), (Nat.le_of_ble_eq_true rfl)⟩ ?_
            refine kk_det ?_
            refine g_top (atV_in (by omega) (by omega)) ?_
            refine g_aload h dX5_both_94 rfl ?_
            refine g_iload h dX5_both_96 rfl ?_
            refine g_callV h [_] (r_at (xL X) ((prows b hb).fr (hch.2 _ (by omega) (by omega)) (hch.2 _ (by omega) (by omega))) hnb (nI i)) cf_X5_82 cv_X2_at dX5_both_98 rfl ((hch.2 _ (by omega) (by omega)).trans (prows b hb).1) rfl rfl (Nat.le_of_ble_eq_true rfl) ⟨(Nat.le_of_ble_eq_true rfl), (Nat.le_of_ble_eq_true rfl)⟩ ⟨(Nat.le_of_ble_eq_true rfl), (Nat.le_of_ble_eq_true rfl)⟩ ?_
            refine kk_det ?_
            refine g_top (atV_in (by omega) (by omega)) ?_
            refine g_callS h [] (c_X5_isQuarrel (xL X) E _ ((sPh S a i)) ((sPh S b i))) cf_X5_126 cs_X5_isQuarrel dX5_both_101 rfl rfl (Nat.le_of_ble_eq_true rfl) ⟨(Nat.le_of_ble_eq_true rfl), (Nat.le_of_ble_eq_true rfl)⟩ ⟨(Nat.le_of_ble_eq_true rfl), (Nat.le_of_ble_eq_true rfl)⟩ ?_
            refine kk_det ?_
            refine g_if_eqB h 110 dX5_both_104 (by decide) (fun c104_3 => ?_) (fun c104_3 => ?_)
            · skip
              refine g_aload_n h 0 dX5_both_110 rfl rfl ?_
              refine g_get h 7 fa_X5_49 dX5_both_111 ((hch.2 z (by omega) (by omega)).trans r0) rfl ?_
              refine g_iload h dX5_both_114 rfl ?_
              refine g_aload h dX5_both_116 rfl ?_
              refine g_iload h dX5_both_118 rfl ?_
              refine g_callV h [_, _] (r_at (xL X) ((prows a ha).fr (hch.2 _ (by omega) (by omega)) (hch.2 _ (by omega) (by omega))) hna (nI i)) cf_X5_82 cv_X2_at dX5_both_120 rfl ((hch.2 _ (by omega) (by omega)).trans (prows a ha).1) rfl rfl (Nat.le_of_ble_eq_true rfl) ⟨(Nat.le_of_ble_eq_true rfl), (Nat.le_of_ble_eq_true rfl)⟩ ⟨(Nat.le_of_ble_eq_true rfl), (Nat.le_of_ble_eq_true rfl)⟩ ?_
              refine kk_det ?_
              refine g_top (atV_in (by omega) (by omega)) ?_
              refine g_aload h dX5_both_123 rfl ?_
              refine g_iload h dX5_both_125 rfl ?_
              refine g_callV h [_, _, _] (r_at (xL X) ((prows b hb).fr (hch.2 _ (by omega) (by omega)) (hch.2 _ (by omega) (by omega))) hnb (nI i)) cf_X5_82 cv_X2_at dX5_both_127 rfl ((hch.2 _ (by omega) (by omega)).trans (prows b hb).1) rfl rfl (Nat.le_of_ble_eq_true rfl) ⟨(Nat.le_of_ble_eq_true rfl), (Nat.le_of_ble_eq_true rfl)⟩ ⟨(Nat.le_of_ble_eq_true rfl), (Nat.le_of_ble_eq_true rfl)⟩ ?_
              refine kk_det ?_
              refine g_top (atV_in (by omega) (by omega)) ?_
              refine g_callS h [_, _] (c_X5_heardByTwo (xL X) E _ ((sPh S a i)) ((sPh S b i))) cf_X5_130 cs_X5_heardByTwo dX5_both_130 rfl rfl (Nat.le_of_ble_eq_true rfl) ⟨(Nat.le_of_ble_eq_true rfl), (Nat.le_of_ble_eq_true rfl)⟩ ⟨(Nat.le_of_ble_eq_true rfl), (Nat.le_of_ble_eq_true rfl)⟩ ?_
              refine kk_det ?_
              refine g_callV h [] (r_insert (xL X) hri (i := i) (hb2 (sPh S a i) (sPh S b i)) (Nat.le_refl _) (by omega)) cf_X5_75 cv_X2_insert dX5_both_133 rfl hri.1 rfl rfl (Nat.le_of_ble_eq_true rfl) ⟨(Nat.le_of_ble_eq_true rfl), (Nat.le_of_ble_eq_true rfl)⟩ ⟨(Nat.le_of_ble_eq_true rfl), (Nat.le_of_ble_eq_true rfl)⟩ ?_
              rintro _ s3 ⟨rfl, hch3, hri3⟩
              refine g_iinc (vs' := [_, _, _, _, _, _, _, _, _]) h (nI (i + 1)) dX5_both_136 rfl (by first | exact nI_1 _ | rfl) (Nat.le_of_ble_eq_true rfl) rfl rfl ?_
              refine g_goto h 77 dX5_both_139 (by decide) ?_
              rw [show qrl (sPh S a) (sPh S b) i = qrl (sPh S a) (sPh S b) (i + 1) from by rw [qrl, if_neg c104_3, Nat.add_zero]]
              refine ih (i + 1) _ s3 (by omega) ⟨hch3.1.trans hch.1, fun a q1 q2 => (hch3.2 a q1 q2).trans (hch.2 a q1 q2)⟩ hri3 (fun q hq => ?_) (by omega)
              unfold insF
              by_cases e1 : q < i
              · rw [if_pos e1]; exact hk q e1
              · obtain rfl : q = i := by omega
                rw [if_neg e1, if_pos rfl]
            · skip
              refine g_iinc (vs' := [_, _, _, _, _, _, _, _, _]) h (nI ((qrl (sPh S a) (sPh S b) i) + 1)) dX5_both_107 rfl (by first | exact nI_1 _ | rfl) (Nat.le_of_ble_eq_true rfl) rfl rfl ?_
              refine g_aload_n h 0 dX5_both_110 rfl rfl ?_
              refine g_get h 7 fa_X5_49 dX5_both_111 ((hch.2 z (by omega) (by omega)).trans r0) rfl ?_
              refine g_iload h dX5_both_114 rfl ?_
              refine g_aload h dX5_both_116 rfl ?_
              refine g_iload h dX5_both_118 rfl ?_
              refine g_callV h [_, _] (r_at (xL X) ((prows a ha).fr (hch.2 _ (by omega) (by omega)) (hch.2 _ (by omega) (by omega))) hna (nI i)) cf_X5_82 cv_X2_at dX5_both_120 rfl ((hch.2 _ (by omega) (by omega)).trans (prows a ha).1) rfl rfl (Nat.le_of_ble_eq_true rfl) ⟨(Nat.le_of_ble_eq_true rfl), (Nat.le_of_ble_eq_true rfl)⟩ ⟨(Nat.le_of_ble_eq_true rfl), (Nat.le_of_ble_eq_true rfl)⟩ ?_
              refine kk_det ?_
              refine g_top (atV_in (by omega) (by omega)) ?_
              refine g_aload h dX5_both_123 rfl ?_
              refine g_iload h dX5_both_125 rfl ?_
              refine g_callV h [_, _, _] (r_at (xL X) ((prows b hb).fr (hch.2 _ (by omega) (by omega)) (hch.2 _ (by omega) (by omega))) hnb (nI i)) cf_X5_82 cv_X2_at dX5_both_127 rfl ((hch.2 _ (by omega) (by omega)).trans (prows b hb).1) rfl rfl (Nat.le_of_ble_eq_true rfl) ⟨(Nat.le_of_ble_eq_true rfl), (Nat.le_of_ble_eq_true rfl)⟩ ⟨(Nat.le_of_ble_eq_true rfl), (Nat.le_of_ble_eq_true rfl)⟩ ?_
              refine kk_det ?_
              refine g_top (atV_in (by omega) (by omega)) ?_
              refine g_callS h [_, _] (c_X5_heardByTwo (xL X) E _ ((sPh S a i)) ((sPh S b i))) cf_X5_130 cs_X5_heardByTwo dX5_both_130 rfl rfl (Nat.le_of_ble_eq_true rfl) ⟨(Nat.le_of_ble_eq_true rfl), (Nat.le_of_ble_eq_true rfl)⟩ ⟨(Nat.le_of_ble_eq_true rfl), (Nat.le_of_ble_eq_true rfl)⟩ ?_
              refine kk_det ?_
              refine g_callV h [] (r_insert (xL X) hri (i := i) (hb2 (sPh S a i) (sPh S b i)) (Nat.le_refl _) (by omega)) cf_X5_75 cv_X2_insert dX5_both_133 rfl hri.1 rfl rfl (Nat.le_of_ble_eq_true rfl) ⟨(Nat.le_of_ble_eq_true rfl), (Nat.le_of_ble_eq_true rfl)⟩ ⟨(Nat.le_of_ble_eq_true rfl), (Nat.le_of_ble_eq_true rfl)⟩ ?_
              rintro _ s3 ⟨rfl, hch3, hri3⟩
              refine g_iinc (vs' := [_, _, _, _, _, _, _, _, _]) h (nI (i + 1)) dX5_both_136 rfl (by first | exact nI_1 _ | rfl) (Nat.le_of_ble_eq_true rfl) rfl rfl ?_
              refine g_goto h 77 dX5_both_139 (by decide) ?_
              rw [show (qrl (sPh S a) (sPh S b) i) + 1 = qrl (sPh S a) (sPh S b) (i + 1) from by rw [qrl, if_pos c104_3]]
              refine ih (i + 1) _ s3 (by omega) ⟨hch3.1.trans hch.1, fun a q1 q2 => (hch3.2 a q1 q2).trans (hch.2 a q1 q2)⟩ hri3 (fun q hq => ?_) (by omega)
              unfold insF
              by_cases e1 : q < i
              · rw [if_pos e1]; exact hk q e1
              · obtain rfl : q = i := by omega
                rw [if_neg e1, if_pos rfl]
      exact L77 (sPn S a + 1) 0 (fun _ => 0) s2 (by omega) hch hri (fun q hq => absurd hq (Nat.not_lt_zero _)) (by omega)
    · skip
      refine g_bipush h (-3) dX5_both_61 (by decide) ?_
      exact g_iret h hr dX5_both_63 ((fun e => ⟨by rw [e], by rw [e]; exact hR⟩) (show opBoth S (nI a) (nI b) (nI u) = (-3, S) from by unfold opBoth; rw [cif_t ⟨⟨a, ha, rfl⟩, ⟨b, hb, rfl⟩, ⟨u, hu, rfl⟩⟩, cif_f (by rw [ea, eb]; exact c58_1)])) (Nat.le_of_ble_eq_true rfl) (Nat.le_of_ble_eq_true rfl)
  · skip
    obtain ⟨a, ha, rfl⟩ := ha1
    have ea : cl (nI a) = a := cl_nI (by omega)
    have hna := (hI.2.1 a ha).1
    obtain ⟨b, hb, rfl⟩ := ha2
    have eb : cl (nI b) = b := cl_nI (by omega)
    have hnb := (hI.2.1 b hb).1
    refine g_aload_n h 0 dX5_both_0 rfl rfl ?_
    refine g_get h 1 fa_X5_15 dX5_both_1 r0 rfl ?_
    refine g_iload_n h 1 dX5_both_4 rfl rfl ?_
    refine g_callS h [] (c_X5_rowOf_in (xL X) E _ rP (by omega) (i := a) (by omega) (eP a (by omega))) cf_X5_60 cs_X5_rowOf dX5_both_5 rfl rfl (Nat.le_of_ble_eq_true rfl) ⟨(Nat.le_of_ble_eq_true rfl), (Nat.le_of_ble_eq_true rfl)⟩ ⟨(Nat.le_of_ble_eq_true rfl), (Nat.le_of_ble_eq_true rfl)⟩ ?_
    refine kk_det ?_
    refine g_astore (vs' := [_, _, _, _, _, _, _, _, _]) h dX5_both_8 (Nat.le_of_ble_eq_true rfl) rfl rfl ?_
    refine g_aload_n h 0 dX5_both_10 rfl rfl ?_
    refine g_get h 1 fa_X5_15 dX5_both_11 r0 rfl ?_
    refine g_iload_n h 2 dX5_both_14 rfl rfl ?_
    refine g_callS h [] (c_X5_rowOf_in (xL X) E _ rP (by omega) (i := b) (by omega) (eP b (by omega))) cf_X5_60 cs_X5_rowOf dX5_both_15 rfl rfl (Nat.le_of_ble_eq_true rfl) ⟨(Nat.le_of_ble_eq_true rfl), (Nat.le_of_ble_eq_true rfl)⟩ ⟨(Nat.le_of_ble_eq_true rfl), (Nat.le_of_ble_eq_true rfl)⟩ ?_
    refine kk_det ?_
    refine g_astore (vs' := [_, _, _, _, _, _, _, _, _]) h dX5_both_18 (Nat.le_of_ble_eq_true rfl) rfl rfl ?_
    refine g_aload_n h 0 dX5_both_20 rfl rfl ?_
    refine g_get h 1 fa_X5_15 dX5_both_21 r0 rfl ?_
    refine g_iload_n h 3 dX5_both_24 rfl rfl ?_
    refine g_callS h [] (c_X5_rowOf_out (xL X) E _ a3 rP (by omega) ha3) cf_X5_60 cs_X5_rowOf dX5_both_25 rfl rfl (Nat.le_of_ble_eq_true rfl) ⟨(Nat.le_of_ble_eq_true rfl), (Nat.le_of_ble_eq_true rfl)⟩ ⟨(Nat.le_of_ble_eq_true rfl), (Nat.le_of_ble_eq_true rfl)⟩ ?_
    refine kk_det ?_
    refine g_astoreN (vs' := [_, _, _, _, _, _, _, _, _]) h dX5_both_28 (Nat.le_of_ble_eq_true rfl) rfl rfl ?_
    refine g_aload h dX5_both_30 rfl ?_
    refine g_ifnull h dX5_both_32 ?_
    refine g_aload h dX5_both_35 rfl ?_
    refine g_ifnull h dX5_both_37 ?_
    refine g_aloadN h dX5_both_40 rfl ?_
    refine g_ifnonnullN h dX5_both_42 ?_
    refine g_bipush h (-2) dX5_both_45 (by decide) ?_
    exact g_iret h hr dX5_both_47 ((fun e => ⟨by rw [e], by rw [e]; exact hR⟩) (show opBoth S (nI a) (nI b) a3 = (-2, S) from cif_f (fun q => ha3 q.2.2))) (Nat.le_of_ble_eq_true rfl) (Nat.le_of_ble_eq_true rfl)
  · skip
    obtain ⟨a, ha, rfl⟩ := ha1
    have ea : cl (nI a) = a := cl_nI (by omega)
    have hna := (hI.2.1 a ha).1
    obtain ⟨u, hu, rfl⟩ := ha3
    have eu : cl (nI u) = u := cl_nI (by omega)
    have hnu := (hI.2.1 u hu).1
    refine g_aload_n h 0 dX5_both_0 rfl rfl ?_
    refine g_get h 1 fa_X5_15 dX5_both_1 r0 rfl ?_
    refine g_iload_n h 1 dX5_both_4 rfl rfl ?_
    refine g_callS h [] (c_X5_rowOf_in (xL X) E _ rP (by omega) (i := a) (by omega) (eP a (by omega))) cf_X5_60 cs_X5_rowOf dX5_both_5 rfl rfl (Nat.le_of_ble_eq_true rfl) ⟨(Nat.le_of_ble_eq_true rfl), (Nat.le_of_ble_eq_true rfl)⟩ ⟨(Nat.le_of_ble_eq_true rfl), (Nat.le_of_ble_eq_true rfl)⟩ ?_
    refine kk_det ?_
    refine g_astore (vs' := [_, _, _, _, _, _, _, _, _]) h dX5_both_8 (Nat.le_of_ble_eq_true rfl) rfl rfl ?_
    refine g_aload_n h 0 dX5_both_10 rfl rfl ?_
    refine g_get h 1 fa_X5_15 dX5_both_11 r0 rfl ?_
    refine g_iload_n h 2 dX5_both_14 rfl rfl ?_
    refine g_callS h [] (c_X5_rowOf_out (xL X) E _ a2 rP (by omega) ha2) cf_X5_60 cs_X5_rowOf dX5_both_15 rfl rfl (Nat.le_of_ble_eq_true rfl) ⟨(Nat.le_of_ble_eq_true rfl), (Nat.le_of_ble_eq_true rfl)⟩ ⟨(Nat.le_of_ble_eq_true rfl), (Nat.le_of_ble_eq_true rfl)⟩ ?_
    refine kk_det ?_
    refine g_astoreN (vs' := [_, _, _, _, _, _, _, _, _]) h dX5_both_18 (Nat.le_of_ble_eq_true rfl) rfl rfl ?_
    refine g_aload_n h 0 dX5_both_20 rfl rfl ?_
    refine g_get h 1 fa_X5_15 dX5_both_21 r0 rfl ?_
    refine g_iload_n h 3 dX5_both_24 rfl rfl ?_
    refine g_callS h [] (c_X5_rowOf_in (xL X) E _ rP (by omega) (i := u) (by omega) (eP u (by omega))) cf_X5_60 cs_X5_rowOf dX5_both_25 rfl rfl (Nat.le_of_ble_eq_true rfl) ⟨(Nat.le_of_ble_eq_true rfl), (Nat.le_of_ble_eq_true rfl)⟩ ⟨(Nat.le_of_ble_eq_true rfl), (Nat.le_of_ble_eq_true rfl)⟩ ?_
    refine kk_det ?_
    refine g_astore (vs' := [_, _, _, _, _, _, _, _, _]) h dX5_both_28 (Nat.le_of_ble_eq_true rfl) rfl rfl ?_
    refine g_aload h dX5_both_30 rfl ?_
    refine g_ifnull h dX5_both_32 ?_
    refine g_aloadN h dX5_both_35 rfl ?_
    refine g_ifnullN h 45 dX5_both_37 (by decide) ?_
    refine g_bipush h (-2) dX5_both_45 (by decide) ?_
    exact g_iret h hr dX5_both_47 ((fun e => ⟨by rw [e], by rw [e]; exact hR⟩) (show opBoth S (nI a) a2 (nI u) = (-2, S) from cif_f (fun q => ha2 q.2.1))) (Nat.le_of_ble_eq_true rfl) (Nat.le_of_ble_eq_true rfl)
  · skip
    obtain ⟨a, ha, rfl⟩ := ha1
    have ea : cl (nI a) = a := cl_nI (by omega)
    have hna := (hI.2.1 a ha).1
    refine g_aload_n h 0 dX5_both_0 rfl rfl ?_
    refine g_get h 1 fa_X5_15 dX5_both_1 r0 rfl ?_
    refine g_iload_n h 1 dX5_both_4 rfl rfl ?_
    refine g_callS h [] (c_X5_rowOf_in (xL X) E _ rP (by omega) (i := a) (by omega) (eP a (by omega))) cf_X5_60 cs_X5_rowOf dX5_both_5 rfl rfl (Nat.le_of_ble_eq_true rfl) ⟨(Nat.le_of_ble_eq_true rfl), (Nat.le_of_ble_eq_true rfl)⟩ ⟨(Nat.le_of_ble_eq_true rfl), (Nat.le_of_ble_eq_true rfl)⟩ ?_
    refine kk_det ?_
    refine g_astore (vs' := [_, _, _, _, _, _, _, _, _]) h dX5_both_8 (Nat.le_of_ble_eq_true rfl) rfl rfl ?_
    refine g_aload_n h 0 dX5_both_10 rfl rfl ?_
    refine g_get h 1 fa_X5_15 dX5_both_11 r0 rfl ?_
    refine g_iload_n h 2 dX5_both_14 rfl rfl ?_
    refine g_callS h [] (c_X5_rowOf_out (xL X) E _ a2 rP (by omega) ha2) cf_X5_60 cs_X5_rowOf dX5_both_15 rfl rfl (Nat.le_of_ble_eq_true rfl) ⟨(Nat.le_of_ble_eq_true rfl), (Nat.le_of_ble_eq_true rfl)⟩ ⟨(Nat.le_of_ble_eq_true rfl), (Nat.le_of_ble_eq_true rfl)⟩ ?_
    refine kk_det ?_
    refine g_astoreN (vs' := [_, _, _, _, _, _, _, _, _]) h dX5_both_18 (Nat.le_of_ble_eq_true rfl) rfl rfl ?_
    refine g_aload_n h 0 dX5_both_20 rfl rfl ?_
    refine g_get h 1 fa_X5_15 dX5_both_21 r0 rfl ?_
    refine g_iload_n h 3 dX5_both_24 rfl rfl ?_
    refine g_callS h [] (c_X5_rowOf_out (xL X) E _ a3 rP (by omega) ha3) cf_X5_60 cs_X5_rowOf dX5_both_25 rfl rfl (Nat.le_of_ble_eq_true rfl) ⟨(Nat.le_of_ble_eq_true rfl), (Nat.le_of_ble_eq_true rfl)⟩ ⟨(Nat.le_of_ble_eq_true rfl), (Nat.le_of_ble_eq_true rfl)⟩ ?_
    refine kk_det ?_
    refine g_astoreN (vs' := [_, _, _, _, _, _, _, _, _]) h dX5_both_28 (Nat.le_of_ble_eq_true rfl) rfl rfl ?_
    refine g_aload h dX5_both_30 rfl ?_
    refine g_ifnull h dX5_both_32 ?_
    refine g_aloadN h dX5_both_35 rfl ?_
    refine g_ifnullN h 45 dX5_both_37 (by decide) ?_
    refine g_bipush h (-2) dX5_both_45 (by decide) ?_
    exact g_iret h hr dX5_both_47 ((fun e => ⟨by rw [e], by rw [e]; exact hR⟩) (show opBoth S (nI a) a2 a3 = (-2, S) from cif_f (fun q => ha2 q.2.1))) (Nat.le_of_ble_eq_true rfl) (Nat.le_of_ble_eq_true rfl)
  · skip
    obtain ⟨b, hb, rfl⟩ := ha2
    have eb : cl (nI b) = b := cl_nI (by omega)
    have hnb := (hI.2.1 b hb).1
    obtain ⟨u, hu, rfl⟩ := ha3
    have eu : cl (nI u) = u := cl_nI (by omega)
    have hnu := (hI.2.1 u hu).1
    refine g_aload_n h 0 dX5_both_0 rfl rfl ?_
    refine g_get h 1 fa_X5_15 dX5_both_1 r0 rfl ?_
    refine g_iload_n h 1 dX5_both_4 rfl rfl ?_
    refine g_callS h [] (c_X5_rowOf_out (xL X) E _ a1 rP (by omega) ha1) cf_X5_60 cs_X5_rowOf dX5_both_5 rfl rfl (Nat.le_of_ble_eq_true rfl) ⟨(Nat.le_of_ble_eq_true rfl), (Nat.le_of_ble_eq_true rfl)⟩ ⟨(Nat.le_of_ble_eq_true rfl), (Nat.le_of_ble_eq_true rfl)⟩ ?_
    refine kk_det ?_
    refine g_astoreN (vs' := [_, _, _, _, _, _, _, _, _]) h dX5_both_8 (Nat.le_of_ble_eq_true rfl) rfl rfl ?_
    refine g_aload_n h 0 dX5_both_10 rfl rfl ?_
    refine g_get h 1 fa_X5_15 dX5_both_11 r0 rfl ?_
    refine g_iload_n h 2 dX5_both_14 rfl rfl ?_
    refine g_callS h [] (c_X5_rowOf_in (xL X) E _ rP (by omega) (i := b) (by omega) (eP b (by omega))) cf_X5_60 cs_X5_rowOf dX5_both_15 rfl rfl (Nat.le_of_ble_eq_true rfl) ⟨(Nat.le_of_ble_eq_true rfl), (Nat.le_of_ble_eq_true rfl)⟩ ⟨(Nat.le_of_ble_eq_true rfl), (Nat.le_of_ble_eq_true rfl)⟩ ?_
    refine kk_det ?_
    refine g_astore (vs' := [_, _, _, _, _, _, _, _, _]) h dX5_both_18 (Nat.le_of_ble_eq_true rfl) rfl rfl ?_
    refine g_aload_n h 0 dX5_both_20 rfl rfl ?_
    refine g_get h 1 fa_X5_15 dX5_both_21 r0 rfl ?_
    refine g_iload_n h 3 dX5_both_24 rfl rfl ?_
    refine g_callS h [] (c_X5_rowOf_in (xL X) E _ rP (by omega) (i := u) (by omega) (eP u (by omega))) cf_X5_60 cs_X5_rowOf dX5_both_25 rfl rfl (Nat.le_of_ble_eq_true rfl) ⟨(Nat.le_of_ble_eq_true rfl), (Nat.le_of_ble_eq_true rfl)⟩ ⟨(Nat.le_of_ble_eq_true rfl), (Nat.le_of_ble_eq_true rfl)⟩ ?_
    refine kk_det ?_
    refine g_astore (vs' := [_, _, _, _, _, _, _, _, _]) h dX5_both_28 (Nat.le_of_ble_eq_true rfl) rfl rfl ?_
    refine g_aloadN h dX5_both_30 rfl ?_
    refine g_ifnullN h 45 dX5_both_32 (by decide) ?_
    refine g_bipush h (-2) dX5_both_45 (by decide) ?_
    exact g_iret h hr dX5_both_47 ((fun e => ⟨by rw [e], by rw [e]; exact hR⟩) (show opBoth S a1 (nI b) (nI u) = (-2, S) from cif_f (fun q => ha1 q.1))) (Nat.le_of_ble_eq_true rfl) (Nat.le_of_ble_eq_true rfl)
  · skip
    obtain ⟨b, hb, rfl⟩ := ha2
    have eb : cl (nI b) = b := cl_nI (by omega)
    have hnb := (hI.2.1 b hb).1
    refine g_aload_n h 0 dX5_both_0 rfl rfl ?_
    refine g_get h 1 fa_X5_15 dX5_both_1 r0 rfl ?_
    refine g_iload_n h 1 dX5_both_4 rfl rfl ?_
    refine g_callS h [] (c_X5_rowOf_out (xL X) E _ a1 rP (by omega) ha1) cf_X5_60 cs_X5_rowOf dX5_both_5 rfl rfl (Nat.le_of_ble_eq_true rfl) ⟨(Nat.le_of_ble_eq_true rfl), (Nat.le_of_ble_eq_true rfl)⟩ ⟨(Nat.le_of_ble_eq_true rfl), (Nat.le_of_ble_eq_true rfl)⟩ ?_
    refine kk_det ?_
    refine g_astoreN (vs' := [_, _, _, _, _, _, _, _, _]) h dX5_both_8 (Nat.le_of_ble_eq_true rfl) rfl rfl ?_
    refine g_aload_n h 0 dX5_both_10 rfl rfl ?_
    refine g_get h 1 fa_X5_15 dX5_both_11 r0 rfl ?_
    refine g_iload_n h 2 dX5_both_14 rfl rfl ?_
    refine g_callS h [] (c_X5_rowOf_in (xL X) E _ rP (by omega) (i := b) (by omega) (eP b (by omega))) cf_X5_60 cs_X5_rowOf dX5_both_15 rfl rfl (Nat.le_of_ble_eq_true rfl) ⟨(Nat.le_of_ble_eq_true rfl), (Nat.le_of_ble_eq_true rfl)⟩ ⟨(Nat.le_of_ble_eq_true rfl), (Nat.le_of_ble_eq_true rfl)⟩ ?_
    refine kk_det ?_
    refine g_astore (vs' := [_, _, _, _, _, _, _, _, _]) h dX5_both_18 (Nat.le_of_ble_eq_true rfl) rfl rfl ?_
    refine g_aload_n h 0 dX5_both_20 rfl rfl ?_
    refine g_get h 1 fa_X5_15 dX5_both_21 r0 rfl ?_
    refine g_iload_n h 3 dX5_both_24 rfl rfl ?_
    refine g_callS h [] (c_X5_rowOf_out (xL X) E _ a3 rP (by omega) ha3) cf_X5_60 cs_X5_rowOf dX5_both_25 rfl rfl (Nat.le_of_ble_eq_true rfl) ⟨(Nat.le_of_ble_eq_true rfl), (Nat.le_of_ble_eq_true rfl)⟩ ⟨(Nat.le_of_ble_eq_true rfl), (Nat.le_of_ble_eq_true rfl)⟩ ?_
    refine kk_det ?_
    refine g_astoreN (vs' := [_, _, _, _, _, _, _, _, _]) h dX5_both_28 (Nat.le_of_ble_eq_true rfl) rfl rfl ?_
    refine g_aloadN h dX5_both_30 rfl ?_
    refine g_ifnullN h 45 dX5_both_32 (by decide) ?_
    refine g_bipush h (-2) dX5_both_45 (by decide) ?_
    exact g_iret h hr dX5_both_47 ((fun e => ⟨by rw [e], by rw [e]; exact hR⟩) (show opBoth S a1 (nI b) a3 = (-2, S) from cif_f (fun q => ha1 q.1))) (Nat.le_of_ble_eq_true rfl) (Nat.le_of_ble_eq_true rfl)
  · skip
    obtain ⟨u, hu, rfl⟩ := ha3
    have eu : cl (nI u) = u := cl_nI (by omega)
    have hnu := (hI.2.1 u hu).1
    refine g_aload_n h 0 dX5_both_0 rfl rfl ?_
    refine g_get h 1 fa_X5_15 dX5_both_1 r0 rfl ?_
    refine g_iload_n h 1 dX5_both_4 rfl rfl ?_
    refine g_callS h [] (c_X5_rowOf_out (xL X) E _ a1 rP (by omega) ha1) cf_X5_60 cs_X5_rowOf dX5_both_5 rfl rfl (Nat.le_of_ble_eq_true rfl) ⟨(Nat.le_of_ble_eq_true rfl), (Nat.le_of_ble_eq_true rfl)⟩ ⟨(Nat.le_of_ble_eq_true rfl), (Nat.le_of_ble_eq_true rfl)⟩ ?_
    refine kk_det ?_
    refine g_astoreN (vs' := [_, _, _, _, _, _, _, _, _]) h dX5_both_8 (Nat.le_of_ble_eq_true rfl) rfl rfl ?_
    refine g_aload_n h 0 dX5_both_10 rfl rfl ?_
    refine g_get h 1 fa_X5_15 dX5_both_11 r0 rfl ?_
    refine g_iload_n h 2 dX5_both_14 rfl rfl ?_
    refine g_callS h [] (c_X5_rowOf_out (xL X) E _ a2 rP (by omega) ha2) cf_X5_60 cs_X5_rowOf dX5_both_15 rfl rfl (Nat.le_of_ble_eq_true rfl) ⟨(Nat.le_of_ble_eq_true rfl), (Nat.le_of_ble_eq_true rfl)⟩ ⟨(Nat.le_of_ble_eq_true rfl), (Nat.le_of_ble_eq_true rfl)⟩ ?_
    refine kk_det ?_
    refine g_astoreN (vs' := [_, _, _, _, _, _, _, _, _]) h dX5_both_18 (Nat.le_of_ble_eq_true rfl) rfl rfl ?_
    refine g_aload_n h 0 dX5_both_20 rfl rfl ?_
    refine g_get h 1 fa_X5_15 dX5_both_21 r0 rfl ?_
    refine g_iload_n h 3 dX5_both_24 rfl rfl ?_
    refine g_callS h [] (c_X5_rowOf_in (xL X) E _ rP (by omega) (i := u) (by omega) (eP u (by omega))) cf_X5_60 cs_X5_rowOf dX5_both_25 rfl rfl (Nat.le_of_ble_eq_true rfl) ⟨(Nat.le_of_ble_eq_true rfl), (Nat.le_of_ble_eq_true rfl)⟩ ⟨(Nat.le_of_ble_eq_true rfl), (Nat.le_of_ble_eq_true rfl)⟩ ?_
    refine kk_det ?_
    refine g_astore (vs' := [_, _, _, _, _, _, _, _, _]) h dX5_both_28 (Nat.le_of_ble_eq_true rfl) rfl rfl ?_
    refine g_aloadN h dX5_both_30 rfl ?_
    refine g_ifnullN h 45 dX5_both_32 (by decide) ?_
    refine g_bipush h (-2) dX5_both_45 (by decide) ?_
    exact g_iret h hr dX5_both_47 ((fun e => ⟨by rw [e], by rw [e]; exact hR⟩) (show opBoth S a1 a2 (nI u) = (-2, S) from cif_f (fun q => ha1 q.1))) (Nat.le_of_ble_eq_true rfl) (Nat.le_of_ble_eq_true rfl)
  · skip
    refine g_aload_n h 0 dX5_both_0 rfl rfl ?_
    refine g_get h 1 fa_X5_15 dX5_both_1 r0 rfl ?_
    refine g_iload_n h 1 dX5_both_4 rfl rfl ?_
    refine g_callS h [] (c_X5_rowOf_out (xL X) E _ a1 rP (by omega) ha1) cf_X5_60 cs_X5_rowOf dX5_both_5 rfl rfl (Nat.le_of_ble_eq_true rfl) ⟨(Nat.le_of_ble_eq_true rfl), (Nat.le_of_ble_eq_true rfl)⟩ ⟨(Nat.le_of_ble_eq_true rfl), (Nat.le_of_ble_eq_true rfl)⟩ ?_
    refine kk_det ?_
    refine g_astoreN (vs' := [_, _, _, _, _, _, _, _, _]) h dX5_both_8 (Nat.le_of_ble_eq_true rfl) rfl rfl ?_
    refine g_aload_n h 0 dX5_both_10 rfl rfl ?_
    refine g_get h 1 fa_X5_15 dX5_both_11 r0 rfl ?_
    refine g_iload_n h 2 dX5_both_14 rfl rfl ?_
    refine g_callS h [] (c_X5_rowOf_out (xL X) E _ a2 rP (by omega) ha2) cf_X5_60 cs_X5_rowOf dX5_both_15 rfl rfl (Nat.le_of_ble_eq_true rfl) ⟨(Nat.le_of_ble_eq_true rfl), (Nat.le_of_ble_eq_true rfl)⟩ ⟨(Nat.le_of_ble_eq_true rfl), (Nat.le_of_ble_eq_true rfl)⟩ ?_
    refine kk_det ?_
    refine g_astoreN (vs' := [_, _, _, _, _, _, _, _, _]) h dX5_both_18 (Nat.le_of_ble_eq_true rfl) rfl rfl ?_
    refine g_aload_n h 0 dX5_both_20 rfl rfl ?_
    refine g_get h 1 fa_X5_15 dX5_both_21 r0 rfl ?_
    refine g_iload_n h 3 dX5_both_24 rfl rfl ?_
    refine g_callS h [] (c_X5_rowOf_out (xL X) E _ a3 rP (by omega) ha3) cf_X5_60 cs_X5_rowOf dX5_both_25 rfl rfl (Nat.le_of_ble_eq_true rfl) ⟨(Nat.le_of_ble_eq_true rfl), (Nat.le_of_ble_eq_true rfl)⟩ ⟨(Nat.le_of_ble_eq_true rfl), (Nat.le_of_ble_eq_true rfl)⟩ ?_
    refine kk_det ?_
    refine g_astoreN (vs' := [_, _, _, _, _, _, _, _, _]) h dX5_both_28 (Nat.le_of_ble_eq_true rfl) rfl rfl ?_
    refine g_aloadN h dX5_both_30 rfl ?_
    refine g_ifnullN h 45 dX5_both_32 (by decide) ?_
    refine g_bipush h (-2) dX5_both_45 (by decide) ?_
    exact g_iret h hr dX5_both_47 ((fun e => ⟨by rw [e], by rw [e]; exact hR⟩) (show opBoth S a1 a2 a3 = (-2, S) from cif_f (fun q => ha1 q.1))) (Nat.le_of_ble_eq_true rfl) (Nat.le_of_ble_eq_true rfl)
