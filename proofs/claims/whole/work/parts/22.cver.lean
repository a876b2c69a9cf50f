abbrev rm_X5_put : Room := { frames := 2, cells := 0, slots := 0, locals := 43 }
set_option maxRecDepth 100000 in
set_option maxHeartbeats 4000000 in
theorem C_put (lau : Launch) (E : EnvD) (σ : Sto) {z : Nat} {S : PSt} (hI : Inv S) (hR : RepC E z S σ) (a1 a2 a3 : Int32) : CC lau yX5_put cX5_put 5 (some .int) rm_X5_put E [.ref z, .int a1, .int a2, .int a3] σ (fun o s => o = some (.int (opPut S a1 a2 a3).1) ∧ RepC E z (opPut S a1 a2 a3).2 s) := by
  refine cc_of (vs := [_, _, _, _, _]) (by decide) (Nat.le_of_ble_eq_true rfl) rfl ?_
  intro X h hr hn
  obtain ⟨r0, ⟨fV, rV, eV⟩, ⟨fP, rP, eP⟩, ⟨fC, rC, eC⟩, ⟨fR, rR, eR⟩, ⟨fM, rM, eM⟩, rCh, rT, rO, ⟨nE, gE, hE, rE⟩, rows, prows⟩ := id hR
  by_cases ha1 : inR a1 8
  · skip
    obtain ⟨a, ha, rfl⟩ := ha1
    have ea : cl (nI a) = a := cl_nI (by omega)
    have hn40 := (hI.1 a ha).1
    refine g_aload_n h 0 dX5_put_0 rfl rfl ?_
    refine g_get h 0 fa_X5_11 dX5_put_1 r0 rfl ?_
    refine g_iload_n h 1 dX5_put_4 rfl rfl ?_
    refine g_callS h [] (c_X5_rowOf_in (xL X) E _ rV (by omega) (i := a) (by omega) (eV a (by omega))) cf_X5_60 cs_X5_rowOf dX5_put_5 rfl rfl (Nat.le_of_ble_eq_true rfl) ⟨(Nat.le_of_ble_eq_true rfl), (Nat.le_of_ble_eq_true rfl)⟩ ⟨(Nat.le_of_ble_eq_true rfl), (Nat.le_of_ble_eq_true rfl)⟩ ?_
    refine kk_det ?_
    refine g_astore (vs' := [_, _, _, _, _]) h dX5_put_8 (Nat.le_of_ble_eq_true rfl) rfl rfl ?_
    refine g_aload h dX5_put_10 rfl ?_
    refine g_ifnull h dX5_put_12 ?_
    refine g_iload_n h 2 dX5_put_15 rfl rfl ?_
    refine g_if_lt h 35 dX5_put_16 (by decide) (fun c16_1 => ?_) (fun c16_1 => ?_)
    · skip
      refine g_bipush h (-2) dX5_put_35 (by decide) ?_
      exact g_iret h hr dX5_put_37 ((fun e => ⟨by rw [e], by rw [e]; exact hR⟩) (show opPut S (nI a) a2 a3 = (-2, S) from cif_f (fun q => (by rw [ea] at q; exact inR_neg c16_1 (by omega) q.2.1)))) (Nat.le_of_ble_eq_true rfl) (Nat.le_of_ble_eq_true rfl)
    · skip
      refine g_iload_n h 2 dX5_put_19 rfl rfl ?_
      refine g_aload h dX5_put_20 rfl ?_
      refine g_get h 1 fa_X5_64 dX5_put_22 (rows a ha).1 rfl ?_
      refine g_icmp_gt h 35 dX5_put_25 (by decide) (fun c25_2 => ?_) (fun c25_2 => ?_)
      · skip
        refine g_bipush h (-2) dX5_put_35 (by decide) ?_
        exact g_iret h hr dX5_put_37 ((fun e => ⟨by rw [e], by rw [e]; exact hR⟩) (show opPut S (nI a) a2 a3 = (-2, S) from cif_f (fun q => inR_gt c25_2 rfl (by omega) (ea ▸ q.2.1)))) (Nat.le_of_ble_eq_true rfl) (Nat.le_of_ble_eq_true rfl)
      · skip
        refine g_iload_n h 3 dX5_put_28 rfl rfl ?_
        refine g_callS h [] (c_X5_isLine (xL X) E _ a3) cf_X5_67 cs_X5_isLine dX5_put_29 rfl rfl (Nat.le_of_ble_eq_true rfl) ⟨(Nat.le_of_ble_eq_true rfl), (Nat.le_of_ble_eq_true rfl)⟩ ⟨(Nat.le_of_ble_eq_true rfl), (Nat.le_of_ble_eq_true rfl)⟩ ?_
        refine kk_det ?_
        refine g_if_neB h 38 dX5_put_32 (by decide) (fun c32_3 => ?_) (fun c32_3 => ?_)
        · skip
          have hb8 := inR_of2 c16_1 c25_2 rfl (by omega)
          obtain ⟨b, hb, rfl⟩ := hb8
          obtain ⟨y, hy, rfl⟩ := c32_3
          have eb : cl (nI b) = b := cl_nI (by omega)
          have ey : cl (nI y) = y := cl_nI (by omega)
          refine g_aload h dX5_put_38 rfl ?_
          refine g_callV h [] (r_isFull (xL X) (rows a ha) (hI.1 a ha).1) cf_X5_71 cv_X2_isFull dX5_put_40 rfl (rows a ha).1 rfl rfl (Nat.le_of_ble_eq_true rfl) ⟨(Nat.le_of_ble_eq_true rfl), (Nat.le_of_ble_eq_true rfl)⟩ ⟨(Nat.le_of_ble_eq_true rfl), (Nat.le_of_ble_eq_true rfl)⟩ ?_
          refine kk_det ?_
          refine g_if_eqB h 49 dX5_put_43 (by decide) (fun c43_4 => ?_) (fun c43_4 => ?_)
          · skip
            refine g_aload h dX5_put_49 rfl ?_
            refine g_iload_n h 2 dX5_put_51 rfl rfl ?_
            refine g_iload_n h 3 dX5_put_52 rfl rfl ?_
            refine g_callV h [] (r_insert (xL X) (rows a ha) (i := b) (nI y) (by omega) (by omega)) cf_X5_75 cv_X2_insert dX5_put_53 rfl (rows a ha).1 rfl rfl (Nat.le_of_ble_eq_true rfl) ⟨(Nat.le_of_ble_eq_true rfl), (Nat.le_of_ble_eq_true rfl)⟩ ⟨(Nat.le_of_ble_eq_true rfl), (Nat.le_of_ble_eq_true rfl)⟩ ?_
            rintro _ s2 ⟨rfl, hch, hri⟩
            refine g_aload h dX5_put_56 rfl ?_
            refine g_get h 1 fa_X5_64 dX5_put_58 hri.1 rfl ?_
            exact g_iret h hr dX5_put_61 ((fun e => ⟨by rw [e], by rw [e]; exact hR.rowV ha hch (hri.cong (fun q hq => congrFun insF_nI q))⟩) (show opPut S (nI a) (nI b) (nI y) = (nI (sVn S a + 1), setV S a (sVn S a + 1) (insN (sVl S a) (sVn S a) b y)) from by unfold opPut; rw [cif_t ⟨⟨a, ha, rfl⟩, ⟨b, by rw [ea]; exact hb, rfl⟩, ⟨y, hy, rfl⟩⟩, cif_f (by rw [ea]; omega), ea, eb, ey])) (Nat.le_of_ble_eq_true rfl) (Nat.le_of_ble_eq_true rfl)
          · skip
            refine g_bipush h (-4) dX5_put_46 (by decide) ?_
            exact g_iret h hr dX5_put_48 ((fun e => ⟨by rw [e], by rw [e]; exact hR⟩) (show opPut S (nI a) (nI b) (nI y) = (-4, S) from by unfold opPut; rw [cif_t ⟨⟨a, ha, rfl⟩, ⟨b, by rw [ea]; exact hb, rfl⟩, ⟨y, hy, rfl⟩⟩, cif_t (by rw [ea]; omega)])) (Nat.le_of_ble_eq_true rfl) (Nat.le_of_ble_eq_true rfl)
        · skip
          refine g_bipush h (-2) dX5_put_35 (by decide) ?_
          exact g_iret h hr dX5_put_37 ((fun e => ⟨by rw [e], by rw [e]; exact hR⟩) (show opPut S (nI a) a2 a3 = (-2, S) from cif_f (fun q => c32_3 q.2.2))) (Nat.le_of_ble_eq_true rfl) (Nat.le_of_ble_eq_true rfl)
  · skip
    refine g_aload_n h 0 dX5_put_0 rfl rfl ?_
    refine g_get h 0 fa_X5_11 dX5_put_1 r0 rfl ?_
    refine g_iload_n h 1 dX5_put_4 rfl rfl ?_
    refine g_callS h [] (c_X5_rowOf_out (xL X) E _ a1 rV (by omega) ha1) cf_X5_60 cs_X5_rowOf dX5_put_5 rfl rfl (Nat.le_of_ble_eq_true rfl) ⟨(Nat.le_of_ble_eq_true rfl), (Nat.le_of_ble_eq_true rfl)⟩ ⟨(Nat.le_of_ble_eq_true rfl), (Nat.le_of_ble_eq_true rfl)⟩ ?_
    refine kk_det ?_
    refine g_astoreN (vs' := [_, _, _, _, _]) h dX5_put_8 (Nat.le_of_ble_eq_true rfl) rfl rfl ?_
    refine g_aloadN h dX5_put_10 rfl ?_
    refine g_ifnullN h 35 dX5_put_12 (by decide) ?_
    refine g_bipush h (-2) dX5_put_35 (by decide) ?_
    exact g_iret h hr dX5_put_37 ((fun e => ⟨by rw [e], by rw [e]; exact hR⟩) (show opPut S a1 a2 a3 = (-2, S) from cif_f (fun q => ha1 q.1))) (Nat.le_of_ble_eq_true rfl) (Nat.le_of_ble_eq_true rfl)
abbrev rm_X5_take : Room := { frames := 2, cells := 0, slots := 0, locals := 43 }
set_option maxRecDepth 100000 in
set_option maxHeartbeats 4000000 in
theorem C_take (lau : Launch) (E : EnvD) (σ : Sto) {z : Nat} {S : PSt} (hI : Inv S) (hR : RepC E z S σ) (a1 a2 : Int32) : CC lau yX5_take cX5_take 5 (some .int) rm_X5_take E [.ref z, .int a1, .int a2] σ (fun o s => o = some (.int (opTake S a1 a2).1) ∧ RepC E z (opTake S a1 a2).2 s) := by
  refine cc_of (vs := [_, _, _, _, _]) (by decide) (Nat.le_of_ble_eq_true rfl) rfl ?_
  intro X h hr hn
  obtain ⟨r0, ⟨fV, rV, eV⟩, ⟨fP, rP, eP⟩, ⟨fC, rC, eC⟩, ⟨fR, rR, eR⟩, ⟨fM, rM, eM⟩, rCh, rT, rO, ⟨nE, gE, hE, rE⟩, rows, prows⟩ := id hR
  by_cases ha1 : inR a1 8
  · skip
    obtain ⟨a, ha, rfl⟩ := ha1
    have ea : cl (nI a) = a := cl_nI (by omega)
    have hn40 := (hI.1 a ha).1
    refine g_aload_n h 0 dX5_take_0 rfl rfl ?_
    refine g_get h 0 fa_X5_11 dX5_take_1 r0 rfl ?_
    refine g_iload_n h 1 dX5_take_4 rfl rfl ?_
    refine g_callS h [] (c_X5_rowOf_in (xL X) E _ rV (by omega) (i := a) (by omega) (eV a (by omega))) cf_X5_60 cs_X5_rowOf dX5_take_5 rfl rfl (Nat.le_of_ble_eq_true rfl) ⟨(Nat.le_of_ble_eq_true rfl), (Nat.le_of_ble_eq_true rfl)⟩ ⟨(Nat.le_of_ble_eq_true rfl), (Nat.le_of_ble_eq_true rfl)⟩ ?_
    refine kk_det ?_
    refine g_astore_n (vs' := [_, _, _, _, _]) h 3 dX5_take_8 rfl (Nat.le_of_ble_eq_true rfl) rfl rfl ?_
    refine g_aload_n h 3 dX5_take_9 rfl rfl ?_
    refine g_ifnull h dX5_take_10 ?_
    refine g_aload_n h 3 dX5_take_13 rfl rfl ?_
    refine g_iload_n h 2 dX5_take_14 rfl rfl ?_
    refine g_callV h [] (r_has (xL X) (rows a ha) (hI.1 a ha).1 a2) cf_X5_79 cv_X2_has dX5_take_15 rfl (rows a ha).1 rfl rfl (Nat.le_of_ble_eq_true rfl) ⟨(Nat.le_of_ble_eq_true rfl), (Nat.le_of_ble_eq_true rfl)⟩ ⟨(Nat.le_of_ble_eq_true rfl), (Nat.le_of_ble_eq_true rfl)⟩ ?_
    refine kk_det ?_
    refine g_if_neB h 24 dX5_take_18 (by decide) (fun c18_1 => ?_) (fun c18_1 => ?_)
    · skip
      obtain ⟨b, hb, rfl⟩ := c18_1
      have eb : cl (nI b) = b := cl_nI (by omega)
      refine g_aload_n h 3 dX5_take_24 rfl rfl ?_
      refine g_iload_n h 2 dX5_take_25 rfl rfl ?_
      refine g_callV h [] (r_at (xL X) (rows a ha) (hI.1 a ha).1 (nI b)) cf_X5_82 cv_X2_at dX5_take_26 rfl (rows a ha).1 rfl rfl (Nat.le_of_ble_eq_true rfl) ⟨(Nat.le_of_ble_eq_true rfl), (Nat.le_of_ble_eq_true rfl)⟩ ⟨(Nat.le_of_ble_eq_true rfl), (Nat.le_of_ble_eq_true rfl)⟩ ?_
      refine kk_det ?_
      refine g_top (atV_in (by omega) (by omega)) ?_
      refine g_istore (vs' := [_, _, _, _, _]) h dX5_take_29 (Nat.le_of_ble_eq_true rfl) rfl rfl ?_
      refine g_aload_n h 3 dX5_take_31 rfl rfl ?_
      refine g_iload_n h 2 dX5_take_32 rfl rfl ?_
      refine g_callV h [] (r_remove (xL X) (rows a ha) hn40 (i := b) (by omega)) cf_X5_86 cv_X2_remove dX5_take_33 rfl (rows a ha).1 rfl rfl (Nat.le_of_ble_eq_true rfl) ⟨(Nat.le_of_ble_eq_true rfl), (Nat.le_of_ble_eq_true rfl)⟩ ⟨(Nat.le_of_ble_eq_true rfl), (Nat.le_of_ble_eq_true rfl)⟩ ?_
      rintro _ s2 ⟨rfl, hch, hri⟩
      refine g_iload h dX5_take_36 rfl ?_
      exact g_iret h hr dX5_take_38 ((fun e => ⟨by rw [e], by rw [e]; exact hR.rowV ha hch (hri.cong (fun q hq => congrFun remF_nI q))⟩) (show opTake S (nI a) (nI b) = (nI (sVl S a b), setV S a (sVn S a - 1) (remN (sVl S a) (sVn S a) b)) from by unfold opTake; rw [cif_t ⟨⟨a, ha, rfl⟩, ⟨b, by rw [ea]; exact hb, rfl⟩⟩, ea, eb])) (Nat.le_of_ble_eq_true rfl) (Nat.le_of_ble_eq_true rfl)
    · skip
      refine g_bipush h (-2) dX5_take_21 (by decide) ?_
      exact g_iret h hr dX5_take_23 ((fun e => ⟨by rw [e], by rw [e]; exact hR⟩) (show opTake S (nI a) a2 = (-2, S) from cif_f (fun q => c18_1 (ea ▸ q.2)))) (Nat.le_of_ble_eq_true rfl) (Nat.le_of_ble_eq_true rfl)
  · skip
    refine g_aload_n h 0 dX5_take_0 rfl rfl ?_
    refine g_get h 0 fa_X5_11 dX5_take_1 r0 rfl ?_
    refine g_iload_n h 1 dX5_take_4 rfl rfl ?_
    refine g_callS h [] (c_X5_rowOf_out (xL X) E _ a1 rV (by omega) ha1) cf_X5_60 cs_X5_rowOf dX5_take_5 rfl rfl (Nat.le_of_ble_eq_true rfl) ⟨(Nat.le_of_ble_eq_true rfl), (Nat.le_of_ble_eq_true rfl)⟩ ⟨(Nat.le_of_ble_eq_true rfl), (Nat.le_of_ble_eq_true rfl)⟩ ?_
    refine kk_det ?_
    refine g_astore_nN (vs' := [_, _, _, _, _]) h 3 dX5_take_8 rfl (Nat.le_of_ble_eq_true rfl) rfl rfl ?_
    refine g_aload_nN h 3 dX5_take_9 rfl rfl ?_
    refine g_ifnullN h 21 dX5_take_10 (by decide) ?_
    refine g_bipush h (-2) dX5_take_21 (by decide) ?_
    exact g_iret h hr dX5_take_23 ((fun e => ⟨by rw [e], by rw [e]; exact hR⟩) (show opTake S a1 a2 = (-2, S) from cif_f (fun q => ha1 q.1))) (Nat.le_of_ble_eq_true rfl) (Nat.le_of_ble_eq_true rfl)
abbrev rm_X5_copy : Room := { frames := 3, cells := 0, slots := 0, locals := 64 }
set_option maxRecDepth 100000 in
set_option maxHeartbeats 4000000 in
theorem C_copy (lau : Launch) (E : EnvD) (σ : Sto) {z : Nat} {S : PSt} (hI : Inv S) (hR : RepC E z S σ) (a1 a2 : Int32) : CC lau yX5_copy cX5_copy 5 (some .int) rm_X5_copy E [.ref z, .int a1, .int a2] σ (fun o s => o = some (.int (opCopy S a1 a2).1) ∧ RepC E z (opCopy S a1 a2).2 s) := by
  refine cc_of (vs := [_, _, _, _, _]) (by decide) (Nat.le_of_ble_eq_true rfl) rfl ?_
  intro X h hr hn
  obtain ⟨r0, ⟨fV, rV, eV⟩, ⟨fP, rP, eP⟩, ⟨fC, rC, eC⟩, ⟨fR, rR, eR⟩, ⟨fM, rM, eM⟩, rCh, rT, rO, ⟨nE, gE, hE, rE⟩, rows, prows⟩ := id hR
  by_cases ha1 : inR a1 8 <;> by_cases ha2 : inR a2 8
  · skip
    obtain ⟨a, ha, rfl⟩ := ha1
    obtain ⟨b, hb, rfl⟩ := ha2
    have ea : cl (nI a) = a := cl_nI (by omega)
    have eb : cl (nI b) = b := cl_nI (by omega)
    have hna := (hI.1 a ha).1
    have hnb := (hI.1 b hb).1
    refine g_aload_n h 0 dX5_copy_0 rfl rfl ?_
    refine g_get h 0 fa_X5_11 dX5_copy_1 r0 rfl ?_
    refine g_iload_n h 1 dX5_copy_4 rfl rfl ?_
    refine g_callS h [] (c_X5_rowOf_in (xL X) E _ rV (by omega) (i := a) (by omega) (eV a (by omega))) cf_X5_60 cs_X5_rowOf dX5_copy_5 rfl rfl (Nat.le_of_ble_eq_true rfl) ⟨(Nat.le_of_ble_eq_true rfl), (Nat.le_of_ble_eq_true rfl)⟩ ⟨(Nat.le_of_ble_eq_true rfl), (Nat.le_of_ble_eq_true rfl)⟩ ?_
    refine kk_det ?_
    refine g_astore_n (vs' := [_, _, _, _, _]) h 3 dX5_copy_8 rfl (Nat.le_of_ble_eq_true rfl) rfl rfl ?_
    refine g_aload_n h 0 dX5_copy_9 rfl rfl ?_
    refine g_get h 0 fa_X5_11 dX5_copy_10 r0 rfl ?_
    refine g_iload_n h 2 dX5_copy_13 rfl rfl ?_
    refine g_callS h [] (c_X5_rowOf_in (xL X) E _ rV (by omega) (i := b) (by omega) (eV b (by omega))) cf_X5_60 cs_X5_rowOf dX5_copy_14 rfl rfl (Nat.le_of_ble_eq_true rfl) ⟨(Nat.le_of_ble_eq_true rfl), (Nat.le_of_ble_eq_true rfl)⟩ ⟨(Nat.le_of_ble_eq_true rfl), (Nat.le_of_ble_eq_true rfl)⟩ ?_
    refine kk_det ?_
    refine g_astore (vs' := [_, _, _, _, _]) h dX5_copy_17 (Nat.le_of_ble_eq_true rfl) rfl rfl ?_
    refine g_aload_n h 3 dX5_copy_19 rfl rfl ?_
    refine g_ifnull h dX5_copy_20 ?_
    refine g_aload h dX5_copy_23 rfl ?_
    refine g_ifnonnull h 31 dX5_copy_25 (by decide) ?_
    refine g_aload h dX5_copy_31 rfl ?_
    refine g_aload_n h 3 dX5_copy_33 rfl rfl ?_
    refine g_callV h [] (r_become (xL X) (rows b hb) hnb (rows a ha) hna) cf_X5_90 cv_X2_become dX5_copy_34 rfl (rows b hb).1 rfl rfl (Nat.le_of_ble_eq_true rfl) ⟨(Nat.le_of_ble_eq_true rfl), (Nat.le_of_ble_eq_true rfl)⟩ ⟨(Nat.le_of_ble_eq_true rfl), (Nat.le_of_ble_eq_true rfl)⟩ ?_
    rintro _ s2 ⟨rfl, hch, hri⟩
    refine g_aload h dX5_copy_37 rfl ?_
    refine g_get h 1 fa_X5_64 dX5_copy_39 hri.1 rfl ?_
    exact g_iret h hr dX5_copy_42 ((fun e => ⟨by rw [e], by rw [e]; exact hR.rowV hb hch hri⟩) (show opCopy S (nI a) (nI b) = (nI (sVn S a), setV S b (sVn S a) (sVl S a)) from by unfold opCopy; rw [cif_t ⟨⟨a, ha, rfl⟩, ⟨b, hb, rfl⟩⟩, ea, eb])) (Nat.le_of_ble_eq_true rfl) (Nat.le_of_ble_eq_true rfl)
  · skip
    obtain ⟨a, ha, rfl⟩ := ha1
    refine g_aload_n h 0 dX5_copy_0 rfl rfl ?_
    refine g_get h 0 fa_X5_11 dX5_copy_1 r0 rfl ?_
    refine g_iload_n h 1 dX5_copy_4 rfl rfl ?_
    refine g_callS h [] (c_X5_rowOf_in (xL X) E _ rV (by omega) (i := a) (by omega) (eV a (by omega))) cf_X5_60 cs_X5_rowOf dX5_copy_5 rfl rfl (Nat.le_of_ble_eq_true rfl) ⟨(Nat.le_of_ble_eq_true rfl), (Nat.le_of_ble_eq_true rfl)⟩ ⟨(Nat.le_of_ble_eq_true rfl), (Nat.le_of_ble_eq_true rfl)⟩ ?_
    refine kk_det ?_
    refine g_astore_n (vs' := [_, _, _, _, _]) h 3 dX5_copy_8 rfl (Nat.le_of_ble_eq_true rfl) rfl rfl ?_
    refine g_aload_n h 0 dX5_copy_9 rfl rfl ?_
    refine g_get h 0 fa_X5_11 dX5_copy_10 r0 rfl ?_
    refine g_iload_n h 2 dX5_copy_13 rfl rfl ?_
    refine g_callS h [] (c_X5_rowOf_out (xL X) E _ a2 rV (by omega) ha2) cf_X5_60 cs_X5_rowOf dX5_copy_14 rfl rfl (Nat.le_of_ble_eq_true rfl) ⟨(Nat.le_of_ble_eq_true rfl), (Nat.le_of_ble_eq_true rfl)⟩ ⟨(Nat.le_of_ble_eq_true rfl), (Nat.le_of_ble_eq_true rfl)⟩ ?_
    refine kk_det ?_
    refine g_astoreN (vs' := [_, _, _, _, _]) h dX5_copy_17 (Nat.le_of_ble_eq_true rfl) rfl rfl ?_
    refine g_aload_n h 3 dX5_copy_19 rfl rfl ?_
    refine g_ifnull h dX5_copy_20 ?_
    refine g_aloadN h dX5_copy_23 rfl ?_
    refine g_ifnonnullN h dX5_copy_25 ?_
    refine g_bipush h (-2) dX5_copy_28 (by decide) ?_
    exact g_iret h hr dX5_copy_30 ((fun e => ⟨by rw [e], by rw [e]; exact hR⟩) (show opCopy S (nI a) a2 = (-2, S) from cif_f (fun q => ha2 q.2))) (Nat.le_of_ble_eq_true rfl) (Nat.le_of_ble_eq_true rfl)
  · skip
    obtain ⟨b, hb, rfl⟩ := ha2
    refine g_aload_n h 0 dX5_copy_0 rfl rfl ?_
    refine g_get h 0 fa_X5_11 dX5_copy_1 r0 rfl ?_
    refine g_iload_n h 1 dX5_copy_4 rfl rfl ?_
    refine g_callS h [] (c_X5_rowOf_out (xL X) E _ a1 rV (by omega) ha1) cf_X5_60 cs_X5_rowOf dX5_copy_5 rfl rfl (Nat.le_of_ble_eq_true rfl) ⟨(Nat.le_of_ble_eq_true rfl), (Nat.le_of_ble_eq_true rfl)⟩ ⟨(Nat.le_of_ble_eq_true rfl), (Nat.le_of_ble_eq_true rfl)⟩ ?_
    refine kk_det ?_
    refine g_astore_nN (vs' := [_, _, _, _, _]) h 3 dX5_copy_8 rfl (Nat.le_of_ble_eq_true rfl) rfl rfl ?_
    refine g_aload_n h 0 dX5_copy_9 rfl rfl ?_
    refine g_get h 0 fa_X5_11 dX5_copy_10 r0 rfl ?_
    refine g_iload_n h 2 dX5_copy_13 rfl rfl ?_
    refine g_callS h [] (c_X5_rowOf_in (xL X) E _ rV (by omega) (i := b) (by omega) (eV b (by omega))) cf_X5_60 cs_X5_rowOf dX5_copy_14 rfl rfl (Nat.le_of_ble_eq_true rfl) ⟨(Nat.le_of_ble_eq_true rfl), (Nat.le_of_ble_eq_true rfl)⟩ ⟨(Nat.le_of_ble_eq_true rfl), (Nat.le_of_ble_eq_true rfl)⟩ ?_
    refine kk_det ?_
    refine g_astore (vs' := [_, _, _, _, _]) h dX5_copy_17 (Nat.le_of_ble_eq_true rfl) rfl rfl ?_
    refine g_aload_nN h 3 dX5_copy_19 rfl rfl ?_
    refine g_ifnullN h 28 dX5_copy_20 (by decide) ?_
    refine g_bipush h (-2) dX5_copy_28 (by decide) ?_
    exact g_iret h hr dX5_copy_30 ((fun e => ⟨by rw [e], by rw [e]; exact hR⟩) (show opCopy S a1 (nI b) = (-2, S) from cif_f (fun q => ha1 q.1))) (Nat.le_of_ble_eq_true rfl) (Nat.le_of_ble_eq_true rfl)
  · skip
    refine g_aload_n h 0 dX5_copy_0 rfl rfl ?_
    refine g_get h 0 fa_X5_11 dX5_copy_1 r0 rfl ?_
    refine g_iload_n h 1 dX5_copy_4 rfl rfl ?_
    refine g_callS h [] (c_X5_rowOf_out (xL X) E _ a1 rV (by omega) ha1) cf_X5_60 cs_X5_rowOf dX5_copy_5 rfl rfl (Nat.le_of_ble_eq_true rfl) ⟨(Nat.le_of_ble_eq_true rfl), (Nat.le_of_ble_eq_true rfl)⟩ ⟨(Nat.le_of_ble_eq_true rfl), (Nat.le_of_ble_eq_true rfl)⟩ ?_
    refine kk_det ?_
    refine g_astore_nN (vs' := [_, _, _, _, _]) h 3 dX5_copy_8 rfl (Nat.le_of_ble_eq_true rfl) rfl rfl ?_
    refine g_aload_n h 0 dX5_copy_9 rfl rfl ?_
    refine g_get h 0 fa_X5_11 dX5_copy_10 r0 rfl ?_
    refine g_iload_n h 2 dX5_copy_13 rfl rfl ?_
    refine g_callS h [] (c_X5_rowOf_out (xL X) E _ a2 rV (by omega) ha2) cf_X5_60 cs_X5_rowOf dX5_copy_14 rfl rfl (Nat.le_of_ble_eq_true rfl) ⟨(Nat.le_of_ble_eq_true rfl), (Nat.le_of_ble_eq_true rfl)⟩ ⟨(Nat.le_of_ble_eq_true rfl), (Nat.le_of_ble_eq_true rfl)⟩ ?_
    refine kk_det ?_
    refine g_astoreN (vs' := [_, _, _, _, _]) h dX5_copy_17 (Nat.le_of_ble_eq_true rfl) rfl rfl ?_
    refine g_aload_nN h 3 dX5_copy_19 rfl rfl ?_
    refine g_ifnullN h 28 dX5_copy_20 (by decide) ?_
    refine g_bipush h (-2) dX5_copy_28 (by decide) ?_
    exact g_iret h hr dX5_copy_30 ((fun e => ⟨by rw [e], by rw [e]; exact hR⟩) (show opCopy S a1 a2 = (-2, S) from cif_f (fun q => ha1 q.1))) (Nat.le_of_ble_eq_true rfl) (Nat.le_of_ble_eq_true rfl)
abbrev rm_X5_lineAt : Room := { frames := 2, cells := 0, slots := 0, locals := 42 }
set_option maxRecDepth 100000 in
set_option maxHeartbeats 4000000 in
theorem C_lineAt (lau : Launch) (E : EnvD) (σ : Sto) {z : Nat} {S : PSt} (hI : Inv S) (hR : RepC E z S σ) (a1 a2 : Int32) : CC lau yX5_lineAt cX5_lineAt 4 (some .int) rm_X5_lineAt E [.ref z, .int a1, .int a2] σ (fun o s => o = some (.int (opLineAt S a1 a2).1) ∧ RepC E z (opLineAt S a1 a2).2 s) := by
  refine cc_of (vs := [_, _, _, _]) (by decide) (Nat.le_of_ble_eq_true rfl) rfl ?_
  intro X h hr hn
  obtain ⟨r0, ⟨fV, rV, eV⟩, ⟨fP, rP, eP⟩, ⟨fC, rC, eC⟩, ⟨fR, rR, eR⟩, ⟨fM, rM, eM⟩, rCh, rT, rO, ⟨nE, gE, hE, rE⟩, rows, prows⟩ := id hR
  by_cases ha1 : inR a1 8
  · skip
    obtain ⟨a, ha, rfl⟩ := ha1
    have ea : cl (nI a) = a := cl_nI (by omega)
    refine g_aload_n h 0 dX5_lineAt_0 rfl rfl ?_
    refine g_get h 0 fa_X5_11 dX5_lineAt_1 r0 rfl ?_
    refine g_iload_n h 1 dX5_lineAt_4 rfl rfl ?_
    refine g_callS h [] (c_X5_rowOf_in (xL X) E _ rV (by omega) (i := a) (by omega) (eV a (by omega))) cf_X5_60 cs_X5_rowOf dX5_lineAt_5 rfl rfl (Nat.le_of_ble_eq_true rfl) ⟨(Nat.le_of_ble_eq_true rfl), (Nat.le_of_ble_eq_true rfl)⟩ ⟨(Nat.le_of_ble_eq_true rfl), (Nat.le_of_ble_eq_true rfl)⟩ ?_
    refine kk_det ?_
    refine g_astore_n (vs' := [_, _, _, _]) h 3 dX5_lineAt_8 rfl (Nat.le_of_ble_eq_true rfl) rfl rfl ?_
    refine g_aload_n h 3 dX5_lineAt_9 rfl rfl ?_
    refine g_ifnonnull h 18 dX5_lineAt_10 (by decide) ?_
    refine g_aload_n h 3 dX5_lineAt_18 rfl rfl ?_
    refine g_iload_n h 2 dX5_lineAt_19 rfl rfl ?_
    refine g_callV h [] (r_at (xL X) (rows a ha) (hI.1 a ha).1 a2) cf_X5_82 cv_X2_at dX5_lineAt_20 rfl (rows a ha).1 rfl rfl (Nat.le_of_ble_eq_true rfl) ⟨(Nat.le_of_ble_eq_true rfl), (Nat.le_of_ble_eq_true rfl)⟩ ⟨(Nat.le_of_ble_eq_true rfl), (Nat.le_of_ble_eq_true rfl)⟩ ?_
    refine kk_det ?_
    exact g_iret h hr dX5_lineAt_23 ((fun e => ⟨by rw [e]; rfl, by rw [e]; exact hR⟩) (show opLineAt S (nI a) a2 = (atV (sVn S a) (rwV S a) a2, S) from by unfold opLineAt; rw [cif_t ⟨a, ha, rfl⟩, ea])) (Nat.le_of_ble_eq_true rfl) (Nat.le_of_ble_eq_true rfl)
  · skip
    refine g_aload_n h 0 dX5_lineAt_0 rfl rfl ?_
    refine g_get h 0 fa_X5_11 dX5_lineAt_1 r0 rfl ?_
    refine g_iload_n h 1 dX5_lineAt_4 rfl rfl ?_
    refine g_callS h [] (c_X5_rowOf_out (xL X) E _ a1 rV (by omega) ha1) cf_X5_60 cs_X5_rowOf dX5_lineAt_5 rfl rfl (Nat.le_of_ble_eq_true rfl) ⟨(Nat.le_of_ble_eq_true rfl), (Nat.le_of_ble_eq_true rfl)⟩ ⟨(Nat.le_of_ble_eq_true rfl), (Nat.le_of_ble_eq_true rfl)⟩ ?_
    refine kk_det ?_
    refine g_astore_nN (vs' := [_, _, _, _]) h 3 dX5_lineAt_8 rfl (Nat.le_of_ble_eq_true rfl) rfl rfl ?_
    refine g_aload_nN h 3 dX5_lineAt_9 rfl rfl ?_
    refine g_ifnonnullN h dX5_lineAt_10 ?_
    refine g_bipush h (-2) dX5_lineAt_13 (by decide) ?_
    refine g_goto h 23 dX5_lineAt_15 (by decide) ?_
    exact g_iret h hr dX5_lineAt_23 ((fun e => ⟨by rw [e], by rw [e]; exact hR⟩) (show opLineAt S a1 a2 = (-2, S) from by unfold opLineAt; rw [cif_f ha1])) (Nat.le_of_ble_eq_true rfl) (Nat.le_of_ble_eq_true rfl)
abbrev rm_X5_differ : Room := { frames := 4, cells := 0, slots := 0, locals := 90 }
set_option maxRecDepth 100000 in
set_option maxHeartbeats 4000000 in
theorem C_differ (lau : Launch) (E : EnvD) (σ : Sto) {z : Nat} {S : PSt} (hI : Inv S) (hR : RepC E z S σ) (a1 a2 : Int32) : CC lau yX5_differ cX5_differ 5 (some .int) rm_X5_differ E [.ref z, .int a1, .int a2] σ (fun o s => o = some (.int (opDiffer S a1 a2).1) ∧ RepC E z (opDiffer S a1 a2).2 s) := by
  refine cc_of (vs := [_, _, _, _, _]) (by decide) (Nat.le_of_ble_eq_true rfl) rfl ?_
  intro X h hr hn
  obtain ⟨r0, ⟨fV, rV, eV⟩, ⟨fP, rP, eP⟩, ⟨fC, rC, eC⟩, ⟨fR, rR, eR⟩, ⟨fM, rM, eM⟩, rCh, rT, rO, ⟨nE, gE, hE, rE⟩, rows, prows⟩ := id hR
  by_cases ha1 : inR a1 8 <;> by_cases ha2 : inR a2 8
  · skip
    obtain ⟨a, ha, rfl⟩ := ha1
    obtain ⟨b, hb, rfl⟩ := ha2
    have ea : cl (nI a) = a := cl_nI (by omega)
    have eb : cl (nI b) = b := cl_nI (by omega)
    have hna := (hI.1 a ha).1
    have hnb := (hI.1 b hb).1
    obtain ⟨gV, gV1, gV2⟩ := rCh.2.1
    refine g_aload_n h 0 dX5_differ_0 rfl rfl ?_
    refine g_get h 0 fa_X5_11 dX5_differ_1 r0 rfl ?_
    refine g_iload_n h 1 dX5_differ_4 rfl rfl ?_
    refine g_callS h [] (c_X5_rowOf_in (xL X) E _ rV (by omega) (i := a) (by omega) (eV a (by omega))) cf_X5_60 cs_X5_rowOf dX5_differ_5 rfl rfl (Nat.le_of_ble_eq_true rfl) ⟨(Nat.le_of_ble_eq_true rfl), (Nat.le_of_ble_eq_true rfl)⟩ ⟨(Nat.le_of_ble_eq_true rfl), (Nat.le_of_ble_eq_true rfl)⟩ ?_
    refine kk_det ?_
    refine g_astore_n (vs' := [_, _, _, _, _]) h 3 dX5_differ_8 rfl (Nat.le_of_ble_eq_true rfl) rfl rfl ?_
    refine g_aload_n h 0 dX5_differ_9 rfl rfl ?_
    refine g_get h 0 fa_X5_11 dX5_differ_10 r0 rfl ?_
    refine g_iload_n h 2 dX5_differ_13 rfl rfl ?_
    refine g_callS h [] (c_X5_rowOf_in (xL X) E _ rV (by omega) (i := b) (by omega) (eV b (by omega))) cf_X5_60 cs_X5_rowOf dX5_differ_14 rfl rfl (Nat.le_of_ble_eq_true rfl) ⟨(Nat.le_of_ble_eq_true rfl), (Nat.le_of_ble_eq_true rfl)⟩ ⟨(Nat.le_of_ble_eq_true rfl), (Nat.le_of_ble_eq_true rfl)⟩ ?_
    refine kk_det ?_
    refine g_astore (vs' := [_, _, _, _, _]) h dX5_differ_17 (Nat.le_of_ble_eq_true rfl) rfl rfl ?_
    refine g_aload_n h 3 dX5_differ_19 rfl rfl ?_
    refine g_ifnull h dX5_differ_20 ?_
    refine g_aload h dX5_differ_23 rfl ?_
    refine g_ifnonnull h 31 dX5_differ_25 (by decide) ?_
    refine g_aload_n h 0 dX5_differ_31 rfl rfl ?_
    refine g_get h 5 fa_X5_37 dX5_differ_32 r0 rfl ?_
    refine g_aload_n h 3 dX5_differ_35 rfl rfl ?_
    refine g_aload h dX5_differ_36 rfl ?_
    refine g_callV h [] (c_X0_compare (xL X) E _ rCh.1 gV1 gV2 (rows a ha) (rows b hb) hna hnb (by omega) (by omega) rCh.2.2) cf_X5_94 cv_X0_compare dX5_differ_38 rfl rCh.1 rfl rfl (Nat.le_of_ble_eq_true rfl) ⟨(Nat.le_of_ble_eq_true rfl), (Nat.le_of_ble_eq_true rfl)⟩ ⟨(Nat.le_of_ble_eq_true rfl), (Nat.le_of_ble_eq_true rfl)⟩ ?_
    rintro _ s2 ⟨rfl, hz2, hA, hT⟩
    have hR2 : RepC E z S s2 := hR.chg (fun a ha => hA a (by omega)) (fun i hi => by obtain ⟨g, q1, _⟩ := hT i hi; exact ⟨g, by rw [show z + 8 + i = z + 6 + 2 + i by omega]; exact q1⟩)
    refine g_aload_n h 0 dX5_differ_41 rfl rfl ?_
    refine g_get h 5 fa_X5_37 dX5_differ_42 ((hA z (by omega)).trans r0) rfl ?_
    obtain ⟨g0, q1, q2⟩ := hT 0 (by omega)
    refine g_callV h [] (c_X0_difference (xL X) E _ ((hA (z + 6) (by omega)).trans rCh.1) ((hA (z + 6 + 1) (by omega)).trans gV1) gV2 q1 (q2 0 (by omega) ⟨by omega, by omega⟩)) cf_X5_98 cv_X0_difference dX5_differ_45 rfl ((hA (z + 6) (by omega)).trans rCh.1) rfl rfl (Nat.le_of_ble_eq_true rfl) ⟨(Nat.le_of_ble_eq_true rfl), (Nat.le_of_ble_eq_true rfl)⟩ ⟨(Nat.le_of_ble_eq_true rfl), (Nat.le_of_ble_eq_true rfl)⟩ ?_
    refine kk_det ?_
    exact g_iret h hr dX5_differ_48 ((fun e => ⟨by rw [e]; rfl, by rw [e]; exact hR2⟩) (show opDiffer S (nI a) (nI b) = (nI (ed (rwV S a) (rwV S b) (sVn S a) (sVn S b) 0 0), S) from by unfold opDiffer; rw [cif_t ⟨⟨a, ha, rfl⟩, ⟨b, hb, rfl⟩⟩, ea, eb])) (Nat.le_of_ble_eq_true rfl) (Nat.le_of_ble_eq_true rfl)
  · skip
    obtain ⟨a, ha, rfl⟩ := ha1
    refine g_aload_n h 0 dX5_differ_0 rfl rfl ?_
    refine g_get h 0 fa_X5_11 dX5_differ_1 r0 rfl ?_
    refine g_iload_n h 1 dX5_differ_4 rfl rfl ?_
    refine g_callS h [] (c_X5_rowOf_in (xL X) E _ rV (by omega) (i := a) (by omega) (eV a (by omega))) cf_X5_60 cs_X5_rowOf dX5_differ_5 rfl rfl (Nat.le_of_ble_eq_true rfl) ⟨(Nat.le_of_ble_eq_true rfl), (Nat.le_of_ble_eq_true rfl)⟩ ⟨(Nat.le_of_ble_eq_true rfl), (Nat.le_of_ble_eq_true rfl)⟩ ?_
    refine kk_det ?_
    refine g_astore_n (vs' := [_, _, _, _, _]) h 3 dX5_differ_8 rfl (Nat.le_of_ble_eq_true rfl) rfl rfl ?_
    refine g_aload_n h 0 dX5_differ_9 rfl rfl ?_
    refine g_get h 0 fa_X5_11 dX5_differ_10 r0 rfl ?_
    refine g_iload_n h 2 dX5_differ_13 rfl rfl ?_
    refine g_callS h [] (c_X5_rowOf_out (xL X) E _ a2 rV (by omega) ha2) cf_X5_60 cs_X5_rowOf dX5_differ_14 rfl rfl (Nat.le_of_ble_eq_true rfl) ⟨(Nat.le_of_ble_eq_true rfl), (Nat.le_of_ble_eq_true rfl)⟩ ⟨(Nat.le_of_ble_eq_true rfl), (Nat.le_of_ble_eq_true rfl)⟩ ?_
    refine kk_det ?_
    refine g_astoreN (vs' := [_, _, _, _, _]) h dX5_differ_17 (Nat.le_of_ble_eq_true rfl) rfl rfl ?_
    refine g_aload_n h 3 dX5_differ_19 rfl rfl ?_
    refine g_ifnull h dX5_differ_20 ?_
    refine g_aloadN h dX5_differ_23 rfl ?_
    refine g_ifnonnullN h dX5_differ_25 ?_
    refine g_bipush h (-2) dX5_differ_28 (by decide) ?_
    exact g_iret h hr dX5_differ_30 ((fun e => ⟨by rw [e], by rw [e]; exact hR⟩) (show opDiffer S (nI a) a2 = (-2, S) from by unfold opDiffer; rw [cif_f (fun q => ha2 q.2)])) (Nat.le_of_ble_eq_true rfl) (Nat.le_of_ble_eq_true rfl)
  · skip
    obtain ⟨b, hb, rfl⟩ := ha2
    refine g_aload_n h 0 dX5_differ_0 rfl rfl ?_
    refine g_get h 0 fa_X5_11 dX5_differ_1 r0 rfl ?_
    refine g_iload_n h 1 dX5_differ_4 rfl rfl ?_
    refine g_callS h [] (c_X5_rowOf_out (xL X) E _ a1 rV (by omega) ha1) cf_X5_60 cs_X5_rowOf dX5_differ_5 rfl rfl (Nat.le_of_ble_eq_true rfl) ⟨(Nat.le_of_ble_eq_true rfl), (Nat.le_of_ble_eq_true rfl)⟩ ⟨(Nat.le_of_ble_eq_true rfl), (Nat.le_of_ble_eq_true rfl)⟩ ?_
    refine kk_det ?_
    refine g_astore_nN (vs' := [_, _, _, _, _]) h 3 dX5_differ_8 rfl (Nat.le_of_ble_eq_true rfl) rfl rfl ?_
    refine g_aload_n h 0 dX5_differ_9 rfl rfl ?_
    refine g_get h 0 fa_X5_11 dX5_differ_10 r0 rfl ?_
    refine g_iload_n h 2 dX5_differ_13 rfl rfl ?_
    refine g_callS h [] (c_X5_rowOf_in (xL X) E _ rV (by omega) (i := b) (by omega) (eV b (by omega))) cf_X5_60 cs_X5_rowOf dX5_differ_14 rfl rfl (Nat.le_of_ble_eq_true rfl) ⟨(Nat.le_of_ble_eq_true rfl), (Nat.le_of_ble_eq_true rfl)⟩ ⟨(Nat.le_of_ble_eq_true rfl), (Nat.le_of_ble_eq_true rfl)⟩ ?_
    refine kk_det ?_
    refine g_astore (vs' := [_, _, _, _, _]) h dX5_differ_17 (Nat.le_of_ble_eq_true rfl) rfl rfl ?_
    refine g_aload_nN h 3 dX5_differ_19 rfl rfl ?_
    refine g_ifnullN h 28 dX5_differ_20 (by decide) ?_
    refine g_bipush h (-2) dX5_differ_28 (by decide) ?_
    exact g_iret h hr dX5_differ_30 ((fun e => ⟨by rw [e], by rw [e]; exact hR⟩) (show opDiffer S a1 (nI b) = (-2, S) from by unfold opDiffer; rw [cif_f (fun q => ha1 q.1)])) (Nat.le_of_ble_eq_true rfl) (Nat.le_of_ble_eq_true rfl)
  · skip
    refine g_aload_n h 0 dX5_differ_0 rfl rfl ?_
    refine g_get h 0 fa_X5_11 dX5_differ_1 r0 rfl ?_
    refine g_iload_n h 1 dX5_differ_4 rfl rfl ?_
    refine g_callS h [] (c_X5_rowOf_out (xL X) E _ a1 rV (by omega) ha1) cf_X5_60 cs_X5_rowOf dX5_differ_5 rfl rfl (Nat.le_of_ble_eq_true rfl) ⟨(Nat.le_of_ble_eq_true rfl), (Nat.le_of_ble_eq_true rfl)⟩ ⟨(Nat.le_of_ble_eq_true rfl), (Nat.le_of_ble_eq_true rfl)⟩ ?_
    refine kk_det ?_
    refine g_astore_nN (vs' := [_, _, _, _, _]) h 3 dX5_differ_8 rfl (Nat.le_of_ble_eq_true rfl) rfl rfl ?_
    refine g_aload_n h 0 dX5_differ_9 rfl rfl ?_
    refine g_get h 0 fa_X5_11 dX5_differ_10 r0 rfl ?_
    refine g_iload_n h 2 dX5_differ_13 rfl rfl ?_
    refine g_callS h [] (c_X5_rowOf_out (xL X) E _ a2 rV (by omega) ha2) cf_X5_60 cs_X5_rowOf dX5_differ_14 rfl rfl (Nat.le_of_ble_eq_true rfl) ⟨(Nat.le_of_ble_eq_true rfl), (Nat.le_of_ble_eq_true rfl)⟩ ⟨(Nat.le_of_ble_eq_true rfl), (Nat.le_of_ble_eq_true rfl)⟩ ?_
    refine kk_det ?_
    refine g_astoreN (vs' := [_, _, _, _, _]) h dX5_differ_17 (Nat.le_of_ble_eq_true rfl) rfl rfl ?_
    refine g_aload_nN h 3 dX5_differ_19 rfl rfl ?_
    refine g_ifnullN h 28 dX5_differ_20 (by decide) ?_
    refine g_bipush h (-2) dX5_differ_28 (by decide) ?_
    exact g_iret h hr dX5_differ_30 ((fun e => ⟨by rw [e], by rw [e]; exact hR⟩) (show opDiffer S a1 a2 = (-2, S) from by unfold opDiffer; rw [cif_f (fun q => ha1 q.1)])) (Nat.le_of_ble_eq_true rfl) (Nat.le_of_ble_eq_true rfl)
abbrev rm_X5_step : Room := { frames := 4, cells := 0, slots := 0, locals := 94 }
set_option maxRecDepth 100000 in
set_option maxHeartbeats 4000000 in
theorem C_step (lau : Launch) (E : EnvD) (σ : Sto) {z : Nat} {S : PSt} (hI : Inv S) (hR : RepC E z S σ) (a1 a2 a3 : Int32) : CC lau yX5_step cX5_step 6 (some .int) rm_X5_step E [.ref z, .int a1, .int a2, .int a3] σ (fun o s => o = some (.int (opStep S a1 a2 a3).1) ∧ RepC E z (opStep S a1 a2 a3).2 s) := by
  refine cc_of (vs := [_, _, _, _, _, _]) (by decide) (Nat.le_of_ble_eq_true rfl) rfl ?_
  intro X h hr hn
  obtain ⟨r0, ⟨fV, rV, eV⟩, ⟨fP, rP, eP⟩, ⟨fC, rC, eC⟩, ⟨fR, rR, eR⟩, ⟨fM, rM, eM⟩, rCh, rT, rO, ⟨nE, gE, hE, rE⟩, rows, prows⟩ := id hR
  by_cases ha1 : inR a1 8 <;> by_cases ha2 : inR a2 8
  · skip
    obtain ⟨a, ha, rfl⟩ := ha1
    obtain ⟨b, hb, rfl⟩ := ha2
    have ea : cl (nI a) = a := cl_nI (by omega)
    have eb : cl (nI b) = b := cl_nI (by omega)
    have hna := (hI.1 a ha).1
    have hnb := (hI.1 b hb).1
    obtain ⟨gV, gV1, gV2⟩ := rCh.2.1
    have e0 : opStep S (nI a) (nI b) a3 = (stpV (rwV S a) (rwV S b) (sVn S a) (sVn S b) a3, S) := by unfold opStep; rw [cif_t ⟨⟨a, ha, rfl⟩, ⟨b, hb, rfl⟩⟩, ea, eb]
    refine g_aload_n h 0 dX5_step_0 rfl rfl ?_
    refine g_get h 0 fa_X5_11 dX5_step_1 r0 rfl ?_
    refine g_iload_n h 1 dX5_step_4 rfl rfl ?_
    refine g_callS h [] (c_X5_rowOf_in (xL X) E _ rV (by omega) (i := a) (by omega) (eV a (by omega))) cf_X5_60 cs_X5_rowOf dX5_step_5 rfl rfl (Nat.le_of_ble_eq_true rfl) ⟨(Nat.le_of_ble_eq_true rfl), (Nat.le_of_ble_eq_true rfl)⟩ ⟨(Nat.le_of_ble_eq_true rfl), (Nat.le_of_ble_eq_true rfl)⟩ ?_
    refine kk_det ?_
    refine g_astore (vs' := [_, _, _, _, _, _]) h dX5_step_8 (Nat.le_of_ble_eq_true rfl) rfl rfl ?_
    refine g_aload_n h 0 dX5_step_10 rfl rfl ?_
    refine g_get h 0 fa_X5_11 dX5_step_11 r0 rfl ?_
    refine g_iload_n h 2 dX5_step_14 rfl rfl ?_
    refine g_callS h [] (c_X5_rowOf_in (xL X) E _ rV (by omega) (i := b) (by omega) (eV b (by omega))) cf_X5_60 cs_X5_rowOf dX5_step_15 rfl rfl (Nat.le_of_ble_eq_true rfl) ⟨(Nat.le_of_ble_eq_true rfl), (Nat.le_of_ble_eq_true rfl)⟩ ⟨(Nat.le_of_ble_eq_true rfl), (Nat.le_of_ble_eq_true rfl)⟩ ?_
    refine kk_det ?_
    refine g_astore (vs' := [_, _, _, _, _, _]) h dX5_step_18 (Nat.le_of_ble_eq_true rfl) rfl rfl ?_
    refine g_aload h dX5_step_20 rfl ?_
    refine g_ifnull h dX5_step_22 ?_
    refine g_aload h dX5_step_25 rfl ?_
    refine g_ifnonnull h 33 dX5_step_27 (by decide) ?_
    refine g_iload_n h 3 dX5_step_33 rfl rfl ?_
    refine g_if_lt h 52 dX5_step_34 (by decide) (fun c34_1 => ?_) (fun c34_1 => ?_)
    · skip
      refine g_iconst h (-1) dX5_step_52 (by decide) ?_
      exact g_iret h hr dX5_step_53 (⟨by rw [e0]; exact congrArg (fun q => some (Value.int q)) (cif_f (inR_neg c34_1 (by omega))).symm, by rw [e0]; exact hR⟩) (Nat.le_of_ble_eq_true rfl) (Nat.le_of_ble_eq_true rfl)
    · skip
      refine g_iload_n h 3 dX5_step_37 rfl rfl ?_
      refine g_aload h dX5_step_38 rfl ?_
      refine g_get h 1 fa_X5_64 dX5_step_40 (rows a ha).1 rfl ?_
      refine g_aload h dX5_step_43 rfl ?_
      refine g_get h 1 fa_X5_64 dX5_step_45 (rows b hb).1 rfl ?_
      refine g_iaddN h dX5_step_48 ?_
      refine g_icmp_lt h 54 dX5_step_49 (by decide) (fun c49_2 => ?_) (fun c49_2 => ?_)
      · skip
        have ht9 : inR a3 (sVn S a + sVn S b) := inR_of c34_1 (fun z9 => absurd c49_2 (Int32.not_lt.mpr z9)) (by omega)
        obtain ⟨t, ht, rfl⟩ := ht9
        refine g_aload_n h 0 dX5_step_54 rfl rfl ?_
        refine g_get h 5 fa_X5_37 dX5_step_55 r0 rfl ?_
        refine g_aload h dX5_step_58 rfl ?_
        refine g_aload h dX5_step_60 rfl ?_
        refine g_callV h [] (c_X0_compare (xL X) E _ rCh.1 gV1 gV2 (rows a ha) (rows b hb) hna hnb (by omega) (by omega) rCh.2.2) cf_X5_94 cv_X0_compare dX5_step_62 rfl rCh.1 rfl rfl (Nat.le_of_ble_eq_true rfl) ⟨(Nat.le_of_ble_eq_true rfl), (Nat.le_of_ble_eq_true rfl)⟩ ⟨(Nat.le_of_ble_eq_true rfl), (Nat.le_of_ble_eq_true rfl)⟩ ?_
        rintro _ s2 ⟨rfl, hz2, hA, hT⟩
        have hR2 : RepC E z S s2 := hR.chg (fun a ha => hA a (by omega)) (fun i hi => by obtain ⟨g, q1, _⟩ := hT i hi; exact ⟨g, by rw [show z + 8 + i = z + 6 + 2 + i by omega]; exact q1⟩)
        refine g_aload_n h 0 dX5_step_65 rfl rfl ?_
        refine g_get h 5 fa_X5_37 dX5_step_66 ((hA z (by omega)).trans r0) rfl ?_
        refine g_aload h dX5_step_69 rfl ?_
        refine g_aload h dX5_step_71 rfl ?_
        refine g_iload_n h 3 dX5_step_73 rfl rfl ?_
        refine g_callV h [] (c_X0_stepAt (xL X) E _ ((hA (z + 6) (by omega)).trans rCh.1) ((hA (z + 6 + 1) (by omega)).trans gV1) gV2 ((rows a ha).fr (hA _ (by omega)) (hA _ (by omega))) ((rows b hb).fr (hA _ (by omega)) (hA _ (by omega))) hna hnb (t := t) ht hT) cf_X5_102 cv_X0_stepAt dX5_step_74 rfl ((hA (z + 6) (by omega)).trans rCh.1) rfl rfl (Nat.le_of_ble_eq_true rfl) ⟨(Nat.le_of_ble_eq_true rfl), (Nat.le_of_ble_eq_true rfl)⟩ ⟨(Nat.le_of_ble_eq_true rfl), (Nat.le_of_ble_eq_true rfl)⟩ ?_
        refine kk_det ?_
        exact g_iret h hr dX5_step_77 (⟨by rw [e0]; exact congrArg (fun q => some (Value.int q)) (show pth (rwV S a) (rwV S b) (sVn S a) (sVn S b) (sVn S a + sVn S b) t 0 0 = stpV (rwV S a) (rwV S b) (sVn S a) (sVn S b) (nI t) from by unfold stpV; rw [cif_t ⟨t, ht, rfl⟩, clampN (by omega)]), by rw [e0]; exact hR2⟩) (Nat.le_of_ble_eq_true rfl) (Nat.le_of_ble_eq_true rfl)
      · skip
        refine g_iconst h (-1) dX5_step_52 (by decide) ?_
        exact g_iret h hr dX5_step_53 (⟨by rw [e0]; exact congrArg (fun q => some (Value.int q)) (cif_f (inR_ge (Int32.not_lt.mp c49_2) (by omega))).symm, by rw [e0]; exact hR⟩) (Nat.le_of_ble_eq_true rfl) (Nat.le_of_ble_eq_true rfl)
  · skip
    obtain ⟨a, ha, rfl⟩ := ha1
    refine g_aload_n h 0 dX5_step_0 rfl rfl ?_
    refine g_get h 0 fa_X5_11 dX5_step_1 r0 rfl ?_
    refine g_iload_n h 1 dX5_step_4 rfl rfl ?_
    refine g_callS h [] (c_X5_rowOf_in (xL X) E _ rV (by omega) (i := a) (by omega) (eV a (by omega))) cf_X5_60 cs_X5_rowOf dX5_step_5 rfl rfl (Nat.le_of_ble_eq_true rfl) ⟨(Nat.le_of_ble_eq_true rfl), (Nat.le_of_ble_eq_true rfl)⟩ ⟨(Nat.le_of_ble_eq_true rfl), (Nat.le_of_ble_eq_true rfl)⟩ ?_
    refine kk_det ?_
    refine g_astore (vs' := [_, _, _, _, _, _]) h dX5_step_8 (Nat.le_of_ble_eq_true rfl) rfl rfl ?_
    refine g_aload_n h 0 dX5_step_10 rfl rfl ?_
    refine g_get h 0 fa_X5_11 dX5_step_11 r0 rfl ?_
    refine g_iload_n h 2 dX5_step_14 rfl rfl ?_
    refine g_callS h [] (c_X5_rowOf_out (xL X) E _ a2 rV (by omega) ha2) cf_X5_60 cs_X5_rowOf dX5_step_15 rfl rfl (Nat.le_of_ble_eq_true rfl) ⟨(Nat.le_of_ble_eq_true rfl), (Nat.le_of_ble_eq_true rfl)⟩ ⟨(Nat.le_of_ble_eq_true rfl), (Nat.le_of_ble_eq_true rfl)⟩ ?_
    refine kk_det ?_
    refine g_astoreN (vs' := [_, _, _, _, _, _]) h dX5_step_18 (Nat.le_of_ble_eq_true rfl) rfl rfl ?_
    refine g_aload h dX5_step_20 rfl ?_
    refine g_ifnull h dX5_step_22 ?_
    refine g_aloadN h dX5_step_25 rfl ?_
    refine g_ifnonnullN h dX5_step_27 ?_
    refine g_bipush h (-2) dX5_step_30 (by decide) ?_
    exact g_iret h hr dX5_step_32 ((fun e => ⟨by rw [e], by rw [e]; exact hR⟩) (show opStep S (nI a) a2 a3 = (-2, S) from by unfold opStep; rw [cif_f (fun q => ha2 q.2)])) (Nat.le_of_ble_eq_true rfl) (Nat.le_of_ble_eq_true rfl)
  · skip
    obtain ⟨b, hb, rfl⟩ := ha2
    refine g_aload_n h 0 dX5_step_0 rfl rfl ?_
    refine g_get h 0 fa_X5_11 dX5_step_1 r0 rfl ?_
    refine g_iload_n h 1 dX5_step_4 rfl rfl ?_
    refine g_callS h [] (c_X5_rowOf_out (xL X) E _ a1 rV (by omega) ha1) cf_X5_60 cs_X5_rowOf dX5_step_5 rfl rfl (Nat.le_of_ble_eq_true rfl) ⟨(Nat.le_of_ble_eq_true rfl), (Nat.le_of_ble_eq_true rfl)⟩ ⟨(Nat.le_of_ble_eq_true rfl), (Nat.le_of_ble_eq_true rfl)⟩ ?_
    refine kk_det ?_
    refine g_astoreN (vs' := [_, _, _, _, _, _]) h dX5_step_8 (Nat.le_of_ble_eq_true rfl) rfl rfl ?_
    refine g_aload_n h 0 dX5_step_10 rfl rfl ?_
    refine g_get h 0 fa_X5_11 dX5_step_11 r0 rfl ?_
    refine g_iload_n h 2 dX5_step_14 rfl rfl ?_
    refine g_callS h [] (c_X5_rowOf_in (xL X) E _ rV (by omega) (i := b) (by omega) (eV b (by omega))) cf_X5_60 cs_X5_rowOf dX5_step_15 rfl rfl (Nat.le_of_ble_eq_true rfl) ⟨(Nat.le_of_ble_eq_true rfl), (Nat.le_of_ble_eq_true rfl)⟩ ⟨(Nat.le_of_ble_eq_true rfl), (Nat.le_of_ble_eq_true rfl)⟩ ?_
    refine kk_det ?_
    refine g_astore (vs' := [_, _, _, _, _, _]) h dX5_step_18 (Nat.le_of_ble_eq_true rfl) rfl rfl ?_
    refine g_aloadN h dX5_step_20 rfl ?_
    refine g_ifnullN h 30 dX5_step_22 (by decide) ?_
    refine g_bipush h (-2) dX5_step_30 (by decide) ?_
    exact g_iret h hr dX5_step_32 ((fun e => ⟨by rw [e], by rw [e]; exact hR⟩) (show opStep S a1 (nI b) a3 = (-2, S) from by unfold opStep; rw [cif_f (fun q => ha1 q.1)])) (Nat.le_of_ble_eq_true rfl) (Nat.le_of_ble_eq_true rfl)
  · skip
    refine g_aload_n h 0 dX5_step_0 rfl rfl ?_
    refine g_get h 0 fa_X5_11 dX5_step_1 r0 rfl ?_
    refine g_iload_n h 1 dX5_step_4 rfl rfl ?_
    refine g_callS h [] (c_X5_rowOf_out (xL X) E _ a1 rV (by omega) ha1) cf_X5_60 cs_X5_rowOf dX5_step_5 rfl rfl (Nat.le_of_ble_eq_true rfl) ⟨(Nat.le_of_ble_eq_true rfl), (Nat.le_of_ble_eq_true rfl)⟩ ⟨(Nat.le_of_ble_eq_true rfl), (Nat.le_of_ble_eq_true rfl)⟩ ?_
    refine kk_det ?_
    refine g_astoreN (vs' := [_, _, _, _, _, _]) h dX5_step_8 (Nat.le_of_ble_eq_true rfl) rfl rfl ?_
    refine g_aload_n h 0 dX5_step_10 rfl rfl ?_
    refine g_get h 0 fa_X5_11 dX5_step_11 r0 rfl ?_
    refine g_iload_n h 2 dX5_step_14 rfl rfl ?_
    refine g_callS h [] (c_X5_rowOf_out (xL X) E _ a2 rV (by omega) ha2) cf_X5_60 cs_X5_rowOf dX5_step_15 rfl rfl (Nat.le_of_ble_eq_true rfl) ⟨(Nat.le_of_ble_eq_true rfl), (Nat.le_of_ble_eq_true rfl)⟩ ⟨(Nat.le_of_ble_eq_true rfl), (Nat.le_of_ble_eq_true rfl)⟩ ?_
    refine kk_det ?_
    refine g_astoreN (vs' := [_, _, _, _, _, _]) h dX5_step_18 (Nat.le_of_ble_eq_true rfl) rfl rfl ?_
    refine g_aloadN h dX5_step_20 rfl ?_
    refine g_ifnullN h 30 dX5_step_22 (by decide) ?_
    refine g_bipush h (-2) dX5_step_30 (by decide) ?_
    exact g_iret h hr dX5_step_32 ((fun e => ⟨by rw [e], by rw [e]; exact hR⟩) (show opStep S a1 a2 a3 = (-2, S) from by unfold opStep; rw [cif_f (fun q => ha1 q.1)])) (Nat.le_of_ble_eq_true rfl) (Nat.le_of_ble_eq_true rfl)
