/-! marks, rules, cuts (own work; walks by program) -/
theorem nI_and (a b : Nat) : nI a &&& nI b = nI (a &&& b) := by
  apply Int32.toBitVec_inj.mp
  apply BitVec.eq_of_getLsbD_eq
  intro i hi
  simp [nI, hi]
theorem fbN_lt {S : PSt} (hI : Inv S) {t d : Nat} : ∀ i, i ≤ sRn S → fbN S t d i < 256
  | 0, _ => by unfold fbN; omega
  | i + 1, h => by
    unfold fbN
    refine Nat.or_lt_two_pow (n := 8) (fbN_lt hI i (by omega)) ?_
    by_cases q : inF S i t d
    · rw [cif_t q]; exact (hI.2.2.2.2.1.2 i (by omega)).2.1
    · rw [cif_f q]; omega
theorem cutC_le {S : PSt} {v fb : Nat} : ∀ n, cutC S v fb n ≤ n
  | 0 => Nat.le_refl 0
  | n + 1 => by
    have := cutC_le (S := S) (v := v) (fb := fb) n
    unfold cutC
    split <;> omega
/-- the places from e on below n that are kept -/
def ks (p : Nat → Bool) (e n : Nat) : List Nat := (List.range' e (n - e)).filter p
theorem ks_n {p : Nat → Bool} {n : Nat} : ks p n n = [] := by unfold ks; rw [Nat.sub_self]; rfl
theorem ks_k {p : Nat → Bool} {k n : Nat} (h : k < n) : ks p k n = if p k = true then k :: ks p (k + 1) n else ks p (k + 1) n := by
  unfold ks
  rw [show n - k = (n - (k + 1)) + 1 by omega, List.range'_succ, List.filter_cons]
theorem ks_0 {p : Nat → Bool} {n : Nat} : ks p 0 n = (List.range n).filter p := by
  unfold ks
  rw [List.range_eq_range', Nat.sub_zero]
theorem ks_le {p : Nat → Bool} {e n : Nat} : (ks p e n).length ≤ n - e := by
  unfold ks
  refine Nat.le_trans (List.length_filter_le _ _) ?_
  rw [List.length_range']
  exact Nat.le_refl _
theorem ks_in {p : Nat → Bool} {e n : Nat} (he : e ≤ n) (x : Nat) (h : x ∈ ks p e n) : x < n := by
  unfold ks at h
  have := (List.mem_range'_1.mp (List.mem_filter.mp h).1).2
  omega
def kx (p : Nat → Bool) (e n q : Nat) : Nat := if q < e then q else (ks p e n).getD (q - e) 0
theorem kx_lt {p : Nat → Bool} {e n q : Nat} (h : q < e) : kx p e n q = q := if_pos h
theorem kx_in {p : Nat → Bool} {e n q : Nat} (he : e ≤ n) (h : q < e + (ks p e n).length) : kx p e n q < n := by
  unfold kx
  split
  · omega
  · have hq : q - e < (ks p e n).length := by omega
    rw [List.getD_eq_getElem?_getD, List.getElem?_eq_getElem hq, Option.getD_some]
    exact ks_in he _ (List.getElem_mem hq)
theorem kx_keep {p : Nat → Bool} {k n : Nat} (h : k < n) (hp : p k = true) : (∀ q, kx p (k + 1) n q = kx p k n q) ∧ (k + 1) + (ks p (k + 1) n).length = k + (ks p k n).length := by
  refine ⟨fun q => ?_, ?_⟩
  · unfold kx
    rw [ks_k h, if_pos hp]
    rcases Nat.lt_trichotomy q k with e | e | e
    · rw [if_pos (by omega), if_pos e]
    · subst e
      rw [if_pos (by omega), if_neg (by omega), Nat.sub_self]
      rfl
    · rw [if_neg (by omega), if_neg (by omega), show q - k = (q - (k + 1)) + 1 by omega]
      rfl
  · rw [ks_k h, if_pos hp, List.length_cons]
    omega
theorem kx_drop {p : Nat → Bool} {k n : Nat} (h : k < n) (hp : ¬ p k = true) : (∀ q, q < k + (ks p k n).length → kx p k n q = if k ≤ q ∧ q + 1 < (k + 1) + (ks p (k + 1) n).length then kx p (k + 1) n (q + 1) else kx p (k + 1) n q) ∧ (k + 1) + (ks p (k + 1) n).length - 1 = k + (ks p k n).length := by
  have e1 : ks p k n = ks p (k + 1) n := by rw [ks_k h, if_neg hp]
  refine ⟨fun q hq => ?_, ?_⟩
  · unfold kx
    rw [e1] at hq ⊢
    by_cases e : q < k
    · rw [if_pos e, if_neg (by omega), if_pos (by omega)]
    · rw [if_neg e, if_pos (by omega), if_neg (by omega), show q + 1 - (k + 1) = q - k by omega]
  · rw [e1]
    omega
abbrev rm_X5_mark : Room := { frames := 1, cells := 0, slots := 0, locals := 20 }
set_option maxRecDepth 100000 in
set_option maxHeartbeats 4000000 in
theorem C_mark (lau : Launch) (E : EnvD) (σ : Sto) {z : Nat} {S : PSt} (hI : Inv S) (hR : RepC E z S σ) (a1 a2 : Int32) : CC lau yX5_mark cX5_mark 4 (some .int) rm_X5_mark E [.ref z, .int a1, .int a2] σ (fun o s => o = some (.int (opMark S a1 a2).1) ∧ RepC E z (opMark S a1 a2).2 s) := by
  refine cc_of (vs := [_, _, _, _]) (by decide) (Nat.le_of_ble_eq_true rfl) rfl ?_
  intro X h hr hn
  obtain ⟨r0, ⟨fV, rV, eV⟩, ⟨fP, rP, eP⟩, ⟨fC, rC, eC⟩, ⟨fR, rR, eR⟩, ⟨fM, rM, eM⟩, rCh, rT, rO, ⟨nE, gE, hE, rE⟩, rows, prows⟩ := id hR
  refine g_iload_n h 1 dX5_mark_0 rfl rfl ?_
  refine g_callS h [] (c_X5_isLine (xL X) E _ a1) cf_X5_67 cs_X5_isLine dX5_mark_1 rfl rfl (Nat.le_of_ble_eq_true rfl) ⟨(Nat.le_of_ble_eq_true rfl), (Nat.le_of_ble_eq_true rfl)⟩ ⟨(Nat.le_of_ble_eq_true rfl), (Nat.le_of_ble_eq_true rfl)⟩ ?_
  refine kk_det ?_
  refine g_if_eqB h 14 dX5_mark_4 (by decide) (fun c4_1 => ?_) (fun c4_1 => ?_)
  · skip
    refine g_bipush h (-2) dX5_mark_14 (by decide) ?_
    exact g_iret h hr dX5_mark_16 ((fun e => ⟨by rw [e], by rw [e]; exact hR⟩) (show opMark S a1 a2 = (-2, S) from cif_f (fun q => c4_1 q.1))) (Nat.le_of_ble_eq_true rfl) (Nat.le_of_ble_eq_true rfl)
  · skip
    obtain ⟨x, hx, rfl⟩ := c4_1
    have ex : cl (nI x) = x := cl_nI (by omega)
    refine g_iload_n h 2 dX5_mark_7 rfl rfl ?_
    refine g_callS h [] (c_X5_isMarks (xL X) E _ a2) cf_X5_141 cs_X5_isMarks dX5_mark_8 rfl rfl (Nat.le_of_ble_eq_true rfl) ⟨(Nat.le_of_ble_eq_true rfl), (Nat.le_of_ble_eq_true rfl)⟩ ⟨(Nat.le_of_ble_eq_true rfl), (Nat.le_of_ble_eq_true rfl)⟩ ?_
    refine kk_det ?_
    refine g_if_neB h 17 dX5_mark_11 (by decide) (fun c11_2 => ?_) (fun c11_2 => ?_)
    · skip
      obtain ⟨y, hy, rfl⟩ := c11_2
      have ey : cl (nI y) = y := cl_nI (by omega)
      refine g_aload_n h 0 dX5_mark_17 rfl rfl ?_
      refine g_get h 4 fa_X5_30 dX5_mark_18 r0 rfl ?_
      refine g_iload_n h 1 dX5_mark_21 rfl rfl ?_
      refine g_iald h dX5_mark_22 rM (by omega) (by omega) ?_
      refine g_top (y := nI (sMk S x)) (eM x hx) ?_
      refine g_istore_n (vs' := [_, _, _, _]) h 3 dX5_mark_23 rfl (Nat.le_of_ble_eq_true rfl) rfl rfl ?_
      refine g_aload_n h 0 dX5_mark_24 rfl rfl ?_
      refine g_get h 4 fa_X5_30 dX5_mark_25 r0 rfl ?_
      refine g_iload_n h 1 dX5_mark_28 rfl rfl ?_
      refine g_iload_n h 2 dX5_mark_29 rfl rfl ?_
      refine g_iast h dX5_mark_30 rM (by omega) (by omega) ?_
      refine g_iload_n h 3 dX5_mark_31 rfl rfl ?_
      exact g_iret h hr dX5_mark_32 ((fun e => ⟨by rw [e], by rw [e]; exact hR.mrk rM eM⟩) (show opMark S (nI x) (nI y) = (nI (sMk S x), setM S x y) from by unfold opMark; rw [cif_t ⟨⟨x, hx, rfl⟩, ⟨y, hy, rfl⟩⟩, ex, ey])) (Nat.le_of_ble_eq_true rfl) (Nat.le_of_ble_eq_true rfl)
    · skip
      refine g_bipush h (-2) dX5_mark_14 (by decide) ?_
      exact g_iret h hr dX5_mark_16 ((fun e => ⟨by rw [e], by rw [e]; exact hR⟩) (show opMark S (nI x) a2 = (-2, S) from cif_f (fun q => c11_2 q.2))) (Nat.le_of_ble_eq_true rfl) (Nat.le_of_ble_eq_true rfl)
abbrev rm_X5_rule : Room := { frames := 2, cells := 1, slots := 4, locals := 40 }
set_option maxRecDepth 100000 in
set_option maxHeartbeats 4000000 in
theorem C_rule (lau : Launch) (E : EnvD) (σ : Sto) {z : Nat} {S : PSt} (hI : Inv S) (hR : RepC E z S σ) (a1 a2 a3 a4 : Int32) : CC lau yX5_rule cX5_rule 5 (some .int) rm_X5_rule E [.ref z, .int a1, .int a2, .int a3, .int a4] σ (fun o s => o = some (.int (opRule S a1 a2 a3 a4).1) ∧ RepC E z (opRule S a1 a2 a3 a4).2 s) := by
  refine cc_of (vs := [_, _, _, _, _]) (by decide) (Nat.le_of_ble_eq_true rfl) rfl ?_
  intro X h hr hn
  obtain ⟨r0, ⟨fV, rV, eV⟩, ⟨fP, rP, eP⟩, ⟨fC, rC, eC⟩, ⟨fR, rR, eR⟩, ⟨fM, rM, eM⟩, rCh, rT, rO, ⟨nE, gE, hE, rE⟩, rows, prows⟩ := id hR
  have hc20 := hI.2.2.2.2.1.1
  refine g_iload_n h 1 dX5_rule_0 rfl rfl ?_
  refine g_callS h [] (c_X5_isTown (xL X) E _ a1) cf_X5_144 cs_X5_isTown dX5_rule_1 rfl rfl (Nat.le_of_ble_eq_true rfl) ⟨(Nat.le_of_ble_eq_true rfl), (Nat.le_of_ble_eq_true rfl)⟩ ⟨(Nat.le_of_ble_eq_true rfl), (Nat.le_of_ble_eq_true rfl)⟩ ?_
  refine kk_det ?_
  refine g_if_eqB h 35 dX5_rule_4 (by decide) (fun c4_1 => ?_) (fun c4_1 => ?_)
  · skip
    refine g_bipush h (-2) dX5_rule_35 (by decide) ?_
    exact g_iret h hr dX5_rule_37 ((fun e => ⟨by rw [e], by rw [e]; exact hR⟩) (show opRule S a1 a2 a3 a4 = (-2, S) from cif_f (fun q => c4_1 q.1))) (Nat.le_of_ble_eq_true rfl) (Nat.le_of_ble_eq_true rfl)
  · skip
    obtain ⟨t, ht9, rfl⟩ := c4_1
    have et : cl (nI t) = t := cl_nI (by omega)
    refine g_iload_n h 2 dX5_rule_7 rfl rfl ?_
    refine g_callS h [] (c_X5_isMarks (xL X) E _ a2) cf_X5_141 cs_X5_isMarks dX5_rule_8 rfl rfl (Nat.le_of_ble_eq_true rfl) ⟨(Nat.le_of_ble_eq_true rfl), (Nat.le_of_ble_eq_true rfl)⟩ ⟨(Nat.le_of_ble_eq_true rfl), (Nat.le_of_ble_eq_true rfl)⟩ ?_
    refine kk_det ?_
    refine g_if_eqB h 35 dX5_rule_11 (by decide) (fun c11_2 => ?_) (fun c11_2 => ?_)
    · skip
      refine g_bipush h (-2) dX5_rule_35 (by decide) ?_
      exact g_iret h hr dX5_rule_37 ((fun e => ⟨by rw [e], by rw [e]; exact hR⟩) (show opRule S (nI t) a2 a3 a4 = (-2, S) from cif_f (fun q => c11_2 q.2.1))) (Nat.le_of_ble_eq_true rfl) (Nat.le_of_ble_eq_true rfl)
    · skip
      obtain ⟨m, hm9, rfl⟩ := c11_2
      have em : cl (nI m) = m := cl_nI (by omega)
      refine g_iload_n h 3 dX5_rule_14 rfl rfl ?_
      refine g_callS h [] (c_X5_isDay (xL X) E _ a3) cf_X5_147 cs_X5_isDay dX5_rule_15 rfl rfl (Nat.le_of_ble_eq_true rfl) ⟨(Nat.le_of_ble_eq_true rfl), (Nat.le_of_ble_eq_true rfl)⟩ ⟨(Nat.le_of_ble_eq_true rfl), (Nat.le_of_ble_eq_true rfl)⟩ ?_
      refine kk_det ?_
      refine g_if_eqB h 35 dX5_rule_18 (by decide) (fun c18_3 => ?_) (fun c18_3 => ?_)
      · skip
        refine g_bipush h (-2) dX5_rule_35 (by decide) ?_
        exact g_iret h hr dX5_rule_37 ((fun e => ⟨by rw [e], by rw [e]; exact hR⟩) (show opRule S (nI t) (nI m) a3 a4 = (-2, S) from cif_f (fun q => c18_3 q.2.2.1))) (Nat.le_of_ble_eq_true rfl) (Nat.le_of_ble_eq_true rfl)
      · skip
        obtain ⟨f, hf9, rfl⟩ := c18_3
        have ef : cl (nI f) = f := cl_nI (by omega)
        refine g_iload h dX5_rule_21 rfl ?_
        refine g_callS h [] (c_X5_isDay (xL X) E _ a4) cf_X5_147 cs_X5_isDay dX5_rule_23 rfl rfl (Nat.le_of_ble_eq_true rfl) ⟨(Nat.le_of_ble_eq_true rfl), (Nat.le_of_ble_eq_true rfl)⟩ ⟨(Nat.le_of_ble_eq_true rfl), (Nat.le_of_ble_eq_true rfl)⟩ ?_
        refine kk_det ?_
        refine g_if_eqB h 35 dX5_rule_26 (by decide) (fun c26_4 => ?_) (fun c26_4 => ?_)
        · skip
          refine g_bipush h (-2) dX5_rule_35 (by decide) ?_
          exact g_iret h hr dX5_rule_37 ((fun e => ⟨by rw [e], by rw [e]; exact hR⟩) (show opRule S (nI t) (nI m) (nI f) a4 = (-2, S) from cif_f (fun q => c26_4 q.2.2.2.1))) (Nat.le_of_ble_eq_true rfl) (Nat.le_of_ble_eq_true rfl)
        · skip
          obtain ⟨o, ho9, rfl⟩ := c26_4
          have eo : cl (nI o) = o := cl_nI (by omega)
          refine g_iload_n h 3 dX5_rule_29 rfl rfl ?_
          refine g_iload h dX5_rule_30 rfl ?_
          refine g_icmp_leN h 38 dX5_rule_32 (by decide) (by omega) (by omega) (fun c32_5 => ?_) (fun c32_5 => ?_)
          · skip
            refine g_aload_n h 0 dX5_rule_38 rfl rfl ?_
            refine g_get h 9 fa_X5_57 dX5_rule_39 r0 rfl ?_
            refine g_bipush h (nI 20) dX5_rule_42 (by decide) ?_
            refine g_icmp_ltN h 50 dX5_rule_44 (by decide) (by omega) (by decide) (fun c44_6 => ?_) (fun c44_6 => ?_)
            · skip
              refine g_aload_n h 0 dX5_rule_50 rfl rfl ?_
              refine g_get h 3 fa_X5_26 dX5_rule_51 r0 rfl ?_
              refine g_aload_n h 0 dX5_rule_54 rfl rfl ?_
              refine g_get h 9 fa_X5_57 dX5_rule_55 r0 rfl ?_
              refine g_lt (fun hlt_7 => ?_)
              refine g_new h 3 (ty := tyX3) [.int 0, .int 0, .int 0, .int 0] rfl tyX3_ok nw_X5_24 dX5_rule_58 (fun j hj => by rcases (show j = 0 ∨ j = 1 ∨ j = 2 ∨ j = 3 by omega) with rfl | rfl | rfl | rfl <;> rfl) (Nat.le_of_ble_eq_true rfl) (Nat.le_of_ble_eq_true rfl) ?_
              refine g_dup h dX5_rule_61 rfl ?_
              refine g_iload_n h 1 dX5_rule_62 rfl rfl ?_
              refine g_iload_n h 2 dX5_rule_63 rfl rfl ?_
              refine g_iload_n h 3 dX5_rule_64 rfl rfl ?_
              refine g_iload h dX5_rule_65 rfl ?_
              refine g_callI h [_, _, _] (c_X3_init (xL X) E _ (nI t) (nI m) (nI f) (nI o) spush_new) cf_X5_150 ci_X3_init dX5_rule_67 rfl rfl (Nat.le_of_ble_eq_true rfl) ⟨(Nat.le_of_ble_eq_true rfl), (Nat.le_of_ble_eq_true rfl)⟩ ⟨(Nat.le_of_ble_eq_true rfl), (Nat.le_of_ble_eq_true rfl)⟩ ?_
              refine kk_detv ?_
              refine g_aast h 4 3 dX5_rule_70 rfl rfl (sup_k ((spush_old (Nat.ne_of_lt (hlt_7 _ _ rR))).trans rR) spush_new (by simp)) sup_eq (by omega) (by omega) ?_
              refine g_aload_n h 0 dX5_rule_71 rfl rfl ?_
              refine g_dup h dX5_rule_72 rfl ?_
              refine g_get h 9 fa_X5_57 dX5_rule_73 (sup_k (sup_k ((spush_old (Nat.ne_of_lt (hlt_7 _ _ r0))).trans r0) spush_new (by simp)) (sup_k ((spush_old (Nat.ne_of_lt (hlt_7 _ _ rR))).trans rR) spush_new (by simp)) (by simp)) rfl ?_
              refine g_iconst h (nI 1) dX5_rule_76 (by decide) ?_
              refine g_iaddN h dX5_rule_77 ?_
              refine g_put (fs' := [_, _, _, _, _, _, _, _, _, _]) h 9 fp_X5_57 dX5_rule_78 (sup_k (sup_k ((spush_old (Nat.ne_of_lt (hlt_7 _ _ r0))).trans r0) spush_new (by simp)) (sup_k ((spush_old (Nat.ne_of_lt (hlt_7 _ _ rR))).trans rR) spush_new (by simp)) (by simp)) (Nat.le_of_ble_eq_true rfl) rfl rfl rfl ?_
              refine g_aload_n h 0 dX5_rule_81 rfl rfl ?_
              refine g_get h 9 fa_X5_57 dX5_rule_82 sup_eq rfl ?_
              refine g_iconst h (nI 1) dX5_rule_85 (by decide) ?_
              refine g_isubN h dX5_rule_86 (by omega) ?_
              exact g_iret h hr dX5_rule_87 ((fun e => ⟨by rw [e]; rfl, by rw [e]; exact hR.newR rR eR (a := σ.2) (by cases hq : σ.1 σ.2 with | none => rfl | some e9 => exact absurd (hlt_7 _ _ hq) (Nat.lt_irrefl _)) (sup_eq) ((sup_k sup_eq (sup_k (sup_k ((spush_old (Nat.ne_of_lt (hlt_7 _ _ r0))).trans r0) spush_new (by simp)) (sup_k ((spush_old (Nat.ne_of_lt (hlt_7 _ _ rR))).trans rR) spush_new (by simp)) (by simp)) (by simp))) ((sup_k (sup_k sup_eq (sup_k ((spush_old (Nat.ne_of_lt (hlt_7 _ _ rR))).trans rR) spush_new (by simp)) (by simp)) (sup_k (sup_k ((spush_old (Nat.ne_of_lt (hlt_7 _ _ r0))).trans r0) spush_new (by simp)) (sup_k ((spush_old (Nat.ne_of_lt (hlt_7 _ _ rR))).trans rR) spush_new (by simp)) (by simp)) (by simp))) (fun b b1 b2 b3 => (sup_ne b1).trans ((sup_ne b2).trans ((sup_ne b3).trans (spush_old b3))))⟩) (show opRule S (nI t) (nI m) (nI f) (nI o) = (nI (sRn S), addR S t m f o) from by unfold opRule; rw [cif_t ⟨⟨t, ht9, rfl⟩, ⟨m, hm9, rfl⟩, ⟨f, hf9, rfl⟩, ⟨o, ho9, rfl⟩, by rw [ef, eo]; exact c32_5⟩, cif_f (by omega), et, em, ef, eo])) (Nat.le_of_ble_eq_true rfl) (Nat.le_of_ble_eq_true rfl)
            · skip
              refine g_bipush h (-4) dX5_rule_47 (by decide) ?_
              exact g_iret h hr dX5_rule_49 ((fun e => ⟨by rw [e], by rw [e]; exact hR⟩) (show opRule S (nI t) (nI m) (nI f) (nI o) = (-4, S) from by unfold opRule; rw [cif_t ⟨⟨t, ht9, rfl⟩, ⟨m, hm9, rfl⟩, ⟨f, hf9, rfl⟩, ⟨o, ho9, rfl⟩, by rw [ef, eo]; exact c32_5⟩, cif_t (by omega)])) (Nat.le_of_ble_eq_true rfl) (Nat.le_of_ble_eq_true rfl)
          · skip
            refine g_bipush h (-2) dX5_rule_35 (by decide) ?_
            exact g_iret h hr dX5_rule_37 ((fun e => ⟨by rw [e], by rw [e]; exact hR⟩) (show opRule S (nI t) (nI m) (nI f) (nI o) = (-2, S) from cif_f (fun q => absurd c32_5 (Nat.not_lt.mpr (by have w := q.2.2.2.2; rw [ef, eo] at w; exact w))))) (Nat.le_of_ble_eq_true rfl) (Nat.le_of_ble_eq_true rfl)
abbrev rm_X5_marksOf : Room := { frames := 1, cells := 0, slots := 0, locals := 20 }
set_option maxRecDepth 100000 in
set_option maxHeartbeats 4000000 in
theorem c_X5_marksOf (lau : Launch) (E : EnvD) (σ : Sto) {z : Nat} {S : PSt} (r0 : C0 z S σ) (r5 : C5 E z S σ) {x : Nat} (hx : x < 100) : CC lau yX5_marksOf cX5_marksOf 2 (some .int) rm_X5_marksOf E [.ref z, .int (nI x)] σ (fun o s => o = some (.int (nI (sMk S x))) ∧ s = σ) := by
  refine cc_of (vs := [_, _]) (by decide) (Nat.le_of_ble_eq_true rfl) rfl ?_
  intro X h hr hn
  obtain ⟨fM, rM, eM⟩ := r5
  refine g_iload_n h 1 dX5_marksOf_0 rfl rfl ?_
  refine g_callS h [] (c_X5_isLine (xL X) E _ (nI x)) cf_X5_67 cs_X5_isLine dX5_marksOf_1 rfl rfl (Nat.le_of_ble_eq_true rfl) ⟨(Nat.le_of_ble_eq_true rfl), (Nat.le_of_ble_eq_true rfl)⟩ ⟨(Nat.le_of_ble_eq_true rfl), (Nat.le_of_ble_eq_true rfl)⟩ ?_
  refine kk_det ?_
  refine g_if_eqB h 16 dX5_marksOf_4 (by decide) (fun c4_1 => absurd ⟨x, hx, rfl⟩ c4_1) (fun c4_1 => ?_)
  refine g_aload_n h 0 dX5_marksOf_7 rfl rfl ?_
  refine g_get h 4 fa_X5_30 dX5_marksOf_8 r0 rfl ?_
  refine g_iload_n h 1 dX5_marksOf_11 rfl rfl ?_
  refine g_iald h dX5_marksOf_12 rM (by omega) (by omega) ?_
  refine g_top (y := nI (sMk S x)) (eM x hx) ?_
  refine g_goto h 17 dX5_marksOf_13 (by decide) ?_
  exact g_iret h hr dX5_marksOf_17 (⟨rfl, rfl⟩) (Nat.le_of_ble_eq_true rfl) (Nat.le_of_ble_eq_true rfl)
abbrev rm_X5_linesWith : Room := { frames := 2, cells := 0, slots := 0, locals := 42 }
set_option maxRecDepth 100000 in
set_option maxHeartbeats 4000000 in
theorem c_X5_linesWith (lau : Launch) (E : EnvD) (σ : Sto) {z : Nat} {S : PSt} (hI : Inv S) (hR : RepC E z S σ) {v fb : Nat} (hv : v < 8) : CC lau yX5_linesWith cX5_linesWith 5 (some .int) rm_X5_linesWith E [.ref z, .ref (z + 64 + 2 * v), .int (nI fb)] σ (fun o s => o = some (.int (nI (cutC S v fb (sVn S v)))) ∧ s = σ) := by
  refine cc_of (vs := [_, _, _, _, _]) (by decide) (Nat.le_of_ble_eq_true rfl) rfl ?_
  intro X h hr hn
  obtain ⟨r0, ⟨fV, rV, eV⟩, ⟨fP, rP, eP⟩, ⟨fC, rC, eC⟩, ⟨fR, rR, eR⟩, ⟨fM, rM, eM⟩, rCh, rT, rO, ⟨nE, gE, hE, rE⟩, rows, prows⟩ := id hR
  obtain ⟨hn40, hl9⟩ := hI.1 v hv
  refine g_iconst h (nI 0) dX5_linesWith_0 (by decide) ?_
  refine g_istore_n (vs' := [_, _, _, _, _]) h 3 dX5_linesWith_1 rfl (Nat.le_of_ble_eq_true rfl) rfl rfl ?_
  refine g_iconst h (nI 0) dX5_linesWith_2 (by decide) ?_
  refine g_istore (vs' := [_, _, _, _, _]) h dX5_linesWith_3 (Nat.le_of_ble_eq_true rfl) rfl rfl ?_
  have L5 : ∀ (m0 : Nat) (i : Nat), (i ≤ sVn S v) → (sVn S v - i) < m0 → G X E 5 (AD σ) (QF X E σ (fun o s => o = some (.int (nI (cutC S v fb (sVn S v)))) ∧ s = σ) rm_X5_linesWith) 0 0 5 [some (.ref z), some (.ref (z + 64 + 2 * v)), some (.int (nI fb)), some (.int (nI (cutC S v fb i))), some (.int (nI i))] [] σ := by
    intro m0
    induction m0 with
    | zero => intro i _ hm0; exact absurd hm0 (Nat.not_lt_zero _)
    | succ m0 ih =>
      intro i hi hm0
      have cc9 := cutC_le (S := S) (v := v) (fb := fb) i
      refine g_iload h dX5_linesWith_5 rfl ?_
      refine g_aload_n h 1 dX5_linesWith_7 rfl rfl ?_
      refine g_get h 1 fa_X5_64 dX5_linesWith_8 (rows v hv).1 rfl ?_
      refine g_icmp_geN h 38 dX5_linesWith_11 (by decide) (by omega) (by omega) (fun c11_1 => ?_) (fun c11_1 => ?_)
      · skip
        obtain rfl : i = sVn S v := by omega
        refine g_iload_n h 3 dX5_linesWith_38 rfl rfl ?_
        exact g_iret h hr dX5_linesWith_39 (⟨rfl, rfl⟩) (Nat.le_of_ble_eq_true rfl) (Nat.le_of_ble_eq_true rfl)
      · skip
        have hx9 := hl9 i (by omega)
        have hm9 := hI.2.2.2.1 _ hx9
        refine g_aload_n h 0 dX5_linesWith_14 rfl rfl ?_
        refine g_aload_n h 1 dX5_linesWith_15 rfl rfl ?_
        refine g_iload h dX5_linesWith_16 rfl ?_
        refine g_callV h [_] (r_at (xL X) (rows v hv) (hI.1 v hv).1 (nI i)) cf_X5_82 cv_X2_at dX5_linesWith_18 rfl (rows v hv).1 rfl rfl (Nat.le_of_ble_eq_true rfl) ⟨(Nat.le_of_ble_eq_true rfl), (Nat.le_of_ble_eq_true rfl)⟩ ⟨(Nat.le_of_ble_eq_true rfl), (Nat.le_of_ble_eq_true rfl)⟩ ?_
        refine kk_det ?_
        refine g_top (atV_in (by omega) (by omega)) ?_
        refine g_top (y := nI (sVl S v i)) rfl ?_
        refine g_callV h [] (c_X5_marksOf (xL X) E _ r0 hR.2.2.2.2.2.1 (x := sVl S v i) hx9) cf_X5_160 cv_X5_marksOf dX5_linesWith_21 rfl r0 rfl rfl (Nat.le_of_ble_eq_true rfl) ⟨(Nat.le_of_ble_eq_true rfl), (Nat.le_of_ble_eq_true rfl)⟩ ⟨(Nat.le_of_ble_eq_true rfl), (Nat.le_of_ble_eq_true rfl)⟩ ?_
        refine kk_det ?_
        refine g_iload_n h 2 dX5_linesWith_24 rfl rfl ?_
        refine g_iand h dX5_linesWith_25 ?_
        refine g_top (y := nI (sMk S (sVl S v i) &&& fb)) (nI_and _ _) ?_
        have hand := Nat.and_le_left (n := sMk S (sVl S v i)) (m := fb)
        refine g_if_eqN h 32 dX5_linesWith_26 (by decide) (by omega) (fun c26_2 => ?_) (fun c26_2 => ?_)
        · skip
          refine g_iinc (vs' := [_, _, _, _, _]) h (nI (i + 1)) dX5_linesWith_32 rfl (by first | exact nI_1 _ | rfl) (Nat.le_of_ble_eq_true rfl) rfl rfl ?_
          refine g_goto h 5 dX5_linesWith_35 (by decide) ?_
          rw [show cutC S v fb i = cutC S v fb (i + 1) from by rw [cutC, if_pos c26_2, Nat.add_zero]]
          exact ih (i + 1) (by omega) (by omega)
        · skip
          refine g_iinc (vs' := [_, _, _, _, _]) h (nI ((cutC S v fb i) + 1)) dX5_linesWith_29 rfl (by first | exact nI_1 _ | rfl) (Nat.le_of_ble_eq_true rfl) rfl rfl ?_
          refine g_iinc (vs' := [_, _, _, _, _]) h (nI (i + 1)) dX5_linesWith_32 rfl (by first | exact nI_1 _ | rfl) (Nat.le_of_ble_eq_true rfl) rfl rfl ?_
          refine g_goto h 5 dX5_linesWith_35 (by decide) ?_
          rw [show (cutC S v fb i) + 1 = cutC S v fb (i + 1) from by rw [cutC, if_neg (Nat.ne_of_gt c26_2)]]
          exact ih (i + 1) (by omega) (by omega)
  exact L5 (sVn S v + 1) 0 (by omega) (by omega)
abbrev rm_X5_forbiddenMarks : Room := { frames := 1, cells := 0, slots := 0, locals := 22 }
set_option maxRecDepth 100000 in
set_option maxHeartbeats 4000000 in
theorem c_X5_forbiddenMarks (lau : Launch) (E : EnvD) (σ : Sto) {z : Nat} {S : PSt} (hI : Inv S) (hR : RepC E z S σ) {t d : Nat} (ht9 : t < 8) (hd9 : d < 1000) : CC lau yX5_forbiddenMarks cX5_forbiddenMarks 6 (some .int) rm_X5_forbiddenMarks E [.ref z, .int (nI t), .int (nI d)] σ (fun o s => o = some (.int (nI (fbN S t d (sRn S)))) ∧ s = σ) := by
  refine cc_of (vs := [_, _, _, _, _, _]) (by decide) (Nat.le_of_ble_eq_true rfl) rfl ?_
  intro X h hr hn
  obtain ⟨r0, ⟨fV, rV, eV⟩, ⟨fP, rP, eP⟩, ⟨fC, rC, eC⟩, ⟨fR, rR, eR⟩, ⟨fM, rM, eM⟩, rCh, rT, rO, ⟨nE, gE, hE, rE⟩, rows, prows⟩ := id hR
  have hc20 := hI.2.2.2.2.1.1
  refine g_iconst h (nI 0) dX5_forbiddenMarks_0 (by decide) ?_
  refine g_istore_n (vs' := [_, _, _, _, _, _]) h 3 dX5_forbiddenMarks_1 rfl (Nat.le_of_ble_eq_true rfl) rfl rfl ?_
  refine g_iconst h (nI 0) dX5_forbiddenMarks_2 (by decide) ?_
  refine g_istore (vs' := [_, _, _, _, _, _]) h dX5_forbiddenMarks_3 (Nat.le_of_ble_eq_true rfl) rfl rfl ?_
  refine g_few (vs' := [some (.ref z), some (.int (nI t)), some (.int (nI d)), some (.int (nI 0)), some (.int (nI 0)), none]) ⟨Or.inr rfl, Or.inr rfl, Or.inr rfl, Or.inr rfl, Or.inr rfl, Or.inl rfl, trivial⟩ ?_
  have L5 : ∀ (m0 : Nat) (i : Nat), (i ≤ sRn S) → (sRn S - i) < m0 → G X E 6 (AD σ) (QF X E σ (fun o s => o = some (.int (nI (fbN S t d (sRn S)))) ∧ s = σ) rm_X5_forbiddenMarks) 0 0 5 [some (.ref z), some (.int (nI t)), some (.int (nI d)), some (.int (nI (fbN S t d i))), some (.int (nI i)), none] [] σ := by
    intro m0
    induction m0 with
    | zero => intro i _ hm0; exact absurd hm0 (Nat.not_lt_zero _)
    | succ m0 ih =>
      intro i hi hm0
      refine g_iload h dX5_forbiddenMarks_5 rfl ?_
      refine g_aload_n h 0 dX5_forbiddenMarks_7 rfl rfl ?_
      refine g_get h 9 fa_X5_57 dX5_forbiddenMarks_8 r0 rfl ?_
      refine g_icmp_geN h 51 dX5_forbiddenMarks_11 (by decide) (by omega) (by omega) (fun c11_1 => ?_) (fun c11_1 => ?_)
      · skip
        obtain rfl : i = sRn S := by omega
        refine g_iload_n h 3 dX5_forbiddenMarks_51 rfl rfl ?_
        exact g_iret h hr dX5_forbiddenMarks_52 (⟨rfl, rfl⟩) (Nat.le_of_ble_eq_true rfl) (Nat.le_of_ble_eq_true rfl)
      · skip
        obtain ⟨rb, q1, q2⟩ := eR i (by omega)
        obtain ⟨k1, k2, k3, k4⟩ := hI.2.2.2.2.1.2 i (by omega)
        refine g_aload_n h 0 dX5_forbiddenMarks_14 rfl rfl ?_
        refine g_iload h dX5_forbiddenMarks_15 rfl ?_
        refine g_callV h [] (c_X5_ruleOf_in (xL X) E _ r0 rR hc20 (i := i) (by omega) q1) cf_X5_223 cv_X5_ruleOf dX5_forbiddenMarks_17 rfl r0 rfl rfl (Nat.le_of_ble_eq_true rfl) ⟨(Nat.le_of_ble_eq_true rfl), (Nat.le_of_ble_eq_true rfl)⟩ ⟨(Nat.le_of_ble_eq_true rfl), (Nat.le_of_ble_eq_true rfl)⟩ ?_
        refine kk_det ?_
        refine g_astore (vs' := [_, _, _, _, _, _]) h dX5_forbiddenMarks_20 (Nat.le_of_ble_eq_true rfl) rfl rfl ?_
        refine g_aload h dX5_forbiddenMarks_22 rfl ?_
        refine g_ifnull h dX5_forbiddenMarks_24 ?_
        refine g_aload h dX5_forbiddenMarks_27 rfl ?_
        refine g_iload_n h 1 dX5_forbiddenMarks_29 rfl rfl ?_
        refine g_iload_n h 2 dX5_forbiddenMarks_30 rfl rfl ?_
        refine g_callV h [] (c_X3_isInForce (xL X) E _ q2 (w := t) (d := d) (by omega) (by omega) (by omega) (by omega) (by omega)) cf_X5_227 cv_X3_isInForce dX5_forbiddenMarks_31 rfl q2 rfl rfl (Nat.le_of_ble_eq_true rfl) ⟨(Nat.le_of_ble_eq_true rfl), (Nat.le_of_ble_eq_true rfl)⟩ ⟨(Nat.le_of_ble_eq_true rfl), (Nat.le_of_ble_eq_true rfl)⟩ ?_
        refine kk_det ?_
        refine g_if_eqB h 45 dX5_forbiddenMarks_34 (by decide) (fun c34_2 => ?_) (fun c34_2 => ?_)
        · skip
          refine g_iinc (vs' := [_, _, _, _, _, _]) h (nI (i + 1)) dX5_forbiddenMarks_45 rfl (by first | exact nI_1 _ | rfl) (Nat.le_of_ble_eq_true rfl) rfl rfl ?_
          refine g_goto h 5 dX5_forbiddenMarks_48 (by decide) ?_
          refine g_few (vs' := [some (.ref z), some (.int (nI t)), some (.int (nI d)), some (.int (nI (fbN S t d i))), some (.int (nI (i + 1))), none]) ⟨Or.inr rfl, Or.inr rfl, Or.inr rfl, Or.inr rfl, Or.inr rfl, Or.inl rfl, trivial⟩ ?_
          rw [show fbN S t d i = fbN S t d (i + 1) from by rw [fbN, cif_f (P := inF S i t d) c34_2, Nat.or_zero]]
          exact ih (i + 1) (by omega) (by omega)
        · skip
          refine g_iload_n h 3 dX5_forbiddenMarks_37 rfl rfl ?_
          refine g_aload h dX5_forbiddenMarks_38 rfl ?_
          refine g_get h 1 fa_X5_230 dX5_forbiddenMarks_40 q2 rfl ?_
          refine g_ior h dX5_forbiddenMarks_43 ?_
          refine g_istore_n (vs' := [_, _, _, _, _, _]) h 3 dX5_forbiddenMarks_44 rfl (Nat.le_of_ble_eq_true rfl) rfl rfl ?_
          refine g_iinc (vs' := [_, _, _, _, _, _]) h (nI (i + 1)) dX5_forbiddenMarks_45 rfl (by first | exact nI_1 _ | rfl) (Nat.le_of_ble_eq_true rfl) rfl rfl ?_
          refine g_goto h 5 dX5_forbiddenMarks_48 (by decide) ?_
          refine g_few (vs' := [some (.ref z), some (.int (nI t)), some (.int (nI d)), some (.int ((nI (fbN S t d i)) ||| (nI (sRm S i)))), some (.int (nI (i + 1))), none]) ⟨Or.inr rfl, Or.inr rfl, Or.inr rfl, Or.inr rfl, Or.inr rfl, Or.inl rfl, trivial⟩ ?_
          rw [show ((nI (fbN S t d i)) ||| (nI (sRm S i))) = nI (fbN S t d (i + 1)) from by rw [fbN, cif_t (P := inF S i t d) c34_2, nI_or]]
          exact ih (i + 1) (by omega) (by omega)
  exact L5 (sRn S + 1) 0 (by omega) (by omega)
abbrev rm_X5_cut : Room := { frames := 3, cells := 0, slots := 0, locals := 66 }
set_option maxRecDepth 100000 in
set_option maxHeartbeats 4000000 in
theorem C_cut (lau : Launch) (E : EnvD) (σ : Sto) {z : Nat} {S : PSt} (hI : Inv S) (hR : RepC E z S σ) (a1 a2 a3 : Int32) : CC lau yX5_cut cX5_cut 5 (some .int) rm_X5_cut E [.ref z, .int a1, .int a2, .int a3] σ (fun o s => o = some (.int (opCut S a1 a2 a3).1) ∧ RepC E z (opCut S a1 a2 a3).2 s) := by
  refine cc_of (vs := [_, _, _, _, _]) (by decide) (Nat.le_of_ble_eq_true rfl) rfl ?_
  intro X h hr hn
  obtain ⟨r0, ⟨fV, rV, eV⟩, ⟨fP, rP, eP⟩, ⟨fC, rC, eC⟩, ⟨fR, rR, eR⟩, ⟨fM, rM, eM⟩, rCh, rT, rO, ⟨nE, gE, hE, rE⟩, rows, prows⟩ := id hR
  by_cases ha1 : inR a1 8
  · skip
    obtain ⟨a, ha, rfl⟩ := ha1
    have ea : cl (nI a) = a := cl_nI (by omega)
    refine g_aload_n h 0 dX5_cut_0 rfl rfl ?_
    refine g_get h 0 fa_X5_11 dX5_cut_1 r0 rfl ?_
    refine g_iload_n h 1 dX5_cut_4 rfl rfl ?_
    refine g_callS h [] (c_X5_rowOf_in (xL X) E _ rV (by omega) (i := a) (by omega) (eV a (by omega))) cf_X5_60 cs_X5_rowOf dX5_cut_5 rfl rfl (Nat.le_of_ble_eq_true rfl) ⟨(Nat.le_of_ble_eq_true rfl), (Nat.le_of_ble_eq_true rfl)⟩ ⟨(Nat.le_of_ble_eq_true rfl), (Nat.le_of_ble_eq_true rfl)⟩ ?_
    refine kk_det ?_
    refine g_astore (vs' := [_, _, _, _, _]) h dX5_cut_8 (Nat.le_of_ble_eq_true rfl) rfl rfl ?_
    refine g_aload h dX5_cut_10 rfl ?_
    refine g_ifnull h dX5_cut_12 ?_
    refine g_iload_n h 2 dX5_cut_15 rfl rfl ?_
    refine g_callS h [] (c_X5_isTown (xL X) E _ a2) cf_X5_144 cs_X5_isTown dX5_cut_16 rfl rfl (Nat.le_of_ble_eq_true rfl) ⟨(Nat.le_of_ble_eq_true rfl), (Nat.le_of_ble_eq_true rfl)⟩ ⟨(Nat.le_of_ble_eq_true rfl), (Nat.le_of_ble_eq_true rfl)⟩ ?_
    refine kk_det ?_
    refine g_if_eqB h 29 dX5_cut_19 (by decide) (fun c19_1 => ?_) (fun c19_1 => ?_)
    · skip
      refine g_bipush h (-2) dX5_cut_29 (by decide) ?_
      exact g_iret h hr dX5_cut_31 ((fun e => ⟨by rw [e], by rw [e]; exact hR⟩) (show opCut S (nI a) a2 a3 = (-2, S) from by unfold opCut; rw [cif_f (fun q => c19_1 q.2.1)])) (Nat.le_of_ble_eq_true rfl) (Nat.le_of_ble_eq_true rfl)
    · skip
      obtain ⟨t, ht9, rfl⟩ := c19_1
      have et : cl (nI t) = t := cl_nI (by omega)
      refine g_iload_n h 3 dX5_cut_22 rfl rfl ?_
      refine g_callS h [] (c_X5_isDay (xL X) E _ a3) cf_X5_147 cs_X5_isDay dX5_cut_23 rfl rfl (Nat.le_of_ble_eq_true rfl) ⟨(Nat.le_of_ble_eq_true rfl), (Nat.le_of_ble_eq_true rfl)⟩ ⟨(Nat.le_of_ble_eq_true rfl), (Nat.le_of_ble_eq_true rfl)⟩ ?_
      refine kk_det ?_
      refine g_if_neB h 32 dX5_cut_26 (by decide) (fun c26_2 => ?_) (fun c26_2 => ?_)
      · skip
        obtain ⟨d, hd9, rfl⟩ := c26_2
        have ed : cl (nI d) = d := cl_nI (by omega)
        refine g_aload_n h 0 dX5_cut_32 rfl rfl ?_
        refine g_aload h dX5_cut_33 rfl ?_
        refine g_aload_n h 0 dX5_cut_35 rfl rfl ?_
        refine g_iload_n h 2 dX5_cut_36 rfl rfl ?_
        refine g_iload_n h 3 dX5_cut_37 rfl rfl ?_
        refine g_callV h [_, _] (c_X5_forbiddenMarks (xL X) E _ hI hR (t := t) (d := d) ht9 hd9) cf_X5_153 cv_X5_forbiddenMarks dX5_cut_38 rfl r0 rfl rfl (Nat.le_of_ble_eq_true rfl) ⟨(Nat.le_of_ble_eq_true rfl), (Nat.le_of_ble_eq_true rfl)⟩ ⟨(Nat.le_of_ble_eq_true rfl), (Nat.le_of_ble_eq_true rfl)⟩ ?_
        refine kk_det ?_
        refine g_callV h [] (c_X5_linesWith (xL X) E _ hI hR (v := a) (fb := fbN S t d (sRn S)) ha) cf_X5_156 cv_X5_linesWith dX5_cut_41 rfl r0 rfl rfl (Nat.le_of_ble_eq_true rfl) ⟨(Nat.le_of_ble_eq_true rfl), (Nat.le_of_ble_eq_true rfl)⟩ ⟨(Nat.le_of_ble_eq_true rfl), (Nat.le_of_ble_eq_true rfl)⟩ ?_
        refine kk_det ?_
        exact g_iret h hr dX5_cut_44 ((fun e => ⟨by rw [e]; rfl, by rw [e]; exact hR⟩) (show opCut S (nI a) (nI t) (nI d) = (nI (cutN S a t d), S) from by unfold opCut; rw [cif_t ⟨⟨a, ha, rfl⟩, ⟨t, ht9, rfl⟩, ⟨d, hd9, rfl⟩⟩, ea, et, ed])) (Nat.le_of_ble_eq_true rfl) (Nat.le_of_ble_eq_true rfl)
      · skip
        refine g_bipush h (-2) dX5_cut_29 (by decide) ?_
        exact g_iret h hr dX5_cut_31 ((fun e => ⟨by rw [e], by rw [e]; exact hR⟩) (show opCut S (nI a) (nI t) a3 = (-2, S) from by unfold opCut; rw [cif_f (fun q => c26_2 q.2.2)])) (Nat.le_of_ble_eq_true rfl) (Nat.le_of_ble_eq_true rfl)
  · skip
    refine g_aload_n h 0 dX5_cut_0 rfl rfl ?_
    refine g_get h 0 fa_X5_11 dX5_cut_1 r0 rfl ?_
    refine g_iload_n h 1 dX5_cut_4 rfl rfl ?_
    refine g_callS h [] (c_X5_rowOf_out (xL X) E _ a1 rV (by omega) ha1) cf_X5_60 cs_X5_rowOf dX5_cut_5 rfl rfl (Nat.le_of_ble_eq_true rfl) ⟨(Nat.le_of_ble_eq_true rfl), (Nat.le_of_ble_eq_true rfl)⟩ ⟨(Nat.le_of_ble_eq_true rfl), (Nat.le_of_ble_eq_true rfl)⟩ ?_
    refine kk_det ?_
    refine g_astoreN (vs' := [_, _, _, _, _]) h dX5_cut_8 (Nat.le_of_ble_eq_true rfl) rfl rfl ?_
    refine g_aloadN h dX5_cut_10 rfl ?_
    refine g_ifnullN h 29 dX5_cut_12 (by decide) ?_
    refine g_bipush h (-2) dX5_cut_29 (by decide) ?_
    exact g_iret h hr dX5_cut_31 ((fun e => ⟨by rw [e], by rw [e]; exact hR⟩) (show opCut S a1 a2 a3 = (-2, S) from by unfold opCut; rw [cif_f (fun q => ha1 q.1)])) (Nat.le_of_ble_eq_true rfl) (Nat.le_of_ble_eq_true rfl)
abbrev rm_X5_fit : Room := { frames := 3, cells := 0, slots := 0, locals := 64 }
set_option maxRecDepth 100000 in
set_option maxHeartbeats 4000000 in
theorem C_fit (lau : Launch) (E : EnvD) (σ : Sto) {z : Nat} {S : PSt} (hI : Inv S) (hR : RepC E z S σ) (a1 a2 a3 a4 : Int32) : CC lau yX5_fit cX5_fit 9 (some .int) rm_X5_fit E [.ref z, .int a1, .int a2, .int a3, .int a4] σ (fun o s => o = some (.int (opFit S a1 a2 a3 a4).1) ∧ RepC E z (opFit S a1 a2 a3 a4).2 s) := by
  refine cc_of (vs := [_, _, _, _, _, _, _, _, _]) (by decide) (Nat.le_of_ble_eq_true rfl) rfl ?_
  intro X h hr hn
  obtain ⟨r0, ⟨fV, rV, eV⟩, ⟨fP, rP, eP⟩, ⟨fC, rC, eC⟩, ⟨fR, rR, eR⟩, ⟨fM, rM, eM⟩, rCh, rT, rO, ⟨nE, gE, hE, rE⟩, rows, prows⟩ := id hR
  by_cases ha1 : inR a1 8 <;> by_cases ha4 : inR a4 8
  · skip
    obtain ⟨a, ha, rfl⟩ := ha1
    have ea : cl (nI a) = a := cl_nI (by omega)
    obtain ⟨hna, hla⟩ := hI.1 a ha
    obtain ⟨b, hb, rfl⟩ := ha4
    have eb : cl (nI b) = b := cl_nI (by omega)
    have hnb := (hI.1 b hb).1
    refine g_aload_n h 0 dX5_fit_0 rfl rfl ?_
    refine g_get h 0 fa_X5_11 dX5_fit_1 r0 rfl ?_
    refine g_iload_n h 1 dX5_fit_4 rfl rfl ?_
    refine g_callS h [] (c_X5_rowOf_in (xL X) E _ rV (by omega) (i := a) (by omega) (eV a (by omega))) cf_X5_60 cs_X5_rowOf dX5_fit_5 rfl rfl (Nat.le_of_ble_eq_true rfl) ⟨(Nat.le_of_ble_eq_true rfl), (Nat.le_of_ble_eq_true rfl)⟩ ⟨(Nat.le_of_ble_eq_true rfl), (Nat.le_of_ble_eq_true rfl)⟩ ?_
    refine kk_det ?_
    refine g_astore (vs' := [_, _, _, _, _, _, _, _, _]) h dX5_fit_8 (Nat.le_of_ble_eq_true rfl) rfl rfl ?_
    refine g_aload_n h 0 dX5_fit_10 rfl rfl ?_
    refine g_get h 0 fa_X5_11 dX5_fit_11 r0 rfl ?_
    refine g_iload h dX5_fit_14 rfl ?_
    refine g_callS h [] (c_X5_rowOf_in (xL X) E _ rV (by omega) (i := b) (by omega) (eV b (by omega))) cf_X5_60 cs_X5_rowOf dX5_fit_16 rfl rfl (Nat.le_of_ble_eq_true rfl) ⟨(Nat.le_of_ble_eq_true rfl), (Nat.le_of_ble_eq_true rfl)⟩ ⟨(Nat.le_of_ble_eq_true rfl), (Nat.le_of_ble_eq_true rfl)⟩ ?_
    refine kk_det ?_
    refine g_astore (vs' := [_, _, _, _, _, _, _, _, _]) h dX5_fit_19 (Nat.le_of_ble_eq_true rfl) rfl rfl ?_
    refine g_aload h dX5_fit_21 rfl ?_
    refine g_ifnull h dX5_fit_23 ?_
    refine g_aload h dX5_fit_26 rfl ?_
    refine g_ifnull h dX5_fit_28 ?_
    refine g_iload_n h 2 dX5_fit_31 rfl rfl ?_
    refine g_callS h [] (c_X5_isTown (xL X) E _ a2) cf_X5_144 cs_X5_isTown dX5_fit_32 rfl rfl (Nat.le_of_ble_eq_true rfl) ⟨(Nat.le_of_ble_eq_true rfl), (Nat.le_of_ble_eq_true rfl)⟩ ⟨(Nat.le_of_ble_eq_true rfl), (Nat.le_of_ble_eq_true rfl)⟩ ?_
    refine kk_det ?_
    refine g_if_eqB h 45 dX5_fit_35 (by decide) (fun c35_1 => ?_) (fun c35_1 => ?_)
    · skip
      refine g_bipush h (-2) dX5_fit_45 (by decide) ?_
      exact g_iret h hr dX5_fit_47 ((fun e => ⟨by rw [e], by rw [e]; exact hR⟩) (show opFit S (nI a) a2 a3 (nI b) = (-2, S) from cif_f (fun q => c35_1 q.2.1))) (Nat.le_of_ble_eq_true rfl) (Nat.le_of_ble_eq_true rfl)
    · skip
      obtain ⟨t, ht9, rfl⟩ := c35_1
      have et : cl (nI t) = t := cl_nI (by omega)
      refine g_iload_n h 3 dX5_fit_38 rfl rfl ?_
      refine g_callS h [] (c_X5_isDay (xL X) E _ a3) cf_X5_147 cs_X5_isDay dX5_fit_39 rfl rfl (Nat.le_of_ble_eq_true rfl) ⟨(Nat.le_of_ble_eq_true rfl), (Nat.le_of_ble_eq_true rfl)⟩ ⟨(Nat.le_of_ble_eq_true rfl), (Nat.le_of_ble_eq_true rfl)⟩ ?_
      refine kk_det ?_
      refine g_if_neB h 48 dX5_fit_42 (by decide) (fun c42_2 => ?_) (fun c42_2 => ?_)
      · skip
        obtain ⟨d, hd9, rfl⟩ := c42_2
        have ed : cl (nI d) = d := cl_nI (by omega)
        refine g_aload_n h 0 dX5_fit_48 rfl rfl ?_
        refine g_iload_n h 2 dX5_fit_49 rfl rfl ?_
        refine g_iload_n h 3 dX5_fit_50 rfl rfl ?_
        refine g_callV h [] (c_X5_forbiddenMarks (xL X) E _ hI hR (t := t) (d := d) ht9 hd9) cf_X5_153 cv_X5_forbiddenMarks dX5_fit_51 rfl r0 rfl rfl (Nat.le_of_ble_eq_true rfl) ⟨(Nat.le_of_ble_eq_true rfl), (Nat.le_of_ble_eq_true rfl)⟩ ⟨(Nat.le_of_ble_eq_true rfl), (Nat.le_of_ble_eq_true rfl)⟩ ?_
        refine kk_det ?_
        refine g_istore (vs' := [_, _, _, _, _, _, _, _, _]) h dX5_fit_54 (Nat.le_of_ble_eq_true rfl) rfl rfl ?_
        refine g_aload h dX5_fit_56 rfl ?_
        refine g_aload h dX5_fit_58 rfl ?_
        refine g_callV h [] (r_become (xL X) (rows b hb) hnb (rows a ha) hna) cf_X5_90 cv_X2_become dX5_fit_60 rfl (rows b hb).1 rfl rfl (Nat.le_of_ble_eq_true rfl) ⟨(Nat.le_of_ble_eq_true rfl), (Nat.le_of_ble_eq_true rfl)⟩ ⟨(Nat.le_of_ble_eq_true rfl), (Nat.le_of_ble_eq_true rfl)⟩ ?_
        rintro _ s2 ⟨rfl, hch, hri⟩
        refine g_aload h dX5_fit_63 rfl ?_
        refine g_get h 1 fa_X5_64 dX5_fit_65 hri.1 rfl ?_
        refine g_iconst h (nI 1) dX5_fit_68 (by decide) ?_
        refine g_isub h dX5_fit_69 ?_
        refine g_istore (vs' := [_, _, _, _, _, _, _, _, _]) h dX5_fit_70 (Nat.le_of_ble_eq_true rfl) rfl rfl ?_
        have L72 : ∀ (m0 : Nat) (e : Nat) (x8 : Int32) (s3 : Sto), (e ≤ sVn S a) → ((e = 0 ∧ x8 = -1) ∨ ∃ i, e = i + 1 ∧ x8 = nI i) → (RowCh σ s3 (z + 64 + 2 * b)) → (RowIs E s3 (z + 64 + 2 * b) (e + (ks (fun i => decide (sMk S (sVl S a i) &&& fbN S t d (sRn S) = 0)) e (sVn S a)).length) (fun q => nI (sVl S a (kx (fun i => decide (sMk S (sVl S a i) &&& fbN S t d (sRn S) = 0)) e (sVn S a) q)))) → e < m0 → G X E 9 (AD σ) (QF X E σ (fun o s => o = some (.int (opFit S (nI a) (nI t) (nI d) (nI b)).1) ∧ RepC E z (opFit S (nI a) (nI t) (nI d) (nI b)).2 s) rm_X5_fit) 0 0 72 [some (.ref z), some (.int (nI a)), some (.int (nI t)), some (.int (nI d)), some (.int (nI b)), some (.ref (z + 64 + 2 * a)), some (.ref (z + 64 + 2 * b)), some (.int (nI (fbN S t d (sRn S)))), some (.int x8)] [] s3 := by
          intro m0
          induction m0 with
          | zero => intro e x8 s3 _ _ _ _ hm0; exact absurd hm0 (Nat.not_lt_zero _)
          | succ m0 ih =>
            intro e x8 s3 he hx8 hch hri hm0
            refine g_iload h dX5_fit_72 rfl ?_
            refine g_if_lt h 107 dX5_fit_74 (by decide) (fun c74_3 => ?_) (fun c74_3 => ?_)
            · skip
              have he0 : e = 0 := by
                rcases hx8 with q | ⟨i, q1, q2⟩
                · exact q.1
                · subst q2; exact absurd c74_3 (nI_pos (by omega))
              subst he0
              refine g_aload h dX5_fit_107 rfl ?_
              refine g_get h 1 fa_X5_64 dX5_fit_109 hri.1 rfl ?_
              exact g_iret h hr dX5_fit_112 ((fun e => ⟨by rw [e, Nat.zero_add, ks_0]; rfl, by rw [e]; rw [Nat.zero_add, ks_0] at hri; exact hR.rowV hb hch (hri.cong (fun q hq => by unfold kx; rw [if_neg (Nat.not_lt_zero q), ks_0]; rfl))⟩) (show opFit S (nI a) (nI t) (nI d) (nI b) = (nI (kep S a (fbN S t d (sRn S)) (sVn S a)).length, setV S b (kep S a (fbN S t d (sRn S)) (sVn S a)).length (fun q => sVl S a ((kep S a (fbN S t d (sRn S)) (sVn S a)).getD q 0))) from by unfold opFit; rw [cif_t ⟨⟨a, ha, rfl⟩, ⟨t, ht9, rfl⟩, ⟨d, hd9, rfl⟩, ⟨b, hb, rfl⟩⟩, ea, et, ed, eb])) (Nat.le_of_ble_eq_true rfl) (Nat.le_of_ble_eq_true rfl)
            · skip
              obtain ⟨k, rfl, rfl⟩ : ∃ i, e = i + 1 ∧ x8 = nI i := by
                rcases hx8 with q | q
                · rw [q.2] at c74_3; exact absurd (by decide) c74_3
                · exact q
              have hle9 := ks_le (p := (fun i => decide (sMk S (sVl S a i) &&& fbN S t d (sRn S) = 0))) (e := k + 1) (n := sVn S a)
              have hx9 := hla k (by omega)
              have hm9 := hI.2.2.2.1 _ hx9
              have hfb9 := fbN_lt hI (t := t) (d := d) (sRn S) (Nat.le_refl _)
              have hR2 := hR.rowV hb hch hri
              refine g_aload_n h 0 dX5_fit_77 rfl rfl ?_
              refine g_aload h dX5_fit_78 rfl ?_
              refine g_iload h dX5_fit_80 rfl ?_
              refine g_callV h [_] (r_at (xL X) hri (by omega) (nI k)) cf_X5_82 cv_X2_at dX5_fit_82 rfl hri.1 rfl rfl (Nat.le_of_ble_eq_true rfl) ⟨(Nat.le_of_ble_eq_true rfl), (Nat.le_of_ble_eq_true rfl)⟩ ⟨(Nat.le_of_ble_eq_true rfl), (Nat.le_of_ble_eq_true rfl)⟩ ?_
              refine kk_det ?_
              refine g_top (y := nI (sVl S a k)) ((atV_in (by omega) (by omega)).trans (by rw [kx_lt (by omega)])) ?_
              refine g_callV h [] (c_X5_marksOf (xL X) E _ (S := S) hR2.1 hR2.2.2.2.2.2.1 (x := sVl S a k) hx9) cf_X5_160 cv_X5_marksOf dX5_fit_85 rfl ((hch.2 z (by omega) (by omega)).trans r0) rfl rfl (Nat.le_of_ble_eq_true rfl) ⟨(Nat.le_of_ble_eq_true rfl), (Nat.le_of_ble_eq_true rfl)⟩ ⟨(Nat.le_of_ble_eq_true rfl), (Nat.le_of_ble_eq_true rfl)⟩ ?_
              refine kk_det ?_
              refine g_iload h dX5_fit_88 rfl ?_
              refine g_iand h dX5_fit_90 ?_
              refine g_top (y := nI (sMk S (sVl S a k) &&& fbN S t d (sRn S))) (nI_and _ _) ?_
              have hand := Nat.and_le_left (n := sMk S (sVl S a k)) (m := fbN S t d (sRn S))
              refine g_if_eqN h 101 dX5_fit_91 (by decide) (by omega) (fun c91_4 => ?_) (fun c91_4 => ?_)
              · skip
                refine g_iinc (vs' := [_, _, _, _, _, _, _, _, _]) h (nI k + -1) dX5_fit_101 rfl rfl (Nat.le_of_ble_eq_true rfl) rfl rfl ?_
                refine g_goto h 72 dX5_fit_104 (by decide) ?_
                have hx8 : (k = 0 ∧ (nI k + -1) = -1) ∨ ∃ i, k = i + 1 ∧ (nI k + -1) = nI i := by rcases Nat.eq_zero_or_pos k with e | e; (· subst e; exact Or.inl ⟨rfl, by decide⟩); (· exact Or.inr ⟨k - 1, by omega, nI_dec e⟩)
                obtain ⟨w1, w2⟩ := kx_keep (p := (fun i => decide (sMk S (sVl S a i) &&& fbN S t d (sRn S) = 0))) (k := k) (n := sVn S a) (by omega) (decide_eq_true c91_4)
                rw [w2] at hri
                exact ih k _ s3 (by omega) hx8 hch (hri.cong (fun q hq => by rw [w1 q])) (by omega)
              · skip
                refine g_aload h dX5_fit_94 rfl ?_
                refine g_iload h dX5_fit_96 rfl ?_
                refine g_callV h [] (r_remove (xL X) hri (by omega) (i := k) (by omega)) cf_X5_86 cv_X2_remove dX5_fit_98 rfl hri.1 rfl rfl (Nat.le_of_ble_eq_true rfl) ⟨(Nat.le_of_ble_eq_true rfl), (Nat.le_of_ble_eq_true rfl)⟩ ⟨(Nat.le_of_ble_eq_true rfl), (Nat.le_of_ble_eq_true rfl)⟩ ?_
                rintro _ s4 ⟨rfl, hch4, hri4⟩
                refine g_iinc (vs' := [_, _, _, _, _, _, _, _, _]) h (nI k + -1) dX5_fit_101 rfl rfl (Nat.le_of_ble_eq_true rfl) rfl rfl ?_
                refine g_goto h 72 dX5_fit_104 (by decide) ?_
                have hx8 : (k = 0 ∧ (nI k + -1) = -1) ∨ ∃ i, k = i + 1 ∧ (nI k + -1) = nI i := by rcases Nat.eq_zero_or_pos k with e | e; (· subst e; exact Or.inl ⟨rfl, by decide⟩); (· exact Or.inr ⟨k - 1, by omega, nI_dec e⟩)
                obtain ⟨w1, w2⟩ := kx_drop (p := (fun i => decide (sMk S (sVl S a i) &&& fbN S t d (sRn S) = 0))) (k := k) (n := sVn S a) (by omega) (fun q => absurd (of_decide_eq_true q) (Nat.ne_of_gt c91_4))
                rw [w2] at hri4
                exact ih k _ s4 (by omega) hx8 ⟨hch4.1.trans hch.1, fun a q1 q2 => (hch4.2 a q1 q2).trans (hch.2 a q1 q2)⟩ (hri4.cong (fun q hq => by rw [w1 q hq]; unfold remF; split <;> rfl)) (by omega)
        exact L72 (sVn S a + 1) (sVn S a) _ s2 (Nat.le_refl _) (by rcases Nat.eq_zero_or_pos (sVn S a) with e | e; (· rw [e]; exact Or.inl ⟨rfl, by decide⟩); (· exact Or.inr ⟨sVn S a - 1, by omega, nI_subN (by omega)⟩)) hch (by
          rw [ks_n]
          exact hri.cong (fun q hq => by rw [kx_lt hq])) (by omega)
      · skip
        refine g_bipush h (-2) dX5_fit_45 (by decide) ?_
        exact g_iret h hr dX5_fit_47 ((fun e => ⟨by rw [e], by rw [e]; exact hR⟩) (show opFit S (nI a) (nI t) a3 (nI b) = (-2, S) from cif_f (fun q => c42_2 q.2.2.1))) (Nat.le_of_ble_eq_true rfl) (Nat.le_of_ble_eq_true rfl)
  · skip
    obtain ⟨a, ha, rfl⟩ := ha1
    have ea : cl (nI a) = a := cl_nI (by omega)
    obtain ⟨hna, hla⟩ := hI.1 a ha
    refine g_aload_n h 0 dX5_fit_0 rfl rfl ?_
    refine g_get h 0 fa_X5_11 dX5_fit_1 r0 rfl ?_
    refine g_iload_n h 1 dX5_fit_4 rfl rfl ?_
    refine g_callS h [] (c_X5_rowOf_in (xL X) E _ rV (by omega) (i := a) (by omega) (eV a (by omega))) cf_X5_60 cs_X5_rowOf dX5_fit_5 rfl rfl (Nat.le_of_ble_eq_true rfl) ⟨(Nat.le_of_ble_eq_true rfl), (Nat.le_of_ble_eq_true rfl)⟩ ⟨(Nat.le_of_ble_eq_true rfl), (Nat.le_of_ble_eq_true rfl)⟩ ?_
    refine kk_det ?_
    refine g_astore (vs' := [_, _, _, _, _, _, _, _, _]) h dX5_fit_8 (Nat.le_of_ble_eq_true rfl) rfl rfl ?_
    refine g_aload_n h 0 dX5_fit_10 rfl rfl ?_
    refine g_get h 0 fa_X5_11 dX5_fit_11 r0 rfl ?_
    refine g_iload h dX5_fit_14 rfl ?_
    refine g_callS h [] (c_X5_rowOf_out (xL X) E _ a4 rV (by omega) ha4) cf_X5_60 cs_X5_rowOf dX5_fit_16 rfl rfl (Nat.le_of_ble_eq_true rfl) ⟨(Nat.le_of_ble_eq_true rfl), (Nat.le_of_ble_eq_true rfl)⟩ ⟨(Nat.le_of_ble_eq_true rfl), (Nat.le_of_ble_eq_true rfl)⟩ ?_
    refine kk_det ?_
    refine g_astoreN (vs' := [_, _, _, _, _, _, _, _, _]) h dX5_fit_19 (Nat.le_of_ble_eq_true rfl) rfl rfl ?_
    refine g_aload h dX5_fit_21 rfl ?_
    refine g_ifnull h dX5_fit_23 ?_
    refine g_aloadN h dX5_fit_26 rfl ?_
    refine g_ifnullN h 45 dX5_fit_28 (by decide) ?_
    refine g_bipush h (-2) dX5_fit_45 (by decide) ?_
    exact g_iret h hr dX5_fit_47 ((fun e => ⟨by rw [e], by rw [e]; exact hR⟩) (show opFit S (nI a) a2 a3 a4 = (-2, S) from cif_f (fun q => ha4 q.2.2.2))) (Nat.le_of_ble_eq_true rfl) (Nat.le_of_ble_eq_true rfl)
  · skip
    obtain ⟨b, hb, rfl⟩ := ha4
    have eb : cl (nI b) = b := cl_nI (by omega)
    have hnb := (hI.1 b hb).1
    refine g_aload_n h 0 dX5_fit_0 rfl rfl ?_
    refine g_get h 0 fa_X5_11 dX5_fit_1 r0 rfl ?_
    refine g_iload_n h 1 dX5_fit_4 rfl rfl ?_
    refine g_callS h [] (c_X5_rowOf_out (xL X) E _ a1 rV (by omega) ha1) cf_X5_60 cs_X5_rowOf dX5_fit_5 rfl rfl (Nat.le_of_ble_eq_true rfl) ⟨(Nat.le_of_ble_eq_true rfl), (Nat.le_of_ble_eq_true rfl)⟩ ⟨(Nat.le_of_ble_eq_true rfl), (Nat.le_of_ble_eq_true rfl)⟩ ?_
    refine kk_det ?_
    refine g_astoreN (vs' := [_, _, _, _, _, _, _, _, _]) h dX5_fit_8 (Nat.le_of_ble_eq_true rfl) rfl rfl ?_
    refine g_aload_n h 0 dX5_fit_10 rfl rfl ?_
    refine g_get h 0 fa_X5_11 dX5_fit_11 r0 rfl ?_
    refine g_iload h dX5_fit_14 rfl ?_
    refine g_callS h [] (c_X5_rowOf_in (xL X) E _ rV (by omega) (i := b) (by omega) (eV b (by omega))) cf_X5_60 cs_X5_rowOf dX5_fit_16 rfl rfl (Nat.le_of_ble_eq_true rfl) ⟨(Nat.le_of_ble_eq_true rfl), (Nat.le_of_ble_eq_true rfl)⟩ ⟨(Nat.le_of_ble_eq_true rfl), (Nat.le_of_ble_eq_true rfl)⟩ ?_
    refine kk_det ?_
    refine g_astore (vs' := [_, _, _, _, _, _, _, _, _]) h dX5_fit_19 (Nat.le_of_ble_eq_true rfl) rfl rfl ?_
    refine g_aloadN h dX5_fit_21 rfl ?_
    refine g_ifnullN h 45 dX5_fit_23 (by decide) ?_
    refine g_bipush h (-2) dX5_fit_45 (by decide) ?_
    exact g_iret h hr dX5_fit_47 ((fun e => ⟨by rw [e], by rw [e]; exact hR⟩) (show opFit S a1 a2 a3 (nI b) = (-2, S) from cif_f (fun q => ha1 q.1))) (Nat.le_of_ble_eq_true rfl) (Nat.le_of_ble_eq_true rfl)
  · skip
    refine g_aload_n h 0 dX5_fit_0 rfl rfl ?_
    refine g_get h 0 fa_X5_11 dX5_fit_1 r0 rfl ?_
    refine g_iload_n h 1 dX5_fit_4 rfl rfl ?_
    refine g_callS h [] (c_X5_rowOf_out (xL X) E _ a1 rV (by omega) ha1) cf_X5_60 cs_X5_rowOf dX5_fit_5 rfl rfl (Nat.le_of_ble_eq_true rfl) ⟨(Nat.le_of_ble_eq_true rfl), (Nat.le_of_ble_eq_true rfl)⟩ ⟨(Nat.le_of_ble_eq_true rfl), (Nat.le_of_ble_eq_true rfl)⟩ ?_
    refine kk_det ?_
    refine g_astoreN (vs' := [_, _, _, _, _, _, _, _, _]) h dX5_fit_8 (Nat.le_of_ble_eq_true rfl) rfl rfl ?_
    refine g_aload_n h 0 dX5_fit_10 rfl rfl ?_
    refine g_get h 0 fa_X5_11 dX5_fit_11 r0 rfl ?_
    refine g_iload h dX5_fit_14 rfl ?_
    refine g_callS h [] (c_X5_rowOf_out (xL X) E _ a4 rV (by omega) ha4) cf_X5_60 cs_X5_rowOf dX5_fit_16 rfl rfl (Nat.le_of_ble_eq_true rfl) ⟨(Nat.le_of_ble_eq_true rfl), (Nat.le_of_ble_eq_true rfl)⟩ ⟨(Nat.le_of_ble_eq_true rfl), (Nat.le_of_ble_eq_true rfl)⟩ ?_
    refine kk_det ?_
    refine g_astoreN (vs' := [_, _, _, _, _, _, _, _, _]) h dX5_fit_19 (Nat.le_of_ble_eq_true rfl) rfl rfl ?_
    refine g_aloadN h dX5_fit_21 rfl ?_
    refine g_ifnullN h 45 dX5_fit_23 (by decide) ?_
    refine g_bipush h (-2) dX5_fit_45 (by decide) ?_
    exact g_iret h hr dX5_fit_47 ((fun e => ⟨by rw [e], by rw [e]; exact hR⟩) (show opFit S a1 a2 a3 a4 = (-2, S) from cif_f (fun q => ha1 q.1))) (Nat.le_of_ble_eq_true rfl) (Nat.le_of_ble_eq_true rfl)
