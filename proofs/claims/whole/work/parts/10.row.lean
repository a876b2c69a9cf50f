/-! rows: walked by program -/
abbrev rm_X5_isLine : Room := { frames := 0, cells := 0, slots := 0, locals := 0 }
set_option maxRecDepth 100000 in
set_option maxHeartbeats 4000000 in
theorem c_X5_isLine (lau : Launch) (E : EnvD) (σ : Sto) (x : Int32) : CC lau yX5_isLine cX5_isLine 1 (some .boolean) rm_X5_isLine E [.int x] σ (fun o s => o = some (.int (bI (inR x 100))) ∧ s = σ) := by
  refine cc_of (vs := [_]) (by decide) (Nat.le_of_ble_eq_true rfl) rfl ?_
  intro X h hr hn
  refine g_iload_n h 0 dX5_isLine_0 rfl rfl ?_
  refine g_if_lt h 14 dX5_isLine_1 (by decide) (fun c1_1 => ?_) (fun c1_1 => ?_)
  · skip
    refine g_iconst h (nI 0) dX5_isLine_14 (by decide) ?_
    exact g_zret h hr rfl dX5_isLine_15 (ret0 (inR_neg c1_1 (by decide))) (Nat.le_of_ble_eq_true rfl) (Nat.le_of_ble_eq_true rfl)
  · skip
    refine g_iload_n h 0 dX5_isLine_4 rfl rfl ?_
    refine g_bipush h (nI 100) dX5_isLine_5 (by decide) ?_
    refine g_icmp_ge h 14 dX5_isLine_7 (by decide) (fun c7_2 => ?_) (fun c7_2 => ?_)
    · skip
      refine g_iconst h (nI 0) dX5_isLine_14 (by decide) ?_
      exact g_zret h hr rfl dX5_isLine_15 (ret0 (inR_ge c7_2 (by decide))) (Nat.le_of_ble_eq_true rfl) (Nat.le_of_ble_eq_true rfl)
    · skip
      refine g_iconst h (nI 1) dX5_isLine_10 (by decide) ?_
      refine g_goto h 15 dX5_isLine_11 (by decide) ?_
      exact g_zret h hr rfl dX5_isLine_15 (ret1 (inR_of c1_1 c7_2 (by decide))) (Nat.le_of_ble_eq_true rfl) (Nat.le_of_ble_eq_true rfl)
abbrev rm_X5_isTown : Room := { frames := 0, cells := 0, slots := 0, locals := 0 }
set_option maxRecDepth 100000 in
set_option maxHeartbeats 4000000 in
theorem c_X5_isTown (lau : Launch) (E : EnvD) (σ : Sto) (x : Int32) : CC lau yX5_isTown cX5_isTown 1 (some .boolean) rm_X5_isTown E [.int x] σ (fun o s => o = some (.int (bI (inR x 8))) ∧ s = σ) := by
  refine cc_of (vs := [_]) (by decide) (Nat.le_of_ble_eq_true rfl) rfl ?_
  intro X h hr hn
  refine g_iload_n h 0 dX5_isTown_0 rfl rfl ?_
  refine g_if_lt h 14 dX5_isTown_1 (by decide) (fun c1_1 => ?_) (fun c1_1 => ?_)
  · skip
    refine g_iconst h (nI 0) dX5_isTown_14 (by decide) ?_
    exact g_zret h hr rfl dX5_isTown_15 (ret0 (inR_neg c1_1 (by decide))) (Nat.le_of_ble_eq_true rfl) (Nat.le_of_ble_eq_true rfl)
  · skip
    refine g_iload_n h 0 dX5_isTown_4 rfl rfl ?_
    refine g_bipush h (nI 8) dX5_isTown_5 (by decide) ?_
    refine g_icmp_ge h 14 dX5_isTown_7 (by decide) (fun c7_2 => ?_) (fun c7_2 => ?_)
    · skip
      refine g_iconst h (nI 0) dX5_isTown_14 (by decide) ?_
      exact g_zret h hr rfl dX5_isTown_15 (ret0 (inR_ge c7_2 (by decide))) (Nat.le_of_ble_eq_true rfl) (Nat.le_of_ble_eq_true rfl)
    · skip
      refine g_iconst h (nI 1) dX5_isTown_10 (by decide) ?_
      refine g_goto h 15 dX5_isTown_11 (by decide) ?_
      exact g_zret h hr rfl dX5_isTown_15 (ret1 (inR_of c1_1 c7_2 (by decide))) (Nat.le_of_ble_eq_true rfl) (Nat.le_of_ble_eq_true rfl)
abbrev rm_X5_isMarks : Room := { frames := 0, cells := 0, slots := 0, locals := 0 }
set_option maxRecDepth 100000 in
set_option maxHeartbeats 4000000 in
theorem c_X5_isMarks (lau : Launch) (E : EnvD) (σ : Sto) (x : Int32) : CC lau yX5_isMarks cX5_isMarks 1 (some .boolean) rm_X5_isMarks E [.int x] σ (fun o s => o = some (.int (bI (inR x 256))) ∧ s = σ) := by
  refine cc_of (vs := [_]) (by decide) (Nat.le_of_ble_eq_true rfl) rfl ?_
  intro X h hr hn
  refine g_iload_n h 0 dX5_isMarks_0 rfl rfl ?_
  refine g_if_lt h 15 dX5_isMarks_1 (by decide) (fun c1_1 => ?_) (fun c1_1 => ?_)
  · skip
    refine g_iconst h (nI 0) dX5_isMarks_15 (by decide) ?_
    exact g_zret h hr rfl dX5_isMarks_16 (ret0 (inR_neg c1_1 (by decide))) (Nat.le_of_ble_eq_true rfl) (Nat.le_of_ble_eq_true rfl)
  · skip
    refine g_iload_n h 0 dX5_isMarks_4 rfl rfl ?_
    refine g_sipush h (nI 255) dX5_isMarks_5 (by decide) ?_
    refine g_icmp_gt h 15 dX5_isMarks_8 (by decide) (fun c8_2 => ?_) (fun c8_2 => ?_)
    · skip
      refine g_iconst h (nI 0) dX5_isMarks_15 (by decide) ?_
      exact g_zret h hr rfl dX5_isMarks_16 (ret0 (inR_gt c8_2 rfl (by decide))) (Nat.le_of_ble_eq_true rfl) (Nat.le_of_ble_eq_true rfl)
    · skip
      refine g_iconst h (nI 1) dX5_isMarks_11 (by decide) ?_
      refine g_goto h 16 dX5_isMarks_12 (by decide) ?_
      exact g_zret h hr rfl dX5_isMarks_16 (ret1 (inR_of2 c1_1 c8_2 rfl (by decide))) (Nat.le_of_ble_eq_true rfl) (Nat.le_of_ble_eq_true rfl)
abbrev rm_X5_isDay : Room := { frames := 0, cells := 0, slots := 0, locals := 0 }
set_option maxRecDepth 100000 in
set_option maxHeartbeats 4000000 in
theorem c_X5_isDay (lau : Launch) (E : EnvD) (σ : Sto) (x : Int32) : CC lau yX5_isDay cX5_isDay 1 (some .boolean) rm_X5_isDay E [.int x] σ (fun o s => o = some (.int (bI (inR x 1000))) ∧ s = σ) := by
  refine cc_of (vs := [_]) (by decide) (Nat.le_of_ble_eq_true rfl) rfl ?_
  intro X h hr hn
  refine g_iload_n h 0 dX5_isDay_0 rfl rfl ?_
  refine g_if_lt h 15 dX5_isDay_1 (by decide) (fun c1_1 => ?_) (fun c1_1 => ?_)
  · skip
    refine g_iconst h (nI 0) dX5_isDay_15 (by decide) ?_
    exact g_zret h hr rfl dX5_isDay_16 (ret0 (inR_neg c1_1 (by decide))) (Nat.le_of_ble_eq_true rfl) (Nat.le_of_ble_eq_true rfl)
  · skip
    refine g_iload_n h 0 dX5_isDay_4 rfl rfl ?_
    refine g_sipush h (nI 999) dX5_isDay_5 (by decide) ?_
    refine g_icmp_gt h 15 dX5_isDay_8 (by decide) (fun c8_2 => ?_) (fun c8_2 => ?_)
    · skip
      refine g_iconst h (nI 0) dX5_isDay_15 (by decide) ?_
      exact g_zret h hr rfl dX5_isDay_16 (ret0 (inR_gt c8_2 rfl (by decide))) (Nat.le_of_ble_eq_true rfl) (Nat.le_of_ble_eq_true rfl)
    · skip
      refine g_iconst h (nI 1) dX5_isDay_11 (by decide) ?_
      refine g_goto h 16 dX5_isDay_12 (by decide) ?_
      exact g_zret h hr rfl dX5_isDay_16 (ret1 (inR_of2 c1_1 c8_2 rfl (by decide))) (Nat.le_of_ble_eq_true rfl) (Nat.le_of_ble_eq_true rfl)
abbrev rm_X2_has : Room := { frames := 0, cells := 0, slots := 0, locals := 0 }
set_option maxRecDepth 100000 in
set_option maxHeartbeats 4000000 in
theorem c_X2_has (lau : Launch) (E : EnvD) (σ : Sto) {r t n : Nat} {f : Nat → Int32} (h1 : σ.1 r = some (cO 2 [.ref t, .int (nI n)])) (h2 : σ.1 t = some (cI E 40 f)) (h3 : n ≤ 40) (i : Int32) : CC lau yX2_has cX2_has 2 (some .boolean) rm_X2_has E [.ref r, .int i] σ (fun o s => o = some (.int (bI (inR i n))) ∧ s = σ) := by
  refine cc_of (vs := [_, _]) (by decide) (Nat.le_of_ble_eq_true rfl) rfl ?_
  intro X h hr hn
  refine g_iload_n h 1 dX2_has_0 rfl rfl ?_
  refine g_if_lt h 25 dX2_has_1 (by decide) (fun c1_1 => ?_) (fun c1_1 => ?_)
  · skip
    refine g_iconst h (nI 0) dX2_has_25 (by decide) ?_
    exact g_zret h hr rfl dX2_has_26 (ret0 (inR_neg c1_1 (by omega))) (Nat.le_of_ble_eq_true rfl) (Nat.le_of_ble_eq_true rfl)
  · skip
    refine g_iload_n h 1 dX2_has_4 rfl rfl ?_
    refine g_aload_n h 0 dX2_has_5 rfl rfl ?_
    refine g_get h 1 fa_X2_15 dX2_has_6 h1 rfl ?_
    refine g_icmp_ge h 25 dX2_has_9 (by decide) (fun c9_2 => ?_) (fun c9_2 => ?_)
    · skip
      refine g_iconst h (nI 0) dX2_has_25 (by decide) ?_
      exact g_zret h hr rfl dX2_has_26 (ret0 (inR_ge c9_2 (by omega))) (Nat.le_of_ble_eq_true rfl) (Nat.le_of_ble_eq_true rfl)
    · skip
      refine g_iload_n h 1 dX2_has_12 rfl rfl ?_
      refine g_aload_n h 0 dX2_has_13 rfl rfl ?_
      refine g_get h 0 fa_X2_9 dX2_has_14 h1 rfl ?_
      refine g_alen (v := nI 40) h 0 dX2_has_17 rfl h2 rfl ?_
      refine g_icmp_ge h 25 dX2_has_18 (by decide) (fun c18_3 => absurd (inR_of c1_1 c9_2 (by omega)) (fun z => inR_ge c18_3 (by decide) (by obtain ⟨j, hj, e⟩ := z; exact ⟨j, by omega, e⟩))) (fun c18_3 => ?_)
      refine g_iconst h (nI 1) dX2_has_21 (by decide) ?_
      refine g_goto h 26 dX2_has_22 (by decide) ?_
      exact g_zret h hr rfl dX2_has_26 (ret1 (inR_of c1_1 c9_2 (by omega))) (Nat.le_of_ble_eq_true rfl) (Nat.le_of_ble_eq_true rfl)
abbrev rm_X2_at : Room := { frames := 1, cells := 0, slots := 0, locals := 21 }
set_option maxRecDepth 100000 in
set_option maxHeartbeats 4000000 in
theorem c_X2_at (lau : Launch) (E : EnvD) (σ : Sto) {r t n : Nat} {f : Nat → Int32} (h1 : σ.1 r = some (cO 2 [.ref t, .int (nI n)])) (h2 : σ.1 t = some (cI E 40 f)) (h3 : n ≤ 40) (i : Int32) : CC lau yX2_at cX2_at 2 (some .int) rm_X2_at E [.ref r, .int i] σ (fun o s => o = some (.int (atV n f i)) ∧ s = σ) := by
  refine cc_of (vs := [_, _]) (by decide) (Nat.le_of_ble_eq_true rfl) rfl ?_
  intro X h hr hn
  refine g_aload_n h 0 dX2_at_0 rfl rfl ?_
  refine g_iload_n h 1 dX2_at_1 rfl rfl ?_
  refine g_callV h [] (c_X2_has (xL X) E _ h1 h2 h3 i) cf_X2_19 cv_X2_has dX2_at_2 rfl h1 rfl rfl (Nat.le_of_ble_eq_true rfl) ⟨(Nat.le_of_ble_eq_true rfl), (Nat.le_of_ble_eq_true rfl)⟩ ⟨(Nat.le_of_ble_eq_true rfl), (Nat.le_of_ble_eq_true rfl)⟩ ?_
  refine kk_det ?_
  refine g_if_eqB h 17 dX2_at_5 (by decide) (fun c5_1 => ?_) (fun c5_1 => ?_)
  · skip
    refine g_iconst h (-1) dX2_at_17 (by decide) ?_
    exact g_iret h hr dX2_at_18 (retI (atV_out c5_1).symm) (Nat.le_of_ble_eq_true rfl) (Nat.le_of_ble_eq_true rfl)
  · skip
    obtain ⟨j, hj, rfl⟩ := c5_1
    refine g_aload_n h 0 dX2_at_8 rfl rfl ?_
    refine g_get h 0 fa_X2_9 dX2_at_9 h1 rfl ?_
    refine g_iload_n h 1 dX2_at_12 rfl rfl ?_
    refine g_iald h dX2_at_13 h2 (by omega) (by omega) ?_
    refine g_goto h 18 dX2_at_14 (by decide) ?_
    exact g_iret h hr dX2_at_18 (retI (atV_in hj (by omega)).symm) (Nat.le_of_ble_eq_true rfl) (Nat.le_of_ble_eq_true rfl)
abbrev rm_X2_isFull : Room := { frames := 0, cells := 0, slots := 0, locals := 0 }
set_option maxRecDepth 100000 in
set_option maxHeartbeats 4000000 in
theorem c_X2_isFull (lau : Launch) (E : EnvD) (σ : Sto) {r t n : Nat} {f : Nat → Int32} (h1 : σ.1 r = some (cO 2 [.ref t, .int (nI n)])) (h2 : σ.1 t = some (cI E 40 f)) (h3 : n ≤ 40) : CC lau yX2_isFull cX2_isFull 1 (some .boolean) rm_X2_isFull E [.ref r] σ (fun o s => o = some (.int (bI (40 ≤ n))) ∧ s = σ) := by
  refine cc_of (vs := [_]) (by decide) (Nat.le_of_ble_eq_true rfl) rfl ?_
  intro X h hr hn
  refine g_aload_n h 0 dX2_isFull_0 rfl rfl ?_
  refine g_get h 1 fa_X2_15 dX2_isFull_1 h1 rfl ?_
  refine g_aload_n h 0 dX2_isFull_4 rfl rfl ?_
  refine g_get h 0 fa_X2_9 dX2_isFull_5 h1 rfl ?_
  refine g_alen (v := nI 40) h 0 dX2_isFull_8 rfl h2 rfl ?_
  refine g_icmp_ltN h 16 dX2_isFull_9 (by decide) (by omega) (by decide) (fun c9_1 => ?_) (fun c9_1 => ?_)
  · skip
    refine g_iconst h (nI 0) dX2_isFull_16 (by decide) ?_
    exact g_zret h hr rfl dX2_isFull_17 (ret0 (Nat.not_le.mpr c9_1)) (Nat.le_of_ble_eq_true rfl) (Nat.le_of_ble_eq_true rfl)
  · skip
    refine g_iconst h (nI 1) dX2_isFull_12 (by decide) ?_
    refine g_goto h 17 dX2_isFull_13 (by decide) ?_
    exact g_zret h hr rfl dX2_isFull_17 (ret1 c9_1) (Nat.le_of_ble_eq_true rfl) (Nat.le_of_ble_eq_true rfl)
abbrev rm_X2_insert : Room := { frames := 1, cells := 0, slots := 0, locals := 20 }
set_option maxRecDepth 100000 in
set_option maxHeartbeats 4000000 in
theorem c_X2_insert (lau : Launch) (E : EnvD) (σ : Sto) {r t n : Nat} {f : Nat → Int32} (h1 : σ.1 r = some (cO 2 [.ref t, .int (nI n)])) (h2 : σ.1 t = some (cI E 40 f)) (h3 : n ≤ 40) {i : Nat} (x : Int32) (h4 : i ≤ n) (h5 : n < 40) : CC lau yX2_insert cX2_insert 4 none rm_X2_insert E [.ref r, .int (nI i), .int x] σ (fun o s => o = none ∧ s = sup (sup σ t (cI E 40 (insF f n i x))) r (cO 2 [.ref t, .int (nI (n + 1))])) := by
  refine cc_of (vs := [_, _, _, _]) (by decide) (Nat.le_of_ble_eq_true rfl) rfl ?_
  intro X h hr hn
  refine g_iload_n h 1 dX2_insert_0 rfl rfl ?_
  refine g_if_ltN h 19 dX2_insert_1 (by decide) (by omega) ?_
  refine g_iload_n h 1 dX2_insert_4 rfl rfl ?_
  refine g_aload_n h 0 dX2_insert_5 rfl rfl ?_
  refine g_get h 1 fa_X2_15 dX2_insert_6 h1 rfl ?_
  refine g_icmp_gtN h 19 dX2_insert_9 (by decide) (by omega) (by omega) (fun c9_2 => absurd c9_2 (by omega)) (fun c9_2 => ?_)
  refine g_aload_n h 0 dX2_insert_12 rfl rfl ?_
  refine g_callV h [] (c_X2_isFull (xL X) E _ h1 h2 h3) cf_X2_23 cv_X2_isFull dX2_insert_13 rfl h1 rfl rfl (Nat.le_of_ble_eq_true rfl) ⟨(Nat.le_of_ble_eq_true rfl), (Nat.le_of_ble_eq_true rfl)⟩ ⟨(Nat.le_of_ble_eq_true rfl), (Nat.le_of_ble_eq_true rfl)⟩ ?_
  refine kk_det ?_
  refine g_if_eqB h 20 dX2_insert_16 (by decide) (fun c16_3 => ?_) (fun c16_3 => absurd c16_3 (by omega))
  refine g_aload_n h 0 dX2_insert_20 rfl rfl ?_
  refine g_get h 1 fa_X2_15 dX2_insert_21 h1 rfl ?_
  refine g_istore_n (vs' := [_, _, _, _]) h 3 dX2_insert_24 rfl (Nat.le_of_ble_eq_true rfl) rfl rfl ?_
  refine g_sto (sup_self (e := cI E 40 (shF f n n)) (by rw [shF_n]; exact h2)).symm ?_
  have L25 : ∀ (m0 : Nat) (k : Nat), (i ≤ k) → (k ≤ n) → (k - i) < m0 → G X E 4 (AD σ) (QF X E σ (fun o s => o = none ∧ s = sup (sup σ t (cI E 40 (insF f n i x))) r (cO 2 [.ref t, .int (nI (n + 1))])) rm_X2_insert) 0 0 25 [some (.ref r), some (.int (nI i)), some (.int x), some (.int (nI k))] [] (sup σ t (cI E 40 (shF f n k))) := by
    intro m0
    induction m0 with
    | zero => intro k _ _ hm0; exact absurd hm0 (Nat.not_lt_zero _)
    | succ m0 ih =>
      intro k hk1 hk2 hm0
      refine g_iload_n h 3 dX2_insert_25 rfl rfl ?_
      refine g_iload_n h 1 dX2_insert_26 rfl rfl ?_
      refine g_icmp_leN h 50 dX2_insert_27 (by decide) (by omega) (by omega) (fun c27_4 => ?_) (fun c27_4 => ?_)
      · skip
        have hki : k = i := by omega
        subst hki
        refine g_aload_n h 0 dX2_insert_50 rfl rfl ?_
        refine g_get h 0 fa_X2_9 dX2_insert_51 (sup_k h1 h2 (by simp)) rfl ?_
        refine g_iload_n h 1 dX2_insert_54 rfl rfl ?_
        refine g_iload_n h 2 dX2_insert_55 rfl rfl ?_
        refine g_iast h dX2_insert_56 sup_eq (by omega) (by omega) ?_
        refine g_sto sup_sup ?_
        refine g_aload_n h 0 dX2_insert_57 rfl rfl ?_
        refine g_dup h dX2_insert_58 rfl ?_
        refine g_get h 1 fa_X2_15 dX2_insert_59 (sup_k h1 h2 (by simp)) rfl ?_
        refine g_iconst h (nI 1) dX2_insert_62 (by decide) ?_
        refine g_iaddN h dX2_insert_63 ?_
        refine g_put (fs' := [_, _]) h 1 fp_X2_15 dX2_insert_64 (sup_k h1 h2 (by simp)) (Nat.le_of_ble_eq_true rfl) rfl rfl rfl ?_
        exact g_vret h hr dX2_insert_67 (⟨rfl, by rw [shF_end]⟩) (Nat.le_of_ble_eq_true rfl) (Nat.le_of_ble_eq_true rfl)
      · skip
        refine g_aload_n h 0 dX2_insert_30 rfl rfl ?_
        refine g_get h 0 fa_X2_9 dX2_insert_31 (sup_k h1 h2 (by simp)) rfl ?_
        refine g_iload_n h 3 dX2_insert_34 rfl rfl ?_
        refine g_aload_n h 0 dX2_insert_35 rfl rfl ?_
        refine g_get h 0 fa_X2_9 dX2_insert_36 (sup_k h1 h2 (by simp)) rfl ?_
        refine g_iload_n h 3 dX2_insert_39 rfl rfl ?_
        refine g_iconst h (nI 1) dX2_insert_40 (by decide) ?_
        refine g_isubN h dX2_insert_41 (by omega) ?_
        refine g_iald h dX2_insert_42 sup_eq (by omega) (by omega) ?_
        refine g_iast h dX2_insert_43 sup_eq (by omega) (by omega) ?_
        refine g_sto sup_sup ?_
        refine g_iinc (vs' := [_, _, _, _]) h (nI (k - 1)) dX2_insert_44 rfl (nI_dec (by omega)) (Nat.le_of_ble_eq_true rfl) rfl rfl ?_
        refine g_goto h 25 dX2_insert_47 (by decide) ?_
        refine g_sto (by rw [shF_step (by omega) (by omega)]) ?_
        exact ih (k - 1) (by omega) (by omega) (by omega)
  exact L25 (n - i + 1) n (by omega) (by omega) (Nat.lt_succ_self _)
abbrev rm_X2_remove : Room := { frames := 1, cells := 0, slots := 0, locals := 21 }
set_option maxRecDepth 100000 in
set_option maxHeartbeats 4000000 in
theorem c_X2_remove (lau : Launch) (E : EnvD) (σ : Sto) {r t n : Nat} {f : Nat → Int32} (h1 : σ.1 r = some (cO 2 [.ref t, .int (nI n)])) (h2 : σ.1 t = some (cI E 40 f)) (h3 : n ≤ 40) {i : Nat} (h4 : i < n) : CC lau yX2_remove cX2_remove 3 none rm_X2_remove E [.ref r, .int (nI i)] σ (fun o s => o = none ∧ s = sup (sup σ t (cI E 40 (remF f n i))) r (cO 2 [.ref t, .int (nI (n - 1))])) := by
  refine cc_of (vs := [_, _, _]) (by decide) (Nat.le_of_ble_eq_true rfl) rfl ?_
  intro X h hr hn
  refine g_aload_n h 0 dX2_remove_0 rfl rfl ?_
  refine g_iload_n h 1 dX2_remove_1 rfl rfl ?_
  refine g_callV h [] (c_X2_has (xL X) E _ h1 h2 h3 (nI i)) cf_X2_19 cv_X2_has dX2_remove_2 rfl h1 rfl rfl (Nat.le_of_ble_eq_true rfl) ⟨(Nat.le_of_ble_eq_true rfl), (Nat.le_of_ble_eq_true rfl)⟩ ⟨(Nat.le_of_ble_eq_true rfl), (Nat.le_of_ble_eq_true rfl)⟩ ?_
  refine kk_det ?_
  refine g_if_neB h 9 dX2_remove_5 (by decide) (fun c5_1 => ?_) (fun c5_1 => absurd ⟨i, h4, rfl⟩ c5_1)
  refine g_iload_n h 1 dX2_remove_9 rfl rfl ?_
  refine g_istore_n (vs' := [_, _, _]) h 2 dX2_remove_10 rfl (Nat.le_of_ble_eq_true rfl) rfl rfl ?_
  refine g_sto (sup_self (e := cI E 40 (remF f (i + 1) i)) (by rw [show remF f (i + 1) i = f from by funext q; unfold remF; rw [if_neg (by omega)]]; exact h2)).symm ?_
  have L11 : ∀ (m0 : Nat) (k : Nat), (i ≤ k) → (k < n) → (n - k) < m0 → G X E 3 (AD σ) (QF X E σ (fun o s => o = none ∧ s = sup (sup σ t (cI E 40 (remF f n i))) r (cO 2 [.ref t, .int (nI (n - 1))])) rm_X2_remove) 0 0 11 [some (.ref r), some (.int (nI i)), some (.int (nI k))] [] (sup σ t (cI E 40 (remF f (k + 1) i))) := by
    intro m0
    induction m0 with
    | zero => intro k _ _ hm0; exact absurd hm0 (Nat.not_lt_zero _)
    | succ m0 ih =>
      intro k hk1 hk2 hm0
      refine g_iload_n h 2 dX2_remove_11 rfl rfl ?_
      refine g_iconst h (nI 1) dX2_remove_12 (by decide) ?_
      refine g_iaddN h dX2_remove_13 ?_
      refine g_aload_n h 0 dX2_remove_14 rfl rfl ?_
      refine g_get h 1 fa_X2_15 dX2_remove_15 (sup_k h1 h2 (by simp)) rfl ?_
      refine g_icmp_geN h 52 dX2_remove_18 (by decide) (by omega) (by omega) (fun c18_2 => ?_) (fun c18_2 => ?_)
      · skip
        obtain rfl : n = k + 1 := by omega
        refine g_aload_n h 0 dX2_remove_52 rfl rfl ?_
        refine g_dup h dX2_remove_53 rfl ?_
        refine g_get h 1 fa_X2_15 dX2_remove_54 (sup_k h1 h2 (by simp)) rfl ?_
        refine g_iconst h (nI 1) dX2_remove_57 (by decide) ?_
        refine g_isubN h dX2_remove_58 (by omega) ?_
        refine g_put (fs' := [_, _]) h 1 fp_X2_15 dX2_remove_59 (sup_k h1 h2 (by simp)) (Nat.le_of_ble_eq_true rfl) rfl rfl rfl ?_
        exact g_vret h hr dX2_remove_62 (⟨rfl, rfl⟩) (Nat.le_of_ble_eq_true rfl) (Nat.le_of_ble_eq_true rfl)
      · skip
        refine g_iload_n h 2 dX2_remove_21 rfl rfl ?_
        refine g_iconst h (nI 1) dX2_remove_22 (by decide) ?_
        refine g_iaddN h dX2_remove_23 ?_
        refine g_aload_n h 0 dX2_remove_24 rfl rfl ?_
        refine g_get h 0 fa_X2_9 dX2_remove_25 (sup_k h1 h2 (by simp)) rfl ?_
        refine g_alen (v := nI 40) h 0 dX2_remove_28 rfl sup_eq rfl ?_
        refine g_icmp_geN h 52 dX2_remove_29 (by decide) (by omega) (by decide) (fun c29_3 => absurd c29_3 (by omega)) (fun c29_3 => ?_)
        refine g_aload_n h 0 dX2_remove_32 rfl rfl ?_
        refine g_get h 0 fa_X2_9 dX2_remove_33 (sup_k h1 h2 (by simp)) rfl ?_
        refine g_iload_n h 2 dX2_remove_36 rfl rfl ?_
        refine g_aload_n h 0 dX2_remove_37 rfl rfl ?_
        refine g_get h 0 fa_X2_9 dX2_remove_38 (sup_k h1 h2 (by simp)) rfl ?_
        refine g_iload_n h 2 dX2_remove_41 rfl rfl ?_
        refine g_iconst h (nI 1) dX2_remove_42 (by decide) ?_
        refine g_iaddN h dX2_remove_43 ?_
        refine g_iald h dX2_remove_44 sup_eq (by omega) (by omega) ?_
        refine g_iast h dX2_remove_45 sup_eq (by omega) (by omega) ?_
        refine g_sto sup_sup ?_
        refine g_iinc (vs' := [_, _, _]) h (nI (k + 1)) dX2_remove_46 rfl (by first | exact nI_1 _ | rfl) (Nat.le_of_ble_eq_true rfl) rfl rfl ?_
        refine g_goto h 11 dX2_remove_49 (by decide) ?_
        refine g_sto (by rw [remF_step (by omega)]) ?_
        exact ih (k + 1) (by omega) (by omega) (by omega)
  exact L11 (n - i + 1) i (by omega) (by omega) (Nat.lt_succ_self _)
abbrev rm_X2_empty : Room := { frames := 0, cells := 0, slots := 0, locals := 0 }
set_option maxRecDepth 100000 in
set_option maxHeartbeats 4000000 in
theorem c_X2_empty (lau : Launch) (E : EnvD) (σ : Sto) {r t n : Nat} (h1 : σ.1 r = some (cO 2 [.ref t, .int (nI n)])) : CC lau yX2_empty cX2_empty 1 none rm_X2_empty E [.ref r] σ (fun o s => o = none ∧ s = sup σ r (cO 2 [.ref t, .int (nI 0)])) := by
  refine cc_of (vs := [_]) (by decide) (Nat.le_of_ble_eq_true rfl) rfl ?_
  intro X h hr hn
  refine g_aload_n h 0 dX2_empty_0 rfl rfl ?_
  refine g_iconst h (nI 0) dX2_empty_1 (by decide) ?_
  refine g_put (fs' := [_, _]) h 1 fp_X2_15 dX2_empty_2 h1 (Nat.le_of_ble_eq_true rfl) rfl rfl rfl ?_
  exact g_vret h hr dX2_empty_5 (⟨rfl, rfl⟩) (Nat.le_of_ble_eq_true rfl) (Nat.le_of_ble_eq_true rfl)
abbrev rm_X2_become : Room := { frames := 2, cells := 0, slots := 0, locals := 42 }
set_option maxRecDepth 100000 in
set_option maxHeartbeats 4000000 in
theorem c_X2_become (lau : Launch) (E : EnvD) (σ : Sto) {r t n : Nat} {f : Nat → Int32} (h1 : σ.1 r = some (cO 2 [.ref t, .int (nI n)])) (h2 : σ.1 t = some (cI E 40 f)) (h3 : n ≤ 40) {r2 t2 m : Nat} {g : Nat → Int32} (h4 : σ.1 r2 = some (cO 2 [.ref t2, .int (nI m)])) (h5 : σ.1 t2 = some (cI E 40 g)) (h6 : m ≤ 40) (hne : t2 ≠ t) : CC lau yX2_become cX2_become 3 none rm_X2_become E [.ref r, .ref r2] σ (fun o s => o = none ∧ s = sup (sup σ t (cI E 40 (becF f g m))) r (cO 2 [.ref t, .int (nI m)])) := by
  refine cc_of (vs := [_, _, _]) (by decide) (Nat.le_of_ble_eq_true rfl) rfl ?_
  intro X h hr hn
  refine g_iconst h (nI 0) dX2_become_0 (by decide) ?_
  refine g_istore_n (vs' := [_, _, _]) h 2 dX2_become_1 rfl (Nat.le_of_ble_eq_true rfl) rfl rfl ?_
  refine g_sto (sup_self (e := cI E 40 (becF f g 0)) (by rw [becF_0]; exact h2)).symm ?_
  have L2 : ∀ (m0 : Nat) (k : Nat), (k ≤ m) → (m - k) < m0 → G X E 3 (AD σ) (QF X E σ (fun o s => o = none ∧ s = sup (sup σ t (cI E 40 (becF f g m))) r (cO 2 [.ref t, .int (nI m)])) rm_X2_become) 0 0 2 [some (.ref r), some (.ref r2), some (.int (nI k))] [] (sup σ t (cI E 40 (becF f g k))) := by
    intro m0
    induction m0 with
    | zero => intro k _ hm0; exact absurd hm0 (Nat.not_lt_zero _)
    | succ m0 ih =>
      intro k hk1 hm0
      refine g_iload_n h 2 dX2_become_2 rfl rfl ?_
      refine g_aload_n h 1 dX2_become_3 rfl rfl ?_
      refine g_get h 1 fa_X2_15 dX2_become_4 (sup_k h4 h2 (by simp)) rfl ?_
      refine g_icmp_geN h 36 dX2_become_7 (by decide) (by omega) (by omega) (fun c7_1 => ?_) (fun c7_1 => ?_)
      · skip
        obtain rfl : m = k := by omega
        refine g_aload_n h 0 dX2_become_36 rfl rfl ?_
        refine g_aload_n h 1 dX2_become_37 rfl rfl ?_
        refine g_get h 1 fa_X2_15 dX2_become_38 (sup_k h4 h2 (by simp)) rfl ?_
        refine g_put (fs' := [_, _]) h 1 fp_X2_15 dX2_become_41 (sup_k h1 h2 (by simp)) (Nat.le_of_ble_eq_true rfl) rfl rfl rfl ?_
        exact g_vret h hr dX2_become_44 (⟨rfl, rfl⟩) (Nat.le_of_ble_eq_true rfl) (Nat.le_of_ble_eq_true rfl)
      · skip
        refine g_iload_n h 2 dX2_become_10 rfl rfl ?_
        refine g_aload_n h 0 dX2_become_11 rfl rfl ?_
        refine g_get h 0 fa_X2_9 dX2_become_12 (sup_k h1 h2 (by simp)) rfl ?_
        refine g_alen (v := nI 40) h 0 dX2_become_15 rfl sup_eq rfl ?_
        refine g_icmp_geN h 36 dX2_become_16 (by decide) (by omega) (by decide) (fun c16_2 => absurd c16_2 (by omega)) (fun c16_2 => ?_)
        refine g_aload_n h 0 dX2_become_19 rfl rfl ?_
        refine g_get h 0 fa_X2_9 dX2_become_20 (sup_k h1 h2 (by simp)) rfl ?_
        refine g_iload_n h 2 dX2_become_23 rfl rfl ?_
        refine g_aload_n h 1 dX2_become_24 rfl rfl ?_
        refine g_iload_n h 2 dX2_become_25 rfl rfl ?_
        refine g_callV h [_, _] (c_X2_at (xL X) E _ (sup_k h4 h2 (by simp)) ((sup_ne hne).trans h5) h6 (nI k)) cf_X2_27 cv_X2_at dX2_become_26 rfl (sup_k h4 h2 (by simp)) rfl rfl (Nat.le_of_ble_eq_true rfl) ⟨(Nat.le_of_ble_eq_true rfl), (Nat.le_of_ble_eq_true rfl)⟩ ⟨(Nat.le_of_ble_eq_true rfl), (Nat.le_of_ble_eq_true rfl)⟩ ?_
        refine kk_det ?_
        refine g_top (y := g k) (atV_in (by omega) (by omega)) ?_
        refine g_iast h dX2_become_29 sup_eq (by omega) (by omega) ?_
        refine g_sto sup_sup ?_
        refine g_iinc (vs' := [_, _, _]) h (nI (k + 1)) dX2_become_30 rfl (by first | exact nI_1 _ | rfl) (Nat.le_of_ble_eq_true rfl) rfl rfl ?_
        refine g_goto h 2 dX2_become_33 (by decide) ?_
        refine g_sto (by rw [becF_step]) ?_
        exact ih (k + 1) (by omega) (by omega)
  exact L2 (m + 1) 0 (by omega) (by omega)
set_option maxRecDepth 100000 in
set_option maxHeartbeats 4000000 in
theorem c_X2_become_self (lau : Launch) (E : EnvD) (σ : Sto) {r t n : Nat} {f : Nat → Int32} (h1 : σ.1 r = some (cO 2 [.ref t, .int (nI n)])) (h2 : σ.1 t = some (cI E 40 f)) (h3 : n ≤ 40) : CC lau yX2_become cX2_become 3 none rm_X2_become E [.ref r, .ref r] σ (fun o s => o = none ∧ s = σ) := by
  refine cc_of (vs := [_, _, _]) (by decide) (Nat.le_of_ble_eq_true rfl) rfl ?_
  intro X h hr hn
  refine g_iconst h (nI 0) dX2_become_0 (by decide) ?_
  refine g_istore_n (vs' := [_, _, _]) h 2 dX2_become_1 rfl (Nat.le_of_ble_eq_true rfl) rfl rfl ?_
  have L2 : ∀ (m0 : Nat) (k : Nat), (k ≤ n) → (n - k) < m0 → G X E 3 (AD σ) (QF X E σ (fun o s => o = none ∧ s = σ) rm_X2_become) 0 0 2 [some (.ref r), some (.ref r), some (.int (nI k))] [] σ := by
    intro m0
    induction m0 with
    | zero => intro k _ hm0; exact absurd hm0 (Nat.not_lt_zero _)
    | succ m0 ih =>
      intro k hk1 hm0
      refine g_iload_n h 2 dX2_become_2 rfl rfl ?_
      refine g_aload_n h 1 dX2_become_3 rfl rfl ?_
      refine g_get h 1 fa_X2_15 dX2_become_4 h1 rfl ?_
      refine g_icmp_geN h 36 dX2_become_7 (by decide) (by omega) (by omega) (fun c7_1 => ?_) (fun c7_1 => ?_)
      · skip
        refine g_aload_n h 0 dX2_become_36 rfl rfl ?_
        refine g_aload_n h 1 dX2_become_37 rfl rfl ?_
        refine g_get h 1 fa_X2_15 dX2_become_38 h1 rfl ?_
        refine g_put (fs' := [_, _]) h 1 fp_X2_15 dX2_become_41 h1 (Nat.le_of_ble_eq_true rfl) rfl rfl rfl ?_
        exact g_vret h hr dX2_become_44 (⟨rfl, sup_self h1⟩) (Nat.le_of_ble_eq_true rfl) (Nat.le_of_ble_eq_true rfl)
      · skip
        refine g_iload_n h 2 dX2_become_10 rfl rfl ?_
        refine g_aload_n h 0 dX2_become_11 rfl rfl ?_
        refine g_get h 0 fa_X2_9 dX2_become_12 h1 rfl ?_
        refine g_alen (v := nI 40) h 0 dX2_become_15 rfl h2 rfl ?_
        refine g_icmp_geN h 36 dX2_become_16 (by decide) (by omega) (by decide) (fun c16_2 => absurd c16_2 (by omega)) (fun c16_2 => ?_)
        refine g_aload_n h 0 dX2_become_19 rfl rfl ?_
        refine g_get h 0 fa_X2_9 dX2_become_20 h1 rfl ?_
        refine g_iload_n h 2 dX2_become_23 rfl rfl ?_
        refine g_aload_n h 1 dX2_become_24 rfl rfl ?_
        refine g_iload_n h 2 dX2_become_25 rfl rfl ?_
        refine g_callV h [_, _] (c_X2_at (xL X) E _ h1 h2 h3 (nI k)) cf_X2_27 cv_X2_at dX2_become_26 rfl h1 rfl rfl (Nat.le_of_ble_eq_true rfl) ⟨(Nat.le_of_ble_eq_true rfl), (Nat.le_of_ble_eq_true rfl)⟩ ⟨(Nat.le_of_ble_eq_true rfl), (Nat.le_of_ble_eq_true rfl)⟩ ?_
        refine kk_det ?_
        refine g_top (y := f k) (atV_in (by omega) (by omega)) ?_
        refine g_iast h dX2_become_29 h2 (by omega) (by omega) ?_
        refine g_iinc (vs' := [_, _, _]) h (nI (k + 1)) dX2_become_30 rfl (by first | exact nI_1 _ | rfl) (Nat.le_of_ble_eq_true rfl) rfl rfl ?_
        refine g_goto h 2 dX2_become_33 (by decide) ?_
        refine g_sto (sup_self (by rw [show upd f k (f k) = f from by funext q; unfold upd; split <;> simp_all]; exact h2)) ?_
        exact ih (k + 1) (by omega) (by omega)
  exact L2 (n + 1) 0 (by omega) (by omega)
