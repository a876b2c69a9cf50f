/-! what a performance may be (own work; walks by program) -/
theorem mtc_gap {h l : Nat → Int32} {n m i : Nat} (hi : i < n) (hg : h i = -1) : ∀ d q, q ≤ m → m - q = d → (mtc h l n m i q ↔ ∃ j, q ≤ j ∧ j ≤ m ∧ mtc h l n m (i + 1) j)
  | 0, q, hq, hd => by
    have e : q = m := by omega
    subst e
    rw [mtc, dif_pos hi, if_pos hg]
    constructor
    · rintro (a | ⟨a, _⟩)
      · exact ⟨q, Nat.le_refl _, Nat.le_refl _, a⟩
      · omega
    · rintro ⟨j, a, b, c⟩
      have e : j = q := by omega
      subst e
      exact Or.inl c
  | d + 1, q, hq, hd => by
    rw [mtc, dif_pos hi, if_pos hg]
    have ih := mtc_gap hi hg (l := l) (m := m) d (q + 1) (by omega) (by omega)
    constructor
    · rintro (a | ⟨a, b⟩)
      · exact ⟨q, Nat.le_refl _, hq, a⟩
      · obtain ⟨j, c1, c2, c3⟩ := ih.mp b
        exact ⟨j, by omega, c2, c3⟩
    · rintro ⟨j, a, b, c⟩
      by_cases e : j = q
      · subst e
        exact Or.inl c
      · exact Or.inr ⟨by omega, ih.mpr ⟨j, by omega, b, c⟩⟩
theorem mtc_line {h l : Nat → Int32} {n m i q : Nat} (hi : i < n) (hg : ¬ h i = -1) : mtc h l n m i q ↔ (q < m ∧ h i = l q ∧ mtc h l n m (i + 1) (q + 1)) := by
  conv => lhs; rw [mtc, dif_pos hi, if_neg hg]
  exact ⟨fun ⟨a, b, c⟩ => ⟨a, b, c⟩, fun ⟨a, b, c⟩ => ⟨a, b, c⟩⟩
theorem mtc_end {h l : Nat → Int32} {n m q : Nat} : mtc h l n m n q ↔ q = m := by
  rw [mtc, dif_neg (Nat.lt_irrefl n)]
abbrev rm_X5_placesBehindLine : Room := { frames := 2, cells := 0, slots := 0, locals := 42 }
set_option maxRecDepth 100000 in
set_option maxHeartbeats 4000000 in
theorem c_X5_placesBehindLine (lau : Launch) (E : EnvD) (σ : Sto) {rl m : Nat} {gl : Nat → Int32} (hl : RowIs E σ rl m gl) (hm40 : m ≤ 40) (P : Int64) (ln : Int32) : CC lau yX5_placesBehindLine cX5_placesBehindLine 7 (some .long) rm_X5_placesBehindLine E [.long P, .ref rl, .int ln] σ (fun o s => ∃ b, o = some (.long b) ∧ s = σ ∧ (BL m b ∧ ∀ j, j ≤ m → (bt b j = true ↔ ∃ q, q < m ∧ j = q + 1 ∧ bt P q = true ∧ gl q = ln))) := by
  refine cc_of (vs := [_, _, _, _, _, _, _]) (by decide) (Nat.le_of_ble_eq_true rfl) rfl ?_
  intro X h hr hn
  refine g_lconst h 0 dX5_placesBehindLine_0 (by decide) ?_
  refine g_lstore (vs' := [_, _, _, _, _, _, _]) h dX5_placesBehindLine_1 (Nat.le_of_ble_eq_true rfl) rfl rfl ?_
  refine g_iconst h (nI 0) dX5_placesBehindLine_3 (by decide) ?_
  refine g_istore (vs' := [_, _, _, _, _, _, _]) h dX5_placesBehindLine_4 (Nat.le_of_ble_eq_true rfl) rfl rfl ?_
  have L6 : ∀ (m0 : Nat) (p : Nat) (b : Int64), (p ≤ m) → (∀ j, j < 64 → (bt b j = true ↔ ∃ q, q < p ∧ j = q + 1 ∧ bt P q = true ∧ gl q = ln)) → (m - p) < m0 → G X E 7 (AD σ) (QF X E σ (fun o s => ∃ b, o = some (.long b) ∧ s = σ ∧ (BL m b ∧ ∀ j, j ≤ m → (bt b j = true ↔ ∃ q, q < m ∧ j = q + 1 ∧ bt P q = true ∧ gl q = ln))) rm_X5_placesBehindLine) 0 0 6 [some (.long P), none, some (.ref rl), some (.int ln), some (.long b), none, some (.int (nI p))] [] σ := by
    intro m0
    induction m0 with
    | zero => intro p b _ _ hm0; exact absurd hm0 (Nat.not_lt_zero _)
    | succ m0 ih =>
      intro p b hp hb hm0
      refine g_iload h dX5_placesBehindLine_6 rfl ?_
      refine g_aload_n h 2 dX5_placesBehindLine_8 rfl rfl ?_
      refine g_get h 1 fa_X5_64 dX5_placesBehindLine_9 hl.1 rfl ?_
      refine g_icmp_geN h 51 dX5_placesBehindLine_12 (by decide) (by omega) (by omega) (fun c12_1 => ?_) (fun c12_1 => ?_)
      · skip
        obtain rfl : m = p := by omega
        refine g_lload h dX5_placesBehindLine_51 rfl ?_
        exact g_lret h hr dX5_placesBehindLine_53 (⟨b, rfl, rfl, fun j hj q => by obtain ⟨q1, q2, q3, _⟩ := (hb j hj).mp q; omega, fun j hj => hb j (by omega)⟩) (Nat.le_of_ble_eq_true rfl) (Nat.le_of_ble_eq_true rfl)
      · skip
        refine g_lload_n h 0 dX5_placesBehindLine_15 rfl rfl ?_
        refine g_iload h dX5_placesBehindLine_16 rfl ?_
        refine g_callS h [] (c_X5_hasBit (xL X) E _ P (b := p) (by omega)) cf_X5_137 cs_X5_hasBit dX5_placesBehindLine_18 rfl rfl (Nat.le_of_ble_eq_true rfl) ⟨(Nat.le_of_ble_eq_true rfl), (Nat.le_of_ble_eq_true rfl)⟩ ⟨(Nat.le_of_ble_eq_true rfl), (Nat.le_of_ble_eq_true rfl)⟩ ?_
        refine kk_det ?_
        refine g_if_eqB h 45 dX5_placesBehindLine_21 (by decide) (fun c21_2 => ?_) (fun c21_2 => ?_)
        · skip
          refine g_iinc (vs' := [_, _, _, _, _, _, _]) h (nI (p + 1)) dX5_placesBehindLine_45 rfl (by first | exact nI_1 _ | rfl) (Nat.le_of_ble_eq_true rfl) rfl rfl ?_
          refine g_goto h 6 dX5_placesBehindLine_48 (by decide) ?_
          refine ih (p + 1) b (by omega) (fun j hj => ?_) (by omega)
          rw [hb j hj]
          constructor
          · rintro ⟨q, q1, q2, q3, q4⟩
            exact ⟨q, by omega, q2, q3, q4⟩
          · rintro ⟨q, q1, q2, q3, q4⟩
            rcases Nat.lt_or_ge q p with e | e
            · exact ⟨q, e, q2, q3, q4⟩
            · obtain rfl : q = p := by omega
              exact absurd q3 c21_2
        · skip
          refine g_aload_n h 2 dX5_placesBehindLine_24 rfl rfl ?_
          refine g_iload h dX5_placesBehindLine_25 rfl ?_
          refine g_callV h [] (r_at (xL X) hl hm40 (nI p)) cf_X5_82 cv_X2_at dX5_placesBehindLine_27 rfl hl.1 rfl rfl (Nat.le_of_ble_eq_true rfl) ⟨(Nat.le_of_ble_eq_true rfl), (Nat.le_of_ble_eq_true rfl)⟩ ⟨(Nat.le_of_ble_eq_true rfl), (Nat.le_of_ble_eq_true rfl)⟩ ?_
          refine kk_det ?_
          refine g_top (atV_in (by omega) (by omega)) ?_
          refine g_iload_n h 3 dX5_placesBehindLine_30 rfl rfl ?_
          refine g_icmp_ne h 45 dX5_placesBehindLine_31 (by decide) (fun c31_3 => ?_) (fun c31_3 => ?_)
          · skip
            refine g_iinc (vs' := [_, _, _, _, _, _, _]) h (nI (p + 1)) dX5_placesBehindLine_45 rfl (by first | exact nI_1 _ | rfl) (Nat.le_of_ble_eq_true rfl) rfl rfl ?_
            refine g_goto h 6 dX5_placesBehindLine_48 (by decide) ?_
            refine ih (p + 1) b (by omega) (fun j hj => ?_) (by omega)
            rw [hb j hj]
            constructor
            · rintro ⟨q, q1, q2, q3, q4⟩
              exact ⟨q, by omega, q2, q3, q4⟩
            · rintro ⟨q, q1, q2, q3, q4⟩
              rcases Nat.lt_or_ge q p with e | e
              · exact ⟨q, e, q2, q3, q4⟩
              · obtain rfl : q = p := by omega
                exact absurd q4 c31_3
          · skip
            refine g_lload h dX5_placesBehindLine_34 rfl ?_
            refine g_lconst h 1 dX5_placesBehindLine_36 (by decide) ?_
            refine g_iload h dX5_placesBehindLine_37 rfl ?_
            refine g_iconst h (nI 1) dX5_placesBehindLine_39 (by decide) ?_
            refine g_iaddN h dX5_placesBehindLine_40 ?_
            refine g_lshl h dX5_placesBehindLine_41 ?_
            refine g_lor h dX5_placesBehindLine_42 ?_
            refine g_lstore (vs' := [_, _, _, _, _, _, _]) h dX5_placesBehindLine_43 (Nat.le_of_ble_eq_true rfl) rfl rfl ?_
            refine g_iinc (vs' := [_, _, _, _, _, _, _]) h (nI (p + 1)) dX5_placesBehindLine_45 rfl (by first | exact nI_1 _ | rfl) (Nat.le_of_ble_eq_true rfl) rfl rfl ?_
            refine g_goto h 6 dX5_placesBehindLine_48 (by decide) ?_
            refine ih (p + 1) _ (by omega) (fun j hj => ?_) (by omega)
            rw [bt_or, bt_shl (by omega) hj, Bool.or_eq_true, hb j hj, decide_eq_true_eq]
            constructor
            · rintro (⟨q, q1, q2, q3, q4⟩ | q)
              · exact ⟨q, by omega, q2, q3, q4⟩
              · exact ⟨p, by omega, q, c21_2, c31_3⟩
            · rintro ⟨q, q1, q2, q3, q4⟩
              rcases Nat.lt_or_ge q p with e | e
              · exact Or.inl ⟨q, e, q2, q3, q4⟩
              · obtain rfl : q = p := by omega
                exact Or.inr q2
  exact L6 (m + 1) 0 0 (by omega) (fun j hj => by rw [bt_0]; exact ⟨fun q => (by cases q), fun ⟨q, q1, _⟩ => absurd q1 (Nat.not_lt_zero _)⟩) (by omega)
abbrev rm_X5_placesBehindGap : Room := { frames := 1, cells := 0, slots := 0, locals := 22 }
set_option maxRecDepth 100000 in
set_option maxHeartbeats 4000000 in
theorem c_X5_placesBehindGap (lau : Launch) (E : EnvD) (σ : Sto) {rl m : Nat} {gl : Nat → Int32} (hl : RowIs E σ rl m gl) (hm40 : m ≤ 40) (P : Int64) (hP : BL m P) : CC lau yX5_placesBehindGap cX5_placesBehindGap 6 (some .long) rm_X5_placesBehindGap E [.long P, .ref rl] σ (fun o s => ∃ b, o = some (.long b) ∧ s = σ ∧ (BL m b ∧ ∀ j, j ≤ m → (bt b j = true ↔ ∃ q, q ≤ j ∧ bt P q = true))) := by
  refine cc_of (vs := [_, _, _, _, _, _]) (by decide) (Nat.le_of_ble_eq_true rfl) rfl ?_
  intro X h hr hn
  refine g_lload_n h 0 dX5_placesBehindGap_0 rfl rfl ?_
  refine g_lstore_n (vs' := [_, _, _, _, _, _]) h 3 dX5_placesBehindGap_1 rfl (Nat.le_of_ble_eq_true rfl) rfl rfl ?_
  refine g_iconst h (nI 0) dX5_placesBehindGap_2 (by decide) ?_
  refine g_istore (vs' := [_, _, _, _, _, _]) h dX5_placesBehindGap_3 (Nat.le_of_ble_eq_true rfl) rfl rfl ?_
  have L5 : ∀ (m0 : Nat) (p : Nat) (b : Int64), (p ≤ m) → (∀ j, j < 64 → (bt b j = true ↔ (bt P j = true ∨ (j ≤ p ∧ ∃ q, q ≤ j ∧ bt P q = true)))) → (m - p) < m0 → G X E 6 (AD σ) (QF X E σ (fun o s => ∃ b, o = some (.long b) ∧ s = σ ∧ (BL m b ∧ ∀ j, j ≤ m → (bt b j = true ↔ ∃ q, q ≤ j ∧ bt P q = true))) rm_X5_placesBehindGap) 0 0 5 [some (.long P), none, some (.ref rl), some (.long b), none, some (.int (nI p))] [] σ := by
    intro m0
    induction m0 with
    | zero => intro p b _ _ hm0; exact absurd hm0 (Nat.not_lt_zero _)
    | succ m0 ih =>
      intro p b hp hb hm0
      refine g_iload h dX5_placesBehindGap_5 rfl ?_
      refine g_aload_n h 2 dX5_placesBehindGap_7 rfl rfl ?_
      refine g_get h 1 fa_X5_64 dX5_placesBehindGap_8 hl.1 rfl ?_
      refine g_icmp_geN h 38 dX5_placesBehindGap_11 (by decide) (by omega) (by omega) (fun c11_1 => ?_) (fun c11_1 => ?_)
      · skip
        obtain rfl : m = p := by omega
        refine g_lload_n h 3 dX5_placesBehindGap_38 rfl rfl ?_
        exact g_lret h hr dX5_placesBehindGap_39 (⟨b, rfl, rfl, fun j hj q => ((hb j hj).mp q).elim (fun w => hP j hj w) (fun w => w.1), fun j hj => (hb j (by omega)).trans ⟨fun q => q.elim (fun q => ⟨j, Nat.le_refl _, q⟩) (fun q => q.2), fun q => Or.inr ⟨hj, q⟩⟩⟩) (Nat.le_of_ble_eq_true rfl) (Nat.le_of_ble_eq_true rfl)
      · skip
        refine g_lload_n h 3 dX5_placesBehindGap_14 rfl rfl ?_
        refine g_iload h dX5_placesBehindGap_15 rfl ?_
        refine g_callS h [] (c_X5_hasBit (xL X) E _ b (b := p) (by omega)) cf_X5_137 cs_X5_hasBit dX5_placesBehindGap_17 rfl rfl (Nat.le_of_ble_eq_true rfl) ⟨(Nat.le_of_ble_eq_true rfl), (Nat.le_of_ble_eq_true rfl)⟩ ⟨(Nat.le_of_ble_eq_true rfl), (Nat.le_of_ble_eq_true rfl)⟩ ?_
        refine kk_det ?_
        refine g_if_eqB h 32 dX5_placesBehindGap_20 (by decide) (fun c20_2 => ?_) (fun c20_2 => ?_)
        · skip
          refine g_iinc (vs' := [_, _, _, _, _, _]) h (nI (p + 1)) dX5_placesBehindGap_32 rfl (by first | exact nI_1 _ | rfl) (Nat.le_of_ble_eq_true rfl) rfl rfl ?_
          refine g_goto h 5 dX5_placesBehindGap_35 (by decide) ?_
          refine ih (p + 1) b (by omega) (fun j hj => ?_) (by omega)
          rw [hb j hj]
          constructor
          · rintro (q | ⟨q1, q2⟩)
            · exact Or.inl q
            · exact Or.inr ⟨by omega, q2⟩
          · rintro (q | ⟨q1, q, q2, q3⟩)
            · exact Or.inl q
            · by_cases e : j ≤ p
              · exact Or.inr ⟨e, q, q2, q3⟩
              · by_cases e2 : q = j
                · exact Or.inl (e2 ▸ q3)
                · exact absurd ((hb p (by omega)).mpr (Or.inr ⟨Nat.le_refl _, q, by omega, q3⟩)) c20_2
        · skip
          refine g_lload_n h 3 dX5_placesBehindGap_23 rfl rfl ?_
          refine g_lconst h 1 dX5_placesBehindGap_24 (by decide) ?_
          refine g_iload h dX5_placesBehindGap_25 rfl ?_
          refine g_iconst h (nI 1) dX5_placesBehindGap_27 (by decide) ?_
          refine g_iaddN h dX5_placesBehindGap_28 ?_
          refine g_lshl h dX5_placesBehindGap_29 ?_
          refine g_lor h dX5_placesBehindGap_30 ?_
          refine g_lstore_n (vs' := [_, _, _, _, _, _]) h 3 dX5_placesBehindGap_31 rfl (Nat.le_of_ble_eq_true rfl) rfl rfl ?_
          refine g_iinc (vs' := [_, _, _, _, _, _]) h (nI (p + 1)) dX5_placesBehindGap_32 rfl (by first | exact nI_1 _ | rfl) (Nat.le_of_ble_eq_true rfl) rfl rfl ?_
          refine g_goto h 5 dX5_placesBehindGap_35 (by decide) ?_
          refine ih (p + 1) _ (by omega) (fun j hj => ?_) (by omega)
          rw [bt_or, bt_shl (by omega) hj, Bool.or_eq_true, hb j hj, decide_eq_true_eq]
          constructor
          · rintro ((q | ⟨q1, q2⟩) | q)
            · exact Or.inl q
            · exact Or.inr ⟨by omega, q2⟩
            · rcases (hb p (by omega)).mp c20_2 with w | ⟨_, w, w1, w2⟩
              · exact Or.inr ⟨by omega, p, by omega, w⟩
              · exact Or.inr ⟨by omega, w, by omega, w2⟩
          · rintro (q | ⟨q1, q2⟩)
            · exact Or.inl (Or.inl q)
            · by_cases e : j ≤ p
              · exact Or.inl (Or.inr ⟨e, q2⟩)
              · exact Or.inr (by omega)
  exact L5 (m + 1) 0 P (by omega) (fun j hj => ⟨Or.inl, fun q => q.elim id (fun ⟨q1, q, q2, q3⟩ => by
    have e : q = j := by omega
    exact e ▸ q3)⟩) (by omega)
abbrev rm_X5_placesBehind : Room := { frames := 3, cells := 0, slots := 0, locals := 68 }
set_option maxRecDepth 100000 in
set_option maxHeartbeats 4000000 in
theorem c_X5_placesBehind (lau : Launch) (E : EnvD) (σ : Sto) {rl m : Nat} {gl : Nat → Int32} (hl : RowIs E σ rl m gl) (hm40 : m ≤ 40) {rt n : Nat} {gt : Nat → Int32} (ht : RowIs E σ rt n gt) (hn40 : n ≤ 40) : CC lau yX5_placesBehind cX5_placesBehind 6 (some .long) rm_X5_placesBehind E [.ref rt, .ref rl] σ (fun o s => ∃ b, o = some (.long b) ∧ s = σ ∧ (bt b m = true ↔ mtc gt gl n m 0 0)) := by
  refine cc_of (vs := [_, _, _, _, _, _]) (by decide) (Nat.le_of_ble_eq_true rfl) rfl ?_
  intro X h hr hn
  refine g_lconst h 1 dX5_placesBehind_0 (by decide) ?_
  refine g_lstore_n (vs' := [_, _, _, _, _, _]) h 2 dX5_placesBehind_1 rfl (Nat.le_of_ble_eq_true rfl) rfl rfl ?_
  refine g_iconst h (nI 0) dX5_placesBehind_2 (by decide) ?_
  refine g_istore (vs' := [_, _, _, _, _, _]) h dX5_placesBehind_3 (Nat.le_of_ble_eq_true rfl) rfl rfl ?_
  have L5 : ∀ (m0 : Nat) (i : Nat) (b : Int64), (i ≤ n) → (BL m b) → ((∃ j, j ≤ m ∧ bt b j = true ∧ mtc gt gl n m i j) ↔ mtc gt gl n m 0 0) → (n - i) < m0 → G X E 6 (AD σ) (QF X E σ (fun o s => ∃ b, o = some (.long b) ∧ s = σ ∧ (bt b m = true ↔ mtc gt gl n m 0 0)) rm_X5_placesBehind) 0 0 5 [some (.ref rt), some (.ref rl), some (.long b), none, some (.int (nI i)), none] [] σ := by
    intro m0
    induction m0 with
    | zero => intro i b _ _ _ hm0; exact absurd hm0 (Nat.not_lt_zero _)
    | succ m0 ih =>
      intro i b hi hb1 hb2 hm0
      refine g_iload h dX5_placesBehind_5 rfl ?_
      refine g_aload_n h 0 dX5_placesBehind_7 rfl rfl ?_
      refine g_get h 1 fa_X5_64 dX5_placesBehind_8 ht.1 rfl ?_
      refine g_icmp_geN h 50 dX5_placesBehind_11 (by decide) (by omega) (by omega) (fun c11_1 => ?_) (fun c11_1 => ?_)
      · skip
        obtain rfl : n = i := by omega
        refine g_lload_n h 2 dX5_placesBehind_50 rfl rfl ?_
        exact g_lret h hr dX5_placesBehind_51 (⟨b, rfl, rfl, Iff.trans ⟨fun q => ⟨m, Nat.le_refl _, q, mtc_end.mpr rfl⟩, fun ⟨j, j1, j2, j3⟩ => mtc_end.mp j3 ▸ j2⟩ hb2⟩) (Nat.le_of_ble_eq_true rfl) (Nat.le_of_ble_eq_true rfl)
      · skip
        refine g_aload_n h 0 dX5_placesBehind_14 rfl rfl ?_
        refine g_iload h dX5_placesBehind_15 rfl ?_
        refine g_callV h [] (r_at (xL X) ht hn40 (nI i)) cf_X5_82 cv_X2_at dX5_placesBehind_17 rfl ht.1 rfl rfl (Nat.le_of_ble_eq_true rfl) ⟨(Nat.le_of_ble_eq_true rfl), (Nat.le_of_ble_eq_true rfl)⟩ ⟨(Nat.le_of_ble_eq_true rfl), (Nat.le_of_ble_eq_true rfl)⟩ ?_
        refine kk_det ?_
        refine g_top (atV_in (by omega) (by omega)) ?_
        refine g_istore (vs' := [_, _, _, _, _, _]) h dX5_placesBehind_20 (Nat.le_of_ble_eq_true rfl) rfl rfl ?_
        refine g_iload h dX5_placesBehind_22 rfl ?_
        refine g_iconst h (-1) dX5_placesBehind_24 (by decide) ?_
        refine g_icmp_ne h 36 dX5_placesBehind_25 (by decide) (fun c25_2 => ?_) (fun c25_2 => ?_)
        · skip
          refine g_lload_n h 2 dX5_placesBehind_36 rfl rfl ?_
          refine g_aload_n h 1 dX5_placesBehind_37 rfl rfl ?_
          refine g_iload h dX5_placesBehind_38 rfl ?_
          refine g_callS h [] (c_X5_placesBehindLine (xL X) E _ hl hm40 b (gt i)) cf_X5_219 cs_X5_placesBehindLine dX5_placesBehind_40 rfl rfl (Nat.le_of_ble_eq_true rfl) ⟨(Nat.le_of_ble_eq_true rfl), (Nat.le_of_ble_eq_true rfl)⟩ ⟨(Nat.le_of_ble_eq_true rfl), (Nat.le_of_ble_eq_true rfl)⟩ ?_
          refine kk_exl (fun b2 hb3 => ?_)
          refine g_lstore_n (vs' := [_, _, _, _, _, _]) h 2 dX5_placesBehind_43 rfl (Nat.le_of_ble_eq_true rfl) rfl rfl ?_
          refine g_iinc (vs' := [_, _, _, _, _, _]) h (nI (i + 1)) dX5_placesBehind_44 rfl (by first | exact nI_1 _ | rfl) (Nat.le_of_ble_eq_true rfl) rfl rfl ?_
          refine g_goto h 5 dX5_placesBehind_47 (by decide) ?_
          refine g_few (vs' := [some (.ref rt), some (.ref rl), some (.long b2), none, some (.int (nI (i + 1))), none]) ⟨Or.inr rfl, Or.inr rfl, Or.inr rfl, Or.inr rfl, Or.inr rfl, Or.inl rfl, trivial⟩ ?_
          refine ih (i + 1) b2 (by omega) hb3.1 (Iff.trans ?_ hb2) (by omega)
          constructor
          · rintro ⟨j, j1, j2, j3⟩
            obtain ⟨q, q1, q2, q3, q4⟩ := (hb3.2 j j1).mp j2
            exact ⟨q, by omega, q3, (mtc_line c11_1 c25_2).mpr ⟨q1, q4.symm, q2 ▸ j3⟩⟩
          · rintro ⟨q, q1, q2, q3⟩
            obtain ⟨j1, j2, j3⟩ := (mtc_line c11_1 c25_2).mp q3
            exact ⟨q + 1, by omega, (hb3.2 (q + 1) (by omega)).mpr ⟨q, j1, rfl, q2, j2.symm⟩, j3⟩
        · skip
          refine g_lload_n h 2 dX5_placesBehind_28 rfl rfl ?_
          refine g_aload_n h 1 dX5_placesBehind_29 rfl rfl ?_
          refine g_callS h [] (c_X5_placesBehindGap (xL X) E _ hl hm40 b hb1) cf_X5_215 cs_X5_placesBehindGap dX5_placesBehind_30 rfl rfl (Nat.le_of_ble_eq_true rfl) ⟨(Nat.le_of_ble_eq_true rfl), (Nat.le_of_ble_eq_true rfl)⟩ ⟨(Nat.le_of_ble_eq_true rfl), (Nat.le_of_ble_eq_true rfl)⟩ ?_
          refine kk_exl (fun b2 hb3 => ?_)
          refine g_goto h 43 dX5_placesBehind_33 (by decide) ?_
          refine g_lstore_n (vs' := [_, _, _, _, _, _]) h 2 dX5_placesBehind_43 rfl (Nat.le_of_ble_eq_true rfl) rfl rfl ?_
          refine g_iinc (vs' := [_, _, _, _, _, _]) h (nI (i + 1)) dX5_placesBehind_44 rfl (by first | exact nI_1 _ | rfl) (Nat.le_of_ble_eq_true rfl) rfl rfl ?_
          refine g_goto h 5 dX5_placesBehind_47 (by decide) ?_
          refine g_few (vs' := [some (.ref rt), some (.ref rl), some (.long b2), none, some (.int (nI (i + 1))), none]) ⟨Or.inr rfl, Or.inr rfl, Or.inr rfl, Or.inr rfl, Or.inr rfl, Or.inl rfl, trivial⟩ ?_
          refine ih (i + 1) b2 (by omega) hb3.1 (Iff.trans ?_ hb2) (by omega)
          constructor
          · rintro ⟨j, j1, j2, j3⟩
            obtain ⟨q, q1, q2⟩ := (hb3.2 j j1).mp j2
            exact ⟨q, by omega, q2, (mtc_gap c11_1 c25_2 _ q (by omega) rfl).mpr ⟨j, q1, j1, j3⟩⟩
          · rintro ⟨q, q1, q2, q3⟩
            obtain ⟨j, j1, j2, j3⟩ := (mtc_gap c11_1 c25_2 _ q (by omega) rfl).mp q3
            exact ⟨j, j2, (hb3.2 j j2).mpr ⟨q, j1, q2⟩, j3⟩
  exact L5 (n + 1) 0 1 (by omega) (fun j hj q => by rw [bt_1 hj, decide_eq_true_eq] at q; omega) ⟨fun ⟨j, j1, j2, j3⟩ => by
    rw [bt_1 (by omega), decide_eq_true_eq] at j2
    exact j2 ▸ j3, fun q => ⟨0, by omega, by rw [bt_1 (by omega)]; rfl, q⟩⟩ (by omega)
abbrev rm_X5_may : Room := { frames := 4, cells := 0, slots := 0, locals := 93 }
set_option maxRecDepth 100000 in
set_option maxHeartbeats 4000000 in
theorem C_may (lau : Launch) (E : EnvD) (σ : Sto) {z : Nat} {S : PSt} (hI : Inv S) (hR : RepC E z S σ) (a1 a2 : Int32) : CC lau yX5_may cX5_may 7 (some .int) rm_X5_may E [.ref z, .int a1, .int a2] σ (fun o s => o = some (.int (opMay S a1 a2).1) ∧ RepC E z (opMay S a1 a2).2 s) := by
  refine cc_of (vs := [_, _, _, _, _, _, _]) (by decide) (Nat.le_of_ble_eq_true rfl) rfl ?_
  intro X h hr hn
  obtain ⟨r0, ⟨fV, rV, eV⟩, ⟨fP, rP, eP⟩, ⟨fC, rC, eC⟩, ⟨fR, rR, eR⟩, ⟨fM, rM, eM⟩, rCh, rT, rO, ⟨nE, gE, hE, rE⟩, rows, prows⟩ := id hR
  by_cases ha1 : inR a1 4 <;> by_cases ha2 : inR a2 8
  · skip
    obtain ⟨a, ha, rfl⟩ := ha1
    have ea : cl (nI a) = a := cl_nI (by omega)
    have hna := (hI.2.1 a ha).1
    obtain ⟨b, hb, rfl⟩ := ha2
    have eb : cl (nI b) = b := cl_nI (by omega)
    have hnb := (hI.1 b hb).1
    refine g_aload_n h 0 dX5_may_0 rfl rfl ?_
    refine g_get h 1 fa_X5_15 dX5_may_1 r0 rfl ?_
    refine g_iload_n h 1 dX5_may_4 rfl rfl ?_
    refine g_callS h [] (c_X5_rowOf_in (xL X) E _ rP (by omega) (i := a) (by omega) (eP a (by omega))) cf_X5_60 cs_X5_rowOf dX5_may_5 rfl rfl (Nat.le_of_ble_eq_true rfl) ⟨(Nat.le_of_ble_eq_true rfl), (Nat.le_of_ble_eq_true rfl)⟩ ⟨(Nat.le_of_ble_eq_true rfl), (Nat.le_of_ble_eq_true rfl)⟩ ?_
    refine kk_det ?_
    refine g_astore_n (vs' := [_, _, _, _, _, _, _]) h 3 dX5_may_8 rfl (Nat.le_of_ble_eq_true rfl) rfl rfl ?_
    refine g_aload_n h 0 dX5_may_9 rfl rfl ?_
    refine g_get h 0 fa_X5_11 dX5_may_10 r0 rfl ?_
    refine g_iload_n h 2 dX5_may_13 rfl rfl ?_
    refine g_callS h [] (c_X5_rowOf_in (xL X) E _ rV (by omega) (i := b) (by omega) (eV b (by omega))) cf_X5_60 cs_X5_rowOf dX5_may_14 rfl rfl (Nat.le_of_ble_eq_true rfl) ⟨(Nat.le_of_ble_eq_true rfl), (Nat.le_of_ble_eq_true rfl)⟩ ⟨(Nat.le_of_ble_eq_true rfl), (Nat.le_of_ble_eq_true rfl)⟩ ?_
    refine kk_det ?_
    refine g_astore (vs' := [_, _, _, _, _, _, _]) h dX5_may_17 (Nat.le_of_ble_eq_true rfl) rfl rfl ?_
    refine g_aload_n h 3 dX5_may_19 rfl rfl ?_
    refine g_ifnull h dX5_may_20 ?_
    refine g_aload h dX5_may_23 rfl ?_
    refine g_ifnonnull h 31 dX5_may_25 (by decide) ?_
    refine g_aload_n h 3 dX5_may_31 rfl rfl ?_
    refine g_aload h dX5_may_32 rfl ?_
    refine g_callS h [] (c_X5_placesBehind (xL X) E _ (rows b hb) hnb (prows a ha) hna) cf_X5_133 cs_X5_placesBehind dX5_may_34 rfl rfl (Nat.le_of_ble_eq_true rfl) ⟨(Nat.le_of_ble_eq_true rfl), (Nat.le_of_ble_eq_true rfl)⟩ ⟨(Nat.le_of_ble_eq_true rfl), (Nat.le_of_ble_eq_true rfl)⟩ ?_
    refine kk_exl (fun pb hpb => ?_)
    refine g_lstore (vs' := [_, _, _, _, _, _, _]) h dX5_may_37 (Nat.le_of_ble_eq_true rfl) rfl rfl ?_
    refine g_lload h dX5_may_39 rfl ?_
    refine g_aload h dX5_may_41 rfl ?_
    refine g_get h 1 fa_X5_64 dX5_may_43 (rows b hb).1 rfl ?_
    refine g_callS h [] (c_X5_hasBit (xL X) E _ pb (b := sVn S b) (by omega)) cf_X5_137 cs_X5_hasBit dX5_may_46 rfl rfl (Nat.le_of_ble_eq_true rfl) ⟨(Nat.le_of_ble_eq_true rfl), (Nat.le_of_ble_eq_true rfl)⟩ ⟨(Nat.le_of_ble_eq_true rfl), (Nat.le_of_ble_eq_true rfl)⟩ ?_
    refine kk_det ?_
    refine g_if_eqB h 56 dX5_may_49 (by decide) (fun c49_1 => ?_) (fun c49_1 => ?_)
    · skip
      refine g_iconst h (nI 0) dX5_may_56 (by decide) ?_
      exact g_iret h hr dX5_may_57 ((fun e => ⟨by rw [e]; exact congrArg (fun q => some (Value.int q)) (bI_f (fun q => c49_1 (hpb.mpr q))).symm, by rw [e]; exact hR⟩) (show opMay S (nI a) (nI b) = (bI (mtc (sPh S a) (rwV S b) (sPn S a) (sVn S b) 0 0), S) from by unfold opMay; rw [cif_t ⟨⟨a, ha, rfl⟩, ⟨b, hb, rfl⟩⟩, ea, eb])) (Nat.le_of_ble_eq_true rfl) (Nat.le_of_ble_eq_true rfl)
    · skip
      refine g_iconst h (nI 1) dX5_may_52 (by decide) ?_
      refine g_goto h 57 dX5_may_53 (by decide) ?_
      exact g_iret h hr dX5_may_57 ((fun e => ⟨by rw [e]; exact congrArg (fun q => some (Value.int q)) (bI_t (hpb.mp c49_1)).symm, by rw [e]; exact hR⟩) (show opMay S (nI a) (nI b) = (bI (mtc (sPh S a) (rwV S b) (sPn S a) (sVn S b) 0 0), S) from by unfold opMay; rw [cif_t ⟨⟨a, ha, rfl⟩, ⟨b, hb, rfl⟩⟩, ea, eb])) (Nat.le_of_ble_eq_true rfl) (Nat.le_of_ble_eq_true rfl)
  · skip
    obtain ⟨a, ha, rfl⟩ := ha1
    have ea : cl (nI a) = a := cl_nI (by omega)
    have hna := (hI.2.1 a ha).1
    refine g_aload_n h 0 dX5_may_0 rfl rfl ?_
    refine g_get h 1 fa_X5_15 dX5_may_1 r0 rfl ?_
    refine g_iload_n h 1 dX5_may_4 rfl rfl ?_
    refine g_callS h [] (c_X5_rowOf_in (xL X) E _ rP (by omega) (i := a) (by omega) (eP a (by omega))) cf_X5_60 cs_X5_rowOf dX5_may_5 rfl rfl (Nat.le_of_ble_eq_true rfl) ⟨(Nat.le_of_ble_eq_true rfl), (Nat.le_of_ble_eq_true rfl)⟩ ⟨(Nat.le_of_ble_eq_true rfl), (Nat.le_of_ble_eq_true rfl)⟩ ?_
    refine kk_det ?_
    refine g_astore_n (vs' := [_, _, _, _, _, _, _]) h 3 dX5_may_8 rfl (Nat.le_of_ble_eq_true rfl) rfl rfl ?_
    refine g_aload_n h 0 dX5_may_9 rfl rfl ?_
    refine g_get h 0 fa_X5_11 dX5_may_10 r0 rfl ?_
    refine g_iload_n h 2 dX5_may_13 rfl rfl ?_
    refine g_callS h [] (c_X5_rowOf_out (xL X) E _ a2 rV (by omega) ha2) cf_X5_60 cs_X5_rowOf dX5_may_14 rfl rfl (Nat.le_of_ble_eq_true rfl) ⟨(Nat.le_of_ble_eq_true rfl), (Nat.le_of_ble_eq_true rfl)⟩ ⟨(Nat.le_of_ble_eq_true rfl), (Nat.le_of_ble_eq_true rfl)⟩ ?_
    refine kk_det ?_
    refine g_astoreN (vs' := [_, _, _, _, _, _, _]) h dX5_may_17 (Nat.le_of_ble_eq_true rfl) rfl rfl ?_
    refine g_aload_n h 3 dX5_may_19 rfl rfl ?_
    refine g_ifnull h dX5_may_20 ?_
    refine g_aloadN h dX5_may_23 rfl ?_
    refine g_ifnonnullN h dX5_may_25 ?_
    refine g_bipush h (-2) dX5_may_28 (by decide) ?_
    exact g_iret h hr dX5_may_30 ((fun e => ⟨by rw [e], by rw [e]; exact hR⟩) (show opMay S (nI a) a2 = (-2, S) from by unfold opMay; rw [cif_f (fun q => ha2 q.2)])) (Nat.le_of_ble_eq_true rfl) (Nat.le_of_ble_eq_true rfl)
  · skip
    obtain ⟨b, hb, rfl⟩ := ha2
    have eb : cl (nI b) = b := cl_nI (by omega)
    have hnb := (hI.1 b hb).1
    refine g_aload_n h 0 dX5_may_0 rfl rfl ?_
    refine g_get h 1 fa_X5_15 dX5_may_1 r0 rfl ?_
    refine g_iload_n h 1 dX5_may_4 rfl rfl ?_
    refine g_callS h [] (c_X5_rowOf_out (xL X) E _ a1 rP (by omega) ha1) cf_X5_60 cs_X5_rowOf dX5_may_5 rfl rfl (Nat.le_of_ble_eq_true rfl) ⟨(Nat.le_of_ble_eq_true rfl), (Nat.le_of_ble_eq_true rfl)⟩ ⟨(Nat.le_of_ble_eq_true rfl), (Nat.le_of_ble_eq_true rfl)⟩ ?_
    refine kk_det ?_
    refine g_astore_nN (vs' := [_, _, _, _, _, _, _]) h 3 dX5_may_8 rfl (Nat.le_of_ble_eq_true rfl) rfl rfl ?_
    refine g_aload_n h 0 dX5_may_9 rfl rfl ?_
    refine g_get h 0 fa_X5_11 dX5_may_10 r0 rfl ?_
    refine g_iload_n h 2 dX5_may_13 rfl rfl ?_
    refine g_callS h [] (c_X5_rowOf_in (xL X) E _ rV (by omega) (i := b) (by omega) (eV b (by omega))) cf_X5_60 cs_X5_rowOf dX5_may_14 rfl rfl (Nat.le_of_ble_eq_true rfl) ⟨(Nat.le_of_ble_eq_true rfl), (Nat.le_of_ble_eq_true rfl)⟩ ⟨(Nat.le_of_ble_eq_true rfl), (Nat.le_of_ble_eq_true rfl)⟩ ?_
    refine kk_det ?_
    refine g_astore (vs' := [_, _, _, _, _, _, _]) h dX5_may_17 (Nat.le_of_ble_eq_true rfl) rfl rfl ?_
    refine g_aload_nN h 3 dX5_may_19 rfl rfl ?_
    refine g_ifnullN h 28 dX5_may_20 (by decide) ?_
    refine g_bipush h (-2) dX5_may_28 (by decide) ?_
    exact g_iret h hr dX5_may_30 ((fun e => ⟨by rw [e], by rw [e]; exact hR⟩) (show opMay S a1 (nI b) = (-2, S) from by unfold opMay; rw [cif_f (fun q => ha1 q.1)])) (Nat.le_of_ble_eq_true rfl) (Nat.le_of_ble_eq_true rfl)
  · skip
    refine g_aload_n h 0 dX5_may_0 rfl rfl ?_
    refine g_get h 1 fa_X5_15 dX5_may_1 r0 rfl ?_
    refine g_iload_n h 1 dX5_may_4 rfl rfl ?_
    refine g_callS h [] (c_X5_rowOf_out (xL X) E _ a1 rP (by omega) ha1) cf_X5_60 cs_X5_rowOf dX5_may_5 rfl rfl (Nat.le_of_ble_eq_true rfl) ⟨(Nat.le_of_ble_eq_true rfl), (Nat.le_of_ble_eq_true rfl)⟩ ⟨(Nat.le_of_ble_eq_true rfl), (Nat.le_of_ble_eq_true rfl)⟩ ?_
    refine kk_det ?_
    refine g_astore_nN (vs' := [_, _, _, _, _, _, _]) h 3 dX5_may_8 rfl (Nat.le_of_ble_eq_true rfl) rfl rfl ?_
    refine g_aload_n h 0 dX5_may_9 rfl rfl ?_
    refine g_get h 0 fa_X5_11 dX5_may_10 r0 rfl ?_
    refine g_iload_n h 2 dX5_may_13 rfl rfl ?_
    refine g_callS h [] (c_X5_rowOf_out (xL X) E _ a2 rV (by omega) ha2) cf_X5_60 cs_X5_rowOf dX5_may_14 rfl rfl (Nat.le_of_ble_eq_true rfl) ⟨(Nat.le_of_ble_eq_true rfl), (Nat.le_of_ble_eq_true rfl)⟩ ⟨(Nat.le_of_ble_eq_true rfl), (Nat.le_of_ble_eq_true rfl)⟩ ?_
    refine kk_det ?_
    refine g_astoreN (vs' := [_, _, _, _, _, _, _]) h dX5_may_17 (Nat.le_of_ble_eq_true rfl) rfl rfl ?_
    refine g_aload_nN h 3 dX5_may_19 rfl rfl ?_
    refine g_ifnullN h 28 dX5_may_20 (by decide) ?_
    refine g_bipush h (-2) dX5_may_28 (by decide) ?_
    exact g_iret h hr dX5_may_30 ((fun e => ⟨by rw [e], by rw [e]; exact hR⟩) (show opMay S a1 a2 = (-2, S) from by unfold opMay; rw [cif_f (fun q => ha1 q.1)])) (Nat.le_of_ble_eq_true rfl) (Nat.le_of_ble_eq_true rfl)
