/-! the reference's differences (own work; walks by program) -/
theorem ed_lip (l k : Nat → Int32) (n m : Nat) : ∀ N i j, (n - i) + (m - j) ≤ N → (i < n → ed l k n m i j ≤ ed l k n m (i + 1) j + 1 ∧ ed l k n m (i + 1) j ≤ ed l k n m i j + 1) ∧ (j < m → ed l k n m i j ≤ ed l k n m i (j + 1) + 1 ∧ ed l k n m i (j + 1) ≤ ed l k n m i j + 1)
  | 0, i, j, h => ⟨fun q => by omega, fun q => by omega⟩
  | N + 1, i, j, h => by
    by_cases hi : i < n
    · by_cases hj : j < m
      · obtain ⟨a1, a2⟩ := ed_lip l k n m N (i + 1) j (by omega)
        obtain ⟨b1, b2⟩ := ed_lip l k n m N i (j + 1) (by omega)
        have a3 := a2 hj
        have b3 := b1 hi
        by_cases e : l i = k j
        · have := ed_eq hi hj e
          exact ⟨fun _ => by omega, fun _ => by omega⟩
        · have := ed_ne hi hj e
          exact ⟨fun _ => by omega, fun _ => by omega⟩
      · have h1 : ed l k n m i j = n - i := ed_o2 hi (by omega)
        have h2 : ed l k n m (i + 1) j = n - (i + 1) := by
          by_cases c : i + 1 < n
          · exact ed_o2 c (by omega)
          · rw [ed_o1 (by omega)]; omega
        exact ⟨fun _ => by omega, fun q => absurd q hj⟩
    · have h1 : ed l k n m i j = m - j := ed_o1 (by omega)
      have h2 : ed l k n m i (j + 1) = m - (j + 1) := ed_o1 (by omega)
      exact ⟨fun q => absurd q hi, fun _ => by omega⟩
def fw0 (n m i j : Nat) : Nat := if i = n ∧ j = m then 0 else 1000
def fw1 (n m i j a : Nat) : Nat := if i < n then a + 1 else fw0 n m i j
def fw2 (n m i j a c : Nat) : Nat := if j < m ∧ c + 1 < fw1 n m i j a then c + 1 else fw1 n m i j a
theorem fw1_le {n m i j a : Nat} (h : a ≤ 80) : fw1 n m i j a ≤ 1000 := by
  unfold fw1 fw0
  split <;> (try split) <;> omega
theorem fw2_le {n m i j a c : Nat} (h : a ≤ 80) (h2 : c ≤ 80) : fw2 n m i j a c ≤ 1000 := by
  have := fw1_le (n := n) (m := m) (i := i) (j := j) h
  unfold fw2
  split <;> omega
theorem edB {l k : Nat → Int32} {n m i j : Nat} (hi : i < n) (hj : j < m) (e : l i = k j) (h : ¬ ed l k n m (i + 1) (j + 1) < fw2 n m i j (ed l k n m (i + 1) j) (ed l k n m i (j + 1))) : fw2 n m i j (ed l k n m (i + 1) j) (ed l k n m i (j + 1)) = ed l k n m i j := by
  have h0 := ed_eq hi hj e
  have h1 := (ed_lip l k n m _ (i + 1) j (Nat.le_refl _)).2 hj
  have h2 := (ed_lip l k n m _ i (j + 1) (Nat.le_refl _)).1 hi
  unfold fw2 fw1 at h ⊢
  rw [if_pos hi] at h ⊢
  split at h <;> rename_i q
  · rw [if_pos q]; omega
  · rw [if_neg q]; omega
theorem edC {l k : Nat → Int32} {n m i j : Nat} (hi : i ≤ n) (hj : j ≤ m) (hm : m ≤ 40) (h : ¬ (i < n ∧ j < m ∧ l i = k j)) : fw2 n m i j (ed l k n m (i + 1) j) (ed l k n m i (j + 1)) = ed l k n m i j := by
  unfold fw2 fw1 fw0
  by_cases a : i < n
  · by_cases c : j < m
    · have := ed_ne a c (fun e => h ⟨a, c, e⟩)
      rw [if_pos a]
      split <;> omega
    · have h1 : ed l k n m i j = n - i := ed_o2 a (by omega)
      have h2 : ed l k n m (i + 1) j = n - (i + 1) := by
        by_cases c : i + 1 < n
        · exact ed_o2 c (by omega)
        · rw [ed_o1 (by omega)]; omega
      rw [if_pos a, if_neg (fun q => c q.1)]
      omega
  · have h1 : ed l k n m i j = m - j := ed_o1 (by omega)
    have h2 : ed l k n m i (j + 1) = m - (j + 1) := ed_o1 (by omega)
    rw [if_neg a]
    by_cases c : j = m
    · have e0 : (if i = n ∧ j = m then (0 : Nat) else 1000) = 0 := if_pos ⟨by omega, c⟩
      rw [e0, if_neg (by omega)]; omega
    · have e0 : (if i = n ∧ j = m then (0 : Nat) else 1000) = 1000 := if_neg (fun q => c q.2)
      rw [e0, if_pos (by omega)]; omega
theorem way2 {l k : Nat → Int32} {n m i j : Nat} (hi : i ≤ n) (hj : j ≤ m) (h : i < n ∨ j < m) (hw : way l k n m i j = 2) : j < m ∧ ed l k n m i (j + 1) + 1 = ed l k n m i j := by
  have hj2 : j < m := way_j h (fun q => by rw [q] at hw; omega)
  refine ⟨hj2, ?_⟩
  unfold way at hw
  by_cases a : i < n
  · by_cases e : l i = k j
    · rw [if_pos ⟨a, hj2, e⟩] at hw
      omega
    · have := ed_ne a hj2 e
      rw [if_neg (fun q => e q.2.2)] at hw
      by_cases c : ed l k n m (i + 1) j + 1 = ed l k n m i j
      · rw [if_pos ⟨a, c⟩] at hw; omega
      · omega
  · have h1 : ed l k n m i j = m - j := ed_o1 (by omega)
    have h2 : ed l k n m i (j + 1) = m - (j + 1) := ed_o1 (by omega)
    omega
theorem way1 {l k : Nat → Int32} {n m i j : Nat} (hw : way l k n m i j = 1) : i < n ∧ ed l k n m (i + 1) j + 1 = ed l k n m i j := by
  unfold way at hw
  by_cases c : i < n ∧ j < m ∧ l i = k j
  · rw [if_pos c] at hw; omega
  · rw [if_neg c] at hw
    by_cases d : i < n ∧ ed l k n m (i + 1) j + 1 = ed l k n m i j
    · exact d
    · rw [if_neg d] at hw; omega
theorem way0 {l k : Nat → Int32} {n m i j : Nat} (hw : way l k n m i j = 0) : i < n ∧ j < m ∧ ed l k n m i j = ed l k n m (i + 1) (j + 1) := by
  unfold way at hw
  by_cases c : i < n ∧ j < m ∧ l i = k j
  · exact ⟨c.1, c.2.1, ed_eq c.1 c.2.1 c.2.2⟩
  · rw [if_neg c] at hw
    split at hw <;> omega
theorem pth_s {l k : Nat → Int32} {n m f t i j : Nat} (h : i < n ∨ j < m) (ht : t ≠ 0) (hf : f ≠ 0) : pth l k n m f t i j = pth l k n m (f - 1) (t - 1) (if way l k n m i j = 2 then i else i + 1) (if way l k n m i j = 1 then j else j + 1) := by
  obtain ⟨g, rfl⟩ : ∃ g, f = g + 1 := ⟨f - 1, by omega⟩
  conv => lhs; rw [pth, if_pos h, if_neg ht]
  rfl
theorem pth_0 {l k : Nat → Int32} {n m f i j : Nat} (h : i < n ∨ j < m) (hf : f ≠ 0) : pth l k n m f 0 i j = nI (way l k n m i j) := by
  obtain ⟨g, rfl⟩ : ∃ g, f = g + 1 := ⟨f - 1, by omega⟩
  rw [pth, if_pos h, if_pos rfl]
theorem pth_e {l k : Nat → Int32} {n m f t i j : Nat} (h : ¬ (i < n ∨ j < m)) : pth l k n m f t i j = -1 := by
  cases f with
  | zero => rfl
  | succ f => rw [pth, if_neg h]
abbrev rm_X6_isAlike : Room := { frames := 0, cells := 0, slots := 0, locals := 0 }
set_option maxRecDepth 100000 in
set_option maxHeartbeats 4000000 in
theorem c_X6_isAlike (lau : Launch) (E : EnvD) (σ : Sto) {b : Nat} {S : PSt} (hI : Inv S) (hM : RepM E b S σ) {v u : Nat} (hv : v < 8) (hu : u < 8) {i j : Nat} (hi : i ≤ 40) (hj : j ≤ 40) : CC lau yX6_isAlike cX6_isAlike 5 (some .boolean) rm_X6_isAlike E [.ref b, .int (nI v), .int (nI i), .int (nI u), .int (nI j)] σ (fun o s => o = some (.int (bI (i < sVn S v ∧ j < sVn S u ∧ rwV S v i = rwV S u j))) ∧ s = σ) := by
  refine cc_of (vs := [_, _, _, _, _]) (by decide) (Nat.le_of_ble_eq_true rfl) rfl ?_
  intro X h hr hn
  obtain ⟨r0, ⟨f1, r1, e1⟩, ⟨f2, r2, e2⟩, ⟨f3, r3, e3⟩, ⟨f4, r4, e4⟩, ⟨f5, r5, e5⟩, ⟨f6, r6, e6⟩, ⟨f7, r7, e7⟩, ⟨f8, r8, e8⟩, ⟨f9, r9, e9⟩, ⟨f10, r10, e10⟩, ⟨f11, r11, e11⟩, ⟨f12, r12, e12⟩, ⟨f13, r13⟩, ⟨f14, r14⟩, ⟨f15, r15⟩, ⟨f16, r16, e16⟩, ⟨f17, r17⟩⟩ := id hM
  obtain ⟨hnv, hlv⟩ := hI.1 v hv
  obtain ⟨hnu, hlu⟩ := hI.1 u hu
  refine g_iload_n h 2 dX6_isAlike_0 rfl rfl ?_
  refine g_aload_n h 0 dX6_isAlike_1 rfl rfl ?_
  refine g_get h 1 fa_X6_13 dX6_isAlike_2 r0 rfl ?_
  refine g_iload_n h 1 dX6_isAlike_5 rfl rfl ?_
  refine g_iald h dX6_isAlike_6 r2 (by omega) (by omega) ?_
  refine g_top (y := nI (sVn S v)) (e2 v (by omega)) ?_
  refine g_icmp_geN h 51 dX6_isAlike_7 (by decide) (by omega) (by omega) (fun c7_1 => ?_) (fun c7_1 => ?_)
  · skip
    refine g_iconst h (nI 0) dX6_isAlike_51 (by decide) ?_
    exact g_zret h hr rfl dX6_isAlike_52 (ret0 (fun q => by have := q.1; have := q.2.1; omega)) (Nat.le_of_ble_eq_true rfl) (Nat.le_of_ble_eq_true rfl)
  · skip
    refine g_iload h dX6_isAlike_10 rfl ?_
    refine g_aload_n h 0 dX6_isAlike_12 rfl rfl ?_
    refine g_get h 1 fa_X6_13 dX6_isAlike_13 r0 rfl ?_
    refine g_iload_n h 3 dX6_isAlike_16 rfl rfl ?_
    refine g_iald h dX6_isAlike_17 r2 (by omega) (by omega) ?_
    refine g_top (y := nI (sVn S u)) (e2 u (by omega)) ?_
    refine g_icmp_geN h 51 dX6_isAlike_18 (by decide) (by omega) (by omega) (fun c18_2 => ?_) (fun c18_2 => ?_)
    · skip
      refine g_iconst h (nI 0) dX6_isAlike_51 (by decide) ?_
      exact g_zret h hr rfl dX6_isAlike_52 (ret0 (fun q => by have := q.1; have := q.2.1; omega)) (Nat.le_of_ble_eq_true rfl) (Nat.le_of_ble_eq_true rfl)
    · skip
      have y1 := hlv i (by omega)
      have y2 := hlu j (by omega)
      refine g_aload_n h 0 dX6_isAlike_21 rfl rfl ?_
      refine g_get h 0 fa_X6_7 dX6_isAlike_22 r0 rfl ?_
      refine g_bipush h (nI 40) dX6_isAlike_25 (by decide) ?_
      refine g_iload_n h 1 dX6_isAlike_27 rfl rfl ?_
      refine g_imulN h dX6_isAlike_28 ?_
      refine g_iload_n h 2 dX6_isAlike_29 rfl rfl ?_
      refine g_iaddN h dX6_isAlike_30 ?_
      refine g_iald h dX6_isAlike_31 r1 (by omega) (by omega) ?_
      refine g_top (y := nI (sVl S v i)) (e1 v (by omega) i (by omega)) ?_
      refine g_aload_n h 0 dX6_isAlike_32 rfl rfl ?_
      refine g_get h 0 fa_X6_7 dX6_isAlike_33 r0 rfl ?_
      refine g_bipush h (nI 40) dX6_isAlike_36 (by decide) ?_
      refine g_iload_n h 3 dX6_isAlike_38 rfl rfl ?_
      refine g_imulN h dX6_isAlike_39 ?_
      refine g_iload h dX6_isAlike_40 rfl ?_
      refine g_iaddN h dX6_isAlike_42 ?_
      refine g_iald h dX6_isAlike_43 r1 (by omega) (by omega) ?_
      refine g_top (y := nI (sVl S u j)) (e1 u (by omega) j (by omega)) ?_
      refine g_icmp_neN h 51 dX6_isAlike_44 (by decide) (by omega) (by omega) (fun c44_3 => ?_) (fun c44_3 => ?_)
      · skip
        refine g_iconst h (nI 0) dX6_isAlike_51 (by decide) ?_
        exact g_zret h hr rfl dX6_isAlike_52 (ret0 (fun q => by have := q.1; have := q.2.1; exact absurd (nI_inj (by omega) (by omega) q.2.2) c44_3)) (Nat.le_of_ble_eq_true rfl) (Nat.le_of_ble_eq_true rfl)
      · skip
        refine g_iconst h (nI 1) dX6_isAlike_47 (by decide) ?_
        refine g_goto h 52 dX6_isAlike_48 (by decide) ?_
        exact g_zret h hr rfl dX6_isAlike_52 (ret1 ⟨by omega, by omega, congrArg nI c44_3⟩) (Nat.le_of_ble_eq_true rfl) (Nat.le_of_ble_eq_true rfl)
abbrev rm_X6_findFew : Room := { frames := 1, cells := 0, slots := 0, locals := 24 }
set_option maxRecDepth 100000 in
set_option maxHeartbeats 4000000 in
theorem c_X6_findFew (lau : Launch) (E : EnvD) (σ : Sto) {b : Nat} {S : PSt} (hI : Inv S) (hM : RepM E b S σ) {v u : Nat} (hv : v < 8) (hu : u < 8) : CC lau yX6_findFew cX6_findFew 6 (some .int) rm_X6_findFew E [.ref b, .int (nI v), .int (nI u)] σ (fun o s => o = some (.int (nI (ed (rwV S v) (rwV S u) (sVn S v) (sVn S u) 0 0))) ∧ ∃ g, s = sup σ (b + 13) (cI E 1681 g) ∧ ∀ i, i ≤ sVn S v → ∀ j, j ≤ sVn S u → g (41 * i + j) = nI (ed (rwV S v) (rwV S u) (sVn S v) (sVn S u) i j)) := by
  refine cc_of (vs := [_, _, _, _, _, _]) (by decide) (Nat.le_of_ble_eq_true rfl) rfl ?_
  intro X h hr hn
  obtain ⟨r0, ⟨f1, r1, e1⟩, ⟨f2, r2, e2⟩, ⟨f3, r3, e3⟩, ⟨f4, r4, e4⟩, ⟨f5, r5, e5⟩, ⟨f6, r6, e6⟩, ⟨f7, r7, e7⟩, ⟨f8, r8, e8⟩, ⟨f9, r9, e9⟩, ⟨f10, r10, e10⟩, ⟨f11, r11, e11⟩, ⟨f12, r12, e12⟩, ⟨f13, r13⟩, ⟨f14, r14⟩, ⟨f15, r15⟩, ⟨f16, r16, e16⟩, ⟨f17, r17⟩⟩ := id hM
  obtain ⟨hnv, hlv⟩ := hI.1 v hv
  obtain ⟨hnu, hlu⟩ := hI.1 u hu
  refine g_aload_n h 0 dX6_findFew_0 rfl rfl ?_
  refine g_get h 1 fa_X6_13 dX6_findFew_1 r0 rfl ?_
  refine g_iload_n h 1 dX6_findFew_4 rfl rfl ?_
  refine g_iald h dX6_findFew_5 r2 (by omega) (by omega) ?_
  refine g_top (y := nI (sVn S v)) (e2 v (by omega)) ?_
  refine g_istore_n (vs' := [_, _, _, _, _, _]) h 3 dX6_findFew_6 rfl (Nat.le_of_ble_eq_true rfl) rfl rfl ?_
  refine g_sto (sup_self (e := cI E 1681 f13) r13).symm ?_
  have L7 : ∀ (m0 : Nat) (e : Nat) (x3 : Int32) (g : Nat → Int32), (e ≤ sVn S v + 1) → ((e = 0 ∧ x3 = -1) ∨ ∃ i, e = i + 1 ∧ x3 = nI i) → (∀ a, e ≤ a → a ≤ sVn S v → ∀ c, c ≤ sVn S u → g (41 * a + c) = nI (ed (rwV S v) (rwV S u) (sVn S v) (sVn S u) a c)) → e < m0 → G X E 6 (AD σ) (QF X E σ (fun o s => o = some (.int (nI (ed (rwV S v) (rwV S u) (sVn S v) (sVn S u) 0 0))) ∧ ∃ g, s = sup σ (b + 13) (cI E 1681 g) ∧ ∀ i, i ≤ sVn S v → ∀ j, j ≤ sVn S u → g (41 * i + j) = nI (ed (rwV S v) (rwV S u) (sVn S v) (sVn S u) i j)) rm_X6_findFew) 0 0 7 [some (.ref b), some (.int (nI v)), some (.int (nI u)), some (.int x3), none, none] [] (sup σ (b + 13) (cI E 1681 g)) := by
    intro m0
    induction m0 with
    | zero => intro e x3 g _ _ _ hm0; exact absurd hm0 (Nat.not_lt_zero _)
    | succ m0 ih =>
      intro e x3 g he hx3 hg1 hm0
      refine g_iload_n h 3 dX6_findFew_7 rfl rfl ?_
      refine g_if_lt h 230 dX6_findFew_8 (by decide) (fun c8_1 => ?_) (fun c8_1 => ?_)
      · skip
        have he0 : e = 0 := by
          rcases hx3 with q | ⟨i, q1, q2⟩
          · exact q.1
          · subst q2; exact absurd c8_1 (nI_pos (by omega))
        subst he0
        refine g_aload_n h 0 dX6_findFew_230 rfl rfl ?_
        refine g_get h 14 fa_X6_46 dX6_findFew_231 ((sup_ne (by omega)).trans r0) rfl ?_
        refine g_iconst h (nI 0) dX6_findFew_234 (by decide) ?_
        refine g_iald h dX6_findFew_235 sup_eq (by omega) (by omega) ?_
        refine g_top (y := nI (ed (rwV S v) (rwV S u) (sVn S v) (sVn S u) 0 0)) (hg1 0 (by omega) (by omega) 0 (by omega)) ?_
        exact g_iret h hr dX6_findFew_236 (⟨rfl, g, rfl, fun i hi j hj => hg1 i (Nat.zero_le _) hi j hj⟩) (Nat.le_of_ble_eq_true rfl) (Nat.le_of_ble_eq_true rfl)
      · skip
        obtain ⟨i, rfl, rfl⟩ : ∃ i, e = i + 1 ∧ x3 = nI i := by
          rcases hx3 with q | q
          · rw [q.2] at c8_1; exact absurd (by decide) c8_1
          · exact q
        refine g_aload_n h 0 dX6_findFew_11 rfl rfl ?_
        refine g_get h 1 fa_X6_13 dX6_findFew_12 ((sup_ne (by omega)).trans r0) rfl ?_
        refine g_iload_n h 2 dX6_findFew_15 rfl rfl ?_
        refine g_iald h dX6_findFew_16 ((sup_ne (by omega)).trans r2) (by omega) (by omega) ?_
        refine g_top (y := nI (sVn S u)) (e2 u (by omega)) ?_
        refine g_istore (vs' := [_, _, _, _, _, _]) h dX6_findFew_17 (Nat.le_of_ble_eq_true rfl) rfl rfl ?_
        have L19 : ∀ (m0 : Nat) (d : Nat) (x4 : Int32) (g : Nat → Int32), (d ≤ sVn S u + 1) → ((d = 0 ∧ x4 = -1) ∨ ∃ j, d = j + 1 ∧ x4 = nI j) → (∀ a c, (i < a ∧ a ≤ sVn S v ∧ c ≤ sVn S u) ∨ (a = i ∧ d ≤ c ∧ c ≤ sVn S u) → g (41 * a + c) = nI (ed (rwV S v) (rwV S u) (sVn S v) (sVn S u) a c)) → d < m0 → G X E 6 (AD σ) (QF X E σ (fun o s => o = some (.int (nI (ed (rwV S v) (rwV S u) (sVn S v) (sVn S u) 0 0))) ∧ ∃ g, s = sup σ (b + 13) (cI E 1681 g) ∧ ∀ i, i ≤ sVn S v → ∀ j, j ≤ sVn S u → g (41 * i + j) = nI (ed (rwV S v) (rwV S u) (sVn S v) (sVn S u) i j)) rm_X6_findFew) 0 0 19 [some (.ref b), some (.int (nI v)), some (.int (nI u)), some (.int (nI i)), some (.int x4), none] [] (sup σ (b + 13) (cI E 1681 g)) := by
          intro m0
          induction m0 with
          | zero => intro d x4 g _ _ _ hm0; exact absurd hm0 (Nat.not_lt_zero _)
          | succ m0 ih2 =>
            intro d x4 g hd hx4 hg2 hm0
            refine g_iload h dX6_findFew_19 rfl ?_
            refine g_if_lt h 224 dX6_findFew_21 (by decide) (fun c21_2 => ?_) (fun c21_2 => ?_)
            · skip
              have hd0 : d = 0 := by
                rcases hx4 with q | ⟨i, q1, q2⟩
                · exact q.1
                · subst q2; exact absurd c21_2 (nI_pos (by omega))
              subst hd0
              refine g_iinc (vs' := [_, _, _, _, _, _]) h (nI i + -1) dX6_findFew_224 rfl rfl (Nat.le_of_ble_eq_true rfl) rfl rfl ?_
              refine g_goto h 7 dX6_findFew_227 (by decide) ?_
              refine g_few (vs' := [some (.ref b), some (.int (nI v)), some (.int (nI u)), some (.int (nI i + -1)), none, none]) ⟨Or.inr rfl, Or.inr rfl, Or.inr rfl, Or.inr rfl, Or.inl rfl, Or.inl rfl, trivial⟩ ?_
              exact ih i (nI i + -1) g (by omega) (by rcases Nat.eq_zero_or_pos i with e | e; (· subst e; exact Or.inl ⟨rfl, by decide⟩); (· exact Or.inr ⟨i - 1, by omega, nI_dec e⟩)) (fun a h1 h2 c h3 => hg2 a c (by omega)) (by omega)
            · skip
              obtain ⟨j, rfl, rfl⟩ : ∃ j, d = j + 1 ∧ x4 = nI j := by
                rcases hx4 with q | q
                · rw [q.2] at c21_2; exact absurd (by decide) c21_2
                · exact q
              have hM2 : RepM E b S (sup σ (b + 13) (cI E 1681 g)) := ⟨((sup_ne (by omega)).trans r0), ⟨_, ((sup_ne (by omega)).trans r1), e1⟩, ⟨_, ((sup_ne (by omega)).trans r2), e2⟩, ⟨_, ((sup_ne (by omega)).trans r3), e3⟩, ⟨_, ((sup_ne (by omega)).trans r4), e4⟩, ⟨_, ((sup_ne (by omega)).trans r5), e5⟩, ⟨_, ((sup_ne (by omega)).trans r6), e6⟩, ⟨_, ((sup_ne (by omega)).trans r7), e7⟩, ⟨_, ((sup_ne (by omega)).trans r8), e8⟩, ⟨_, ((sup_ne (by omega)).trans r9), e9⟩, ⟨_, ((sup_ne (by omega)).trans r10), e10⟩, ⟨_, ((sup_ne (by omega)).trans r11), e11⟩, ⟨_, ((sup_ne (by omega)).trans r12), e12⟩, ⟨_, sup_eq⟩, ⟨_, ((sup_ne (by omega)).trans r14)⟩, ⟨_, ((sup_ne (by omega)).trans r15)⟩, ⟨_, ((sup_ne (by omega)).trans r16), e16⟩, ⟨_, ((sup_ne (by omega)).trans r17)⟩⟩
              have b1 := ed_le (rwV S v) (rwV S u) (sVn S v) (sVn S u) (i + 1) j
              have b2 := ed_le (rwV S v) (rwV S u) (sVn S v) (sVn S u) i (j + 1)
              have b3 := ed_le (rwV S v) (rwV S u) (sVn S v) (sVn S u) (i + 1) (j + 1)
              have b4 := ed_le (rwV S v) (rwV S u) (sVn S v) (sVn S u) i j
              have J204 : ∀ (x : Nat), (x = ed (rwV S v) (rwV S u) (sVn S v) (sVn S u) i j) → G X E 6 (AD σ) (QF X E σ (fun o s => o = some (.int (nI (ed (rwV S v) (rwV S u) (sVn S v) (sVn S u) 0 0))) ∧ ∃ g, s = sup σ (b + 13) (cI E 1681 g) ∧ ∀ i, i ≤ sVn S v → ∀ j, j ≤ sVn S u → g (41 * i + j) = nI (ed (rwV S v) (rwV S u) (sVn S v) (sVn S u) i j)) rm_X6_findFew) 0 0 204 [some (.ref b), some (.int (nI v)), some (.int (nI u)), some (.int (nI i)), some (.int (nI j)), some (.int (nI x))] [] (sup σ (b + 13) (cI E 1681 g)) := by
                intro x hx
                refine g_aload_n h 0 dX6_findFew_204 rfl rfl ?_
                refine g_get h 14 fa_X6_46 dX6_findFew_205 ((sup_ne (by omega)).trans r0) rfl ?_
                refine g_bipush h (nI 41) dX6_findFew_208 (by decide) ?_
                refine g_iload_n h 3 dX6_findFew_210 rfl rfl ?_
                refine g_imulN h dX6_findFew_211 ?_
                refine g_iload h dX6_findFew_212 rfl ?_
                refine g_iaddN h dX6_findFew_214 ?_
                refine g_iload h dX6_findFew_215 rfl ?_
                refine g_iast h dX6_findFew_217 sup_eq (by omega) (by omega) ?_
                refine g_sto sup_sup ?_
                refine g_iinc (vs' := [_, _, _, _, _, _]) h (nI j + -1) dX6_findFew_218 rfl rfl (Nat.le_of_ble_eq_true rfl) rfl rfl ?_
                refine g_goto h 19 dX6_findFew_221 (by decide) ?_
                refine g_few (vs' := [some (.ref b), some (.int (nI v)), some (.int (nI u)), some (.int (nI i)), some (.int (nI j + -1)), none]) ⟨Or.inr rfl, Or.inr rfl, Or.inr rfl, Or.inr rfl, Or.inr rfl, Or.inl rfl, trivial⟩ ?_
                refine ih2 j _ _ (by omega) (by rcases Nat.eq_zero_or_pos j with e | e; (· subst e; exact Or.inl ⟨rfl, by decide⟩); (· exact Or.inr ⟨j - 1, by omega, nI_dec e⟩)) (fun a c q => ?_) (by omega)
                by_cases q1 : a = i ∧ c = j
                · obtain ⟨rfl, rfl⟩ := q1
                  rw [upd_eq9, hx]
                · rw [upd_ne9 (by omega)]
                  exact hg2 a c (by omega)
              have J153 : ∀ (x : Nat), (x = fw2 (sVn S v) (sVn S u) i j (ed (rwV S v) (rwV S u) (sVn S v) (sVn S u) (i + 1) j) (ed (rwV S v) (rwV S u) (sVn S v) (sVn S u) i (j + 1))) → G X E 6 (AD σ) (QF X E σ (fun o s => o = some (.int (nI (ed (rwV S v) (rwV S u) (sVn S v) (sVn S u) 0 0))) ∧ ∃ g, s = sup σ (b + 13) (cI E 1681 g) ∧ ∀ i, i ≤ sVn S v → ∀ j, j ≤ sVn S u → g (41 * i + j) = nI (ed (rwV S v) (rwV S u) (sVn S v) (sVn S u) i j)) rm_X6_findFew) 0 0 153 [some (.ref b), some (.int (nI v)), some (.int (nI u)), some (.int (nI i)), some (.int (nI j)), some (.int (nI x))] [] (sup σ (b + 13) (cI E 1681 g)) := by
                intro x hx
                have hxb := fw2_le (n := sVn S v) (m := sVn S u) (i := i) (j := j) (a := ed (rwV S v) (rwV S u) (sVn S v) (sVn S u) (i + 1) j) (c := ed (rwV S v) (rwV S u) (sVn S v) (sVn S u) i (j + 1)) (by omega) (by omega)
                refine g_aload_n h 0 dX6_findFew_153 rfl rfl ?_
                refine g_iload_n h 1 dX6_findFew_154 rfl rfl ?_
                refine g_iload_n h 3 dX6_findFew_155 rfl rfl ?_
                refine g_iload_n h 2 dX6_findFew_156 rfl rfl ?_
                refine g_iload h dX6_findFew_157 rfl ?_
                refine g_callV h [] (c_X6_isAlike (xL X) E _ hI hM2 hv hu (i := i) (j := j) (by omega) (by omega)) cf_X6_73 cv_X6_isAlike dX6_findFew_159 rfl ((sup_ne (by omega)).trans r0) rfl rfl (Nat.le_of_ble_eq_true rfl) ⟨(Nat.le_of_ble_eq_true rfl), (Nat.le_of_ble_eq_true rfl)⟩ ⟨(Nat.le_of_ble_eq_true rfl), (Nat.le_of_ble_eq_true rfl)⟩ ?_
                refine kk_det ?_
                refine g_if_eqB h 204 dX6_findFew_162 (by decide) (fun c162_3 => ?_) (fun c162_3 => ?_)
                · skip
                  exact J204 x (hx.trans (edC (by omega) (by omega) (by omega) c162_3))
                · skip
                  refine g_aload_n h 0 dX6_findFew_165 rfl rfl ?_
                  refine g_get h 14 fa_X6_46 dX6_findFew_166 ((sup_ne (by omega)).trans r0) rfl ?_
                  refine g_bipush h (nI 41) dX6_findFew_169 (by decide) ?_
                  refine g_iload_n h 3 dX6_findFew_171 rfl rfl ?_
                  refine g_iconst h (nI 1) dX6_findFew_172 (by decide) ?_
                  refine g_iaddN h dX6_findFew_173 ?_
                  refine g_imulN h dX6_findFew_174 ?_
                  refine g_iload h dX6_findFew_175 rfl ?_
                  refine g_iaddN h dX6_findFew_177 ?_
                  refine g_iconst h (nI 1) dX6_findFew_178 (by decide) ?_
                  refine g_iaddN h dX6_findFew_179 ?_
                  refine g_iald h dX6_findFew_180 sup_eq (by omega) (by omega) ?_
                  refine g_top (y := nI (ed (rwV S v) (rwV S u) (sVn S v) (sVn S u) (i + 1) (j + 1))) (hg2 (i + 1) (j + 1) (by omega)) ?_
                  refine g_iload h dX6_findFew_181 rfl ?_
                  refine g_icmp_geN h 204 dX6_findFew_183 (by decide) (by omega) (by omega) (fun c183_4 => ?_) (fun c183_4 => ?_)
                  · skip
                    exact J204 x (hx.trans (edB c162_3.1 c162_3.2.1 c162_3.2.2 (by rw [← hx]; omega)))
                  · skip
                    refine g_aload_n h 0 dX6_findFew_186 rfl rfl ?_
                    refine g_get h 14 fa_X6_46 dX6_findFew_187 ((sup_ne (by omega)).trans r0) rfl ?_
                    refine g_bipush h (nI 41) dX6_findFew_190 (by decide) ?_
                    refine g_iload_n h 3 dX6_findFew_192 rfl rfl ?_
                    refine g_iconst h (nI 1) dX6_findFew_193 (by decide) ?_
                    refine g_iaddN h dX6_findFew_194 ?_
                    refine g_imulN h dX6_findFew_195 ?_
                    refine g_iload h dX6_findFew_196 rfl ?_
                    refine g_iaddN h dX6_findFew_198 ?_
                    refine g_iconst h (nI 1) dX6_findFew_199 (by decide) ?_
                    refine g_iaddN h dX6_findFew_200 ?_
                    refine g_iald h dX6_findFew_201 sup_eq (by omega) (by omega) ?_
                    refine g_top (y := nI (ed (rwV S v) (rwV S u) (sVn S v) (sVn S u) (i + 1) (j + 1))) (hg2 (i + 1) (j + 1) (by omega)) ?_
                    refine g_istore (vs' := [_, _, _, _, _, _]) h dX6_findFew_202 (Nat.le_of_ble_eq_true rfl) rfl rfl ?_
                    exact J204 (ed (rwV S v) (rwV S u) (sVn S v) (sVn S u) (i + 1) (j + 1)) ((ed_eq c162_3.1 c162_3.2.1 c162_3.2.2).symm)
              have J103 : ∀ (x : Nat), (x = fw1 (sVn S v) (sVn S u) i j (ed (rwV S v) (rwV S u) (sVn S v) (sVn S u) (i + 1) j)) → G X E 6 (AD σ) (QF X E σ (fun o s => o = some (.int (nI (ed (rwV S v) (rwV S u) (sVn S v) (sVn S u) 0 0))) ∧ ∃ g, s = sup σ (b + 13) (cI E 1681 g) ∧ ∀ i, i ≤ sVn S v → ∀ j, j ≤ sVn S u → g (41 * i + j) = nI (ed (rwV S v) (rwV S u) (sVn S v) (sVn S u) i j)) rm_X6_findFew) 0 0 103 [some (.ref b), some (.int (nI v)), some (.int (nI u)), some (.int (nI i)), some (.int (nI j)), some (.int (nI x))] [] (sup σ (b + 13) (cI E 1681 g)) := by
                intro x hx
                have hxb := fw1_le (n := sVn S v) (m := sVn S u) (i := i) (j := j) (a := ed (rwV S v) (rwV S u) (sVn S v) (sVn S u) (i + 1) j) (by omega)
                refine g_iload h dX6_findFew_103 rfl ?_
                refine g_aload_n h 0 dX6_findFew_105 rfl rfl ?_
                refine g_get h 1 fa_X6_13 dX6_findFew_106 ((sup_ne (by omega)).trans r0) rfl ?_
                refine g_iload_n h 2 dX6_findFew_109 rfl rfl ?_
                refine g_iald h dX6_findFew_110 ((sup_ne (by omega)).trans r2) (by omega) (by omega) ?_
                refine g_top (y := nI (sVn S u)) (e2 u (by omega)) ?_
                refine g_icmp_geN h 153 dX6_findFew_111 (by decide) (by omega) (by omega) (fun c111_5 => ?_) (fun c111_5 => ?_)
                · skip
                  exact J153 x (hx.trans (show _ = fw2 _ _ _ _ _ _ from by unfold fw2; rw [if_neg (by omega)]))
                · skip
                  refine g_aload_n h 0 dX6_findFew_114 rfl rfl ?_
                  refine g_get h 14 fa_X6_46 dX6_findFew_115 ((sup_ne (by omega)).trans r0) rfl ?_
                  refine g_bipush h (nI 41) dX6_findFew_118 (by decide) ?_
                  refine g_iload_n h 3 dX6_findFew_120 rfl rfl ?_
                  refine g_imulN h dX6_findFew_121 ?_
                  refine g_iload h dX6_findFew_122 rfl ?_
                  refine g_iaddN h dX6_findFew_124 ?_
                  refine g_iconst h (nI 1) dX6_findFew_125 (by decide) ?_
                  refine g_iaddN h dX6_findFew_126 ?_
                  refine g_iald h dX6_findFew_127 sup_eq (by omega) (by omega) ?_
                  refine g_top (y := nI (ed (rwV S v) (rwV S u) (sVn S v) (sVn S u) i (j + 1))) (hg2 i (j + 1) (by omega)) ?_
                  refine g_iconst h (nI 1) dX6_findFew_128 (by decide) ?_
                  refine g_iaddN h dX6_findFew_129 ?_
                  refine g_iload h dX6_findFew_130 rfl ?_
                  refine g_icmp_geN h 153 dX6_findFew_132 (by decide) (by omega) (by omega) (fun c132_6 => ?_) (fun c132_6 => ?_)
                  · skip
                    exact J153 x (hx.trans (show _ = fw2 _ _ _ _ _ _ from by unfold fw2; rw [if_neg (by omega)]))
                  · skip
                    refine g_aload_n h 0 dX6_findFew_135 rfl rfl ?_
                    refine g_get h 14 fa_X6_46 dX6_findFew_136 ((sup_ne (by omega)).trans r0) rfl ?_
                    refine g_bipush h (nI 41) dX6_findFew_139 (by decide) ?_
                    refine g_iload_n h 3 dX6_findFew_141 rfl rfl ?_
                    refine g_imulN h dX6_findFew_142 ?_
                    refine g_iload h dX6_findFew_143 rfl ?_
                    refine g_iaddN h dX6_findFew_145 ?_
                    refine g_iconst h (nI 1) dX6_findFew_146 (by decide) ?_
                    refine g_iaddN h dX6_findFew_147 ?_
                    refine g_iald h dX6_findFew_148 sup_eq (by omega) (by omega) ?_
                    refine g_top (y := nI (ed (rwV S v) (rwV S u) (sVn S v) (sVn S u) i (j + 1))) (hg2 i (j + 1) (by omega)) ?_
                    refine g_iconst h (nI 1) dX6_findFew_149 (by decide) ?_
                    refine g_iaddN h dX6_findFew_150 ?_
                    refine g_istore (vs' := [_, _, _, _, _, _]) h dX6_findFew_151 (Nat.le_of_ble_eq_true rfl) rfl rfl ?_
                    exact J153 ((ed (rwV S v) (rwV S u) (sVn S v) (sVn S u) i (j + 1)) + 1) (show _ = fw2 _ _ _ _ _ _ from by unfold fw2; rw [if_pos ⟨by omega, by omega⟩])
              have J54 : ∀ (x : Nat), (x = fw0 (sVn S v) (sVn S u) i j) → G X E 6 (AD σ) (QF X E σ (fun o s => o = some (.int (nI (ed (rwV S v) (rwV S u) (sVn S v) (sVn S u) 0 0))) ∧ ∃ g, s = sup σ (b + 13) (cI E 1681 g) ∧ ∀ i, i ≤ sVn S v → ∀ j, j ≤ sVn S u → g (41 * i + j) = nI (ed (rwV S v) (rwV S u) (sVn S v) (sVn S u) i j)) rm_X6_findFew) 0 0 54 [some (.ref b), some (.int (nI v)), some (.int (nI u)), some (.int (nI i)), some (.int (nI j)), some (.int (nI x))] [] (sup σ (b + 13) (cI E 1681 g)) := by
                intro x hx
                have hxb : x ≤ 1000 := by rw [hx]; unfold fw0; split <;> omega
                refine g_iload_n h 3 dX6_findFew_54 rfl rfl ?_
                refine g_aload_n h 0 dX6_findFew_55 rfl rfl ?_
                refine g_get h 1 fa_X6_13 dX6_findFew_56 ((sup_ne (by omega)).trans r0) rfl ?_
                refine g_iload_n h 1 dX6_findFew_59 rfl rfl ?_
                refine g_iald h dX6_findFew_60 ((sup_ne (by omega)).trans r2) (by omega) (by omega) ?_
                refine g_top (y := nI (sVn S v)) (e2 v (by omega)) ?_
                refine g_icmp_geN h 103 dX6_findFew_61 (by decide) (by omega) (by omega) (fun c61_7 => ?_) (fun c61_7 => ?_)
                · skip
                  exact J103 x (hx.trans (show _ = fw1 _ _ _ _ _ from by unfold fw1; rw [if_neg (by omega)]))
                · skip
                  have hx2 : x = 1000 := hx.trans (by unfold fw0; rw [if_neg (by omega)])
                  refine g_aload_n h 0 dX6_findFew_64 rfl rfl ?_
                  refine g_get h 14 fa_X6_46 dX6_findFew_65 ((sup_ne (by omega)).trans r0) rfl ?_
                  refine g_bipush h (nI 41) dX6_findFew_68 (by decide) ?_
                  refine g_iload_n h 3 dX6_findFew_70 rfl rfl ?_
                  refine g_iconst h (nI 1) dX6_findFew_71 (by decide) ?_
                  refine g_iaddN h dX6_findFew_72 ?_
                  refine g_imulN h dX6_findFew_73 ?_
                  refine g_iload h dX6_findFew_74 rfl ?_
                  refine g_iaddN h dX6_findFew_76 ?_
                  refine g_iald h dX6_findFew_77 sup_eq (by omega) (by omega) ?_
                  refine g_top (y := nI (ed (rwV S v) (rwV S u) (sVn S v) (sVn S u) (i + 1) j)) (hg2 (i + 1) j (by omega)) ?_
                  refine g_iconst h (nI 1) dX6_findFew_78 (by decide) ?_
                  refine g_iaddN h dX6_findFew_79 ?_
                  refine g_iload h dX6_findFew_80 rfl ?_
                  refine g_icmp_geN h 103 dX6_findFew_82 (by decide) (by omega) (by omega) (fun c82_8 => absurd c82_8 (by omega)) (fun c82_8 => ?_)
                  refine g_aload_n h 0 dX6_findFew_85 rfl rfl ?_
                  refine g_get h 14 fa_X6_46 dX6_findFew_86 ((sup_ne (by omega)).trans r0) rfl ?_
                  refine g_bipush h (nI 41) dX6_findFew_89 (by decide) ?_
                  refine g_iload_n h 3 dX6_findFew_91 rfl rfl ?_
                  refine g_iconst h (nI 1) dX6_findFew_92 (by decide) ?_
                  refine g_iaddN h dX6_findFew_93 ?_
                  refine g_imulN h dX6_findFew_94 ?_
                  refine g_iload h dX6_findFew_95 rfl ?_
                  refine g_iaddN h dX6_findFew_97 ?_
                  refine g_iald h dX6_findFew_98 sup_eq (by omega) (by omega) ?_
                  refine g_top (y := nI (ed (rwV S v) (rwV S u) (sVn S v) (sVn S u) (i + 1) j)) (hg2 (i + 1) j (by omega)) ?_
                  refine g_iconst h (nI 1) dX6_findFew_99 (by decide) ?_
                  refine g_iaddN h dX6_findFew_100 ?_
                  refine g_istore (vs' := [_, _, _, _, _, _]) h dX6_findFew_101 (Nat.le_of_ble_eq_true rfl) rfl rfl ?_
                  exact J103 ((ed (rwV S v) (rwV S u) (sVn S v) (sVn S u) (i + 1) j) + 1) (show _ = fw1 _ _ _ _ _ from by unfold fw1; rw [if_pos (by omega)])
              refine g_iload_n h 3 dX6_findFew_24 rfl rfl ?_
              refine g_aload_n h 0 dX6_findFew_25 rfl rfl ?_
              refine g_get h 1 fa_X6_13 dX6_findFew_26 ((sup_ne (by omega)).trans r0) rfl ?_
              refine g_iload_n h 1 dX6_findFew_29 rfl rfl ?_
              refine g_iald h dX6_findFew_30 ((sup_ne (by omega)).trans r2) (by omega) (by omega) ?_
              refine g_top (y := nI (sVn S v)) (e2 v (by omega)) ?_
              refine g_icmp_neN h 49 dX6_findFew_31 (by decide) (by omega) (by omega) (fun c31_9 => ?_) (fun c31_9 => ?_)
              · skip
                refine g_sipush h (nI 1000) dX6_findFew_49 (by decide) ?_
                refine g_istore (vs' := [_, _, _, _, _, _]) h dX6_findFew_52 (Nat.le_of_ble_eq_true rfl) rfl rfl ?_
                exact J54 1000 (by unfold fw0; rw [if_neg (by omega)])
              · skip
                refine g_iload h dX6_findFew_34 rfl ?_
                refine g_aload_n h 0 dX6_findFew_36 rfl rfl ?_
                refine g_get h 1 fa_X6_13 dX6_findFew_37 ((sup_ne (by omega)).trans r0) rfl ?_
                refine g_iload_n h 2 dX6_findFew_40 rfl rfl ?_
                refine g_iald h dX6_findFew_41 ((sup_ne (by omega)).trans r2) (by omega) (by omega) ?_
                refine g_top (y := nI (sVn S u)) (e2 u (by omega)) ?_
                refine g_icmp_neN h 49 dX6_findFew_42 (by decide) (by omega) (by omega) (fun c42_10 => ?_) (fun c42_10 => ?_)
                · skip
                  refine g_sipush h (nI 1000) dX6_findFew_49 (by decide) ?_
                  refine g_istore (vs' := [_, _, _, _, _, _]) h dX6_findFew_52 (Nat.le_of_ble_eq_true rfl) rfl rfl ?_
                  exact J54 1000 (by unfold fw0; rw [if_neg (by omega)])
                · skip
                  refine g_iconst h (nI 0) dX6_findFew_45 (by decide) ?_
                  refine g_goto h 52 dX6_findFew_46 (by decide) ?_
                  refine g_istore (vs' := [_, _, _, _, _, _]) h dX6_findFew_52 (Nat.le_of_ble_eq_true rfl) rfl rfl ?_
                  exact J54 0 (by unfold fw0; rw [if_pos ⟨by omega, by omega⟩])
        exact L19 (sVn S u + 2) (sVn S u + 1) (nI (sVn S u)) g (by omega) (Or.inr ⟨sVn S u, rfl, rfl⟩) (fun a c q => hg1 a (by omega) (by omega) c (by omega)) (by omega)
  exact L7 (sVn S v + 2) (sVn S v + 1) (nI (sVn S v)) f13 (by omega) (Or.inr ⟨sVn S v, rfl, rfl⟩) (fun a h1 h2 => by omega) (by omega)
abbrev rm_X6_differ : Room := { frames := 2, cells := 0, slots := 0, locals := 49 }
set_option maxRecDepth 100000 in
set_option maxHeartbeats 4000000 in
theorem D_differ (lau : Launch) (E : EnvD) (σ : Sto) {b : Nat} {S : PSt} (hI : Inv S) (hM : RepM E b S σ) (a1 a2 : Int32) : CC lau yX6_differ cX6_differ 3 (some .int) rm_X6_differ E [.ref b, .int a1, .int a2] σ (fun o s => o = some (.int (opDiffer S a1 a2).1) ∧ RepM E b (opDiffer S a1 a2).2 s) := by
  refine cc_of (vs := [_, _, _]) (by decide) (Nat.le_of_ble_eq_true rfl) rfl ?_
  intro X h hr hn
  obtain ⟨r0, ⟨f1, r1, e1⟩, ⟨f2, r2, e2⟩, ⟨f3, r3, e3⟩, ⟨f4, r4, e4⟩, ⟨f5, r5, e5⟩, ⟨f6, r6, e6⟩, ⟨f7, r7, e7⟩, ⟨f8, r8, e8⟩, ⟨f9, r9, e9⟩, ⟨f10, r10, e10⟩, ⟨f11, r11, e11⟩, ⟨f12, r12, e12⟩, ⟨f13, r13⟩, ⟨f14, r14⟩, ⟨f15, r15⟩, ⟨f16, r16, e16⟩, ⟨f17, r17⟩⟩ := id hM
  by_cases na1 : ¬ inR a1 8
  · skip
    refine g_iload_n h 1 dX6_differ_0 rfl rfl ?_
    refine g_callS h [] (c_X6_isVersion (xL X) E _ a1) cf_X6_66 cs_X6_isVersion dX6_differ_1 rfl rfl (Nat.le_of_ble_eq_true rfl) ⟨(Nat.le_of_ble_eq_true rfl), (Nat.le_of_ble_eq_true rfl)⟩ ⟨(Nat.le_of_ble_eq_true rfl), (Nat.le_of_ble_eq_true rfl)⟩ ?_
    refine kk_det ?_
    refine g_if_eqB h 23 dX6_differ_4 (by decide) (fun c4_1 => ?_) (fun c4_1 => absurd c4_1 na1)
    refine g_bipush h (-2) dX6_differ_23 (by decide) ?_
    exact g_iret h hr dX6_differ_25 ((fun e => ⟨by rw [e], by rw [e]; exact hM⟩) (show opDiffer S a1 a2 = (-2, S) from by unfold opDiffer; rw [cif_f (fun q => na1 q.1)])) (Nat.le_of_ble_eq_true rfl) (Nat.le_of_ble_eq_true rfl)
  obtain ⟨v, hv9, rfl⟩ := Classical.not_not.mp na1
  have ev9 : cl (nI v) = v := cl_nI (by omega)
  have hn40 := (hI.1 v hv9).1
  by_cases na2 : ¬ inR a2 8
  · skip
    refine g_iload_n h 1 dX6_differ_0 rfl rfl ?_
    refine g_callS h [] (c_X6_isVersion (xL X) E _ (nI v)) cf_X6_66 cs_X6_isVersion dX6_differ_1 rfl rfl (Nat.le_of_ble_eq_true rfl) ⟨(Nat.le_of_ble_eq_true rfl), (Nat.le_of_ble_eq_true rfl)⟩ ⟨(Nat.le_of_ble_eq_true rfl), (Nat.le_of_ble_eq_true rfl)⟩ ?_
    refine kk_det ?_
    refine g_if_eqB h 23 dX6_differ_4 (by decide) (fun c4_2 => absurd ⟨v, hv9, rfl⟩ c4_2) (fun c4_2 => ?_)
    refine g_iload_n h 2 dX6_differ_7 rfl rfl ?_
    refine g_callS h [] (c_X6_isVersion (xL X) E _ a2) cf_X6_66 cs_X6_isVersion dX6_differ_8 rfl rfl (Nat.le_of_ble_eq_true rfl) ⟨(Nat.le_of_ble_eq_true rfl), (Nat.le_of_ble_eq_true rfl)⟩ ⟨(Nat.le_of_ble_eq_true rfl), (Nat.le_of_ble_eq_true rfl)⟩ ?_
    refine kk_det ?_
    refine g_if_eqB h 23 dX6_differ_11 (by decide) (fun c11_3 => ?_) (fun c11_3 => absurd c11_3 na2)
    refine g_bipush h (-2) dX6_differ_23 (by decide) ?_
    exact g_iret h hr dX6_differ_25 ((fun e => ⟨by rw [e], by rw [e]; exact hM⟩) (show opDiffer S (nI v) a2 = (-2, S) from by unfold opDiffer; rw [cif_f (fun q => na2 q.2)])) (Nat.le_of_ble_eq_true rfl) (Nat.le_of_ble_eq_true rfl)
  obtain ⟨u, hu9, rfl⟩ := Classical.not_not.mp na2
  have eu9 : cl (nI u) = u := cl_nI (by omega)
  have hu40 := (hI.1 u hu9).1
  refine g_iload_n h 1 dX6_differ_0 rfl rfl ?_
  refine g_callS h [] (c_X6_isVersion (xL X) E _ (nI v)) cf_X6_66 cs_X6_isVersion dX6_differ_1 rfl rfl (Nat.le_of_ble_eq_true rfl) ⟨(Nat.le_of_ble_eq_true rfl), (Nat.le_of_ble_eq_true rfl)⟩ ⟨(Nat.le_of_ble_eq_true rfl), (Nat.le_of_ble_eq_true rfl)⟩ ?_
  refine kk_det ?_
  refine g_if_eqB h 23 dX6_differ_4 (by decide) (fun c4_4 => absurd ⟨v, hv9, rfl⟩ c4_4) (fun c4_4 => ?_)
  refine g_iload_n h 2 dX6_differ_7 rfl rfl ?_
  refine g_callS h [] (c_X6_isVersion (xL X) E _ (nI u)) cf_X6_66 cs_X6_isVersion dX6_differ_8 rfl rfl (Nat.le_of_ble_eq_true rfl) ⟨(Nat.le_of_ble_eq_true rfl), (Nat.le_of_ble_eq_true rfl)⟩ ⟨(Nat.le_of_ble_eq_true rfl), (Nat.le_of_ble_eq_true rfl)⟩ ?_
  refine kk_det ?_
  refine g_if_eqB h 23 dX6_differ_11 (by decide) (fun c11_5 => absurd ⟨u, hu9, rfl⟩ c11_5) (fun c11_5 => ?_)
  refine g_aload_n h 0 dX6_differ_14 rfl rfl ?_
  refine g_iload_n h 1 dX6_differ_15 rfl rfl ?_
  refine g_iload_n h 2 dX6_differ_16 rfl rfl ?_
  refine g_callV h [] (c_X6_findFew (xL X) E _ hI hM hv9 hu9) cf_X6_77 cv_X6_findFew dX6_differ_17 rfl r0 rfl rfl (Nat.le_of_ble_eq_true rfl) ⟨(Nat.le_of_ble_eq_true rfl), (Nat.le_of_ble_eq_true rfl)⟩ ⟨(Nat.le_of_ble_eq_true rfl), (Nat.le_of_ble_eq_true rfl)⟩ ?_
  rintro _ _ ⟨rfl, g, rfl, hg⟩
  refine g_goto h 25 dX6_differ_20 (by decide) ?_
  exact g_iret h hr dX6_differ_25 ((fun e => ⟨by rw [e], by rw [e]; exact ⟨((sup_ne (by omega)).trans r0), ⟨_, ((sup_ne (by omega)).trans r1), e1⟩, ⟨_, ((sup_ne (by omega)).trans r2), e2⟩, ⟨_, ((sup_ne (by omega)).trans r3), e3⟩, ⟨_, ((sup_ne (by omega)).trans r4), e4⟩, ⟨_, ((sup_ne (by omega)).trans r5), e5⟩, ⟨_, ((sup_ne (by omega)).trans r6), e6⟩, ⟨_, ((sup_ne (by omega)).trans r7), e7⟩, ⟨_, ((sup_ne (by omega)).trans r8), e8⟩, ⟨_, ((sup_ne (by omega)).trans r9), e9⟩, ⟨_, ((sup_ne (by omega)).trans r10), e10⟩, ⟨_, ((sup_ne (by omega)).trans r11), e11⟩, ⟨_, ((sup_ne (by omega)).trans r12), e12⟩, ⟨_, sup_eq⟩, ⟨_, ((sup_ne (by omega)).trans r14)⟩, ⟨_, ((sup_ne (by omega)).trans r15)⟩, ⟨_, ((sup_ne (by omega)).trans r16), e16⟩, ⟨_, ((sup_ne (by omega)).trans r17)⟩⟩⟩) (show opDiffer S (nI v) (nI u) = (nI (ed (rwV S v) (rwV S u) (sVn S v) (sVn S u) 0 0), S) from by unfold opDiffer; rw [cif_t ⟨⟨v, hv9, rfl⟩, ⟨u, hu9, rfl⟩⟩, ev9, eu9])) (Nat.le_of_ble_eq_true rfl) (Nat.le_of_ble_eq_true rfl)
abbrev rm_X6_step : Room := { frames := 2, cells := 0, slots := 0, locals := 49 }
set_option maxRecDepth 100000 in
set_option maxHeartbeats 4000000 in
theorem D_step (lau : Launch) (E : EnvD) (σ : Sto) {b : Nat} {S : PSt} (hI : Inv S) (hM : RepM E b S σ) (a1 a2 a3 : Int32) : CC lau yX6_step cX6_step 9 (some .int) rm_X6_step E [.ref b, .int a1, .int a2, .int a3] σ (fun o s => o = some (.int (opStep S a1 a2 a3).1) ∧ RepM E b (opStep S a1 a2 a3).2 s) := by
  refine cc_of (vs := [_, _, _, _, _, _, _, _, _]) (by decide) (Nat.le_of_ble_eq_true rfl) rfl ?_
  intro X h hr hn
  obtain ⟨r0, ⟨f1, r1, e1⟩, ⟨f2, r2, e2⟩, ⟨f3, r3, e3⟩, ⟨f4, r4, e4⟩, ⟨f5, r5, e5⟩, ⟨f6, r6, e6⟩, ⟨f7, r7, e7⟩, ⟨f8, r8, e8⟩, ⟨f9, r9, e9⟩, ⟨f10, r10, e10⟩, ⟨f11, r11, e11⟩, ⟨f12, r12, e12⟩, ⟨f13, r13⟩, ⟨f14, r14⟩, ⟨f15, r15⟩, ⟨f16, r16, e16⟩, ⟨f17, r17⟩⟩ := id hM
  by_cases na1 : ¬ inR a1 8
  · skip
    refine g_iload_n h 1 dX6_step_0 rfl rfl ?_
    refine g_callS h [] (c_X6_isVersion (xL X) E _ a1) cf_X6_66 cs_X6_isVersion dX6_step_1 rfl rfl (Nat.le_of_ble_eq_true rfl) ⟨(Nat.le_of_ble_eq_true rfl), (Nat.le_of_ble_eq_true rfl)⟩ ⟨(Nat.le_of_ble_eq_true rfl), (Nat.le_of_ble_eq_true rfl)⟩ ?_
    refine kk_det ?_
    refine g_if_eqB h 14 dX6_step_4 (by decide) (fun c4_1 => ?_) (fun c4_1 => absurd c4_1 na1)
    refine g_bipush h (-2) dX6_step_14 (by decide) ?_
    exact g_iret h hr dX6_step_16 ((fun e => ⟨by rw [e], by rw [e]; exact hM⟩) (show opStep S a1 a2 a3 = (-2, S) from by unfold opStep; rw [cif_f (fun q => na1 q.1)])) (Nat.le_of_ble_eq_true rfl) (Nat.le_of_ble_eq_true rfl)
  obtain ⟨v, hv9, rfl⟩ := Classical.not_not.mp na1
  have ev9 : cl (nI v) = v := cl_nI (by omega)
  have hn40 := (hI.1 v hv9).1
  by_cases na2 : ¬ inR a2 8
  · skip
    refine g_iload_n h 1 dX6_step_0 rfl rfl ?_
    refine g_callS h [] (c_X6_isVersion (xL X) E _ (nI v)) cf_X6_66 cs_X6_isVersion dX6_step_1 rfl rfl (Nat.le_of_ble_eq_true rfl) ⟨(Nat.le_of_ble_eq_true rfl), (Nat.le_of_ble_eq_true rfl)⟩ ⟨(Nat.le_of_ble_eq_true rfl), (Nat.le_of_ble_eq_true rfl)⟩ ?_
    refine kk_det ?_
    refine g_if_eqB h 14 dX6_step_4 (by decide) (fun c4_2 => absurd ⟨v, hv9, rfl⟩ c4_2) (fun c4_2 => ?_)
    refine g_iload_n h 2 dX6_step_7 rfl rfl ?_
    refine g_callS h [] (c_X6_isVersion (xL X) E _ a2) cf_X6_66 cs_X6_isVersion dX6_step_8 rfl rfl (Nat.le_of_ble_eq_true rfl) ⟨(Nat.le_of_ble_eq_true rfl), (Nat.le_of_ble_eq_true rfl)⟩ ⟨(Nat.le_of_ble_eq_true rfl), (Nat.le_of_ble_eq_true rfl)⟩ ?_
    refine kk_det ?_
    refine g_if_neB h 17 dX6_step_11 (by decide) (fun c11_3 => absurd c11_3 na2) (fun c11_3 => ?_)
    refine g_bipush h (-2) dX6_step_14 (by decide) ?_
    exact g_iret h hr dX6_step_16 ((fun e => ⟨by rw [e], by rw [e]; exact hM⟩) (show opStep S (nI v) a2 a3 = (-2, S) from by unfold opStep; rw [cif_f (fun q => na2 q.2)])) (Nat.le_of_ble_eq_true rfl) (Nat.le_of_ble_eq_true rfl)
  obtain ⟨u, hu9, rfl⟩ := Classical.not_not.mp na2
  have eu9 : cl (nI u) = u := cl_nI (by omega)
  have hu40 := (hI.1 u hu9).1
  have e0 : opStep S (nI v) (nI u) a3 = (stpV (rwV S v) (rwV S u) (sVn S v) (sVn S u) a3, S) := by unfold opStep; rw [cif_t ⟨⟨v, hv9, rfl⟩, ⟨u, hu9, rfl⟩⟩, ev9, eu9]
  refine g_iload_n h 1 dX6_step_0 rfl rfl ?_
  refine g_callS h [] (c_X6_isVersion (xL X) E _ (nI v)) cf_X6_66 cs_X6_isVersion dX6_step_1 rfl rfl (Nat.le_of_ble_eq_true rfl) ⟨(Nat.le_of_ble_eq_true rfl), (Nat.le_of_ble_eq_true rfl)⟩ ⟨(Nat.le_of_ble_eq_true rfl), (Nat.le_of_ble_eq_true rfl)⟩ ?_
  refine kk_det ?_
  refine g_if_eqB h 14 dX6_step_4 (by decide) (fun c4_4 => absurd ⟨v, hv9, rfl⟩ c4_4) (fun c4_4 => ?_)
  refine g_iload_n h 2 dX6_step_7 rfl rfl ?_
  refine g_callS h [] (c_X6_isVersion (xL X) E _ (nI u)) cf_X6_66 cs_X6_isVersion dX6_step_8 rfl rfl (Nat.le_of_ble_eq_true rfl) ⟨(Nat.le_of_ble_eq_true rfl), (Nat.le_of_ble_eq_true rfl)⟩ ⟨(Nat.le_of_ble_eq_true rfl), (Nat.le_of_ble_eq_true rfl)⟩ ?_
  refine kk_det ?_
  refine g_if_neB h 17 dX6_step_11 (by decide) (fun c11_5 => ?_) (fun c11_5 => absurd ⟨u, hu9, rfl⟩ c11_5)
  refine g_aload_n h 0 dX6_step_17 rfl rfl ?_
  refine g_iload_n h 1 dX6_step_18 rfl rfl ?_
  refine g_iload_n h 2 dX6_step_19 rfl rfl ?_
  refine g_callV h [] (c_X6_findFew (xL X) E _ hI hM hv9 hu9) cf_X6_77 cv_X6_findFew dX6_step_20 rfl r0 rfl rfl (Nat.le_of_ble_eq_true rfl) ⟨(Nat.le_of_ble_eq_true rfl), (Nat.le_of_ble_eq_true rfl)⟩ ⟨(Nat.le_of_ble_eq_true rfl), (Nat.le_of_ble_eq_true rfl)⟩ ?_
  rintro _ _ ⟨rfl, g, rfl, hg⟩
  refine g_istore (vs' := [_, _, _, _, _, _, _, _, _]) h dX6_step_23 (Nat.le_of_ble_eq_true rfl) rfl rfl ?_
  refine g_iconst h (nI 0) dX6_step_25 (by decide) ?_
  refine g_istore (vs' := [_, _, _, _, _, _, _, _, _]) h dX6_step_26 (Nat.le_of_ble_eq_true rfl) rfl rfl ?_
  refine g_iconst h (nI 0) dX6_step_28 (by decide) ?_
  refine g_istore (vs' := [_, _, _, _, _, _, _, _, _]) h dX6_step_29 (Nat.le_of_ble_eq_true rfl) rfl rfl ?_
  refine g_iconst h (nI 0) dX6_step_31 (by decide) ?_
  refine g_istore (vs' := [_, _, _, _, _, _, _, _, _]) h dX6_step_32 (Nat.le_of_ble_eq_true rfl) rfl rfl ?_
  refine g_few (vs' := [some (.ref b), some (.int (nI v)), some (.int (nI u)), some (.int a3), some (.int (nI (ed (rwV S v) (rwV S u) (sVn S v) (sVn S u) 0 0))), some (.int (nI 0)), some (.int (nI 0)), some (.int (nI 0)), none]) ⟨Or.inr rfl, Or.inr rfl, Or.inr rfl, Or.inr rfl, Or.inr rfl, Or.inr rfl, Or.inr rfl, Or.inr rfl, Or.inl rfl, trivial⟩ ?_
  have hM2 : RepM E b S (sup σ (b + 13) (cI E 1681 g)) := ⟨((sup_ne (by omega)).trans r0), ⟨_, ((sup_ne (by omega)).trans r1), e1⟩, ⟨_, ((sup_ne (by omega)).trans r2), e2⟩, ⟨_, ((sup_ne (by omega)).trans r3), e3⟩, ⟨_, ((sup_ne (by omega)).trans r4), e4⟩, ⟨_, ((sup_ne (by omega)).trans r5), e5⟩, ⟨_, ((sup_ne (by omega)).trans r6), e6⟩, ⟨_, ((sup_ne (by omega)).trans r7), e7⟩, ⟨_, ((sup_ne (by omega)).trans r8), e8⟩, ⟨_, ((sup_ne (by omega)).trans r9), e9⟩, ⟨_, ((sup_ne (by omega)).trans r10), e10⟩, ⟨_, ((sup_ne (by omega)).trans r11), e11⟩, ⟨_, ((sup_ne (by omega)).trans r12), e12⟩, ⟨_, sup_eq⟩, ⟨_, ((sup_ne (by omega)).trans r14)⟩, ⟨_, ((sup_ne (by omega)).trans r15)⟩, ⟨_, ((sup_ne (by omega)).trans r16), e16⟩, ⟨_, ((sup_ne (by omega)).trans r17)⟩⟩
  have L34 : ∀ (m0 : Nat) (i : Nat) (j : Nat) (k : Nat), (i ≤ sVn S v) → (j ≤ sVn S u) → (k + ((sVn S v - i) + (sVn S u - j)) ≤ sVn S v + sVn S u) → (∀ t, a3 = nI t → t < sVn S v + sVn S u → k ≤ t ∧ pth (rwV S v) (rwV S u) (sVn S v) (sVn S u) (sVn S v + sVn S u) t 0 0 = pth (rwV S v) (rwV S u) (sVn S v) (sVn S u) (sVn S v + sVn S u - k) (t - k) i j) → (sVn S v + sVn S u - k) < m0 → G X E 9 (AD σ) (QF X E σ (fun o s => o = some (.int (opStep S (nI v) (nI u) a3).1) ∧ RepM E b (opStep S (nI v) (nI u) a3).2 s) rm_X6_step) 0 0 34 [some (.ref b), some (.int (nI v)), some (.int (nI u)), some (.int a3), some (.int (nI (ed (rwV S v) (rwV S u) (sVn S v) (sVn S u) i j))), some (.int (nI i)), some (.int (nI j)), some (.int (nI k)), none] [] (sup σ (b + 13) (cI E 1681 g)) := by
    intro m0
    induction m0 with
    | zero => intro i j k _ _ _ _ hm0; exact absurd hm0 (Nat.not_lt_zero _)
    | succ m0 ih =>
      intro i j k hi hj hk hp hm0
      have b4 := ed_le (rwV S v) (rwV S u) (sVn S v) (sVn S u) i j
      refine g_iload h dX6_step_34 rfl ?_
      refine g_aload_n h 0 dX6_step_36 rfl rfl ?_
      refine g_get h 1 fa_X6_13 dX6_step_37 ((sup_ne (by omega)).trans r0) rfl ?_
      refine g_iload_n h 1 dX6_step_40 rfl rfl ?_
      refine g_iald h dX6_step_41 ((sup_ne (by omega)).trans r2) (by omega) (by omega) ?_
      refine g_top (y := nI (sVn S v)) (e2 v (by omega)) ?_
      refine g_icmp_ltN h 56 dX6_step_42 (by decide) (by omega) (by omega) (fun c42_6 => ?_) (fun c42_6 => ?_)
      · skip
        have hij : i < sVn S v ∨ j < sVn S u := by omega
        have b1 := ed_le (rwV S v) (rwV S u) (sVn S v) (sVn S u) (i + 1) j
        have b2 := ed_le (rwV S v) (rwV S u) (sVn S v) (sVn S u) i (j + 1)
        have b3 := ed_le (rwV S v) (rwV S u) (sVn S v) (sVn S u) (i + 1) (j + 1)
        have J135 : ∀ (q : Nat), (q = way (rwV S v) (rwV S u) (sVn S v) (sVn S u) i j) → G X E 9 (AD σ) (QF X E σ (fun o s => o = some (.int (opStep S (nI v) (nI u) a3).1) ∧ RepM E b (opStep S (nI v) (nI u) a3).2 s) rm_X6_step) 0 0 135 [some (.ref b), some (.int (nI v)), some (.int (nI u)), some (.int a3), some (.int (nI (ed (rwV S v) (rwV S u) (sVn S v) (sVn S u) i j))), some (.int (nI i)), some (.int (nI j)), some (.int (nI k)), some (.int (nI q))] [] (sup σ (b + 13) (cI E 1681 g)) := by
          intro q hq
          refine g_iload h dX6_step_135 rfl ?_
          refine g_iload_n h 3 dX6_step_137 rfl rfl ?_
          refine g_icmp_ne h 144 dX6_step_138 (by decide) (fun c138_7 => ?_) (fun c138_7 => ?_)
          · skip
            have hq2 : q ≤ 2 := by rw [hq]; exact way_le
            rcases (show q = 0 ∨ q = 1 ∨ q = 2 by omega) with rfl | rfl | rfl
            · skip
              obtain ⟨h1, h2, h3⟩ := way0 hq.symm
              refine g_iload h dX6_step_144 rfl ?_
              refine g_iload h dX6_step_146 rfl ?_
              refine g_iconst h (nI 2) dX6_step_148 (by decide) ?_
              refine g_icmp_neN h 156 dX6_step_149 (by decide) (by decide) (by decide) (fun c149_8 => ?_) (fun c149_8 => absurd c149_8 (by omega))
              refine g_iconst h (nI 1) dX6_step_156 (by decide) ?_
              refine g_iaddN h dX6_step_157 ?_
              refine g_istore (vs' := [_, _, _, _, _, _, _, _, _]) h dX6_step_158 (Nat.le_of_ble_eq_true rfl) rfl rfl ?_
              refine g_iload h dX6_step_160 rfl ?_
              refine g_iload h dX6_step_162 rfl ?_
              refine g_iconst h (nI 1) dX6_step_164 (by decide) ?_
              refine g_icmp_neN h 172 dX6_step_165 (by decide) (by decide) (by decide) (fun c165_9 => ?_) (fun c165_9 => absurd c165_9 (by omega))
              refine g_iconst h (nI 1) dX6_step_172 (by decide) ?_
              refine g_iaddN h dX6_step_173 ?_
              refine g_istore (vs' := [_, _, _, _, _, _, _, _, _]) h dX6_step_174 (Nat.le_of_ble_eq_true rfl) rfl rfl ?_
              refine g_iload h dX6_step_176 rfl ?_
              refine g_iload h dX6_step_178 rfl ?_
              refine g_if_neN h 187 dX6_step_180 (by decide) (by decide) (fun c180_10 => absurd c180_10 (by omega)) (fun c180_10 => ?_)
              refine g_iconst h (nI 0) dX6_step_183 (by decide) ?_
              refine g_goto h 188 dX6_step_184 (by decide) ?_
              refine g_isubN h dX6_step_188 (by omega) ?_
              refine g_istore (vs' := [_, _, _, _, _, _, _, _, _]) h dX6_step_189 (Nat.le_of_ble_eq_true rfl) rfl rfl ?_
              refine g_iinc (vs' := [_, _, _, _, _, _, _, _, _]) h (nI (k + 1)) dX6_step_191 rfl (by first | exact nI_1 _ | rfl) (Nat.le_of_ble_eq_true rfl) rfl rfl ?_
              refine g_goto h 34 dX6_step_194 (by decide) ?_
              refine g_few (vs' := [some (.ref b), some (.int (nI v)), some (.int (nI u)), some (.int a3), some (.int (nI ((ed (rwV S v) (rwV S u) (sVn S v) (sVn S u) i j) - 0))), some (.int (nI (i + 1))), some (.int (nI (j + 1))), some (.int (nI (k + 1))), none]) ⟨Or.inr rfl, Or.inr rfl, Or.inr rfl, Or.inr rfl, Or.inr rfl, Or.inr rfl, Or.inr rfl, Or.inr rfl, Or.inl rfl, trivial⟩ ?_
              rw [show (ed (rwV S v) (rwV S u) (sVn S v) (sVn S u) i j) - 0 = ed (rwV S v) (rwV S u) (sVn S v) (sVn S u) (i + 1) (j + 1) by omega]
              exact ih (i + 1) (j + 1) (k + 1) (by omega) (by omega) (by omega) (fun t q1 q2 => by
                obtain ⟨w1, w2⟩ := hp t q1 q2
                have w3 : t ≠ k := fun w => c138_7 (by rw [q1, w])
                refine ⟨by omega, w2.trans ?_⟩
                rw [pth_s hij (by omega) (by omega), ← hq, show sVn S v + sVn S u - k - 1 = sVn S v + sVn S u - (k + 1) by omega, show t - k - 1 = t - (k + 1) by omega]
                rfl) (by omega)
            · skip
              obtain ⟨h1, h3⟩ := way1 hq.symm
              refine g_iload h dX6_step_144 rfl ?_
              refine g_iload h dX6_step_146 rfl ?_
              refine g_iconst h (nI 2) dX6_step_148 (by decide) ?_
              refine g_icmp_neN h 156 dX6_step_149 (by decide) (by decide) (by decide) (fun c149_11 => ?_) (fun c149_11 => absurd c149_11 (by omega))
              refine g_iconst h (nI 1) dX6_step_156 (by decide) ?_
              refine g_iaddN h dX6_step_157 ?_
              refine g_istore (vs' := [_, _, _, _, _, _, _, _, _]) h dX6_step_158 (Nat.le_of_ble_eq_true rfl) rfl rfl ?_
              refine g_iload h dX6_step_160 rfl ?_
              refine g_iload h dX6_step_162 rfl ?_
              refine g_iconst h (nI 1) dX6_step_164 (by decide) ?_
              refine g_icmp_neN h 172 dX6_step_165 (by decide) (by decide) (by decide) (fun c165_12 => absurd c165_12 (by omega)) (fun c165_12 => ?_)
              refine g_iconst h (nI 0) dX6_step_168 (by decide) ?_
              refine g_goto h 173 dX6_step_169 (by decide) ?_
              refine g_iaddN h dX6_step_173 ?_
              refine g_istore (vs' := [_, _, _, _, _, _, _, _, _]) h dX6_step_174 (Nat.le_of_ble_eq_true rfl) rfl rfl ?_
              refine g_iload h dX6_step_176 rfl ?_
              refine g_iload h dX6_step_178 rfl ?_
              refine g_if_neN h 187 dX6_step_180 (by decide) (by decide) (fun c180_13 => ?_) (fun c180_13 => absurd c180_13 (by omega))
              refine g_iconst h (nI 1) dX6_step_187 (by decide) ?_
              refine g_isubN h dX6_step_188 (by omega) ?_
              refine g_istore (vs' := [_, _, _, _, _, _, _, _, _]) h dX6_step_189 (Nat.le_of_ble_eq_true rfl) rfl rfl ?_
              refine g_iinc (vs' := [_, _, _, _, _, _, _, _, _]) h (nI (k + 1)) dX6_step_191 rfl (by first | exact nI_1 _ | rfl) (Nat.le_of_ble_eq_true rfl) rfl rfl ?_
              refine g_goto h 34 dX6_step_194 (by decide) ?_
              refine g_few (vs' := [some (.ref b), some (.int (nI v)), some (.int (nI u)), some (.int a3), some (.int (nI ((ed (rwV S v) (rwV S u) (sVn S v) (sVn S u) i j) - 1))), some (.int (nI (i + 1))), some (.int (nI (j + 0))), some (.int (nI (k + 1))), none]) ⟨Or.inr rfl, Or.inr rfl, Or.inr rfl, Or.inr rfl, Or.inr rfl, Or.inr rfl, Or.inr rfl, Or.inr rfl, Or.inl rfl, trivial⟩ ?_
              rw [show (ed (rwV S v) (rwV S u) (sVn S v) (sVn S u) i j) - 1 = ed (rwV S v) (rwV S u) (sVn S v) (sVn S u) (i + 1) j by omega]
              exact ih (i + 1) (j) (k + 1) (by omega) (by omega) (by omega) (fun t q1 q2 => by
                obtain ⟨w1, w2⟩ := hp t q1 q2
                have w3 : t ≠ k := fun w => c138_7 (by rw [q1, w])
                refine ⟨by omega, w2.trans ?_⟩
                rw [pth_s hij (by omega) (by omega), ← hq, show sVn S v + sVn S u - k - 1 = sVn S v + sVn S u - (k + 1) by omega, show t - k - 1 = t - (k + 1) by omega]
                rfl) (by omega)
            · skip
              obtain ⟨h2, h3⟩ := way2 hi hj hij hq.symm
              refine g_iload h dX6_step_144 rfl ?_
              refine g_iload h dX6_step_146 rfl ?_
              refine g_iconst h (nI 2) dX6_step_148 (by decide) ?_
              refine g_icmp_neN h 156 dX6_step_149 (by decide) (by decide) (by decide) (fun c149_14 => absurd c149_14 (by omega)) (fun c149_14 => ?_)
              refine g_iconst h (nI 0) dX6_step_152 (by decide) ?_
              refine g_goto h 157 dX6_step_153 (by decide) ?_
              refine g_iaddN h dX6_step_157 ?_
              refine g_istore (vs' := [_, _, _, _, _, _, _, _, _]) h dX6_step_158 (Nat.le_of_ble_eq_true rfl) rfl rfl ?_
              refine g_iload h dX6_step_160 rfl ?_
              refine g_iload h dX6_step_162 rfl ?_
              refine g_iconst h (nI 1) dX6_step_164 (by decide) ?_
              refine g_icmp_neN h 172 dX6_step_165 (by decide) (by decide) (by decide) (fun c165_15 => ?_) (fun c165_15 => absurd c165_15 (by omega))
              refine g_iconst h (nI 1) dX6_step_172 (by decide) ?_
              refine g_iaddN h dX6_step_173 ?_
              refine g_istore (vs' := [_, _, _, _, _, _, _, _, _]) h dX6_step_174 (Nat.le_of_ble_eq_true rfl) rfl rfl ?_
              refine g_iload h dX6_step_176 rfl ?_
              refine g_iload h dX6_step_178 rfl ?_
              refine g_if_neN h 187 dX6_step_180 (by decide) (by decide) (fun c180_16 => ?_) (fun c180_16 => absurd c180_16 (by omega))
              refine g_iconst h (nI 1) dX6_step_187 (by decide) ?_
              refine g_isubN h dX6_step_188 (by omega) ?_
              refine g_istore (vs' := [_, _, _, _, _, _, _, _, _]) h dX6_step_189 (Nat.le_of_ble_eq_true rfl) rfl rfl ?_
              refine g_iinc (vs' := [_, _, _, _, _, _, _, _, _]) h (nI (k + 1)) dX6_step_191 rfl (by first | exact nI_1 _ | rfl) (Nat.le_of_ble_eq_true rfl) rfl rfl ?_
              refine g_goto h 34 dX6_step_194 (by decide) ?_
              refine g_few (vs' := [some (.ref b), some (.int (nI v)), some (.int (nI u)), some (.int a3), some (.int (nI ((ed (rwV S v) (rwV S u) (sVn S v) (sVn S u) i j) - 1))), some (.int (nI (i + 0))), some (.int (nI (j + 1))), some (.int (nI (k + 1))), none]) ⟨Or.inr rfl, Or.inr rfl, Or.inr rfl, Or.inr rfl, Or.inr rfl, Or.inr rfl, Or.inr rfl, Or.inr rfl, Or.inl rfl, trivial⟩ ?_
              rw [show (ed (rwV S v) (rwV S u) (sVn S v) (sVn S u) i j) - 1 = ed (rwV S v) (rwV S u) (sVn S v) (sVn S u) i (j + 1) by omega]
              exact ih (i) (j + 1) (k + 1) (by omega) (by omega) (by omega) (fun t q1 q2 => by
                obtain ⟨w1, w2⟩ := hp t q1 q2
                have w3 : t ≠ k := fun w => c138_7 (by rw [q1, w])
                refine ⟨by omega, w2.trans ?_⟩
                rw [pth_s hij (by omega) (by omega), ← hq, show sVn S v + sVn S u - k - 1 = sVn S v + sVn S u - (k + 1) by omega, show t - k - 1 = t - (k + 1) by omega]
                rfl) (by omega)
          · skip
            refine g_iload h dX6_step_141 rfl ?_
            exact g_iret h hr dX6_step_143 (⟨by rw [e0, hq]; exact congrArg (fun q => some (Value.int q)) (by
              have w1 : inR a3 (sVn S v + sVn S u) := ⟨k, by omega, c138_7.symm⟩
              unfold stpV
              rw [cif_t w1, ← c138_7, clampN (by omega), (hp k c138_7.symm (by omega)).2, Nat.sub_self, pth_0 hij (by omega)]), by rw [e0]; exact hM2⟩) (Nat.le_of_ble_eq_true rfl) (Nat.le_of_ble_eq_true rfl)
        refine g_aload_n h 0 dX6_step_56 rfl rfl ?_
        refine g_iload_n h 1 dX6_step_57 rfl rfl ?_
        refine g_iload h dX6_step_58 rfl ?_
        refine g_iload_n h 2 dX6_step_60 rfl rfl ?_
        refine g_iload h dX6_step_61 rfl ?_
        refine g_callV h [] (c_X6_isAlike (xL X) E _ hI hM2 hv9 hu9 (i := i) (j := j) (by omega) (by omega)) cf_X6_73 cv_X6_isAlike dX6_step_63 rfl ((sup_ne (by omega)).trans r0) rfl rfl (Nat.le_of_ble_eq_true rfl) ⟨(Nat.le_of_ble_eq_true rfl), (Nat.le_of_ble_eq_true rfl)⟩ ⟨(Nat.le_of_ble_eq_true rfl), (Nat.le_of_ble_eq_true rfl)⟩ ?_
        refine kk_det ?_
        refine g_if_eqB h 95 dX6_step_66 (by decide) (fun c66_17 => ?_) (fun c66_17 => ?_)
        · skip
          refine g_iload h dX6_step_95 rfl ?_
          refine g_aload_n h 0 dX6_step_97 rfl rfl ?_
          refine g_get h 1 fa_X6_13 dX6_step_98 ((sup_ne (by omega)).trans r0) rfl ?_
          refine g_iload_n h 1 dX6_step_101 rfl rfl ?_
          refine g_iald h dX6_step_102 ((sup_ne (by omega)).trans r2) (by omega) (by omega) ?_
          refine g_top (y := nI (sVn S v)) (e2 v (by omega)) ?_
          refine g_icmp_geN h 132 dX6_step_103 (by decide) (by omega) (by omega) (fun c103_18 => ?_) (fun c103_18 => ?_)
          · skip
            refine g_iconst h (nI 2) dX6_step_132 (by decide) ?_
            refine g_istore (vs' := [_, _, _, _, _, _, _, _, _]) h dX6_step_133 (Nat.le_of_ble_eq_true rfl) rfl rfl ?_
            exact J135 2 (by unfold way; rw [if_neg c66_17, if_neg (by omega)])
          · skip
            refine g_aload_n h 0 dX6_step_106 rfl rfl ?_
            refine g_get h 14 fa_X6_46 dX6_step_107 ((sup_ne (by omega)).trans r0) rfl ?_
            refine g_bipush h (nI 41) dX6_step_110 (by decide) ?_
            refine g_iload h dX6_step_112 rfl ?_
            refine g_iconst h (nI 1) dX6_step_114 (by decide) ?_
            refine g_iaddN h dX6_step_115 ?_
            refine g_imulN h dX6_step_116 ?_
            refine g_iload h dX6_step_117 rfl ?_
            refine g_iaddN h dX6_step_119 ?_
            refine g_iald h dX6_step_120 sup_eq (by omega) (by omega) ?_
            refine g_top (y := nI (ed (rwV S v) (rwV S u) (sVn S v) (sVn S u) (i + 1) j)) (hg (i + 1) (by omega) j (by omega)) ?_
            refine g_iconst h (nI 1) dX6_step_121 (by decide) ?_
            refine g_iaddN h dX6_step_122 ?_
            refine g_iload h dX6_step_123 rfl ?_
            refine g_icmp_neN h 132 dX6_step_125 (by decide) (by omega) (by omega) (fun c125_19 => ?_) (fun c125_19 => ?_)
            · skip
              refine g_iconst h (nI 2) dX6_step_132 (by decide) ?_
              refine g_istore (vs' := [_, _, _, _, _, _, _, _, _]) h dX6_step_133 (Nat.le_of_ble_eq_true rfl) rfl rfl ?_
              exact J135 2 (by unfold way; rw [if_neg c66_17, if_neg (fun w => c125_19 w.2)])
            · skip
              refine g_iconst h (nI 1) dX6_step_128 (by decide) ?_
              refine g_goto h 133 dX6_step_129 (by decide) ?_
              refine g_istore (vs' := [_, _, _, _, _, _, _, _, _]) h dX6_step_133 (Nat.le_of_ble_eq_true rfl) rfl rfl ?_
              exact J135 1 (by unfold way; rw [if_neg c66_17, if_pos ⟨by omega, c125_19⟩])
        · skip
          refine g_aload_n h 0 dX6_step_69 rfl rfl ?_
          refine g_get h 14 fa_X6_46 dX6_step_70 ((sup_ne (by omega)).trans r0) rfl ?_
          refine g_bipush h (nI 41) dX6_step_73 (by decide) ?_
          refine g_iload h dX6_step_75 rfl ?_
          refine g_iconst h (nI 1) dX6_step_77 (by decide) ?_
          refine g_iaddN h dX6_step_78 ?_
          refine g_imulN h dX6_step_79 ?_
          refine g_iload h dX6_step_80 rfl ?_
          refine g_iaddN h dX6_step_82 ?_
          refine g_iconst h (nI 1) dX6_step_83 (by decide) ?_
          refine g_iaddN h dX6_step_84 ?_
          refine g_iald h dX6_step_85 sup_eq (by omega) (by omega) ?_
          refine g_top (y := nI (ed (rwV S v) (rwV S u) (sVn S v) (sVn S u) (i + 1) (j + 1))) (hg (i + 1) (by omega) (j + 1) (by omega)) ?_
          refine g_iload h dX6_step_86 rfl ?_
          refine g_icmp_neN h 95 dX6_step_88 (by decide) (by omega) (by omega) (fun c88_20 => absurd (ed_eq c66_17.1 c66_17.2.1 c66_17.2.2).symm c88_20) (fun c88_20 => ?_)
          refine g_iconst h (nI 0) dX6_step_91 (by decide) ?_
          refine g_goto h 133 dX6_step_92 (by decide) ?_
          refine g_istore (vs' := [_, _, _, _, _, _, _, _, _]) h dX6_step_133 (Nat.le_of_ble_eq_true rfl) rfl rfl ?_
          exact J135 0 (by unfold way; rw [if_pos c66_17])
      · skip
        refine g_iload h dX6_step_45 rfl ?_
        refine g_aload_n h 0 dX6_step_47 rfl rfl ?_
        refine g_get h 1 fa_X6_13 dX6_step_48 ((sup_ne (by omega)).trans r0) rfl ?_
        refine g_iload_n h 2 dX6_step_51 rfl rfl ?_
        refine g_iald h dX6_step_52 ((sup_ne (by omega)).trans r2) (by omega) (by omega) ?_
        refine g_top (y := nI (sVn S u)) (e2 u (by omega)) ?_
        refine g_icmp_geN h 197 dX6_step_53 (by decide) (by omega) (by omega) (fun c53_21 => ?_) (fun c53_21 => ?_)
        · skip
          refine g_iconst h (-1) dX6_step_197 (by decide) ?_
          exact g_iret h hr dX6_step_198 (⟨by rw [e0]; exact congrArg (fun q => some (Value.int q)) (by
            unfold stpV
            by_cases w1 : inR a3 (sVn S v + sVn S u)
            · rw [cif_t w1]
              obtain ⟨t, t1, rfl⟩ := w1
              rw [clampN (by omega), (hp t rfl t1).2, pth_e (by omega)]
            · rw [cif_f w1]), by rw [e0]; exact hM2⟩) (Nat.le_of_ble_eq_true rfl) (Nat.le_of_ble_eq_true rfl)
        · skip
          have hij : i < sVn S v ∨ j < sVn S u := by omega
          have b1 := ed_le (rwV S v) (rwV S u) (sVn S v) (sVn S u) (i + 1) j
          have b2 := ed_le (rwV S v) (rwV S u) (sVn S v) (sVn S u) i (j + 1)
          have b3 := ed_le (rwV S v) (rwV S u) (sVn S v) (sVn S u) (i + 1) (j + 1)
          have J135 : ∀ (q : Nat), (q = way (rwV S v) (rwV S u) (sVn S v) (sVn S u) i j) → G X E 9 (AD σ) (QF X E σ (fun o s => o = some (.int (opStep S (nI v) (nI u) a3).1) ∧ RepM E b (opStep S (nI v) (nI u) a3).2 s) rm_X6_step) 0 0 135 [some (.ref b), some (.int (nI v)), some (.int (nI u)), some (.int a3), some (.int (nI (ed (rwV S v) (rwV S u) (sVn S v) (sVn S u) i j))), some (.int (nI i)), some (.int (nI j)), some (.int (nI k)), some (.int (nI q))] [] (sup σ (b + 13) (cI E 1681 g)) := by
            intro q hq
            refine g_iload h dX6_step_135 rfl ?_
            refine g_iload_n h 3 dX6_step_137 rfl rfl ?_
            refine g_icmp_ne h 144 dX6_step_138 (by decide) (fun c138_22 => ?_) (fun c138_22 => ?_)
            · skip
              have hq2 : q ≤ 2 := by rw [hq]; exact way_le
              rcases (show q = 0 ∨ q = 1 ∨ q = 2 by omega) with rfl | rfl | rfl
              · skip
                obtain ⟨h1, h2, h3⟩ := way0 hq.symm
                refine g_iload h dX6_step_144 rfl ?_
                refine g_iload h dX6_step_146 rfl ?_
                refine g_iconst h (nI 2) dX6_step_148 (by decide) ?_
                refine g_icmp_neN h 156 dX6_step_149 (by decide) (by decide) (by decide) (fun c149_23 => ?_) (fun c149_23 => absurd c149_23 (by omega))
                refine g_iconst h (nI 1) dX6_step_156 (by decide) ?_
                refine g_iaddN h dX6_step_157 ?_
                refine g_istore (vs' := [_, _, _, _, _, _, _, _, _]) h dX6_step_158 (Nat.le_of_ble_eq_true rfl) rfl rfl ?_
                refine g_iload h dX6_step_160 rfl ?_
                refine g_iload h dX6_step_162 rfl ?_
                refine g_iconst h (nI 1) dX6_step_164 (by decide) ?_
                refine g_icmp_neN h 172 dX6_step_165 (by decide) (by decide) (by decide) (fun c165_24 => ?_) (fun c165_24 => absurd c165_24 (by omega))
                refine g_iconst h (nI 1) dX6_step_172 (by decide) ?_
                refine g_iaddN h dX6_step_173 ?_
                refine g_istore (vs' := [_, _, _, _, _, _, _, _, _]) h dX6_step_174 (Nat.le_of_ble_eq_true rfl) rfl rfl ?_
                refine g_iload h dX6_step_176 rfl ?_
                refine g_iload h dX6_step_178 rfl ?_
                refine g_if_neN h 187 dX6_step_180 (by decide) (by decide) (fun c180_25 => absurd c180_25 (by omega)) (fun c180_25 => ?_)
                refine g_iconst h (nI 0) dX6_step_183 (by decide) ?_
                refine g_goto h 188 dX6_step_184 (by decide) ?_
                refine g_isubN h dX6_step_188 (by omega) ?_
                refine g_istore (vs' := [_, _, _, _, _, _, _, _, _]) h dX6_step_189 (Nat.le_of_ble_eq_true rfl) rfl rfl ?_
                refine g_iinc (vs' := [_, _, _, _, _, _, _, _, _]) h (nI (k + 1)) dX6_step_191 rfl (by first | exact nI_1 _ | rfl) (Nat.le_of_ble_eq_true rfl) rfl rfl ?_
                refine g_goto h 34 dX6_step_194 (by decide) ?_
                refine g_few (vs' := [some (.ref b), some (.int (nI v)), some (.int (nI u)), some (.int a3), some (.int (nI ((ed (rwV S v) (rwV S u) (sVn S v) (sVn S u) i j) - 0))), some (.int (nI (i + 1))), some (.int (nI (j + 1))), some (.int (nI (k + 1))), none]) ⟨Or.inr rfl, Or.inr rfl, Or.inr rfl, Or.inr rfl, Or.inr rfl, Or.inr rfl, Or.inr rfl, Or.inr rfl, Or.inl rfl, trivial⟩ ?_
                rw [show (ed (rwV S v) (rwV S u) (sVn S v) (sVn S u) i j) - 0 = ed (rwV S v) (rwV S u) (sVn S v) (sVn S u) (i + 1) (j + 1) by omega]
                exact ih (i + 1) (j + 1) (k + 1) (by omega) (by omega) (by omega) (fun t q1 q2 => by
                  obtain ⟨w1, w2⟩ := hp t q1 q2
                  have w3 : t ≠ k := fun w => c138_22 (by rw [q1, w])
                  refine ⟨by omega, w2.trans ?_⟩
                  rw [pth_s hij (by omega) (by omega), ← hq, show sVn S v + sVn S u - k - 1 = sVn S v + sVn S u - (k + 1) by omega, show t - k - 1 = t - (k + 1) by omega]
                  rfl) (by omega)
              · skip
                obtain ⟨h1, h3⟩ := way1 hq.symm
                refine g_iload h dX6_step_144 rfl ?_
                refine g_iload h dX6_step_146 rfl ?_
                refine g_iconst h (nI 2) dX6_step_148 (by decide) ?_
                refine g_icmp_neN h 156 dX6_step_149 (by decide) (by decide) (by decide) (fun c149_26 => ?_) (fun c149_26 => absurd c149_26 (by omega))
                refine g_iconst h (nI 1) dX6_step_156 (by decide) ?_
                refine g_iaddN h dX6_step_157 ?_
                refine g_istore (vs' := [_, _, _, _, _, _, _, _, _]) h dX6_step_158 (Nat.le_of_ble_eq_true rfl) rfl rfl ?_
                refine g_iload h dX6_step_160 rfl ?_
                refine g_iload h dX6_step_162 rfl ?_
                refine g_iconst h (nI 1) dX6_step_164 (by decide) ?_
                refine g_icmp_neN h 172 dX6_step_165 (by decide) (by decide) (by decide) (fun c165_27 => absurd c165_27 (by omega)) (fun c165_27 => ?_)
                refine g_iconst h (nI 0) dX6_step_168 (by decide) ?_
                refine g_goto h 173 dX6_step_169 (by decide) ?_
                refine g_iaddN h dX6_step_173 ?_
                refine g_istore (vs' := [_, _, _, _, _, _, _, _, _]) h dX6_step_174 (Nat.le_of_ble_eq_true rfl) rfl rfl ?_
                refine g_iload h dX6_step_176 rfl ?_
                refine g_iload h dX6_step_178 rfl ?_
                refine g_if_neN h 187 dX6_step_180 (by decide) (by decide) (fun c180_28 => ?_) (fun c180_28 => absurd c180_28 (by omega))
                refine g_iconst h (nI 1) dX6_step_187 (by decide) ?_
                refine g_isubN h dX6_step_188 (by omega) ?_
                refine g_istore (vs' := [_, _, _, _, _, _, _, _, _]) h dX6_step_189 (Nat.le_of_ble_eq_true rfl) rfl rfl ?_
                refine g_iinc (vs' := [_, _, _, _, _, _, _, _, _]) h (nI (k + 1)) dX6_step_191 rfl (by first | exact nI_1 _ | rfl) (Nat.le_of_ble_eq_true rfl) rfl rfl ?_
                refine g_goto h 34 dX6_step_194 (by decide) ?_
                refine g_few (vs' := [some (.ref b), some (.int (nI v)), some (.int (nI u)), some (.int a3), some (.int (nI ((ed (rwV S v) (rwV S u) (sVn S v) (sVn S u) i j) - 1))), some (.int (nI (i + 1))), some (.int (nI (j + 0))), some (.int (nI (k + 1))), none]) ⟨Or.inr rfl, Or.inr rfl, Or.inr rfl, Or.inr rfl, Or.inr rfl, Or.inr rfl, Or.inr rfl, Or.inr rfl, Or.inl rfl, trivial⟩ ?_
                rw [show (ed (rwV S v) (rwV S u) (sVn S v) (sVn S u) i j) - 1 = ed (rwV S v) (rwV S u) (sVn S v) (sVn S u) (i + 1) j by omega]
                exact ih (i + 1) (j) (k + 1) (by omega) (by omega) (by omega) (fun t q1 q2 => by
                  obtain ⟨w1, w2⟩ := hp t q1 q2
                  have w3 : t ≠ k := fun w => c138_22 (by rw [q1, w])
                  refine ⟨by omega, w2.trans ?_⟩
                  rw [pth_s hij (by omega) (by omega), ← hq, show sVn S v + sVn S u - k - 1 = sVn S v + sVn S u - (k + 1) by omega, show t - k - 1 = t - (k + 1) by omega]
                  rfl) (by omega)
              · skip
                obtain ⟨h2, h3⟩ := way2 hi hj hij hq.symm
                refine g_iload h dX6_step_144 rfl ?_
                refine g_iload h dX6_step_146 rfl ?_
                refine g_iconst h (nI 2) dX6_step_148 (by decide) ?_
                refine g_icmp_neN h 156 dX6_step_149 (by decide) (by decide) (by decide) (fun c149_29 => absurd c149_29 (by omega)) (fun c149_29 => ?_)
                refine g_iconst h (nI 0) dX6_step_152 (by decide) ?_
                refine g_goto h 157 dX6_step_153 (by decide) ?_
                refine g_iaddN h dX6_step_157 ?_
                refine g_istore (vs' := [_, _, _, _, _, _, _, _, _]) h dX6_step_158 (Nat.le_of_ble_eq_true rfl) rfl rfl ?_
                refine g_iload h dX6_step_160 rfl ?_
                refine g_iload h dX6_step_162 rfl ?_
                refine g_iconst h (nI 1) dX6_step_164 (by decide) ?_
                refine g_icmp_neN h 172 dX6_step_165 (by decide) (by decide) (by decide) (fun c165_30 => ?_) (fun c165_30 => absurd c165_30 (by omega))
                refine g_iconst h (nI 1) dX6_step_172 (by decide) ?_
                refine g_iaddN h dX6_step_173 ?_
                refine g_istore (vs' := [_, _, _, _, _, _, _, _, _]) h dX6_step_174 (Nat.le_of_ble_eq_true rfl) rfl rfl ?_
                refine g_iload h dX6_step_176 rfl ?_
                refine g_iload h dX6_step_178 rfl ?_
                refine g_if_neN h 187 dX6_step_180 (by decide) (by decide) (fun c180_31 => ?_) (fun c180_31 => absurd c180_31 (by omega))
                refine g_iconst h (nI 1) dX6_step_187 (by decide) ?_
                refine g_isubN h dX6_step_188 (by omega) ?_
                refine g_istore (vs' := [_, _, _, _, _, _, _, _, _]) h dX6_step_189 (Nat.le_of_ble_eq_true rfl) rfl rfl ?_
                refine g_iinc (vs' := [_, _, _, _, _, _, _, _, _]) h (nI (k + 1)) dX6_step_191 rfl (by first | exact nI_1 _ | rfl) (Nat.le_of_ble_eq_true rfl) rfl rfl ?_
                refine g_goto h 34 dX6_step_194 (by decide) ?_
                refine g_few (vs' := [some (.ref b), some (.int (nI v)), some (.int (nI u)), some (.int a3), some (.int (nI ((ed (rwV S v) (rwV S u) (sVn S v) (sVn S u) i j) - 1))), some (.int (nI (i + 0))), some (.int (nI (j + 1))), some (.int (nI (k + 1))), none]) ⟨Or.inr rfl, Or.inr rfl, Or.inr rfl, Or.inr rfl, Or.inr rfl, Or.inr rfl, Or.inr rfl, Or.inr rfl, Or.inl rfl, trivial⟩ ?_
                rw [show (ed (rwV S v) (rwV S u) (sVn S v) (sVn S u) i j) - 1 = ed (rwV S v) (rwV S u) (sVn S v) (sVn S u) i (j + 1) by omega]
                exact ih (i) (j + 1) (k + 1) (by omega) (by omega) (by omega) (fun t q1 q2 => by
                  obtain ⟨w1, w2⟩ := hp t q1 q2
                  have w3 : t ≠ k := fun w => c138_22 (by rw [q1, w])
                  refine ⟨by omega, w2.trans ?_⟩
                  rw [pth_s hij (by omega) (by omega), ← hq, show sVn S v + sVn S u - k - 1 = sVn S v + sVn S u - (k + 1) by omega, show t - k - 1 = t - (k + 1) by omega]
                  rfl) (by omega)
            · skip
              refine g_iload h dX6_step_141 rfl ?_
              exact g_iret h hr dX6_step_143 (⟨by rw [e0, hq]; exact congrArg (fun q => some (Value.int q)) (by
                have w1 : inR a3 (sVn S v + sVn S u) := ⟨k, by omega, c138_22.symm⟩
                unfold stpV
                rw [cif_t w1, ← c138_22, clampN (by omega), (hp k c138_22.symm (by omega)).2, Nat.sub_self, pth_0 hij (by omega)]), by rw [e0]; exact hM2⟩) (Nat.le_of_ble_eq_true rfl) (Nat.le_of_ble_eq_true rfl)
          refine g_aload_n h 0 dX6_step_56 rfl rfl ?_
          refine g_iload_n h 1 dX6_step_57 rfl rfl ?_
          refine g_iload h dX6_step_58 rfl ?_
          refine g_iload_n h 2 dX6_step_60 rfl rfl ?_
          refine g_iload h dX6_step_61 rfl ?_
          refine g_callV h [] (c_X6_isAlike (xL X) E _ hI hM2 hv9 hu9 (i := i) (j := j) (by omega) (by omega)) cf_X6_73 cv_X6_isAlike dX6_step_63 rfl ((sup_ne (by omega)).trans r0) rfl rfl (Nat.le_of_ble_eq_true rfl) ⟨(Nat.le_of_ble_eq_true rfl), (Nat.le_of_ble_eq_true rfl)⟩ ⟨(Nat.le_of_ble_eq_true rfl), (Nat.le_of_ble_eq_true rfl)⟩ ?_
          refine kk_det ?_
          refine g_if_eqB h 95 dX6_step_66 (by decide) (fun c66_32 => ?_) (fun c66_32 => ?_)
          · skip
            refine g_iload h dX6_step_95 rfl ?_
            refine g_aload_n h 0 dX6_step_97 rfl rfl ?_
            refine g_get h 1 fa_X6_13 dX6_step_98 ((sup_ne (by omega)).trans r0) rfl ?_
            refine g_iload_n h 1 dX6_step_101 rfl rfl ?_
            refine g_iald h dX6_step_102 ((sup_ne (by omega)).trans r2) (by omega) (by omega) ?_
            refine g_top (y := nI (sVn S v)) (e2 v (by omega)) ?_
            refine g_icmp_geN h 132 dX6_step_103 (by decide) (by omega) (by omega) (fun c103_33 => ?_) (fun c103_33 => ?_)
            · skip
              refine g_iconst h (nI 2) dX6_step_132 (by decide) ?_
              refine g_istore (vs' := [_, _, _, _, _, _, _, _, _]) h dX6_step_133 (Nat.le_of_ble_eq_true rfl) rfl rfl ?_
              exact J135 2 (by unfold way; rw [if_neg c66_32, if_neg (by omega)])
            · skip
              refine g_aload_n h 0 dX6_step_106 rfl rfl ?_
              refine g_get h 14 fa_X6_46 dX6_step_107 ((sup_ne (by omega)).trans r0) rfl ?_
              refine g_bipush h (nI 41) dX6_step_110 (by decide) ?_
              refine g_iload h dX6_step_112 rfl ?_
              refine g_iconst h (nI 1) dX6_step_114 (by decide) ?_
              refine g_iaddN h dX6_step_115 ?_
              refine g_imulN h dX6_step_116 ?_
              refine g_iload h dX6_step_117 rfl ?_
              refine g_iaddN h dX6_step_119 ?_
              refine g_iald h dX6_step_120 sup_eq (by omega) (by omega) ?_
              refine g_top (y := nI (ed (rwV S v) (rwV S u) (sVn S v) (sVn S u) (i + 1) j)) (hg (i + 1) (by omega) j (by omega)) ?_
              refine g_iconst h (nI 1) dX6_step_121 (by decide) ?_
              refine g_iaddN h dX6_step_122 ?_
              refine g_iload h dX6_step_123 rfl ?_
              refine g_icmp_neN h 132 dX6_step_125 (by decide) (by omega) (by omega) (fun c125_34 => ?_) (fun c125_34 => ?_)
              · skip
                refine g_iconst h (nI 2) dX6_step_132 (by decide) ?_
                refine g_istore (vs' := [_, _, _, _, _, _, _, _, _]) h dX6_step_133 (Nat.le_of_ble_eq_true rfl) rfl rfl ?_
                exact J135 2 (by unfold way; rw [if_neg c66_32, if_neg (fun w => c125_34 w.2)])
              · skip
                refine g_iconst h (nI 1) dX6_step_128 (by decide) ?_
                refine g_goto h 133 dX6_step_129 (by decide) ?_
                refine g_istore (vs' := [_, _, _, _, _, _, _, _, _]) h dX6_step_133 (Nat.le_of_ble_eq_true rfl) rfl rfl ?_
                exact J135 1 (by unfold way; rw [if_neg c66_32, if_pos ⟨by omega, c125_34⟩])
          · skip
            refine g_aload_n h 0 dX6_step_69 rfl rfl ?_
            refine g_get h 14 fa_X6_46 dX6_step_70 ((sup_ne (by omega)).trans r0) rfl ?_
            refine g_bipush h (nI 41) dX6_step_73 (by decide) ?_
            refine g_iload h dX6_step_75 rfl ?_
            refine g_iconst h (nI 1) dX6_step_77 (by decide) ?_
            refine g_iaddN h dX6_step_78 ?_
            refine g_imulN h dX6_step_79 ?_
            refine g_iload h dX6_step_80 rfl ?_
            refine g_iaddN h dX6_step_82 ?_
            refine g_iconst h (nI 1) dX6_step_83 (by decide) ?_
            refine g_iaddN h dX6_step_84 ?_
            refine g_iald h dX6_step_85 sup_eq (by omega) (by omega) ?_
            refine g_top (y := nI (ed (rwV S v) (rwV S u) (sVn S v) (sVn S u) (i + 1) (j + 1))) (hg (i + 1) (by omega) (j + 1) (by omega)) ?_
            refine g_iload h dX6_step_86 rfl ?_
            refine g_icmp_neN h 95 dX6_step_88 (by decide) (by omega) (by omega) (fun c88_35 => absurd (ed_eq c66_32.1 c66_32.2.1 c66_32.2.2).symm c88_35) (fun c88_35 => ?_)
            refine g_iconst h (nI 0) dX6_step_91 (by decide) ?_
            refine g_goto h 133 dX6_step_92 (by decide) ?_
            refine g_istore (vs' := [_, _, _, _, _, _, _, _, _]) h dX6_step_133 (Nat.le_of_ble_eq_true rfl) rfl rfl ?_
            exact J135 0 (by unfold way; rw [if_pos c66_32])
  exact L34 (sVn S v + sVn S u + 1) 0 0 0 (by omega) (by omega) (by omega) (fun t _ _ => ⟨by omega, rfl⟩) (by omega)
