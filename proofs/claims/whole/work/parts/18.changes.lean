/-! the changes of two rows (own work; walks by program) -/
def ed (l k : Nat → Int32) (n m i j : Nat) : Nat :=
  if h : i < n ∧ j < m then (if l i = k j then ed l k n m (i + 1) (j + 1) else 1 + min (ed l k n m (i + 1) j) (ed l k n m i (j + 1)))
  else (if i < n then n - i else m - j)
termination_by (n - i) + (m - j)
decreasing_by all_goals omega
theorem ed_eq {l k : Nat → Int32} {n m i j : Nat} (hi : i < n) (hj : j < m) (h : l i = k j) : ed l k n m i j = ed l k n m (i + 1) (j + 1) := by
  rw [ed, dif_pos ⟨hi, hj⟩, if_pos h]
theorem ed_ne {l k : Nat → Int32} {n m i j : Nat} (hi : i < n) (hj : j < m) (h : ¬ l i = k j) : ed l k n m i j = 1 + min (ed l k n m (i + 1) j) (ed l k n m i (j + 1)) := by
  rw [ed, dif_pos ⟨hi, hj⟩, if_neg h]
theorem ed_o1 {l k : Nat → Int32} {n m i j : Nat} (hi : n ≤ i) : ed l k n m i j = m - j := by
  rw [ed, dif_neg (by omega), if_neg (by omega)]
theorem ed_o2 {l k : Nat → Int32} {n m i j : Nat} (hi : i < n) (hj : m ≤ j) : ed l k n m i j = n - i := by
  rw [ed, dif_neg (by omega), if_pos hi]
theorem ed_le (l k : Nat → Int32) (n m i j : Nat) : ed l k n m i j ≤ (n - i) + (m - j) := by
  fun_induction ed l k n m i j <;> omega
def way (l k : Nat → Int32) (n m i j : Nat) : Nat :=
  if i < n ∧ j < m ∧ l i = k j then 0 else if i < n ∧ ed l k n m (i + 1) j + 1 = ed l k n m i j then 1 else 2
def pth (l k : Nat → Int32) (n m : Nat) : Nat → Nat → Nat → Nat → Int32
  | 0, _, _, _ => -1
  | f + 1, t, i, j => if i < n ∨ j < m then (if t = 0 then nI (way l k n m i j) else pth l k n m f (t - 1) (if way l k n m i j = 2 then i else i + 1) (if way l k n m i j = 1 then j else j + 1)) else -1
/-- Step x of the changes -/
noncomputable def stpV (l k : Nat → Int32) (n m : Nat) (x : Int32) : Int32 := cif (inR x (n + m)) (pth l k n m (n + m) x.toNatClampNeg 0 0) (-1)
theorem way_le {l k : Nat → Int32} {n m i j : Nat} : way l k n m i j ≤ 2 := by
  unfold way
  grind
theorem way_i {l k : Nat → Int32} {n m i j : Nat} (h : i < n ∨ j < m) (hw : way l k n m i j ≠ 2) : i < n := by
  unfold way at hw
  grind
theorem way_j {l k : Nat → Int32} {n m i j : Nat} (h : i < n ∨ j < m) (hw : way l k n m i j ≠ 1) : j < m := by
  by_cases hj : j < m
  · exact hj
  · have hi : i < n := by omega
    have e1 : ed l k n m i j = n - i := ed_o2 hi (by omega)
    have e2 : ed l k n m (i + 1) j = n - (i + 1) := by
      rw [ed, dif_neg (by omega)]
      by_cases h2 : i + 1 < n
      · rw [if_pos h2]
      · rw [if_neg h2]; omega
    exact absurd (by unfold way; rw [if_neg (by omega), if_pos ⟨hi, by omega⟩]) hw
/-- the table at c + 2: what P lists holds D -/
def TB (E : EnvD) (c : Nat) (s : Sto) (P : Nat → Nat → Prop) (D : Nat → Nat → Nat) : Prop := ∀ i, i < 41 → ∃ g, s.1 (c + 2 + i) = some (cI E 41 g) ∧ ∀ j, j < 41 → P i j → g j = nI (D i j)
theorem TB.put {E : EnvD} {c i j v : Nat} {s : Sto} {P : Nat → Nat → Prop} {D : Nat → Nat → Nat} {g : Nat → Int32} (h : TB E c s P D) (hi : i < 41) (hj : j < 41) (hg : s.1 (c + 2 + i) = some (cI E 41 g)) (hgp : ∀ j, j < 41 → P i j → g j = nI (D i j)) (hv : v = D i j) {P' : Nat → Nat → Prop} (hP : ∀ a b, P' a b → P a b ∨ (a = i ∧ b = j)) : TB E c (sup s (c + 2 + i) (cI E 41 (upd g j (nI v)))) P' D := by
  intro a ha
  by_cases e : a = i
  · subst e
    refine ⟨_, sup_eq, fun b hb hp => ?_⟩
    unfold upd
    by_cases e2 : b = j
    · subst e2
      rw [if_pos rfl, hv]
    · rw [if_neg e2]
      rcases hP a b hp with q | q
      · exact hgp b hb q
      · exact absurd q.2 e2
  · obtain ⟨g', q1, q2⟩ := h a ha
    refine ⟨g', (sup_ne (by omega)).trans q1, fun b hb hp => ?_⟩
    rcases hP a b hp with q | q
    · exact q2 b hb q
    · exact absurd q.1 e
theorem min_nI {a b : Nat} (ha : a < 2147483648) (hb : b < 2147483648) : (if nI b < nI a then nI b else nI a) = nI (min a b) := by
  by_cases h : b < a
  · rw [if_pos ((nI_ltI hb ha).mpr h), Nat.min_eq_right (by omega)]
  · rw [if_neg (fun q => h ((nI_ltI hb ha).mp q)), Nat.min_eq_left (by omega)]
theorem min_40 {a : Nat} (h : a ≤ 40) : (if nI 40 < nI a then nI 40 else nI a) = nI a :=
  (min_nI (by omega) (by omega)).trans (congrArg nI (Nat.min_eq_left h))
theorem max_nI {a b : Nat} (ha : a < 2147483648) (hb : b < 2147483648) : (if nI a < nI b then nI b else nI a) = nI (max a b) := by
  by_cases h : a < b
  · rw [if_pos ((nI_ltI ha hb).mpr h), Nat.max_eq_right (by omega)]
  · rw [if_neg (fun q => h ((nI_ltI ha hb).mp q)), Nat.max_eq_left (by omega)]
abbrev rm_X0_leftFrom : Room := { frames := 0, cells := 0, slots := 0, locals := 0 }
set_option maxRecDepth 100000 in
set_option maxHeartbeats 4000000 in
theorem c_X0_leftFrom (lau : Launch) (E : EnvD) (σ : Sto) {c : Nat} {f : Nat → Option Nat} (h0 : σ.1 c = some (cO 0 [.ref (c + 1)])) (h1 : σ.1 (c + 1) = some (cQ E 5 41 f)) (hf : ∀ i, i < 41 → f i = some (c + 2 + i)) {i j v : Nat} {g : Nat → Int32} (h3 : σ.1 (c + 2 + i) = some (cI E 41 g)) (h4 : g j = nI v) (hi : i ≤ 40) (hj : j ≤ 40) : CC lau yX0_leftFrom cX0_leftFrom 3 (some .int) rm_X0_leftFrom E [.ref c, .int (nI i), .int (nI j)] σ (fun o s => o = some (.int (nI v)) ∧ s = σ) := by
  refine cc_of (vs := [_, _, _]) (by decide) (Nat.le_of_ble_eq_true rfl) rfl ?_
  intro X h hr hn
  refine g_iload_n h 1 dX0_leftFrom_0 rfl rfl ?_
  refine g_if_ltN h 31 dX0_leftFrom_1 (by decide) (by omega) ?_
  refine g_iload_n h 1 dX0_leftFrom_4 rfl rfl ?_
  refine g_bipush h (nI 40) dX0_leftFrom_5 (by decide) ?_
  refine g_icmp_gtN h 31 dX0_leftFrom_7 (by decide) (by omega) (by decide) (fun c7_2 => absurd c7_2 (by omega)) (fun c7_2 => ?_)
  refine g_iload_n h 2 dX0_leftFrom_10 rfl rfl ?_
  refine g_if_ltN h 31 dX0_leftFrom_11 (by decide) (by omega) ?_
  refine g_iload_n h 2 dX0_leftFrom_14 rfl rfl ?_
  refine g_bipush h (nI 40) dX0_leftFrom_15 (by decide) ?_
  refine g_icmp_gtN h 31 dX0_leftFrom_17 (by decide) (by omega) (by decide) (fun c17_4 => absurd c17_4 (by omega)) (fun c17_4 => ?_)
  refine g_aload_n h 0 dX0_leftFrom_20 rfl rfl ?_
  refine g_get h 0 fa_X0_11 dX0_leftFrom_21 h0 rfl ?_
  refine g_iload_n h 1 dX0_leftFrom_24 rfl rfl ?_
  refine g_aald h 5 (v := .ref (c + 2 + i)) dX0_leftFrom_25 rfl rfl h1 (by omega) (by omega) (by rw [hf _ (by omega)]; rfl) ?_
  refine g_iload_n h 2 dX0_leftFrom_26 rfl rfl ?_
  refine g_iald h dX0_leftFrom_27 h3 (by omega) (by omega) ?_
  refine g_top (y := nI v) (h4) ?_
  refine g_goto h 32 dX0_leftFrom_28 (by decide) ?_
  exact g_iret h hr dX0_leftFrom_32 (⟨rfl, rfl⟩) (Nat.le_of_ble_eq_true rfl) (Nat.le_of_ble_eq_true rfl)
abbrev rm_X0_difference : Room := { frames := 1, cells := 0, slots := 0, locals := 22 }
set_option maxRecDepth 100000 in
set_option maxHeartbeats 4000000 in
theorem c_X0_difference (lau : Launch) (E : EnvD) (σ : Sto) {c : Nat} {f : Nat → Option Nat} (h0 : σ.1 c = some (cO 0 [.ref (c + 1)])) (h1 : σ.1 (c + 1) = some (cQ E 5 41 f)) (hf : ∀ i, i < 41 → f i = some (c + 2 + i)) {v : Nat} {g : Nat → Int32} (h3 : σ.1 (c + 2 + 0) = some (cI E 41 g)) (h4 : g 0 = nI v) : CC lau yX0_difference cX0_difference 1 (some .int) rm_X0_difference E [.ref c] σ (fun o s => o = some (.int (nI v)) ∧ s = σ) := by
  refine cc_of (vs := [_]) (by decide) (Nat.le_of_ble_eq_true rfl) rfl ?_
  intro X h hr hn
  refine g_aload_n h 0 dX0_difference_0 rfl rfl ?_
  refine g_iconst h (nI 0) dX0_difference_1 (by decide) ?_
  refine g_iconst h (nI 0) dX0_difference_2 (by decide) ?_
  refine g_callV h [] (c_X0_leftFrom (xL X) E _ h0 h1 hf (i := 0) (j := 0) (v := v) h3 h4 (by omega) (by omega)) cf_X0_32 cv_X0_leftFrom dX0_difference_3 rfl h0 rfl rfl (Nat.le_of_ble_eq_true rfl) ⟨(Nat.le_of_ble_eq_true rfl), (Nat.le_of_ble_eq_true rfl)⟩ ⟨(Nat.le_of_ble_eq_true rfl), (Nat.le_of_ble_eq_true rfl)⟩ ?_
  refine kk_det ?_
  exact g_iret h hr dX0_difference_6 (⟨rfl, rfl⟩) (Nat.le_of_ble_eq_true rfl) (Nat.le_of_ble_eq_true rfl)
abbrev rm_X0_differenceFrom : Room := { frames := 2, cells := 0, slots := 0, locals := 42 }
set_option maxRecDepth 100000 in
set_option maxHeartbeats 4000000 in
theorem c_X0_differenceFrom (lau : Launch) (E : EnvD) (σ : Sto) {c : Nat} {f : Nat → Option Nat} (h0 : σ.1 c = some (cO 0 [.ref (c + 1)])) (h1 : σ.1 (c + 1) = some (cQ E 5 41 f)) (hf : ∀ i, i < 41 → f i = some (c + 2 + i)) {r1 r2 n m : Nat} {l k : Nat → Int32} (hr1 : RowIs E σ r1 n l) (hr2 : RowIs E σ r2 m k) (hn40 : n ≤ 40) (hm40 : m ≤ 40) {i j : Nat} {Pd : Nat → Nat → Prop} (hi : i ≤ n) (hj : j ≤ m) (hT : TB E c σ Pd (ed l k n m)) (hP : ∀ a b, (a = i + 1 ∧ a ≤ n ∧ b ≤ m) ∨ (a = i ∧ b = j + 1 ∧ b ≤ m) → Pd a b) : CC lau yX0_differenceFrom cX0_differenceFrom 5 (some .int) rm_X0_differenceFrom E [.ref c, .ref r1, .int (nI i), .ref r2, .int (nI j)] σ (fun o s => o = some (.int (nI (ed l k n m i j))) ∧ s = σ) := by
  refine cc_of (vs := [_, _, _, _, _]) (by decide) (Nat.le_of_ble_eq_true rfl) rfl ?_
  intro X h hr hn
  refine g_aload_n h 1 dX0_differenceFrom_0 rfl rfl ?_
  refine g_iload_n h 2 dX0_differenceFrom_1 rfl rfl ?_
  refine g_callV h [] (r_has (xL X) hr1 hn40 (nI i)) cf_X0_35 cv_X2_has dX0_differenceFrom_2 rfl hr1.1 rfl rfl (Nat.le_of_ble_eq_true rfl) ⟨(Nat.le_of_ble_eq_true rfl), (Nat.le_of_ble_eq_true rfl)⟩ ⟨(Nat.le_of_ble_eq_true rfl), (Nat.le_of_ble_eq_true rfl)⟩ ?_
  refine kk_det ?_
  refine g_top (bI_iff (inR_nI (by omega) (by omega))) ?_
  refine g_if_neB h 16 dX0_differenceFrom_5 (by decide) (fun c5_1 => ?_) (fun c5_1 => ?_)
  · skip
    refine g_aload_n h 3 dX0_differenceFrom_16 rfl rfl ?_
    refine g_iload h dX0_differenceFrom_17 rfl ?_
    refine g_callV h [] (r_has (xL X) hr2 hm40 (nI j)) cf_X0_35 cv_X2_has dX0_differenceFrom_19 rfl hr2.1 rfl rfl (Nat.le_of_ble_eq_true rfl) ⟨(Nat.le_of_ble_eq_true rfl), (Nat.le_of_ble_eq_true rfl)⟩ ⟨(Nat.le_of_ble_eq_true rfl), (Nat.le_of_ble_eq_true rfl)⟩ ?_
    refine kk_det ?_
    refine g_top (bI_iff (inR_nI (by omega) (by omega))) ?_
    refine g_if_neB h 32 dX0_differenceFrom_22 (by decide) (fun c22_2 => ?_) (fun c22_2 => ?_)
    · skip
      refine g_aload_n h 1 dX0_differenceFrom_32 rfl rfl ?_
      refine g_iload_n h 2 dX0_differenceFrom_33 rfl rfl ?_
      refine g_callV h [] (r_at (xL X) hr1 hn40 (nI i)) cf_X0_39 cv_X2_at dX0_differenceFrom_34 rfl hr1.1 rfl rfl (Nat.le_of_ble_eq_true rfl) ⟨(Nat.le_of_ble_eq_true rfl), (Nat.le_of_ble_eq_true rfl)⟩ ⟨(Nat.le_of_ble_eq_true rfl), (Nat.le_of_ble_eq_true rfl)⟩ ?_
      refine kk_det ?_
      refine g_top (atV_in (by omega) (by omega)) ?_
      refine g_aload_n h 3 dX0_differenceFrom_37 rfl rfl ?_
      refine g_iload h dX0_differenceFrom_38 rfl ?_
      refine g_callV h [_] (r_at (xL X) hr2 hm40 (nI j)) cf_X0_39 cv_X2_at dX0_differenceFrom_40 rfl hr2.1 rfl rfl (Nat.le_of_ble_eq_true rfl) ⟨(Nat.le_of_ble_eq_true rfl), (Nat.le_of_ble_eq_true rfl)⟩ ⟨(Nat.le_of_ble_eq_true rfl), (Nat.le_of_ble_eq_true rfl)⟩ ?_
      refine kk_det ?_
      refine g_top (atV_in (by omega) (by omega)) ?_
      refine g_icmp_ne h 58 dX0_differenceFrom_43 (by decide) (fun c43_3 => ?_) (fun c43_3 => ?_)
      · skip
        refine g_iconst h (nI 1) dX0_differenceFrom_58 (by decide) ?_
        refine g_aload_n h 0 dX0_differenceFrom_59 rfl rfl ?_
        refine g_iload_n h 2 dX0_differenceFrom_60 rfl rfl ?_
        refine g_iconst h (nI 1) dX0_differenceFrom_61 (by decide) ?_
        refine g_iaddN h dX0_differenceFrom_62 ?_
        refine g_iload h dX0_differenceFrom_63 rfl ?_
        obtain ⟨gg, q1, q2⟩ := hT (i + 1) (by omega)
        refine g_callV h [_] (c_X0_leftFrom (xL X) E _ h0 h1 hf (i := i + 1) (j := j) (v := ed l k n m (i + 1) j) q1 (q2 _ (by omega) (by first | omega | (unfold Pd; omega) | exact hP _ _ (by omega))) (by omega) (by omega)) cf_X0_32 cv_X0_leftFrom dX0_differenceFrom_65 rfl h0 rfl rfl (Nat.le_of_ble_eq_true rfl) ⟨(Nat.le_of_ble_eq_true rfl), (Nat.le_of_ble_eq_true rfl)⟩ ⟨(Nat.le_of_ble_eq_true rfl), (Nat.le_of_ble_eq_true rfl)⟩ ?_
        refine kk_det ?_
        refine g_aload_n h 0 dX0_differenceFrom_68 rfl rfl ?_
        refine g_iload_n h 2 dX0_differenceFrom_69 rfl rfl ?_
        refine g_iload h dX0_differenceFrom_70 rfl ?_
        refine g_iconst h (nI 1) dX0_differenceFrom_72 (by decide) ?_
        refine g_iaddN h dX0_differenceFrom_73 ?_
        obtain ⟨gg, q1, q2⟩ := hT (i) (by omega)
        refine g_callV h [_, _] (c_X0_leftFrom (xL X) E _ h0 h1 hf (i := i) (j := j + 1) (v := ed l k n m i (j + 1)) q1 (q2 _ (by omega) (by first | omega | (unfold Pd; omega) | exact hP _ _ (by omega))) (by omega) (by omega)) cf_X0_32 cv_X0_leftFrom dX0_differenceFrom_74 rfl h0 rfl rfl (Nat.le_of_ble_eq_true rfl) ⟨(Nat.le_of_ble_eq_true rfl), (Nat.le_of_ble_eq_true rfl)⟩ ⟨(Nat.le_of_ble_eq_true rfl), (Nat.le_of_ble_eq_true rfl)⟩ ?_
        refine kk_det ?_
        refine g_min h mm_X0_22 dX0_differenceFrom_77 ⟨(Nat.le_of_ble_eq_true rfl), (Nat.le_of_ble_eq_true rfl)⟩ (Nat.le_of_ble_eq_true rfl) (Nat.le_of_ble_eq_true rfl) ?_
        have z1 := ed_le l k n m (i + 1) j
        have z2 := ed_le l k n m i (j + 1)
        refine g_top (min_nI (by omega) (by omega)) ?_
        refine g_iaddN h dX0_differenceFrom_80 ?_
        exact g_iret h hr dX0_differenceFrom_81 (retI (congrArg nI (ed_ne (by omega) (by omega) c43_3).symm)) (Nat.le_of_ble_eq_true rfl) (Nat.le_of_ble_eq_true rfl)
      · skip
        refine g_aload_n h 0 dX0_differenceFrom_46 rfl rfl ?_
        refine g_iload_n h 2 dX0_differenceFrom_47 rfl rfl ?_
        refine g_iconst h (nI 1) dX0_differenceFrom_48 (by decide) ?_
        refine g_iaddN h dX0_differenceFrom_49 ?_
        refine g_iload h dX0_differenceFrom_50 rfl ?_
        refine g_iconst h (nI 1) dX0_differenceFrom_52 (by decide) ?_
        refine g_iaddN h dX0_differenceFrom_53 ?_
        obtain ⟨gg, q1, q2⟩ := hT (i + 1) (by omega)
        refine g_callV h [] (c_X0_leftFrom (xL X) E _ h0 h1 hf (i := i + 1) (j := j + 1) (v := ed l k n m (i + 1) (j + 1)) q1 (q2 _ (by omega) (by first | omega | (unfold Pd; omega) | exact hP _ _ (by omega))) (by omega) (by omega)) cf_X0_32 cv_X0_leftFrom dX0_differenceFrom_54 rfl h0 rfl rfl (Nat.le_of_ble_eq_true rfl) ⟨(Nat.le_of_ble_eq_true rfl), (Nat.le_of_ble_eq_true rfl)⟩ ⟨(Nat.le_of_ble_eq_true rfl), (Nat.le_of_ble_eq_true rfl)⟩ ?_
        refine kk_det ?_
        exact g_iret h hr dX0_differenceFrom_57 (retI (congrArg nI (ed_eq (by omega) (by omega) c43_3).symm)) (Nat.le_of_ble_eq_true rfl) (Nat.le_of_ble_eq_true rfl)
    · skip
      refine g_aload_n h 1 dX0_differenceFrom_25 rfl rfl ?_
      refine g_get h 1 fa_X0_16 dX0_differenceFrom_26 hr1.1 rfl ?_
      refine g_iload_n h 2 dX0_differenceFrom_29 rfl rfl ?_
      refine g_isubN h dX0_differenceFrom_30 (by omega) ?_
      exact g_iret h hr dX0_differenceFrom_31 (retI (congrArg nI (ed_o2 (by omega) (by omega)).symm)) (Nat.le_of_ble_eq_true rfl) (Nat.le_of_ble_eq_true rfl)
  · skip
    refine g_aload_n h 3 dX0_differenceFrom_8 rfl rfl ?_
    refine g_get h 1 fa_X0_16 dX0_differenceFrom_9 hr2.1 rfl ?_
    refine g_iload h dX0_differenceFrom_12 rfl ?_
    refine g_isubN h dX0_differenceFrom_14 (by omega) ?_
    exact g_iret h hr dX0_differenceFrom_15 (retI (congrArg nI (ed_o1 (by omega)).symm)) (Nat.le_of_ble_eq_true rfl) (Nat.le_of_ble_eq_true rfl)
abbrev rm_X0_stepFrom : Room := { frames := 2, cells := 0, slots := 0, locals := 42 }
set_option maxRecDepth 100000 in
set_option maxHeartbeats 4000000 in
theorem c_X0_stepFrom (lau : Launch) (E : EnvD) (σ : Sto) {c : Nat} {f : Nat → Option Nat} (h0 : σ.1 c = some (cO 0 [.ref (c + 1)])) (h1 : σ.1 (c + 1) = some (cQ E 5 41 f)) (hf : ∀ i, i < 41 → f i = some (c + 2 + i)) {r1 r2 n m : Nat} {l k : Nat → Int32} (hr1 : RowIs E σ r1 n l) (hr2 : RowIs E σ r2 m k) (hn40 : n ≤ 40) (hm40 : m ≤ 40) {i j : Nat} (hi : i ≤ n) (hj : j ≤ m) (hT : TB E c σ (fun a b => a ≤ n ∧ b ≤ m) (ed l k n m)) : CC lau yX0_stepFrom cX0_stepFrom 6 (some .int) rm_X0_stepFrom E [.ref c, .ref r1, .int (nI i), .ref r2, .int (nI j)] σ (fun o s => o = some (.int (nI (way l k n m i j))) ∧ s = σ) := by
  refine cc_of (vs := [_, _, _, _, _, _]) (by decide) (Nat.le_of_ble_eq_true rfl) rfl ?_
  intro X h hr hn
  refine g_aload_n h 1 dX0_stepFrom_0 rfl rfl ?_
  refine g_iload_n h 2 dX0_stepFrom_1 rfl rfl ?_
  refine g_callV h [] (r_has (xL X) hr1 hn40 (nI i)) cf_X0_35 cv_X2_has dX0_stepFrom_2 rfl hr1.1 rfl rfl (Nat.le_of_ble_eq_true rfl) ⟨(Nat.le_of_ble_eq_true rfl), (Nat.le_of_ble_eq_true rfl)⟩ ⟨(Nat.le_of_ble_eq_true rfl), (Nat.le_of_ble_eq_true rfl)⟩ ?_
  refine kk_det ?_
  refine g_top (bI_iff (inR_nI (by omega) (by omega))) ?_
  refine g_if_eqB h 33 dX0_stepFrom_5 (by decide) (fun c5_1 => ?_) (fun c5_1 => ?_)
  · skip
    refine g_aload_n h 1 dX0_stepFrom_33 rfl rfl ?_
    refine g_iload_n h 2 dX0_stepFrom_34 rfl rfl ?_
    refine g_callV h [] (r_has (xL X) hr1 hn40 (nI i)) cf_X0_35 cv_X2_has dX0_stepFrom_35 rfl hr1.1 rfl rfl (Nat.le_of_ble_eq_true rfl) ⟨(Nat.le_of_ble_eq_true rfl), (Nat.le_of_ble_eq_true rfl)⟩ ⟨(Nat.le_of_ble_eq_true rfl), (Nat.le_of_ble_eq_true rfl)⟩ ?_
    refine kk_det ?_
    refine g_top (bI_iff (inR_nI (by omega) (by omega))) ?_
    refine g_if_eqB h 66 dX0_stepFrom_38 (by decide) (fun c38_2 => ?_) (fun c38_2 => ?_)
    · skip
      refine g_iconst h (nI 0) dX0_stepFrom_66 (by decide) ?_
      refine g_istore (vs' := [_, _, _, _, _, _]) h dX0_stepFrom_67 (Nat.le_of_ble_eq_true rfl) rfl rfl ?_
      refine g_iload h dX0_stepFrom_69 rfl ?_
      refine g_if_eqN h 78 dX0_stepFrom_71 (by decide) (by decide) (fun c71_3 => ?_) (fun c71_3 => absurd c71_3 (by omega))
      refine g_iconst h (nI 2) dX0_stepFrom_78 (by decide) ?_
      exact g_iret h hr dX0_stepFrom_79 (retI (congrArg nI (by unfold way; grind))) (Nat.le_of_ble_eq_true rfl) (Nat.le_of_ble_eq_true rfl)
    · skip
      refine g_aload_n h 0 dX0_stepFrom_41 rfl rfl ?_
      refine g_iload_n h 2 dX0_stepFrom_42 rfl rfl ?_
      refine g_iconst h (nI 1) dX0_stepFrom_43 (by decide) ?_
      refine g_iaddN h dX0_stepFrom_44 ?_
      refine g_iload h dX0_stepFrom_45 rfl ?_
      obtain ⟨gg, q1, q2⟩ := hT (i + 1) (by omega)
      refine g_callV h [] (c_X0_leftFrom (xL X) E _ h0 h1 hf (i := i + 1) (j := j) (v := ed l k n m (i + 1) j) q1 (q2 _ (by omega) (by first | omega | (unfold Pd; omega) | exact hP _ _ (by omega))) (by omega) (by omega)) cf_X0_32 cv_X0_leftFrom dX0_stepFrom_47 rfl h0 rfl rfl (Nat.le_of_ble_eq_true rfl) ⟨(Nat.le_of_ble_eq_true rfl), (Nat.le_of_ble_eq_true rfl)⟩ ⟨(Nat.le_of_ble_eq_true rfl), (Nat.le_of_ble_eq_true rfl)⟩ ?_
      refine kk_det ?_
      refine g_iconst h (nI 1) dX0_stepFrom_50 (by decide) ?_
      refine g_iaddN h dX0_stepFrom_51 ?_
      refine g_aload_n h 0 dX0_stepFrom_52 rfl rfl ?_
      refine g_iload_n h 2 dX0_stepFrom_53 rfl rfl ?_
      refine g_iload h dX0_stepFrom_54 rfl ?_
      obtain ⟨gg, q1, q2⟩ := hT (i) (by omega)
      refine g_callV h [_] (c_X0_leftFrom (xL X) E _ h0 h1 hf (i := i) (j := j) (v := ed l k n m i j) q1 (q2 _ (by omega) (by first | omega | (unfold Pd; omega) | exact hP _ _ (by omega))) (by omega) (by omega)) cf_X0_32 cv_X0_leftFrom dX0_stepFrom_56 rfl h0 rfl rfl (Nat.le_of_ble_eq_true rfl) ⟨(Nat.le_of_ble_eq_true rfl), (Nat.le_of_ble_eq_true rfl)⟩ ⟨(Nat.le_of_ble_eq_true rfl), (Nat.le_of_ble_eq_true rfl)⟩ ?_
      refine kk_det ?_
      refine g_icmp_neN h 66 dX0_stepFrom_59 (by decide) (by have := ed_le l k n m (i + 1) j; have := ed_le l k n m i j; omega) (by have := ed_le l k n m (i + 1) j; have := ed_le l k n m i j; omega) (fun c59_4 => ?_) (fun c59_4 => ?_)
      · skip
        refine g_iconst h (nI 0) dX0_stepFrom_66 (by decide) ?_
        refine g_istore (vs' := [_, _, _, _, _, _]) h dX0_stepFrom_67 (Nat.le_of_ble_eq_true rfl) rfl rfl ?_
        refine g_iload h dX0_stepFrom_69 rfl ?_
        refine g_if_eqN h 78 dX0_stepFrom_71 (by decide) (by decide) (fun c71_5 => ?_) (fun c71_5 => absurd c71_5 (by omega))
        refine g_iconst h (nI 2) dX0_stepFrom_78 (by decide) ?_
        exact g_iret h hr dX0_stepFrom_79 (retI (congrArg nI (by unfold way; grind))) (Nat.le_of_ble_eq_true rfl) (Nat.le_of_ble_eq_true rfl)
      · skip
        refine g_iconst h (nI 1) dX0_stepFrom_62 (by decide) ?_
        refine g_goto h 67 dX0_stepFrom_63 (by decide) ?_
        refine g_istore (vs' := [_, _, _, _, _, _]) h dX0_stepFrom_67 (Nat.le_of_ble_eq_true rfl) rfl rfl ?_
        refine g_iload h dX0_stepFrom_69 rfl ?_
        refine g_if_eqN h 78 dX0_stepFrom_71 (by decide) (by decide) (fun c71_6 => absurd c71_6 (by omega)) (fun c71_6 => ?_)
        refine g_iconst h (nI 1) dX0_stepFrom_74 (by decide) ?_
        refine g_goto h 79 dX0_stepFrom_75 (by decide) ?_
        exact g_iret h hr dX0_stepFrom_79 (retI (congrArg nI (by unfold way; grind))) (Nat.le_of_ble_eq_true rfl) (Nat.le_of_ble_eq_true rfl)
  · skip
    refine g_aload_n h 3 dX0_stepFrom_8 rfl rfl ?_
    refine g_iload h dX0_stepFrom_9 rfl ?_
    refine g_callV h [] (r_has (xL X) hr2 hm40 (nI j)) cf_X0_35 cv_X2_has dX0_stepFrom_11 rfl hr2.1 rfl rfl (Nat.le_of_ble_eq_true rfl) ⟨(Nat.le_of_ble_eq_true rfl), (Nat.le_of_ble_eq_true rfl)⟩ ⟨(Nat.le_of_ble_eq_true rfl), (Nat.le_of_ble_eq_true rfl)⟩ ?_
    refine kk_det ?_
    refine g_top (bI_iff (inR_nI (by omega) (by omega))) ?_
    refine g_if_eqB h 33 dX0_stepFrom_14 (by decide) (fun c14_7 => ?_) (fun c14_7 => ?_)
    · skip
      refine g_aload_n h 1 dX0_stepFrom_33 rfl rfl ?_
      refine g_iload_n h 2 dX0_stepFrom_34 rfl rfl ?_
      refine g_callV h [] (r_has (xL X) hr1 hn40 (nI i)) cf_X0_35 cv_X2_has dX0_stepFrom_35 rfl hr1.1 rfl rfl (Nat.le_of_ble_eq_true rfl) ⟨(Nat.le_of_ble_eq_true rfl), (Nat.le_of_ble_eq_true rfl)⟩ ⟨(Nat.le_of_ble_eq_true rfl), (Nat.le_of_ble_eq_true rfl)⟩ ?_
      refine kk_det ?_
      refine g_top (bI_iff (inR_nI (by omega) (by omega))) ?_
      refine g_if_eqB h 66 dX0_stepFrom_38 (by decide) (fun c38_8 => ?_) (fun c38_8 => ?_)
      · skip
        refine g_iconst h (nI 0) dX0_stepFrom_66 (by decide) ?_
        refine g_istore (vs' := [_, _, _, _, _, _]) h dX0_stepFrom_67 (Nat.le_of_ble_eq_true rfl) rfl rfl ?_
        refine g_iload h dX0_stepFrom_69 rfl ?_
        refine g_if_eqN h 78 dX0_stepFrom_71 (by decide) (by decide) (fun c71_9 => ?_) (fun c71_9 => absurd c71_9 (by omega))
        refine g_iconst h (nI 2) dX0_stepFrom_78 (by decide) ?_
        exact g_iret h hr dX0_stepFrom_79 (retI (congrArg nI (by unfold way; grind))) (Nat.le_of_ble_eq_true rfl) (Nat.le_of_ble_eq_true rfl)
      · skip
        refine g_aload_n h 0 dX0_stepFrom_41 rfl rfl ?_
        refine g_iload_n h 2 dX0_stepFrom_42 rfl rfl ?_
        refine g_iconst h (nI 1) dX0_stepFrom_43 (by decide) ?_
        refine g_iaddN h dX0_stepFrom_44 ?_
        refine g_iload h dX0_stepFrom_45 rfl ?_
        obtain ⟨gg, q1, q2⟩ := hT (i + 1) (by omega)
        refine g_callV h [] (c_X0_leftFrom (xL X) E _ h0 h1 hf (i := i + 1) (j := j) (v := ed l k n m (i + 1) j) q1 (q2 _ (by omega) (by first | omega | (unfold Pd; omega) | exact hP _ _ (by omega))) (by omega) (by omega)) cf_X0_32 cv_X0_leftFrom dX0_stepFrom_47 rfl h0 rfl rfl (Nat.le_of_ble_eq_true rfl) ⟨(Nat.le_of_ble_eq_true rfl), (Nat.le_of_ble_eq_true rfl)⟩ ⟨(Nat.le_of_ble_eq_true rfl), (Nat.le_of_ble_eq_true rfl)⟩ ?_
        refine kk_det ?_
        refine g_iconst h (nI 1) dX0_stepFrom_50 (by decide) ?_
        refine g_iaddN h dX0_stepFrom_51 ?_
        refine g_aload_n h 0 dX0_stepFrom_52 rfl rfl ?_
        refine g_iload_n h 2 dX0_stepFrom_53 rfl rfl ?_
        refine g_iload h dX0_stepFrom_54 rfl ?_
        obtain ⟨gg, q1, q2⟩ := hT (i) (by omega)
        refine g_callV h [_] (c_X0_leftFrom (xL X) E _ h0 h1 hf (i := i) (j := j) (v := ed l k n m i j) q1 (q2 _ (by omega) (by first | omega | (unfold Pd; omega) | exact hP _ _ (by omega))) (by omega) (by omega)) cf_X0_32 cv_X0_leftFrom dX0_stepFrom_56 rfl h0 rfl rfl (Nat.le_of_ble_eq_true rfl) ⟨(Nat.le_of_ble_eq_true rfl), (Nat.le_of_ble_eq_true rfl)⟩ ⟨(Nat.le_of_ble_eq_true rfl), (Nat.le_of_ble_eq_true rfl)⟩ ?_
        refine kk_det ?_
        refine g_icmp_neN h 66 dX0_stepFrom_59 (by decide) (by have := ed_le l k n m (i + 1) j; have := ed_le l k n m i j; omega) (by have := ed_le l k n m (i + 1) j; have := ed_le l k n m i j; omega) (fun c59_10 => ?_) (fun c59_10 => ?_)
        · skip
          refine g_iconst h (nI 0) dX0_stepFrom_66 (by decide) ?_
          refine g_istore (vs' := [_, _, _, _, _, _]) h dX0_stepFrom_67 (Nat.le_of_ble_eq_true rfl) rfl rfl ?_
          refine g_iload h dX0_stepFrom_69 rfl ?_
          refine g_if_eqN h 78 dX0_stepFrom_71 (by decide) (by decide) (fun c71_11 => ?_) (fun c71_11 => absurd c71_11 (by omega))
          refine g_iconst h (nI 2) dX0_stepFrom_78 (by decide) ?_
          exact g_iret h hr dX0_stepFrom_79 (retI (congrArg nI (by unfold way; grind))) (Nat.le_of_ble_eq_true rfl) (Nat.le_of_ble_eq_true rfl)
        · skip
          refine g_iconst h (nI 1) dX0_stepFrom_62 (by decide) ?_
          refine g_goto h 67 dX0_stepFrom_63 (by decide) ?_
          refine g_istore (vs' := [_, _, _, _, _, _]) h dX0_stepFrom_67 (Nat.le_of_ble_eq_true rfl) rfl rfl ?_
          refine g_iload h dX0_stepFrom_69 rfl ?_
          refine g_if_eqN h 78 dX0_stepFrom_71 (by decide) (by decide) (fun c71_12 => absurd c71_12 (by omega)) (fun c71_12 => ?_)
          refine g_iconst h (nI 1) dX0_stepFrom_74 (by decide) ?_
          refine g_goto h 79 dX0_stepFrom_75 (by decide) ?_
          exact g_iret h hr dX0_stepFrom_79 (retI (congrArg nI (by unfold way; grind))) (Nat.le_of_ble_eq_true rfl) (Nat.le_of_ble_eq_true rfl)
    · skip
      refine g_aload_n h 1 dX0_stepFrom_17 rfl rfl ?_
      refine g_iload_n h 2 dX0_stepFrom_18 rfl rfl ?_
      refine g_callV h [] (r_at (xL X) hr1 hn40 (nI i)) cf_X0_39 cv_X2_at dX0_stepFrom_19 rfl hr1.1 rfl rfl (Nat.le_of_ble_eq_true rfl) ⟨(Nat.le_of_ble_eq_true rfl), (Nat.le_of_ble_eq_true rfl)⟩ ⟨(Nat.le_of_ble_eq_true rfl), (Nat.le_of_ble_eq_true rfl)⟩ ?_
      refine kk_det ?_
      refine g_top (atV_in (by omega) (by omega)) ?_
      refine g_aload_n h 3 dX0_stepFrom_22 rfl rfl ?_
      refine g_iload h dX0_stepFrom_23 rfl ?_
      refine g_callV h [_] (r_at (xL X) hr2 hm40 (nI j)) cf_X0_39 cv_X2_at dX0_stepFrom_25 rfl hr2.1 rfl rfl (Nat.le_of_ble_eq_true rfl) ⟨(Nat.le_of_ble_eq_true rfl), (Nat.le_of_ble_eq_true rfl)⟩ ⟨(Nat.le_of_ble_eq_true rfl), (Nat.le_of_ble_eq_true rfl)⟩ ?_
      refine kk_det ?_
      refine g_top (atV_in (by omega) (by omega)) ?_
      refine g_icmp_ne h 33 dX0_stepFrom_28 (by decide) (fun c28_13 => ?_) (fun c28_13 => ?_)
      · skip
        refine g_aload_n h 1 dX0_stepFrom_33 rfl rfl ?_
        refine g_iload_n h 2 dX0_stepFrom_34 rfl rfl ?_
        refine g_callV h [] (r_has (xL X) hr1 hn40 (nI i)) cf_X0_35 cv_X2_has dX0_stepFrom_35 rfl hr1.1 rfl rfl (Nat.le_of_ble_eq_true rfl) ⟨(Nat.le_of_ble_eq_true rfl), (Nat.le_of_ble_eq_true rfl)⟩ ⟨(Nat.le_of_ble_eq_true rfl), (Nat.le_of_ble_eq_true rfl)⟩ ?_
        refine kk_det ?_
        refine g_top (bI_iff (inR_nI (by omega) (by omega))) ?_
        refine g_if_eqB h 66 dX0_stepFrom_38 (by decide) (fun c38_14 => ?_) (fun c38_14 => ?_)
        · skip
          refine g_iconst h (nI 0) dX0_stepFrom_66 (by decide) ?_
          refine g_istore (vs' := [_, _, _, _, _, _]) h dX0_stepFrom_67 (Nat.le_of_ble_eq_true rfl) rfl rfl ?_
          refine g_iload h dX0_stepFrom_69 rfl ?_
          refine g_if_eqN h 78 dX0_stepFrom_71 (by decide) (by decide) (fun c71_15 => ?_) (fun c71_15 => absurd c71_15 (by omega))
          refine g_iconst h (nI 2) dX0_stepFrom_78 (by decide) ?_
          exact g_iret h hr dX0_stepFrom_79 (retI (congrArg nI (by unfold way; grind))) (Nat.le_of_ble_eq_true rfl) (Nat.le_of_ble_eq_true rfl)
        · skip
          refine g_aload_n h 0 dX0_stepFrom_41 rfl rfl ?_
          refine g_iload_n h 2 dX0_stepFrom_42 rfl rfl ?_
          refine g_iconst h (nI 1) dX0_stepFrom_43 (by decide) ?_
          refine g_iaddN h dX0_stepFrom_44 ?_
          refine g_iload h dX0_stepFrom_45 rfl ?_
          obtain ⟨gg, q1, q2⟩ := hT (i + 1) (by omega)
          refine g_callV h [] (c_X0_leftFrom (xL X) E _ h0 h1 hf (i := i + 1) (j := j) (v := ed l k n m (i + 1) j) q1 (q2 _ (by omega) (by first | omega | (unfold Pd; omega) | exact hP _ _ (by omega))) (by omega) (by omega)) cf_X0_32 cv_X0_leftFrom dX0_stepFrom_47 rfl h0 rfl rfl (Nat.le_of_ble_eq_true rfl) ⟨(Nat.le_of_ble_eq_true rfl), (Nat.le_of_ble_eq_true rfl)⟩ ⟨(Nat.le_of_ble_eq_true rfl), (Nat.le_of_ble_eq_true rfl)⟩ ?_
          refine kk_det ?_
          refine g_iconst h (nI 1) dX0_stepFrom_50 (by decide) ?_
          refine g_iaddN h dX0_stepFrom_51 ?_
          refine g_aload_n h 0 dX0_stepFrom_52 rfl rfl ?_
          refine g_iload_n h 2 dX0_stepFrom_53 rfl rfl ?_
          refine g_iload h dX0_stepFrom_54 rfl ?_
          obtain ⟨gg, q1, q2⟩ := hT (i) (by omega)
          refine g_callV h [_] (c_X0_leftFrom (xL X) E _ h0 h1 hf (i := i) (j := j) (v := ed l k n m i j) q1 (q2 _ (by omega) (by first | omega | (unfold Pd; omega) | exact hP _ _ (by omega))) (by omega) (by omega)) cf_X0_32 cv_X0_leftFrom dX0_stepFrom_56 rfl h0 rfl rfl (Nat.le_of_ble_eq_true rfl) ⟨(Nat.le_of_ble_eq_true rfl), (Nat.le_of_ble_eq_true rfl)⟩ ⟨(Nat.le_of_ble_eq_true rfl), (Nat.le_of_ble_eq_true rfl)⟩ ?_
          refine kk_det ?_
          refine g_icmp_neN h 66 dX0_stepFrom_59 (by decide) (by have := ed_le l k n m (i + 1) j; have := ed_le l k n m i j; omega) (by have := ed_le l k n m (i + 1) j; have := ed_le l k n m i j; omega) (fun c59_16 => ?_) (fun c59_16 => ?_)
          · skip
            refine g_iconst h (nI 0) dX0_stepFrom_66 (by decide) ?_
            refine g_istore (vs' := [_, _, _, _, _, _]) h dX0_stepFrom_67 (Nat.le_of_ble_eq_true rfl) rfl rfl ?_
            refine g_iload h dX0_stepFrom_69 rfl ?_
            refine g_if_eqN h 78 dX0_stepFrom_71 (by decide) (by decide) (fun c71_17 => ?_) (fun c71_17 => absurd c71_17 (by omega))
            refine g_iconst h (nI 2) dX0_stepFrom_78 (by decide) ?_
            exact g_iret h hr dX0_stepFrom_79 (retI (congrArg nI (by unfold way; grind))) (Nat.le_of_ble_eq_true rfl) (Nat.le_of_ble_eq_true rfl)
          · skip
            refine g_iconst h (nI 1) dX0_stepFrom_62 (by decide) ?_
            refine g_goto h 67 dX0_stepFrom_63 (by decide) ?_
            refine g_istore (vs' := [_, _, _, _, _, _]) h dX0_stepFrom_67 (Nat.le_of_ble_eq_true rfl) rfl rfl ?_
            refine g_iload h dX0_stepFrom_69 rfl ?_
            refine g_if_eqN h 78 dX0_stepFrom_71 (by decide) (by decide) (fun c71_18 => absurd c71_18 (by omega)) (fun c71_18 => ?_)
            refine g_iconst h (nI 1) dX0_stepFrom_74 (by decide) ?_
            refine g_goto h 79 dX0_stepFrom_75 (by decide) ?_
            exact g_iret h hr dX0_stepFrom_79 (retI (congrArg nI (by unfold way; grind))) (Nat.le_of_ble_eq_true rfl) (Nat.le_of_ble_eq_true rfl)
      · skip
        refine g_iconst h (nI 0) dX0_stepFrom_31 (by decide) ?_
        exact g_iret h hr dX0_stepFrom_32 (retI (congrArg nI (by unfold way; grind))) (Nat.le_of_ble_eq_true rfl) (Nat.le_of_ble_eq_true rfl)
abbrev rm_X0_stepAt : Room := { frames := 3, cells := 0, slots := 0, locals := 67 }
set_option maxRecDepth 100000 in
set_option maxHeartbeats 4000000 in
theorem c_X0_stepAt (lau : Launch) (E : EnvD) (σ : Sto) {c : Nat} {f : Nat → Option Nat} (h0 : σ.1 c = some (cO 0 [.ref (c + 1)])) (h1 : σ.1 (c + 1) = some (cQ E 5 41 f)) (hf : ∀ i, i < 41 → f i = some (c + 2 + i)) {r1 r2 n m : Nat} {l k : Nat → Int32} (hr1 : RowIs E σ r1 n l) (hr2 : RowIs E σ r2 m k) (hn40 : n ≤ 40) (hm40 : m ≤ 40) {t : Nat} (ht : t < n + m) (hT : TB E c σ (fun a b => a ≤ n ∧ b ≤ m) (ed l k n m)) : CC lau yX0_stepAt cX0_stepAt 8 (some .int) rm_X0_stepAt E [.ref c, .ref r1, .ref r2, .int (nI t)] σ (fun o s => o = some (.int (pth l k n m (n + m) t 0 0)) ∧ s = σ) := by
  refine cc_of (vs := [_, _, _, _, _, _, _, _]) (by decide) (Nat.le_of_ble_eq_true rfl) rfl ?_
  intro X h hr hn
  refine g_iconst h (nI 0) dX0_stepAt_0 (by decide) ?_
  refine g_istore (vs' := [_, _, _, _, _, _, _, _]) h dX0_stepAt_1 (Nat.le_of_ble_eq_true rfl) rfl rfl ?_
  refine g_iconst h (nI 0) dX0_stepAt_3 (by decide) ?_
  refine g_istore (vs' := [_, _, _, _, _, _, _, _]) h dX0_stepAt_4 (Nat.le_of_ble_eq_true rfl) rfl rfl ?_
  refine g_iconst h (nI 0) dX0_stepAt_6 (by decide) ?_
  refine g_istore (vs' := [_, _, _, _, _, _, _, _]) h dX0_stepAt_7 (Nat.le_of_ble_eq_true rfl) rfl rfl ?_
  have L9 : ∀ (m0 : Nat) (i : Nat) (j : Nat) (q : Nat), (i ≤ n) → (j ≤ m) → (q ≤ t) → (pth l k n m (n + m - q) (t - q) i j = pth l k n m (n + m) t 0 0) → (n + m - q) < m0 → G X E 8 (AD σ) (QF X E σ (fun o s => o = some (.int (pth l k n m (n + m) t 0 0)) ∧ s = σ) rm_X0_stepAt) 0 0 9 [some (.ref c), some (.ref r1), some (.ref r2), some (.int (nI t)), some (.int (nI i)), some (.int (nI j)), some (.int (nI q)), none] [] σ := by
    intro m0
    induction m0 with
    | zero => intro i j q _ _ _ _ hm0; exact absurd hm0 (Nat.not_lt_zero _)
    | succ m0 ih =>
      intro i j q hi hj hq hR hm0
      refine g_iload h dX0_stepAt_9 rfl ?_
      refine g_aload_n h 1 dX0_stepAt_11 rfl rfl ?_
      refine g_get h 1 fa_X0_16 dX0_stepAt_12 hr1.1 rfl ?_
      refine g_aload_n h 2 dX0_stepAt_15 rfl rfl ?_
      refine g_get h 1 fa_X0_16 dX0_stepAt_16 hr2.1 rfl ?_
      refine g_iaddN h dX0_stepAt_19 ?_
      refine g_icmp_geN h 86 dX0_stepAt_20 (by decide) (by omega) (by omega) (fun c20_1 => absurd c20_1 (by omega)) (fun c20_1 => ?_)
      refine g_aload_n h 1 dX0_stepAt_23 rfl rfl ?_
      refine g_iload h dX0_stepAt_24 rfl ?_
      refine g_callV h [] (r_has (xL X) hr1 hn40 (nI i)) cf_X0_35 cv_X2_has dX0_stepAt_26 rfl hr1.1 rfl rfl (Nat.le_of_ble_eq_true rfl) ⟨(Nat.le_of_ble_eq_true rfl), (Nat.le_of_ble_eq_true rfl)⟩ ⟨(Nat.le_of_ble_eq_true rfl), (Nat.le_of_ble_eq_true rfl)⟩ ?_
      refine kk_det ?_
      refine g_top (bI_iff (inR_nI (by omega) (by omega))) ?_
      refine g_if_neB h 41 dX0_stepAt_29 (by decide) (fun c29_2 => ?_) (fun c29_2 => ?_)
      · skip
        refine g_aload_n h 0 dX0_stepAt_41 rfl rfl ?_
        refine g_aload_n h 1 dX0_stepAt_42 rfl rfl ?_
        refine g_iload h dX0_stepAt_43 rfl ?_
        refine g_aload_n h 2 dX0_stepAt_45 rfl rfl ?_
        refine g_iload h dX0_stepAt_46 rfl ?_
        refine g_callV h [] (c_X0_stepFrom (xL X) E _ h0 h1 hf hr1 hr2 hn40 hm40 (i := i) (j := j) (by omega) (by omega) hT) cf_X0_43 cv_X0_stepFrom dX0_stepAt_48 rfl h0 rfl rfl (Nat.le_of_ble_eq_true rfl) ⟨(Nat.le_of_ble_eq_true rfl), (Nat.le_of_ble_eq_true rfl)⟩ ⟨(Nat.le_of_ble_eq_true rfl), (Nat.le_of_ble_eq_true rfl)⟩ ?_
        refine kk_det ?_
        have hw2 := @way_le l k n m i j
        refine g_istore (vs' := [_, _, _, _, _, _, _, _]) h dX0_stepAt_51 (Nat.le_of_ble_eq_true rfl) rfl rfl ?_
        refine g_iload h dX0_stepAt_53 rfl ?_
        refine g_iload_n h 3 dX0_stepAt_55 rfl rfl ?_
        refine g_icmp_neN h 62 dX0_stepAt_56 (by decide) (by omega) (by omega) (fun c56_3 => ?_) (fun c56_3 => ?_)
        · skip
          refine g_iload h dX0_stepAt_62 rfl ?_
          refine g_iconst h (nI 2) dX0_stepAt_64 (by decide) ?_
          refine g_icmp_eqN h 71 dX0_stepAt_65 (by decide) (by omega) (by decide) (fun c65_4 => ?_) (fun c65_4 => ?_)
          · skip
            refine g_iload h dX0_stepAt_71 rfl ?_
            refine g_iconst h (nI 1) dX0_stepAt_73 (by decide) ?_
            refine g_icmp_eqN h 80 dX0_stepAt_74 (by decide) (by omega) (by decide) (fun c74_5 => ?_) (fun c74_5 => ?_)
            · skip
              refine g_iinc (vs' := [_, _, _, _, _, _, _, _]) h (nI (q + 1)) dX0_stepAt_80 rfl (by first | exact nI_1 _ | rfl) (Nat.le_of_ble_eq_true rfl) rfl rfl ?_
              refine g_goto h 9 dX0_stepAt_83 (by decide) ?_
              refine g_few (vs' := [some (.ref c), some (.ref r1), some (.ref r2), some (.int (nI t)), some (.int (nI i)), some (.int (nI j)), some (.int (nI (q + 1))), none]) ⟨Or.inr rfl, Or.inr rfl, Or.inr rfl, Or.inr rfl, Or.inr rfl, Or.inr rfl, Or.inr rfl, Or.inl rfl, trivial⟩ ?_
              have hij : i < n ∨ j < m := by omega
              have w1 := @way_i l k n m i j hij
              have w2 := @way_j l k n m i j hij
              refine ih (i) (j) (q + 1) (by omega) (by omega) (by omega) ?_ (by omega)
              rw [← hR, show n + m - q = (n + m - (q + 1)) + 1 by omega, pth, if_pos hij, if_neg (by omega), if_pos (by omega), if_pos (by omega), show t - (q + 1) = t - q - 1 by omega]
            · skip
              refine g_iinc (vs' := [_, _, _, _, _, _, _, _]) h (nI (j + 1)) dX0_stepAt_77 rfl (by first | exact nI_1 _ | rfl) (Nat.le_of_ble_eq_true rfl) rfl rfl ?_
              refine g_iinc (vs' := [_, _, _, _, _, _, _, _]) h (nI (q + 1)) dX0_stepAt_80 rfl (by first | exact nI_1 _ | rfl) (Nat.le_of_ble_eq_true rfl) rfl rfl ?_
              refine g_goto h 9 dX0_stepAt_83 (by decide) ?_
              refine g_few (vs' := [some (.ref c), some (.ref r1), some (.ref r2), some (.int (nI t)), some (.int (nI i)), some (.int (nI (j + 1))), some (.int (nI (q + 1))), none]) ⟨Or.inr rfl, Or.inr rfl, Or.inr rfl, Or.inr rfl, Or.inr rfl, Or.inr rfl, Or.inr rfl, Or.inl rfl, trivial⟩ ?_
              have hij : i < n ∨ j < m := by omega
              have w1 := @way_i l k n m i j hij
              have w2 := @way_j l k n m i j hij
              refine ih (i) (j + 1) (q + 1) (by omega) (by omega) (by omega) ?_ (by omega)
              rw [← hR, show n + m - q = (n + m - (q + 1)) + 1 by omega, pth, if_pos hij, if_neg (by omega), if_pos (by omega), if_neg (by omega), show t - (q + 1) = t - q - 1 by omega]
          · skip
            refine g_iinc (vs' := [_, _, _, _, _, _, _, _]) h (nI (i + 1)) dX0_stepAt_68 rfl (by first | exact nI_1 _ | rfl) (Nat.le_of_ble_eq_true rfl) rfl rfl ?_
            refine g_iload h dX0_stepAt_71 rfl ?_
            refine g_iconst h (nI 1) dX0_stepAt_73 (by decide) ?_
            refine g_icmp_eqN h 80 dX0_stepAt_74 (by decide) (by omega) (by decide) (fun c74_6 => ?_) (fun c74_6 => ?_)
            · skip
              refine g_iinc (vs' := [_, _, _, _, _, _, _, _]) h (nI (q + 1)) dX0_stepAt_80 rfl (by first | exact nI_1 _ | rfl) (Nat.le_of_ble_eq_true rfl) rfl rfl ?_
              refine g_goto h 9 dX0_stepAt_83 (by decide) ?_
              refine g_few (vs' := [some (.ref c), some (.ref r1), some (.ref r2), some (.int (nI t)), some (.int (nI (i + 1))), some (.int (nI j)), some (.int (nI (q + 1))), none]) ⟨Or.inr rfl, Or.inr rfl, Or.inr rfl, Or.inr rfl, Or.inr rfl, Or.inr rfl, Or.inr rfl, Or.inl rfl, trivial⟩ ?_
              have hij : i < n ∨ j < m := by omega
              have w1 := @way_i l k n m i j hij
              have w2 := @way_j l k n m i j hij
              refine ih (i + 1) (j) (q + 1) (by omega) (by omega) (by omega) ?_ (by omega)
              rw [← hR, show n + m - q = (n + m - (q + 1)) + 1 by omega, pth, if_pos hij, if_neg (by omega), if_neg (by omega), if_pos (by omega), show t - (q + 1) = t - q - 1 by omega]
            · skip
              refine g_iinc (vs' := [_, _, _, _, _, _, _, _]) h (nI (j + 1)) dX0_stepAt_77 rfl (by first | exact nI_1 _ | rfl) (Nat.le_of_ble_eq_true rfl) rfl rfl ?_
              refine g_iinc (vs' := [_, _, _, _, _, _, _, _]) h (nI (q + 1)) dX0_stepAt_80 rfl (by first | exact nI_1 _ | rfl) (Nat.le_of_ble_eq_true rfl) rfl rfl ?_
              refine g_goto h 9 dX0_stepAt_83 (by decide) ?_
              refine g_few (vs' := [some (.ref c), some (.ref r1), some (.ref r2), some (.int (nI t)), some (.int (nI (i + 1))), some (.int (nI (j + 1))), some (.int (nI (q + 1))), none]) ⟨Or.inr rfl, Or.inr rfl, Or.inr rfl, Or.inr rfl, Or.inr rfl, Or.inr rfl, Or.inr rfl, Or.inl rfl, trivial⟩ ?_
              have hij : i < n ∨ j < m := by omega
              have w1 := @way_i l k n m i j hij
              have w2 := @way_j l k n m i j hij
              refine ih (i + 1) (j + 1) (q + 1) (by omega) (by omega) (by omega) ?_ (by omega)
              rw [← hR, show n + m - q = (n + m - (q + 1)) + 1 by omega, pth, if_pos hij, if_neg (by omega), if_neg (by omega), if_neg (by omega), show t - (q + 1) = t - q - 1 by omega]
        · skip
          refine g_iload h dX0_stepAt_59 rfl ?_
          exact g_iret h hr dX0_stepAt_61 (retI (by rw [← hR, show n + m - q = (n + m - (q + 1)) + 1 by omega, pth, if_pos (by omega), if_pos (by omega)])) (Nat.le_of_ble_eq_true rfl) (Nat.le_of_ble_eq_true rfl)
      · skip
        refine g_aload_n h 2 dX0_stepAt_32 rfl rfl ?_
        refine g_iload h dX0_stepAt_33 rfl ?_
        refine g_callV h [] (r_has (xL X) hr2 hm40 (nI j)) cf_X0_35 cv_X2_has dX0_stepAt_35 rfl hr2.1 rfl rfl (Nat.le_of_ble_eq_true rfl) ⟨(Nat.le_of_ble_eq_true rfl), (Nat.le_of_ble_eq_true rfl)⟩ ⟨(Nat.le_of_ble_eq_true rfl), (Nat.le_of_ble_eq_true rfl)⟩ ?_
        refine kk_det ?_
        refine g_top (bI_iff (inR_nI (by omega) (by omega))) ?_
        refine g_if_eqB h 86 dX0_stepAt_38 (by decide) (fun c38_7 => ?_) (fun c38_7 => ?_)
        · skip
          refine g_iconst h (-1) dX0_stepAt_86 (by decide) ?_
          exact g_iret h hr dX0_stepAt_87 (retI (by rw [← hR, show n + m - q = (n + m - (q + 1)) + 1 by omega, pth, if_neg (by omega)])) (Nat.le_of_ble_eq_true rfl) (Nat.le_of_ble_eq_true rfl)
        · skip
          refine g_aload_n h 0 dX0_stepAt_41 rfl rfl ?_
          refine g_aload_n h 1 dX0_stepAt_42 rfl rfl ?_
          refine g_iload h dX0_stepAt_43 rfl ?_
          refine g_aload_n h 2 dX0_stepAt_45 rfl rfl ?_
          refine g_iload h dX0_stepAt_46 rfl ?_
          refine g_callV h [] (c_X0_stepFrom (xL X) E _ h0 h1 hf hr1 hr2 hn40 hm40 (i := i) (j := j) (by omega) (by omega) hT) cf_X0_43 cv_X0_stepFrom dX0_stepAt_48 rfl h0 rfl rfl (Nat.le_of_ble_eq_true rfl) ⟨(Nat.le_of_ble_eq_true rfl), (Nat.le_of_ble_eq_true rfl)⟩ ⟨(Nat.le_of_ble_eq_true rfl), (Nat.le_of_ble_eq_true rfl)⟩ ?_
          refine kk_det ?_
          have hw2 := @way_le l k n m i j
          refine g_istore (vs' := [_, _, _, _, _, _, _, _]) h dX0_stepAt_51 (Nat.le_of_ble_eq_true rfl) rfl rfl ?_
          refine g_iload h dX0_stepAt_53 rfl ?_
          refine g_iload_n h 3 dX0_stepAt_55 rfl rfl ?_
          refine g_icmp_neN h 62 dX0_stepAt_56 (by decide) (by omega) (by omega) (fun c56_8 => ?_) (fun c56_8 => ?_)
          · skip
            refine g_iload h dX0_stepAt_62 rfl ?_
            refine g_iconst h (nI 2) dX0_stepAt_64 (by decide) ?_
            refine g_icmp_eqN h 71 dX0_stepAt_65 (by decide) (by omega) (by decide) (fun c65_9 => ?_) (fun c65_9 => ?_)
            · skip
              refine g_iload h dX0_stepAt_71 rfl ?_
              refine g_iconst h (nI 1) dX0_stepAt_73 (by decide) ?_
              refine g_icmp_eqN h 80 dX0_stepAt_74 (by decide) (by omega) (by decide) (fun c74_10 => ?_) (fun c74_10 => ?_)
              · skip
                refine g_iinc (vs' := [_, _, _, _, _, _, _, _]) h (nI (q + 1)) dX0_stepAt_80 rfl (by first | exact nI_1 _ | rfl) (Nat.le_of_ble_eq_true rfl) rfl rfl ?_
                refine g_goto h 9 dX0_stepAt_83 (by decide) ?_
                refine g_few (vs' := [some (.ref c), some (.ref r1), some (.ref r2), some (.int (nI t)), some (.int (nI i)), some (.int (nI j)), some (.int (nI (q + 1))), none]) ⟨Or.inr rfl, Or.inr rfl, Or.inr rfl, Or.inr rfl, Or.inr rfl, Or.inr rfl, Or.inr rfl, Or.inl rfl, trivial⟩ ?_
                have hij : i < n ∨ j < m := by omega
                have w1 := @way_i l k n m i j hij
                have w2 := @way_j l k n m i j hij
                refine ih (i) (j) (q + 1) (by omega) (by omega) (by omega) ?_ (by omega)
                rw [← hR, show n + m - q = (n + m - (q + 1)) + 1 by omega, pth, if_pos hij, if_neg (by omega), if_pos (by omega), if_pos (by omega), show t - (q + 1) = t - q - 1 by omega]
              · skip
                refine g_iinc (vs' := [_, _, _, _, _, _, _, _]) h (nI (j + 1)) dX0_stepAt_77 rfl (by first | exact nI_1 _ | rfl) (Nat.le_of_ble_eq_true rfl) rfl rfl ?_
                refine g_iinc (vs' := [_, _, _, _, _, _, _, _]) h (nI (q + 1)) dX0_stepAt_80 rfl (by first | exact nI_1 _ | rfl) (Nat.le_of_ble_eq_true rfl) rfl rfl ?_
                refine g_goto h 9 dX0_stepAt_83 (by decide) ?_
                refine g_few (vs' := [some (.ref c), some (.ref r1), some (.ref r2), some (.int (nI t)), some (.int (nI i)), some (.int (nI (j + 1))), some (.int (nI (q + 1))), none]) ⟨Or.inr rfl, Or.inr rfl, Or.inr rfl, Or.inr rfl, Or.inr rfl, Or.inr rfl, Or.inr rfl, Or.inl rfl, trivial⟩ ?_
                have hij : i < n ∨ j < m := by omega
                have w1 := @way_i l k n m i j hij
                have w2 := @way_j l k n m i j hij
                refine ih (i) (j + 1) (q + 1) (by omega) (by omega) (by omega) ?_ (by omega)
                rw [← hR, show n + m - q = (n + m - (q + 1)) + 1 by omega, pth, if_pos hij, if_neg (by omega), if_pos (by omega), if_neg (by omega), show t - (q + 1) = t - q - 1 by omega]
            · skip
              refine g_iinc (vs' := [_, _, _, _, _, _, _, _]) h (nI (i + 1)) dX0_stepAt_68 rfl (by first | exact nI_1 _ | rfl) (Nat.le_of_ble_eq_true rfl) rfl rfl ?_
              refine g_iload h dX0_stepAt_71 rfl ?_
              refine g_iconst h (nI 1) dX0_stepAt_73 (by decide) ?_
              refine g_icmp_eqN h 80 dX0_stepAt_74 (by decide) (by omega) (by decide) (fun c74_11 => ?_) (fun c74_11 => ?_)
              · skip
                refine g_iinc (vs' := [_, _, _, _, _, _, _, _]) h (nI (q + 1)) dX0_stepAt_80 rfl (by first | exact nI_1 _ | rfl) (Nat.le_of_ble_eq_true rfl) rfl rfl ?_
                refine g_goto h 9 dX0_stepAt_83 (by decide) ?_
                refine g_few (vs' := [some (.ref c), some (.ref r1), some (.ref r2), some (.int (nI t)), some (.int (nI (i + 1))), some (.int (nI j)), some (.int (nI (q + 1))), none]) ⟨Or.inr rfl, Or.inr rfl, Or.inr rfl, Or.inr rfl, Or.inr rfl, Or.inr rfl, Or.inr rfl, Or.inl rfl, trivial⟩ ?_
                have hij : i < n ∨ j < m := by omega
                have w1 := @way_i l k n m i j hij
                have w2 := @way_j l k n m i j hij
                refine ih (i + 1) (j) (q + 1) (by omega) (by omega) (by omega) ?_ (by omega)
                rw [← hR, show n + m - q = (n + m - (q + 1)) + 1 by omega, pth, if_pos hij, if_neg (by omega), if_neg (by omega), if_pos (by omega), show t - (q + 1) = t - q - 1 by omega]
              · skip
                refine g_iinc (vs' := [_, _, _, _, _, _, _, _]) h (nI (j + 1)) dX0_stepAt_77 rfl (by first | exact nI_1 _ | rfl) (Nat.le_of_ble_eq_true rfl) rfl rfl ?_
                refine g_iinc (vs' := [_, _, _, _, _, _, _, _]) h (nI (q + 1)) dX0_stepAt_80 rfl (by first | exact nI_1 _ | rfl) (Nat.le_of_ble_eq_true rfl) rfl rfl ?_
                refine g_goto h 9 dX0_stepAt_83 (by decide) ?_
                refine g_few (vs' := [some (.ref c), some (.ref r1), some (.ref r2), some (.int (nI t)), some (.int (nI (i + 1))), some (.int (nI (j + 1))), some (.int (nI (q + 1))), none]) ⟨Or.inr rfl, Or.inr rfl, Or.inr rfl, Or.inr rfl, Or.inr rfl, Or.inr rfl, Or.inr rfl, Or.inl rfl, trivial⟩ ?_
                have hij : i < n ∨ j < m := by omega
                have w1 := @way_i l k n m i j hij
                have w2 := @way_j l k n m i j hij
                refine ih (i + 1) (j + 1) (q + 1) (by omega) (by omega) (by omega) ?_ (by omega)
                rw [← hR, show n + m - q = (n + m - (q + 1)) + 1 by omega, pth, if_pos hij, if_neg (by omega), if_neg (by omega), if_neg (by omega), show t - (q + 1) = t - q - 1 by omega]
          · skip
            refine g_iload h dX0_stepAt_59 rfl ?_
            exact g_iret h hr dX0_stepAt_61 (retI (by rw [← hR, show n + m - q = (n + m - (q + 1)) + 1 by omega, pth, if_pos (by omega), if_pos (by omega)])) (Nat.le_of_ble_eq_true rfl) (Nat.le_of_ble_eq_true rfl)
  exact L9 (n + m + 1) 0 0 0 (by omega) (by omega) (by omega) rfl (by omega)
abbrev rm_X0_compare : Room := { frames := 3, cells := 0, slots := 0, locals := 66 }
set_option maxRecDepth 100000 in
set_option maxHeartbeats 4000000 in
theorem c_X0_compare (lau : Launch) (E : EnvD) (σ : Sto) {c : Nat} {f : Nat → Option Nat} (h0 : σ.1 c = some (cO 0 [.ref (c + 1)])) (h1 : σ.1 (c + 1) = some (cQ E 5 41 f)) (hf : ∀ i, i < 41 → f i = some (c + 2 + i)) {r1 r2 n m : Nat} {l k : Nat → Int32} (hr1 : RowIs E σ r1 n l) (hr2 : RowIs E σ r2 m k) (hn40 : n ≤ 40) (hm40 : m ≤ 40) (ho1 : r1 + 1 < c ∨ c + 43 ≤ r1) (ho2 : r2 + 1 < c ∨ c + 43 ≤ r2) (hCh : ∀ i, i < 41 → ∃ g, σ.1 (c + 2 + i) = some (cI E 41 g)) : CC lau yX0_compare cX0_compare 5 none rm_X0_compare E [.ref c, .ref r1, .ref r2] σ (fun o s => o = none ∧ s.2 = σ.2 ∧ (∀ a, ¬ (c + 2 ≤ a ∧ a < c + 43) → s.1 a = σ.1 a) ∧ TB E c s (fun a b => a ≤ n ∧ b ≤ m) (ed l k n m)) := by
  refine cc_of (vs := [_, _, _, _, _]) (by decide) (Nat.le_of_ble_eq_true rfl) rfl ?_
  intro X h hr hn
  refine g_aload_n h 1 dX0_compare_0 rfl rfl ?_
  refine g_get h 1 fa_X0_16 dX0_compare_1 hr1.1 rfl ?_
  refine g_bipush h (nI 40) dX0_compare_4 (by decide) ?_
  refine g_min h mm_X0_22 dX0_compare_6 ⟨(Nat.le_of_ble_eq_true rfl), (Nat.le_of_ble_eq_true rfl)⟩ (Nat.le_of_ble_eq_true rfl) (Nat.le_of_ble_eq_true rfl) ?_
  refine g_top (y := nI n) (min_40 hn40) ?_
  refine g_istore_n (vs' := [_, _, _, _, _]) h 3 dX0_compare_9 rfl (Nat.le_of_ble_eq_true rfl) rfl rfl ?_
  refine g_few (vs' := [some (.ref c), some (.ref r1), some (.ref r2), some (.int (nI n)), none]) ⟨Or.inr rfl, Or.inr rfl, Or.inr rfl, Or.inr rfl, Or.inl rfl, trivial⟩ ?_
  have L5 : ∀ (m0 : Nat) (e : Nat) (x3 : Int32) (s1 : Sto), (e ≤ n + 1) → ((e = 0 ∧ x3 = -1) ∨ ∃ i, e = i + 1 ∧ x3 = nI i) → (s1.2 = σ.2) → (∀ a, ¬ (c + 2 ≤ a ∧ a < c + 43) → s1.1 a = σ.1 a) → (TB E c s1 (fun a b => e ≤ a ∧ a ≤ n ∧ b ≤ m) (ed l k n m)) → e < m0 → G X E 5 (AD σ) (QF X E σ (fun o s => o = none ∧ s.2 = σ.2 ∧ (∀ a, ¬ (c + 2 ≤ a ∧ a < c + 43) → s.1 a = σ.1 a) ∧ TB E c s (fun a b => a ≤ n ∧ b ≤ m) (ed l k n m)) rm_X0_compare) 0 0 10 [some (.ref c), some (.ref r1), some (.ref r2), some (.int x3), none] [] s1 := by
    intro m0
    induction m0 with
    | zero => intro e x3 s1 _ _ _ _ _ hm0; exact absurd hm0 (Nat.not_lt_zero _)
    | succ m0 ih =>
      intro e x3 s1 he hx3 hz hA hT hm0
      refine g_iload_n h 3 dX0_compare_10 rfl rfl ?_
      refine g_if_lt h 60 dX0_compare_11 (by decide) (fun c11_1 => ?_) (fun c11_1 => ?_)
      · skip
        have he0 : e = 0 := by
          rcases hx3 with q | ⟨i, q1, q2⟩
          · exact q.1
          · subst q2; exact absurd c11_1 (nI_pos (by omega))
        subst he0
        exact g_vret h hr dX0_compare_60 (⟨rfl, hz, hA, fun a ha => by obtain ⟨g, q1, q2⟩ := hT a ha; exact ⟨g, q1, fun b hb q => q2 b hb (by omega)⟩⟩) (Nat.le_of_ble_eq_true rfl) (Nat.le_of_ble_eq_true rfl)
      · skip
        obtain ⟨i, rfl, rfl⟩ : ∃ i, e = i + 1 ∧ x3 = nI i := by
          rcases hx3 with q | q
          · rw [q.2] at c11_1; exact absurd (by decide) c11_1
          · exact q
        have k0 : s1.1 c = some (cO 0 [.ref (c + 1)]) := (hA c (by omega)).trans h0
        have k1 : s1.1 (c + 1) = some (cQ E 5 41 f) := (hA _ (by omega)).trans h1
        have kr1 : RowIs E s1 r1 n l := hr1.fr (hA _ (by omega)) (hA _ (by omega))
        have kr2 : RowIs E s1 r2 m k := hr2.fr (hA _ (by omega)) (hA _ (by omega))
        refine g_aload_n h 2 dX0_compare_14 rfl rfl ?_
        refine g_get h 1 fa_X0_16 dX0_compare_15 kr2.1 rfl ?_
        refine g_bipush h (nI 40) dX0_compare_18 (by decide) ?_
        refine g_min h mm_X0_22 dX0_compare_20 ⟨(Nat.le_of_ble_eq_true rfl), (Nat.le_of_ble_eq_true rfl)⟩ (Nat.le_of_ble_eq_true rfl) (Nat.le_of_ble_eq_true rfl) ?_
        refine g_top (y := nI m) (min_40 hm40) ?_
        refine g_istore (vs' := [_, _, _, _, _]) h dX0_compare_23 (Nat.le_of_ble_eq_true rfl) rfl rfl ?_
        clear k0 k1 kr1 kr2 hx3
        have L15 : ∀ (m0 : Nat) (d : Nat) (x4 : Int32) (s1 : Sto), (d ≤ m + 1) → ((d = 0 ∧ x4 = -1) ∨ ∃ j, d = j + 1 ∧ x4 = nI j) → (s1.2 = σ.2) → (∀ a, ¬ (c + 2 ≤ a ∧ a < c + 43) → s1.1 a = σ.1 a) → (TB E c s1 (fun a b => (i < a ∧ a ≤ n ∧ b ≤ m) ∨ (a = i ∧ d ≤ b ∧ b ≤ m)) (ed l k n m)) → d < m0 → G X E 5 (AD σ) (QF X E σ (fun o s => o = none ∧ s.2 = σ.2 ∧ (∀ a, ¬ (c + 2 ≤ a ∧ a < c + 43) → s.1 a = σ.1 a) ∧ TB E c s (fun a b => a ≤ n ∧ b ≤ m) (ed l k n m)) rm_X0_compare) 0 0 25 [some (.ref c), some (.ref r1), some (.ref r2), some (.int (nI i)), some (.int x4)] [] s1 := by
          intro m0
          induction m0 with
          | zero => intro d x4 s1 _ _ _ _ _ hm0; exact absurd hm0 (Nat.not_lt_zero _)
          | succ m0 ih2 =>
            intro d x4 s1 hd hx4 hz hA hT hm0
            refine g_iload h dX0_compare_25 rfl ?_
            refine g_if_lt h 54 dX0_compare_27 (by decide) (fun c27_2 => ?_) (fun c27_2 => ?_)
            · skip
              have hd0 : d = 0 := by
                rcases hx4 with q | ⟨i, q1, q2⟩
                · exact q.1
                · subst q2; exact absurd c27_2 (nI_pos (by omega))
              subst hd0
              refine g_iinc (vs' := [_, _, _, _, _]) h (nI i + -1) dX0_compare_54 rfl rfl (Nat.le_of_ble_eq_true rfl) rfl rfl ?_
              refine g_goto h 10 dX0_compare_57 (by decide) ?_
              refine g_few (vs' := [some (.ref c), some (.ref r1), some (.ref r2), some (.int (nI i + -1)), none]) ⟨Or.inr rfl, Or.inr rfl, Or.inr rfl, Or.inr rfl, Or.inl rfl, trivial⟩ ?_
              exact ih i (nI i + -1) s1 (by omega) (by rcases Nat.eq_zero_or_pos i with e | e; (· subst e; exact Or.inl ⟨rfl, by decide⟩); (· exact Or.inr ⟨i - 1, by omega, nI_dec e⟩)) hz hA (fun a ha => by obtain ⟨g, q1, q2⟩ := hT a ha; exact ⟨g, q1, fun b hb q => q2 b hb (by omega)⟩) (by omega)
            · skip
              obtain ⟨j, rfl, rfl⟩ : ∃ j, d = j + 1 ∧ x4 = nI j := by
                rcases hx4 with q | q
                · rw [q.2] at c27_2; exact absurd (by decide) c27_2
                · exact q
              have k0 : s1.1 c = some (cO 0 [.ref (c + 1)]) := (hA c (by omega)).trans h0
              have k1 : s1.1 (c + 1) = some (cQ E 5 41 f) := (hA _ (by omega)).trans h1
              have kr1 : RowIs E s1 r1 n l := hr1.fr (hA _ (by omega)) (hA _ (by omega))
              have kr2 : RowIs E s1 r2 m k := hr2.fr (hA _ (by omega)) (hA _ (by omega))
              obtain ⟨gi, e1, e2⟩ := hT i (by omega)
              refine g_aload_n h 0 dX0_compare_30 rfl rfl ?_
              refine g_get h 0 fa_X0_11 dX0_compare_31 k0 rfl ?_
              refine g_iload_n h 3 dX0_compare_34 rfl rfl ?_
              refine g_aald h 5 (v := .ref (c + 2 + i)) dX0_compare_35 rfl rfl k1 (by omega) (by omega) (by rw [hf _ (by omega)]; rfl) ?_
              refine g_iload h dX0_compare_36 rfl ?_
              refine g_aload_n h 0 dX0_compare_38 rfl rfl ?_
              refine g_aload_n h 1 dX0_compare_39 rfl rfl ?_
              refine g_iload_n h 3 dX0_compare_40 rfl rfl ?_
              refine g_aload_n h 2 dX0_compare_41 rfl rfl ?_
              refine g_iload h dX0_compare_42 rfl ?_
              refine g_callV h [_, _] (c_X0_differenceFrom (xL X) E _ k0 k1 hf kr1 kr2 hn40 hm40 (i := i) (j := j) (Pd := fun a b => (i < a ∧ a ≤ n ∧ b ≤ m) ∨ (a = i ∧ j < b ∧ b ≤ m)) (by omega) (by omega) hT (fun a b q => by omega)) cf_X0_28 cv_X0_differenceFrom dX0_compare_44 rfl k0 rfl rfl (Nat.le_of_ble_eq_true rfl) ⟨(Nat.le_of_ble_eq_true rfl), (Nat.le_of_ble_eq_true rfl)⟩ ⟨(Nat.le_of_ble_eq_true rfl), (Nat.le_of_ble_eq_true rfl)⟩ ?_
              refine kk_det ?_
              refine g_iast h dX0_compare_47 e1 (by omega) (by omega) ?_
              refine g_iinc (vs' := [_, _, _, _, _]) h (nI j + -1) dX0_compare_48 rfl rfl (Nat.le_of_ble_eq_true rfl) rfl rfl ?_
              refine g_goto h 25 dX0_compare_51 (by decide) ?_
              refine ih2 j _ _ (by omega) (by rcases Nat.eq_zero_or_pos j with e | e; (· subst e; exact Or.inl ⟨rfl, by decide⟩); (· exact Or.inr ⟨j - 1, by omega, nI_dec e⟩)) hz (fun a ha => (sup_ne (by omega)).trans (hA a ha)) ?_ (by omega)
              exact hT.put (by omega) (by omega) e1 e2 rfl (fun a b q => by omega)
        exact L15 (m + 2) (m + 1) (nI m) s1 (by omega) (Or.inr ⟨m, rfl, rfl⟩) hz hA (fun a ha => by obtain ⟨g, q1, q2⟩ := hT a ha; exact ⟨g, q1, fun b hb q => q2 b hb (by omega)⟩) (by omega)
  exact L5 (n + 2) (n + 1) (nI n) σ (by omega) (Or.inr ⟨n, rfl, rfl⟩) rfl (fun _ _ => rfl) (fun a ha => by obtain ⟨g, q⟩ := hCh a ha; exact ⟨g, q, fun b hb q => by omega⟩) (by omega)
