/-! free days (own work; walks by program) -/
def allM (S : PSt) (v : Nat) : Nat → Nat
  | 0 => 0
  | i + 1 => allM S v i ||| sMk S (sVl S v i)
noncomputable def LF (S : PSt) (t d al : Nat) : Nat → Nat
  | 0 => 0
  | i + 1 => cif (inF S i t d ∧ ¬ sRm S i &&& al = 0) (max (LF S t d al i) (sRo S i + 1)) (LF S t d al i)
def pm (L : Nat) : Int32 := if L = 0 then -1 else nI (L - 1)
theorem lt_m1 {o : Nat} (h : o < 2147483648) : (-1 : Int32) < nI o := Int32.lt_of_lt_of_le (by decide) (Int32.not_lt.mp (nI_pos h))
theorem ne_m1 {o : Nat} (h : o < 2147483648) : nI o ≠ -1 := fun q => nI_pos h (by rw [q]; decide)
theorem pm_max {L o : Nat} (hL : L < 2147483648) (ho : o < 2147483648) : (if pm L < nI o then nI o else pm L) = pm (max L (o + 1)) := by
  unfold pm
  by_cases h : L = 0
  · rw [if_pos h, if_pos (lt_m1 ho), if_neg (by omega), h, Nat.zero_max]
    rfl
  · rw [if_neg h, max_nI (by omega) ho, if_neg (by omega)]
    exact congrArg nI (by omega)
theorem pm_m1 {L : Nat} (hL : L < 2147483648) : pm L = -1 ↔ L = 0 := by
  unfold pm
  by_cases h : L = 0
  · rw [if_pos h]
    exact ⟨fun _ => h, fun _ => rfl⟩
  · rw [if_neg h]
    exact ⟨fun q => absurd q (ne_m1 (by omega)), fun q => absurd q h⟩
theorem or_z {a b : Nat} : a ||| b = 0 ↔ (a = 0 ∧ b = 0) := by
  constructor
  · intro h
    have h1 : a ≤ a ||| b := Nat.left_le_or
    have h2 : b ≤ a ||| b := Nat.right_le_or
    omega
  · rintro ⟨rfl, rfl⟩
    rfl
theorem cut0 {S : PSt} {v fb : Nat} : ∀ n, cutC S v fb n = 0 ↔ allM S v n &&& fb = 0
  | 0 => by simp [cutC, allM]
  | n + 1 => by
    have ih := cut0 (S := S) (v := v) (fb := fb) n
    unfold cutC allM
    rw [Nat.and_or_distrib_right, or_z, ← ih]
    split <;> omega
theorem fb0 {S : PSt} {t d al : Nat} : ∀ n, al &&& fbN S t d n = 0 ↔ ∀ i, i < n → ¬ (inF S i t d ∧ ¬ sRm S i &&& al = 0)
  | 0 => by
    unfold fbN
    exact ⟨fun _ i hi => absurd hi (Nat.not_lt_zero _), fun _ => Nat.and_zero _⟩
  | n + 1 => by
    have ih := fb0 (S := S) (t := t) (d := d) (al := al) n
    unfold fbN
    rw [Nat.and_or_distrib_left, or_z, ih]
    constructor
    · rintro ⟨h1, h2⟩ i hi
      rcases Nat.lt_or_ge i n with e | e
      · exact h1 i e
      · obtain rfl : i = n := by omega
        rintro ⟨q1, q2⟩
        rw [cif_t q1, Nat.and_comm] at h2
        exact q2 h2
    · intro h
      refine ⟨fun i hi => h i (by omega), ?_⟩
      by_cases q : inF S n t d
      · rw [cif_t q, Nat.and_comm]
        exact Classical.byContradiction fun w => h n (by omega) ⟨q, w⟩
      · rw [cif_f q, Nat.and_zero]
theorem LF0 {S : PSt} {t d al : Nat} : ∀ n, LF S t d al n = 0 ↔ ∀ i, i < n → ¬ (inF S i t d ∧ ¬ sRm S i &&& al = 0)
  | 0 => ⟨fun _ i hi => absurd hi (Nat.not_lt_zero _), fun _ => rfl⟩
  | n + 1 => by
    have ih := LF0 (S := S) (t := t) (d := d) (al := al) n
    by_cases q : inF S n t d ∧ ¬ sRm S n &&& al = 0
    · rw [LF, cif_t q]
      exact ⟨fun w => by omega, fun w => absurd q (w n (by omega))⟩
    · rw [LF, cif_f q, ih]
      exact ⟨fun w i hi => by
        rcases Nat.lt_or_ge i n with e | e
        · exact w i e
        · obtain rfl : i = n := by omega
          exact q, fun w i hi => w i (by omega)⟩
theorem LFn {S : PSt} {t d al : Nat} : ∀ n, LF S t d al n ≠ 0 → ∃ i, i < n ∧ (inF S i t d ∧ ¬ sRm S i &&& al = 0) ∧ LF S t d al n = sRo S i + 1
  | 0, h => absurd rfl h
  | n + 1, h => by
    by_cases q : inF S n t d ∧ ¬ sRm S n &&& al = 0
    · rw [LF, cif_t q] at h ⊢
      by_cases e : LF S t d al n ≤ sRo S n + 1
      · exact ⟨n, by omega, q, Nat.max_eq_right e⟩
      · obtain ⟨i, h1, h2, h3⟩ := LFn n (fun w => e (by rw [w]; exact Nat.zero_le _))
        exact ⟨i, by omega, h2, by rw [Nat.max_eq_left (by omega)]; exact h3⟩
    · rw [LF, cif_f q] at h ⊢
      obtain ⟨i, h1, h2, h3⟩ := LFn n h
      exact ⟨i, by omega, h2, h3⟩
theorem LF_le {S : PSt} (hI : Inv S) {t d al : Nat} : ∀ n, n ≤ sRn S → LF S t d al n ≤ 1000 := fun n hn => by
  by_cases e : LF S t d al n = 0
  · omega
  · obtain ⟨i, h1, _, h3⟩ := LFn n e
    have := (hI.2.2.2.2.1.2 i (by omega)).2.2.2
    omega
theorem cutN0 {S : PSt} {v t d : Nat} : cutN S v t d = 0 ↔ LF S t d (allM S v (sVn S v)) (sRn S) = 0 := by
  unfold cutN
  rw [cut0, fb0, LF0]
def cnG (S : PSt) (f : Nat) : Nat → Nat
  | 0 => 0
  | i + 1 => cnG S f i + (if f ≤ sRo S i then 1 else 0)
theorem cnG_le {S : PSt} {f : Nat} : ∀ n, cnG S f n ≤ n
  | 0 => Nat.le_refl 0
  | n + 1 => by
    have := cnG_le (S := S) (f := f) n
    unfold cnG
    split <;> omega
theorem cnG_mono {S : PSt} {f f' : Nat} (h : f ≤ f') : ∀ n, cnG S f' n ≤ cnG S f n
  | 0 => Nat.le_refl 0
  | n + 1 => by
    have := cnG_mono (S := S) h n
    unfold cnG
    split <;> split <;> omega
theorem cnG_lt {S : PSt} {f f' i : Nat} (h : f ≤ f') (h1 : f ≤ sRo S i) (h2 : sRo S i < f') : ∀ n, i < n → cnG S f' n + 1 ≤ cnG S f n
  | 0, hi => absurd hi (Nat.not_lt_zero _)
  | n + 1, hi => by
    have hm := cnG_mono (S := S) h n
    unfold cnG
    rcases Nat.lt_or_ge i n with e | e
    · have := cnG_lt h h1 h2 n e
      split <;> split <;> omega
    · obtain rfl : i = n := by omega
      rw [if_neg (by omega), if_pos h1]
      omega
theorem fp_skip {P : Nat → Prop} {N : Nat} : ∀ k c, (∀ q, c ≤ q → q < c + k → ¬ P q) → c + k ≤ N → fp P c (N - c) = fp P (c + k) (N - (c + k))
  | 0, c, _, _ => rfl
  | k + 1, c, h, hN => by
    rw [show N - c = (N - (c + 1)) + 1 by omega, fp_f (p := P) (h c (by omega) (by omega)), fp_skip k (c + 1) (fun q q1 q2 => h q (by omega) (by omega)) (by omega), show c + 1 + k = c + (k + 1) by omega]
abbrev rm_X5_marksOfAll : Room := { frames := 2, cells := 0, slots := 0, locals := 42 }
set_option maxRecDepth 100000 in
set_option maxHeartbeats 4000000 in
theorem c_X5_marksOfAll (lau : Launch) (E : EnvD) (σ : Sto) {z : Nat} {S : PSt} (hI : Inv S) (hR : RepC E z S σ) {v : Nat} (hv : v < 8) : CC lau yX5_marksOfAll cX5_marksOfAll 4 (some .int) rm_X5_marksOfAll E [.ref z, .ref (z + 64 + 2 * v)] σ (fun o s => o = some (.int (nI (allM S v (sVn S v)))) ∧ s = σ) := by
  refine cc_of (vs := [_, _, _, _]) (by decide) (Nat.le_of_ble_eq_true rfl) rfl ?_
  intro X h hr hn
  obtain ⟨r0, ⟨fV, rV, eV⟩, ⟨fP, rP, eP⟩, ⟨fC, rC, eC⟩, ⟨fR, rR, eR⟩, ⟨fM, rM, eM⟩, rCh, rT, rO, ⟨nE, gE, hE, rE⟩, rows, prows⟩ := id hR
  obtain ⟨hn40, hl9⟩ := hI.1 v hv
  refine g_iconst h (nI 0) dX5_marksOfAll_0 (by decide) ?_
  refine g_istore_n (vs' := [_, _, _, _]) h 2 dX5_marksOfAll_1 rfl (Nat.le_of_ble_eq_true rfl) rfl rfl ?_
  refine g_iconst h (nI 0) dX5_marksOfAll_2 (by decide) ?_
  refine g_istore_n (vs' := [_, _, _, _]) h 3 dX5_marksOfAll_3 rfl (Nat.le_of_ble_eq_true rfl) rfl rfl ?_
  have L4 : ∀ (m0 : Nat) (i : Nat), (i ≤ sVn S v) → (sVn S v - i) < m0 → G X E 4 (AD σ) (QF X E σ (fun o s => o = some (.int (nI (allM S v (sVn S v)))) ∧ s = σ) rm_X5_marksOfAll) 0 0 4 [some (.ref z), some (.ref (z + 64 + 2 * v)), some (.int (nI (allM S v i))), some (.int (nI i))] [] σ := by
    intro m0
    induction m0 with
    | zero => intro i _ hm0; exact absurd hm0 (Nat.not_lt_zero _)
    | succ m0 ih =>
      intro i hi hm0
      refine g_iload_n h 3 dX5_marksOfAll_4 rfl rfl ?_
      refine g_aload_n h 1 dX5_marksOfAll_5 rfl rfl ?_
      refine g_get h 1 fa_X5_64 dX5_marksOfAll_6 (rows v hv).1 rfl ?_
      refine g_icmp_geN h 30 dX5_marksOfAll_9 (by decide) (by omega) (by omega) (fun c9_1 => ?_) (fun c9_1 => ?_)
      · skip
        obtain rfl : i = sVn S v := by omega
        refine g_iload_n h 2 dX5_marksOfAll_30 rfl rfl ?_
        exact g_iret h hr dX5_marksOfAll_31 (⟨rfl, rfl⟩) (Nat.le_of_ble_eq_true rfl) (Nat.le_of_ble_eq_true rfl)
      · skip
        have hx9 := hl9 i (by omega)
        refine g_iload_n h 2 dX5_marksOfAll_12 rfl rfl ?_
        refine g_aload_n h 0 dX5_marksOfAll_13 rfl rfl ?_
        refine g_aload_n h 1 dX5_marksOfAll_14 rfl rfl ?_
        refine g_iload_n h 3 dX5_marksOfAll_15 rfl rfl ?_
        refine g_callV h [_, _] (r_at (xL X) (rows v hv) (hI.1 v hv).1 (nI i)) cf_X5_82 cv_X2_at dX5_marksOfAll_16 rfl (rows v hv).1 rfl rfl (Nat.le_of_ble_eq_true rfl) ⟨(Nat.le_of_ble_eq_true rfl), (Nat.le_of_ble_eq_true rfl)⟩ ⟨(Nat.le_of_ble_eq_true rfl), (Nat.le_of_ble_eq_true rfl)⟩ ?_
        refine kk_det ?_
        refine g_top (atV_in (by omega) (by omega)) ?_
        refine g_top (y := nI (sVl S v i)) rfl ?_
        refine g_callV h [_] (c_X5_marksOf (xL X) E _ r0 hR.2.2.2.2.2.1 (x := sVl S v i) hx9) cf_X5_160 cv_X5_marksOf dX5_marksOfAll_19 rfl r0 rfl rfl (Nat.le_of_ble_eq_true rfl) ⟨(Nat.le_of_ble_eq_true rfl), (Nat.le_of_ble_eq_true rfl)⟩ ⟨(Nat.le_of_ble_eq_true rfl), (Nat.le_of_ble_eq_true rfl)⟩ ?_
        refine kk_det ?_
        refine g_ior h dX5_marksOfAll_22 ?_
        refine g_istore_n (vs' := [_, _, _, _]) h 2 dX5_marksOfAll_23 rfl (Nat.le_of_ble_eq_true rfl) rfl rfl ?_
        refine g_iinc (vs' := [_, _, _, _]) h (nI (i + 1)) dX5_marksOfAll_24 rfl (by first | exact nI_1 _ | rfl) (Nat.le_of_ble_eq_true rfl) rfl rfl ?_
        refine g_goto h 4 dX5_marksOfAll_27 (by decide) ?_
        rw [nI_or]
        exact ih (i + 1) (by omega) (by omega)
  exact L4 (sVn S v + 1) 0 (by omega) (by omega)
abbrev rm_X5_lastForbiddenDay : Room := { frames := 1, cells := 0, slots := 0, locals := 22 }
set_option maxRecDepth 100000 in
set_option maxHeartbeats 4000000 in
theorem c_X5_lastForbiddenDay (lau : Launch) (E : EnvD) (σ : Sto) {z : Nat} {S : PSt} (hI : Inv S) (hR : RepC E z S σ) {al t d : Nat} (ht9 : t < 8) (hd9 : d < 1000) : CC lau yX5_lastForbiddenDay cX5_lastForbiddenDay 7 (some .int) rm_X5_lastForbiddenDay E [.ref z, .int (nI al), .int (nI t), .int (nI d)] σ (fun o s => o = some (.int (pm (LF S t d al (sRn S)))) ∧ s = σ) := by
  refine cc_of (vs := [_, _, _, _, _, _, _]) (by decide) (Nat.le_of_ble_eq_true rfl) rfl ?_
  intro X h hr hn
  obtain ⟨r0, ⟨fV, rV, eV⟩, ⟨fP, rP, eP⟩, ⟨fC, rC, eC⟩, ⟨fR, rR, eR⟩, ⟨fM, rM, eM⟩, rCh, rT, rO, ⟨nE, gE, hE, rE⟩, rows, prows⟩ := id hR
  have hc20 := hI.2.2.2.2.1.1
  refine g_iconst h (-1) dX5_lastForbiddenDay_0 (by decide) ?_
  refine g_istore (vs' := [_, _, _, _, _, _, _]) h dX5_lastForbiddenDay_1 (Nat.le_of_ble_eq_true rfl) rfl rfl ?_
  refine g_iconst h (nI 0) dX5_lastForbiddenDay_3 (by decide) ?_
  refine g_istore (vs' := [_, _, _, _, _, _, _]) h dX5_lastForbiddenDay_4 (Nat.le_of_ble_eq_true rfl) rfl rfl ?_
  refine g_few (vs' := [some (.ref z), some (.int (nI al)), some (.int (nI t)), some (.int (nI d)), some (.int (-1)), some (.int (nI 0)), none]) ⟨Or.inr rfl, Or.inr rfl, Or.inr rfl, Or.inr rfl, Or.inr rfl, Or.inr rfl, Or.inl rfl, trivial⟩ ?_
  have L6 : ∀ (m0 : Nat) (i : Nat), (i ≤ sRn S) → (sRn S - i) < m0 → G X E 7 (AD σ) (QF X E σ (fun o s => o = some (.int (pm (LF S t d al (sRn S)))) ∧ s = σ) rm_X5_lastForbiddenDay) 0 0 6 [some (.ref z), some (.int (nI al)), some (.int (nI t)), some (.int (nI d)), some (.int (pm (LF S t d al i))), some (.int (nI i)), none] [] σ := by
    intro m0
    induction m0 with
    | zero => intro i _ hm0; exact absurd hm0 (Nat.not_lt_zero _)
    | succ m0 ih =>
      intro i hi hm0
      have hLF := LF_le hI (t := t) (d := d) (al := al) i hi
      refine g_iload h dX5_lastForbiddenDay_6 rfl ?_
      refine g_aload_n h 0 dX5_lastForbiddenDay_8 rfl rfl ?_
      refine g_get h 9 fa_X5_57 dX5_lastForbiddenDay_9 r0 rfl ?_
      refine g_icmp_geN h 66 dX5_lastForbiddenDay_12 (by decide) (by omega) (by omega) (fun c12_1 => ?_) (fun c12_1 => ?_)
      · skip
        obtain rfl : i = sRn S := by omega
        refine g_iload h dX5_lastForbiddenDay_66 rfl ?_
        exact g_iret h hr dX5_lastForbiddenDay_68 (⟨rfl, rfl⟩) (Nat.le_of_ble_eq_true rfl) (Nat.le_of_ble_eq_true rfl)
      · skip
        obtain ⟨rb, q1, q2⟩ := eR i (by omega)
        obtain ⟨k1, k2, k3, k4⟩ := hI.2.2.2.2.1.2 i (by omega)
        refine g_aload_n h 0 dX5_lastForbiddenDay_15 rfl rfl ?_
        refine g_iload h dX5_lastForbiddenDay_16 rfl ?_
        refine g_callV h [] (c_X5_ruleOf_in (xL X) E _ r0 rR hc20 (i := i) (by omega) q1) cf_X5_223 cv_X5_ruleOf dX5_lastForbiddenDay_18 rfl r0 rfl rfl (Nat.le_of_ble_eq_true rfl) ⟨(Nat.le_of_ble_eq_true rfl), (Nat.le_of_ble_eq_true rfl)⟩ ⟨(Nat.le_of_ble_eq_true rfl), (Nat.le_of_ble_eq_true rfl)⟩ ?_
        refine kk_det ?_
        refine g_astore (vs' := [_, _, _, _, _, _, _]) h dX5_lastForbiddenDay_21 (Nat.le_of_ble_eq_true rfl) rfl rfl ?_
        refine g_aload h dX5_lastForbiddenDay_23 rfl ?_
        refine g_ifnull h dX5_lastForbiddenDay_25 ?_
        refine g_aload h dX5_lastForbiddenDay_28 rfl ?_
        refine g_iload_n h 2 dX5_lastForbiddenDay_30 rfl rfl ?_
        refine g_iload_n h 3 dX5_lastForbiddenDay_31 rfl rfl ?_
        refine g_callV h [] (c_X3_isInForce (xL X) E _ q2 (w := t) (d := d) (by omega) (by omega) (by omega) (by omega) (by omega)) cf_X5_227 cv_X3_isInForce dX5_lastForbiddenDay_32 rfl q2 rfl rfl (Nat.le_of_ble_eq_true rfl) ⟨(Nat.le_of_ble_eq_true rfl), (Nat.le_of_ble_eq_true rfl)⟩ ⟨(Nat.le_of_ble_eq_true rfl), (Nat.le_of_ble_eq_true rfl)⟩ ?_
        refine kk_det ?_
        refine g_if_eqB h 60 dX5_lastForbiddenDay_35 (by decide) (fun c35_2 => ?_) (fun c35_2 => ?_)
        · skip
          refine g_iinc (vs' := [_, _, _, _, _, _, _]) h (nI (i + 1)) dX5_lastForbiddenDay_60 rfl (by first | exact nI_1 _ | rfl) (Nat.le_of_ble_eq_true rfl) rfl rfl ?_
          refine g_goto h 6 dX5_lastForbiddenDay_63 (by decide) ?_
          refine g_few (vs' := [some (.ref z), some (.int (nI al)), some (.int (nI t)), some (.int (nI d)), some (.int (pm (LF S t d al i))), some (.int (nI (i + 1))), none]) ⟨Or.inr rfl, Or.inr rfl, Or.inr rfl, Or.inr rfl, Or.inr rfl, Or.inr rfl, Or.inl rfl, trivial⟩ ?_
          rw [show LF S t d al i = LF S t d al (i + 1) from by rw [LF, cif_f (fun q : inF S i t d ∧ ¬ sRm S i &&& al = 0 => c35_2 q.1)]]
          exact ih (i + 1) (by omega) (by omega)
        · skip
          refine g_aload h dX5_lastForbiddenDay_38 rfl ?_
          refine g_get h 1 fa_X5_230 dX5_lastForbiddenDay_40 q2 rfl ?_
          refine g_iload_n h 1 dX5_lastForbiddenDay_43 rfl rfl ?_
          refine g_iand h dX5_lastForbiddenDay_44 ?_
          refine g_top (y := nI (sRm S i &&& al)) (nI_and _ _) ?_
          have hand := Nat.and_le_left (n := sRm S i) (m := al)
          refine g_if_eqN h 60 dX5_lastForbiddenDay_45 (by decide) (by omega) (fun c45_3 => ?_) (fun c45_3 => ?_)
          · skip
            refine g_iinc (vs' := [_, _, _, _, _, _, _]) h (nI (i + 1)) dX5_lastForbiddenDay_60 rfl (by first | exact nI_1 _ | rfl) (Nat.le_of_ble_eq_true rfl) rfl rfl ?_
            refine g_goto h 6 dX5_lastForbiddenDay_63 (by decide) ?_
            refine g_few (vs' := [some (.ref z), some (.int (nI al)), some (.int (nI t)), some (.int (nI d)), some (.int (pm (LF S t d al i))), some (.int (nI (i + 1))), none]) ⟨Or.inr rfl, Or.inr rfl, Or.inr rfl, Or.inr rfl, Or.inr rfl, Or.inr rfl, Or.inl rfl, trivial⟩ ?_
            rw [show LF S t d al i = LF S t d al (i + 1) from by rw [LF, cif_f (fun q : inF S i t d ∧ ¬ sRm S i &&& al = 0 => q.2 c45_3)]]
            exact ih (i + 1) (by omega) (by omega)
          · skip
            refine g_iload h dX5_lastForbiddenDay_48 rfl ?_
            refine g_aload h dX5_lastForbiddenDay_50 rfl ?_
            refine g_get h 3 fa_X5_232 dX5_lastForbiddenDay_52 q2 rfl ?_
            refine g_max h mm_X5_120 dX5_lastForbiddenDay_55 ⟨(Nat.le_of_ble_eq_true rfl), (Nat.le_of_ble_eq_true rfl)⟩ (Nat.le_of_ble_eq_true rfl) (Nat.le_of_ble_eq_true rfl) ?_
            refine g_istore (vs' := [_, _, _, _, _, _, _]) h dX5_lastForbiddenDay_58 (Nat.le_of_ble_eq_true rfl) rfl rfl ?_
            refine g_iinc (vs' := [_, _, _, _, _, _, _]) h (nI (i + 1)) dX5_lastForbiddenDay_60 rfl (by first | exact nI_1 _ | rfl) (Nat.le_of_ble_eq_true rfl) rfl rfl ?_
            refine g_goto h 6 dX5_lastForbiddenDay_63 (by decide) ?_
            refine g_few (vs' := [some (.ref z), some (.int (nI al)), some (.int (nI t)), some (.int (nI d)), some (.int (if (pm (LF S t d al i)) < nI (sRo S i) then nI (sRo S i) else (pm (LF S t d al i)))), some (.int (nI (i + 1))), none]) ⟨Or.inr rfl, Or.inr rfl, Or.inr rfl, Or.inr rfl, Or.inr rfl, Or.inr rfl, Or.inl rfl, trivial⟩ ?_
            rw [pm_max (by omega) (by omega), show max (LF S t d al i) (sRo S i + 1) = LF S t d al (i + 1) from by rw [LF, cif_t (P := inF S i t d ∧ ¬ sRm S i &&& al = 0) ⟨c35_2, Nat.ne_of_gt c45_3⟩]]
            exact ih (i + 1) (by omega) (by omega)
  exact L6 (sRn S + 1) 0 (by omega) (by omega)
abbrev rm_X5_free : Room := { frames := 3, cells := 0, slots := 0, locals := 65 }
set_option maxRecDepth 100000 in
set_option maxHeartbeats 4000000 in
theorem C_free (lau : Launch) (E : EnvD) (σ : Sto) {z : Nat} {S : PSt} (hI : Inv S) (hR : RepC E z S σ) (a1 a2 a3 : Int32) : CC lau yX5_free cX5_free 9 (some .int) rm_X5_free E [.ref z, .int a1, .int a2, .int a3] σ (fun o s => o = some (.int (opFree S a1 a2 a3).1) ∧ RepC E z (opFree S a1 a2 a3).2 s) := by
  refine cc_of (vs := [_, _, _, _, _, _, _, _, _]) (by decide) (Nat.le_of_ble_eq_true rfl) rfl ?_
  intro X h hr hn
  obtain ⟨r0, ⟨fV, rV, eV⟩, ⟨fP, rP, eP⟩, ⟨fC, rC, eC⟩, ⟨fR, rR, eR⟩, ⟨fM, rM, eM⟩, rCh, rT, rO, ⟨nE, gE, hE, rE⟩, rows, prows⟩ := id hR
  by_cases ha1 : inR a1 8
  · skip
    obtain ⟨a, ha, rfl⟩ := ha1
    have ea : cl (nI a) = a := cl_nI (by omega)
    have hc20 := hI.2.2.2.2.1.1
    refine g_aload_n h 0 dX5_free_0 rfl rfl ?_
    refine g_get h 0 fa_X5_11 dX5_free_1 r0 rfl ?_
    refine g_iload_n h 1 dX5_free_4 rfl rfl ?_
    refine g_callS h [] (c_X5_rowOf_in (xL X) E _ rV (by omega) (i := a) (by omega) (eV a (by omega))) cf_X5_60 cs_X5_rowOf dX5_free_5 rfl rfl (Nat.le_of_ble_eq_true rfl) ⟨(Nat.le_of_ble_eq_true rfl), (Nat.le_of_ble_eq_true rfl)⟩ ⟨(Nat.le_of_ble_eq_true rfl), (Nat.le_of_ble_eq_true rfl)⟩ ?_
    refine kk_det ?_
    refine g_astore (vs' := [_, _, _, _, _, _, _, _, _]) h dX5_free_8 (Nat.le_of_ble_eq_true rfl) rfl rfl ?_
    refine g_aload h dX5_free_10 rfl ?_
    refine g_ifnull h dX5_free_12 ?_
    refine g_iload_n h 2 dX5_free_15 rfl rfl ?_
    refine g_callS h [] (c_X5_isTown (xL X) E _ a2) cf_X5_144 cs_X5_isTown dX5_free_16 rfl rfl (Nat.le_of_ble_eq_true rfl) ⟨(Nat.le_of_ble_eq_true rfl), (Nat.le_of_ble_eq_true rfl)⟩ ⟨(Nat.le_of_ble_eq_true rfl), (Nat.le_of_ble_eq_true rfl)⟩ ?_
    refine kk_det ?_
    refine g_if_eqB h 29 dX5_free_19 (by decide) (fun c19_1 => ?_) (fun c19_1 => ?_)
    · skip
      refine g_bipush h (-2) dX5_free_29 (by decide) ?_
      exact g_iret h hr dX5_free_31 ((fun e => ⟨by rw [e], by rw [e]; exact hR⟩) (show opFree S (nI a) a2 a3 = (-2, S) from by unfold opFree; rw [cif_f (fun q => c19_1 q.2.1)])) (Nat.le_of_ble_eq_true rfl) (Nat.le_of_ble_eq_true rfl)
    · skip
      obtain ⟨t, ht9, rfl⟩ := c19_1
      have et : cl (nI t) = t := cl_nI (by omega)
      refine g_iload_n h 3 dX5_free_22 rfl rfl ?_
      refine g_callS h [] (c_X5_isDay (xL X) E _ a3) cf_X5_147 cs_X5_isDay dX5_free_23 rfl rfl (Nat.le_of_ble_eq_true rfl) ⟨(Nat.le_of_ble_eq_true rfl), (Nat.le_of_ble_eq_true rfl)⟩ ⟨(Nat.le_of_ble_eq_true rfl), (Nat.le_of_ble_eq_true rfl)⟩ ?_
      refine kk_det ?_
      refine g_if_neB h 32 dX5_free_26 (by decide) (fun c26_2 => ?_) (fun c26_2 => ?_)
      · skip
        obtain ⟨d, hd9, rfl⟩ := c26_2
        have ed : cl (nI d) = d := cl_nI (by omega)
        have e0 : (opFree S (nI a) (nI t) (nI d) = (fp (fun q => cutN S a t q = 0) d (1000 - d), S)) := by unfold opFree; rw [cif_t ⟨⟨a, ha, rfl⟩, ⟨t, ht9, rfl⟩, ⟨d, hd9, rfl⟩⟩, ea, et, ed]
        refine g_aload_n h 0 dX5_free_32 rfl rfl ?_
        refine g_aload h dX5_free_33 rfl ?_
        refine g_callV h [] (c_X5_marksOfAll (xL X) E _ hI hR (v := a) ha) cf_X5_177 cv_X5_marksOfAll dX5_free_35 rfl r0 rfl rfl (Nat.le_of_ble_eq_true rfl) ⟨(Nat.le_of_ble_eq_true rfl), (Nat.le_of_ble_eq_true rfl)⟩ ⟨(Nat.le_of_ble_eq_true rfl), (Nat.le_of_ble_eq_true rfl)⟩ ?_
        refine kk_det ?_
        refine g_istore (vs' := [_, _, _, _, _, _, _, _, _]) h dX5_free_38 (Nat.le_of_ble_eq_true rfl) rfl rfl ?_
        refine g_iload_n h 3 dX5_free_40 rfl rfl ?_
        refine g_istore (vs' := [_, _, _, _, _, _, _, _, _]) h dX5_free_41 (Nat.le_of_ble_eq_true rfl) rfl rfl ?_
        refine g_iconst h (nI 0) dX5_free_43 (by decide) ?_
        refine g_istore (vs' := [_, _, _, _, _, _, _, _, _]) h dX5_free_44 (Nat.le_of_ble_eq_true rfl) rfl rfl ?_
        refine g_few (vs' := [some (.ref z), some (.int (nI a)), some (.int (nI t)), some (.int (nI d)), some (.ref (z + 64 + 2 * a)), some (.int (nI (allM S a (sVn S a)))), some (.int (nI d)), some (.int (nI 0)), none]) ⟨Or.inr rfl, Or.inr rfl, Or.inr rfl, Or.inr rfl, Or.inr rfl, Or.inr rfl, Or.inr rfl, Or.inr rfl, Or.inl rfl, trivial⟩ ?_
        have L46 : ∀ (m0 : Nat) (f : Nat) (k : Nat), (f ≤ 1000) → (d ≤ f) → (∀ q, d ≤ q → q < f → ¬ cutN S a t q = 0) → (k + cnG S f (sRn S) ≤ sRn S) → (sRn S + 1 - k) < m0 → G X E 9 (AD σ) (QF X E σ (fun o s => o = some (.int (opFree S (nI a) (nI t) (nI d)).1) ∧ RepC E z (opFree S (nI a) (nI t) (nI d)).2 s) rm_X5_free) 0 0 46 [some (.ref z), some (.int (nI a)), some (.int (nI t)), some (.int (nI d)), some (.ref (z + 64 + 2 * a)), some (.int (nI (allM S a (sVn S a)))), some (.int (nI f)), some (.int (nI k)), none] [] σ := by
          intro m0
          induction m0 with
          | zero => intro f k _ _ _ _ hm0; exact absurd hm0 (Nat.not_lt_zero _)
          | succ m0 ih =>
            intro f k hf hdf hs hk hm0
            refine g_iload h dX5_free_46 rfl ?_
            refine g_aload_n h 0 dX5_free_48 rfl rfl ?_
            refine g_get h 9 fa_X5_57 dX5_free_49 r0 rfl ?_
            refine g_icmp_gtN h 95 dX5_free_52 (by decide) (by omega) (by omega) (fun c52_3 => absurd c52_3 (by omega)) (fun c52_3 => ?_)
            refine g_iload h dX5_free_55 rfl ?_
            refine g_sipush h (nI 999) dX5_free_57 (by decide) ?_
            refine g_icmp_gtN h 95 dX5_free_60 (by decide) (by omega) (by decide) (fun c60_4 => ?_) (fun c60_4 => ?_)
            · skip
              refine g_iconst h (-1) dX5_free_95 (by decide) ?_
              exact g_iret h hr dX5_free_96 (⟨by rw [e0]; exact congrArg (fun q => some (Value.int q)) (by rw [fp_skip (P := (fun q => cutN S a t q = 0)) (N := 1000) (f - d) d (fun q q1 q2 => hs q q1 (by omega)) (by omega), show d + (f - d) = f by omega, show 1000 - f = 0 by omega]; rfl), by rw [e0]; exact hR⟩) (Nat.le_of_ble_eq_true rfl) (Nat.le_of_ble_eq_true rfl)
            · skip
              have hLF := LF_le hI (t := t) (d := f) (al := allM S a (sVn S a)) (sRn S) (Nat.le_refl _)
              refine g_aload_n h 0 dX5_free_63 rfl rfl ?_
              refine g_iload h dX5_free_64 rfl ?_
              refine g_iload_n h 2 dX5_free_66 rfl rfl ?_
              refine g_iload h dX5_free_67 rfl ?_
              refine g_callV h [] (c_X5_lastForbiddenDay (xL X) E _ hI hR (al := allM S a (sVn S a)) (t := t) (d := f) ht9 (by omega)) cf_X5_181 cv_X5_lastForbiddenDay dX5_free_69 rfl r0 rfl rfl (Nat.le_of_ble_eq_true rfl) ⟨(Nat.le_of_ble_eq_true rfl), (Nat.le_of_ble_eq_true rfl)⟩ ⟨(Nat.le_of_ble_eq_true rfl), (Nat.le_of_ble_eq_true rfl)⟩ ?_
              refine kk_det ?_
              refine g_istore (vs' := [_, _, _, _, _, _, _, _, _]) h dX5_free_72 (Nat.le_of_ble_eq_true rfl) rfl rfl ?_
              refine g_iload h dX5_free_74 rfl ?_
              refine g_iconst h (-1) dX5_free_76 (by decide) ?_
              refine g_icmp_ne h 83 dX5_free_77 (by decide) (fun c77_5 => ?_) (fun c77_5 => ?_)
              · skip
                have hL : (LF S t f (allM S a (sVn S a)) (sRn S)) ≠ 0 := fun q => c77_5 ((pm_m1 (by omega)).mpr q)
                rw [show pm (LF S t f (allM S a (sVn S a)) (sRn S)) = nI ((LF S t f (allM S a (sVn S a)) (sRn S)) - 1) from if_neg hL]
                refine g_iload h dX5_free_83 rfl ?_
                refine g_iconst h (nI 1) dX5_free_85 (by decide) ?_
                refine g_iaddN h dX5_free_86 ?_
                refine g_istore (vs' := [_, _, _, _, _, _, _, _, _]) h dX5_free_87 (Nat.le_of_ble_eq_true rfl) rfl rfl ?_
                refine g_iinc (vs' := [_, _, _, _, _, _, _, _, _]) h (nI (k + 1)) dX5_free_89 rfl (by first | exact nI_1 _ | rfl) (Nat.le_of_ble_eq_true rfl) rfl rfl ?_
                refine g_goto h 46 dX5_free_92 (by decide) ?_
                refine g_few (vs' := [some (.ref z), some (.int (nI a)), some (.int (nI t)), some (.int (nI d)), some (.ref (z + 64 + 2 * a)), some (.int (nI (allM S a (sVn S a)))), some (.int (nI (((LF S t f (allM S a (sVn S a)) (sRn S)) - 1) + 1))), some (.int (nI (k + 1))), none]) ⟨Or.inr rfl, Or.inr rfl, Or.inr rfl, Or.inr rfl, Or.inr rfl, Or.inr rfl, Or.inr rfl, Or.inr rfl, Or.inl rfl, trivial⟩ ?_
                obtain ⟨i, i1, ⟨⟨i2, i3, i4⟩, i5⟩, i6⟩ := LFn (sRn S) hL
                have i7 := (hI.2.2.2.2.1.2 i i1).2.2.2
                have hg := cnG_lt (S := S) (f := f) (f' := sRo S i + 1) (by omega) i4 (by omega) (sRn S) i1
                rw [show (LF S t f (allM S a (sVn S a)) (sRn S)) - 1 + 1 = sRo S i + 1 by omega]
                refine ih (sRo S i + 1) (k + 1) (by omega) (by omega) (fun q q1 q2 => ?_) (by omega) (by omega)
                rcases Nat.lt_or_ge q f with e | e
                · exact hs q q1 e
                · rw [cutN0, LF0]
                  exact fun w => w i i1 ⟨⟨i2, by omega, by omega⟩, i5⟩
              · skip
                refine g_iload h dX5_free_80 rfl ?_
                exact g_iret h hr dX5_free_82 (⟨by rw [e0]; exact congrArg (fun q => some (Value.int q)) (by rw [fp_skip (P := (fun q => cutN S a t q = 0)) (N := 1000) (f - d) d (fun q q1 q2 => hs q q1 (by omega)) (by omega), show d + (f - d) = f by omega, show 1000 - f = (1000 - (f + 1)) + 1 by omega, fp_t (p := (fun q => cutN S a t q = 0)) (cutN0.mpr ((pm_m1 (by omega)).mp c77_5))]), by rw [e0]; exact hR⟩) (Nat.le_of_ble_eq_true rfl) (Nat.le_of_ble_eq_true rfl)
        exact L46 (sRn S + 2) d 0 (by omega) (by omega) (fun q q1 q2 => by omega) (by have := cnG_le (S := S) (f := d) (sRn S); omega) (by omega)
      · skip
        refine g_bipush h (-2) dX5_free_29 (by decide) ?_
        exact g_iret h hr dX5_free_31 ((fun e => ⟨by rw [e], by rw [e]; exact hR⟩) (show opFree S (nI a) (nI t) a3 = (-2, S) from by unfold opFree; rw [cif_f (fun q => c26_2 q.2.2)])) (Nat.le_of_ble_eq_true rfl) (Nat.le_of_ble_eq_true rfl)
  · skip
    refine g_aload_n h 0 dX5_free_0 rfl rfl ?_
    refine g_get h 0 fa_X5_11 dX5_free_1 r0 rfl ?_
    refine g_iload_n h 1 dX5_free_4 rfl rfl ?_
    refine g_callS h [] (c_X5_rowOf_out (xL X) E _ a1 rV (by omega) ha1) cf_X5_60 cs_X5_rowOf dX5_free_5 rfl rfl (Nat.le_of_ble_eq_true rfl) ⟨(Nat.le_of_ble_eq_true rfl), (Nat.le_of_ble_eq_true rfl)⟩ ⟨(Nat.le_of_ble_eq_true rfl), (Nat.le_of_ble_eq_true rfl)⟩ ?_
    refine kk_det ?_
    refine g_astoreN (vs' := [_, _, _, _, _, _, _, _, _]) h dX5_free_8 (Nat.le_of_ble_eq_true rfl) rfl rfl ?_
    refine g_aloadN h dX5_free_10 rfl ?_
    refine g_ifnullN h 29 dX5_free_12 (by decide) ?_
    refine g_bipush h (-2) dX5_free_29 (by decide) ?_
    exact g_iret h hr dX5_free_31 ((fun e => ⟨by rw [e], by rw [e]; exact hR⟩) (show opFree S a1 a2 a3 = (-2, S) from by unfold opFree; rw [cif_f (fun q => ha1 q.1)])) (Nat.le_of_ble_eq_true rfl) (Nat.le_of_ble_eq_true rfl)
