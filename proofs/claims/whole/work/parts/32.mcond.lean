/-! the reference's conditions (own work; walks by program) -/
theorem v1 {P : Prop} (h : P) : nI 1 = bI P := by rw [bI_t h]; rfl
theorem v0 {P : Prop} (h : ¬ P) : nI 0 = bI P := by rw [bI_f h]; rfl
theorem m_add {α : Type} {T : Nat → α} {n s : Nat} {t : α} {pr : α → Nat} {f : Nat → Int32} (e : ∀ i, i < n → f i = nI (pr (T i))) (ht : pr t = s) : ∀ i, i < n + 1 → upd f n (nI s) i = nI (pr (upN T n t i)) := by
  intro i hi
  by_cases q : i = n
  · subst q
    rw [upd_eq9, upN_eq, ht]
  · rw [upd_ne9 q, upN_ne q]
    exact e i (by omega)
def kpL (so x y : Nat) (h : Nat → Int32) : Nat → Prop
  | 0 => True
  | i + 1 => (kpL so x y h i ∧ (h i = nI y → so = 6 → mN x h i = 0)) ∧ (h i = nI x → (so = 2 → 0 < mN y h i) ∧ (so = 5 → 0 < i ∧ h (i - 1) = nI y))
theorem kpL_s {so x y i : Nat} {h : Nat → Int32} : kpL so x y h (i + 1) = ((kpL so x y h i ∧ (h i = nI y → so = 6 → mN x h i = 0)) ∧ (h i = nI x → (so = 2 → 0 < mN y h i) ∧ (so = 5 → 0 < i ∧ h (i - 1) = nI y))) := rfl
theorem ng_gp {h : Nat → Int32} : ∀ n, (∀ i, i < n → h i ≠ -1) → ¬ gp h n
  | 0, _ => fun q => q
  | n + 1, g => by
    rw [gp_s]
    rintro (q | q)
    · exact ng_gp n (fun i hi => g i (by omega)) q
    · exact g n (by omega) q
theorem ahd_y {y n : Nat} {h : Nat → Int32} (hy : y < 100) : ahd h n = nI y ↔ (0 < n ∧ h (n - 1) = nI y) := by
  have m : ∀ y, y < 100 → (-2 : Int32) ≠ nI y := by decide +kernel
  unfold ahd
  by_cases e : 0 < n
  · rw [if_pos e]
    exact ⟨fun q => ⟨e, q⟩, fun q => q.2⟩
  · rw [if_neg e]
    exact ⟨fun q => absurd q (m y hy), fun q => absurd q.1 e⟩
theorem kp2 {x y : Nat} {h : Nat → Int32} : ∀ n, (∀ i, i < n → h i ≠ -1) → (kpL 2 x y h n ↔ hel 2 x y h n) ∧ (¬ hel 2 x y h n → opn x y h n)
  | 0, _ => ⟨⟨fun _ => trivial, fun _ => trivial⟩, fun q => absurd trivial q⟩
  | n + 1, g => by
    obtain ⟨i1, i2⟩ := kp2 (x := x) (y := y) n (fun i hi => g i (by omega))
    have hg := ng_gp n (fun i hi => g i (by omega))
    have hx0 : x = y → hel 2 x y h n → mN y h n = 0 := fun e q => by subst e; exact a_hel2x q
    rw [kpL_s, hel_s, opn_s, i1]
    have g1 := g n (by omega)
    constructor
    · constructor
      · rintro ⟨⟨q1, _⟩, q3⟩
        refine ⟨q1, fun q => ⟨fun _ => ?_, fun w => absurd w (by decide)⟩⟩
        have := (q3 q).1 rfl
        exact ⟨fun e => by have := hx0 e q1; omega, Or.inl this⟩
      · rintro ⟨q1, q2⟩
        refine ⟨⟨q1, fun _ w => absurd w (by decide)⟩, fun q => ⟨fun _ => ?_, fun w => absurd w (by decide)⟩⟩
        exact ((q2 q).1 rfl).2.resolve_right hg
    · intro q
      by_cases c : hel 2 x y h n
      · refine Or.inr ?_
        by_cases c2 : h n = nI x
        · refine ⟨Or.inr c2, ?_⟩
          by_cases e : x = y
          · exact hx0 e c
          · exact Classical.byContradiction fun w => q ⟨c, fun _ => ⟨fun _ => ⟨e, Or.inl (by omega)⟩, fun w => absurd w (by decide)⟩⟩
        · exact absurd ⟨c, fun w => absurd w c2⟩ q
      · exact Or.inl (i2 c)
theorem kp5 {x y : Nat} {h : Nat → Int32} (hx : x < 100) (hy : y < 100) : ∀ n, (∀ i, i < n → h i ≠ -1) → (kpL 5 x y h n ↔ bar 5 x y h n) ∧ (hel 5 x y h n → bar 5 x y h n)
  | 0, _ => ⟨⟨fun _ => trivial, fun _ => trivial⟩, fun _ => trivial⟩
  | n + 1, g => by
    obtain ⟨i1, i2⟩ := kp5 hx hy n (fun i hi => g i (by omega))
    rw [kpL_s, hel_s, bar_s, i1, ahd_y hy]
    constructor
    · constructor
      · rintro ⟨⟨q1, _⟩, q3⟩
        exact ⟨q1, fun _ w => absurd w (by decide), fun q _ => (q3 q).2 rfl⟩
      · rintro ⟨q1, _, q3⟩
        exact ⟨⟨q1, fun _ w => absurd w (by decide)⟩, fun q => ⟨fun w => absurd w (by decide), fun _ => q3 q rfl⟩⟩
    · rintro ⟨q1, q2⟩
      refine ⟨i2 q1, fun _ w => absurd w (by decide), fun q _ => ?_⟩
      obtain ⟨e, w⟩ := (q2 q).2 rfl
      rcases w with w | w
      · exact w
      · exfalso
        have m : (-2 : Int32) ≠ -1 := by decide
        unfold ahd at w
        by_cases c : 0 < n
        · rw [if_pos c] at w
          exact g (n - 1) (by omega) w
        · rw [if_neg c] at w
          exact m w
theorem kp6 {x y : Nat} {h : Nat → Int32} : ∀ n, (kpL 6 x y h n ↔ bar 6 x y h n)
  | 0 => ⟨fun _ => trivial, fun _ => trivial⟩
  | n + 1 => by
    have i1 := kp6 (x := x) (y := y) (h := h) n
    rw [kpL_s, bar_s, i1]
    constructor
    · rintro ⟨⟨q1, q2⟩, _⟩
      exact ⟨q1, q2, fun _ w => absurd w (by decide)⟩
    · rintro ⟨q1, q2, _⟩
      exact ⟨⟨q1, q2⟩, fun _ => ⟨fun w => absurd w (by decide), fun w => absurd w (by decide)⟩⟩
theorem jd2 {so x y n : Nat} {h : Nat → Int32} : jdV so x y h n = 2 ↔ (canB so x y h n ∧ ¬ canK so x y h n) := by
  by_cases b : canB so x y h n
  · by_cases k : canK so x y h n
    · rw [jdV_1 b k]; exact ⟨fun q => absurd q (by decide), fun q => absurd k q.2⟩
    · rw [jdV_2 b k]; exact ⟨fun _ => ⟨b, k⟩, fun _ => rfl⟩
  · rw [jdV_0 b]; exact ⟨fun q => absurd q (by decide), fun q => absurd q.1 b⟩
theorem kpA {so x y n : Nat} {h : Nat → Int32} (hx : x < 100) (hy : y < 100) (g : ∀ i, i < n → h i ≠ -1) : (so = 0 → (mN x h n = 0 ↔ ¬ jdV so x y h n = 2)) ∧ (so = 1 → (mN x h n ≤ y ↔ ¬ jdV so x y h n = 2)) ∧ (so = 3 → ((mN x h n = 0 ∨ mN y h n = 0) ↔ ¬ jdV so x y h n = 2)) ∧ (so = 4 → (0 < mN x h n ↔ ¬ jdV so x y h n = 2)) ∧ (so = 2 ∨ so = 5 ∨ so = 6 → (kpL so x y h n ↔ ¬ jdV so x y h n = 2)) := by
  have hg := ng_gp n g
  have k2 := kp2 (x := x) (y := y) n g
  have k5 := kp5 hx hy n g
  have k6 := kp6 (x := x) (y := y) (h := h) n
  have b5 := @a_bar5 x y h hx n
  rw [jd2]
  refine ⟨?_, ?_, ?_, ?_, ?_⟩
  · rintro rfl; simp only [canB, canK]; grind
  · rintro rfl; simp only [canB, canK]; grind
  · rintro rfl; simp only [canB, canK]; grind
  · rintro rfl; simp only [canB, canK]; grind
  · rintro (rfl | rfl | rfl)
    · rw [k2.1]; simp only [canB, canK]; grind
    · rw [k5.1]; simp only [canB, canK]; grind
    · rw [k6]; simp only [canB, canK]; grind
theorem mN_le9 {c : Nat} {h : Nat → Int32} : ∀ n, mN c h n ≤ n
  | 0 => Nat.le_refl 0
  | n + 1 => by
    have := mN_le9 (c := c) (h := h) n
    rw [mN_s]
    split <;> omega
abbrev rm_X6_condition : Room := { frames := 2, cells := 0, slots := 0, locals := 42 }
set_option maxRecDepth 100000 in
set_option maxHeartbeats 4000000 in
theorem D_condition (lau : Launch) (E : EnvD) (σ : Sto) {b : Nat} {S : PSt} (hI : Inv S) (hM : RepM E b S σ) (a1 a2 a3 : Int32) : CC lau yX6_condition cX6_condition 4 (some .int) rm_X6_condition E [.ref b, .int a1, .int a2, .int a3] σ (fun o s => o = some (.int (opCond S a1 a2 a3).1) ∧ RepM E b (opCond S a1 a2 a3).2 s) := by
  refine cc_of (vs := [_, _, _, _]) (by decide) (Nat.le_of_ble_eq_true rfl) rfl ?_
  intro X h hr hn
  obtain ⟨r0, ⟨f1, r1, e1⟩, ⟨f2, r2, e2⟩, ⟨f3, r3, e3⟩, ⟨f4, r4, e4⟩, ⟨f5, r5, e5⟩, ⟨f6, r6, e6⟩, ⟨f7, r7, e7⟩, ⟨f8, r8, e8⟩, ⟨f9, r9, e9⟩, ⟨f10, r10, e10⟩, ⟨f11, r11, e11⟩, ⟨f12, r12, e12⟩, ⟨f13, r13⟩, ⟨f14, r14⟩, ⟨f15, r15⟩, ⟨f16, r16, e16⟩, ⟨f17, r17⟩⟩ := id hM
  by_cases na1 : ¬ inR a1 7
  · skip
    refine g_iload_n h 1 dX6_condition_0 rfl rfl ?_
    refine g_iconst h (nI 0) dX6_condition_1 (by decide) ?_
    refine g_bipush h (nI 6) dX6_condition_2 (by decide) ?_
    refine g_callS h [] (c_X6_in (xL X) E _ a1 (nI 0) (nI 6)) cf_X6_62 cs_X6_in dX6_condition_4 rfl rfl (Nat.le_of_ble_eq_true rfl) ⟨(Nat.le_of_ble_eq_true rfl), (Nat.le_of_ble_eq_true rfl)⟩ ⟨(Nat.le_of_ble_eq_true rfl), (Nat.le_of_ble_eq_true rfl)⟩ ?_
    refine kk_det ?_
    refine g_top (y := bI (inR a1 7)) (bI_iff (in_N (by omega))) ?_
    refine g_if_eqB h 37 dX6_condition_7 (by decide) (fun c7_1 => ?_) (fun c7_1 => absurd c7_1 na1)
    refine g_bipush h (-2) dX6_condition_37 (by decide) ?_
    exact g_iret h hr dX6_condition_39 ((fun e => ⟨by rw [e], by rw [e]; exact hM⟩) (show opCond S a1 a2 a3 = (-2, S) from cif_f (fun q => na1 q.1))) (Nat.le_of_ble_eq_true rfl) (Nat.le_of_ble_eq_true rfl)
  obtain ⟨s, hs9, rfl⟩ := Classical.not_not.mp na1
  have es9 : cl (nI s) = s := cl_nI (by omega)
  have hc12 := hI.2.2.1.1
  by_cases na2 : ¬ inR a2 100
  · skip
    refine g_iload_n h 1 dX6_condition_0 rfl rfl ?_
    refine g_iconst h (nI 0) dX6_condition_1 (by decide) ?_
    refine g_bipush h (nI 6) dX6_condition_2 (by decide) ?_
    refine g_callS h [] (c_X6_in (xL X) E _ (nI s) (nI 0) (nI 6)) cf_X6_62 cs_X6_in dX6_condition_4 rfl rfl (Nat.le_of_ble_eq_true rfl) ⟨(Nat.le_of_ble_eq_true rfl), (Nat.le_of_ble_eq_true rfl)⟩ ⟨(Nat.le_of_ble_eq_true rfl), (Nat.le_of_ble_eq_true rfl)⟩ ?_
    refine kk_det ?_
    refine g_top (y := bI (inR (nI s) 7)) (bI_iff (in_N (by omega))) ?_
    refine g_if_eqB h 37 dX6_condition_7 (by decide) (fun c7_2 => absurd ⟨s, hs9, rfl⟩ c7_2) (fun c7_2 => ?_)
    refine g_iload_n h 2 dX6_condition_10 rfl rfl ?_
    refine g_callS h [] (c_X6_isLine (xL X) E _ a2) cf_X6_70 cs_X6_isLine dX6_condition_11 rfl rfl (Nat.le_of_ble_eq_true rfl) ⟨(Nat.le_of_ble_eq_true rfl), (Nat.le_of_ble_eq_true rfl)⟩ ⟨(Nat.le_of_ble_eq_true rfl), (Nat.le_of_ble_eq_true rfl)⟩ ?_
    refine kk_det ?_
    refine g_if_eqB h 37 dX6_condition_14 (by decide) (fun c14_3 => ?_) (fun c14_3 => absurd c14_3 na2)
    refine g_bipush h (-2) dX6_condition_37 (by decide) ?_
    exact g_iret h hr dX6_condition_39 ((fun e => ⟨by rw [e], by rw [e]; exact hM⟩) (show opCond S (nI s) a2 a3 = (-2, S) from cif_f (fun q => na2 q.2.1))) (Nat.le_of_ble_eq_true rfl) (Nat.le_of_ble_eq_true rfl)
  obtain ⟨x, hx9, rfl⟩ := Classical.not_not.mp na2
  have ex9 : cl (nI x) = x := cl_nI (by omega)
  by_cases hs1 : s = 1
  · skip
    subst hs1
    have hif := (show (if nI 1 = nI 1 then 41 else 100) = 41 from if_pos rfl)
    by_cases na3 : ¬ inR a3 41
    · skip
      refine g_iload_n h 1 dX6_condition_0 rfl rfl ?_
      refine g_iconst h (nI 0) dX6_condition_1 (by decide) ?_
      refine g_bipush h (nI 6) dX6_condition_2 (by decide) ?_
      refine g_callS h [] (c_X6_in (xL X) E _ (nI 1) (nI 0) (nI 6)) cf_X6_62 cs_X6_in dX6_condition_4 rfl rfl (Nat.le_of_ble_eq_true rfl) ⟨(Nat.le_of_ble_eq_true rfl), (Nat.le_of_ble_eq_true rfl)⟩ ⟨(Nat.le_of_ble_eq_true rfl), (Nat.le_of_ble_eq_true rfl)⟩ ?_
      refine kk_det ?_
      refine g_top (y := bI (inR (nI 1) 7)) (bI_iff (in_N (by omega))) ?_
      refine g_if_eqB h 37 dX6_condition_7 (by decide) (fun c7_4 => absurd ⟨1, hs9, rfl⟩ c7_4) (fun c7_4 => ?_)
      refine g_iload_n h 2 dX6_condition_10 rfl rfl ?_
      refine g_callS h [] (c_X6_isLine (xL X) E _ (nI x)) cf_X6_70 cs_X6_isLine dX6_condition_11 rfl rfl (Nat.le_of_ble_eq_true rfl) ⟨(Nat.le_of_ble_eq_true rfl), (Nat.le_of_ble_eq_true rfl)⟩ ⟨(Nat.le_of_ble_eq_true rfl), (Nat.le_of_ble_eq_true rfl)⟩ ?_
      refine kk_det ?_
      refine g_if_eqB h 37 dX6_condition_14 (by decide) (fun c14_5 => absurd ⟨x, hx9, rfl⟩ c14_5) (fun c14_5 => ?_)
      refine g_iload_n h 3 dX6_condition_17 rfl rfl ?_
      refine g_iconst h (nI 0) dX6_condition_18 (by decide) ?_
      refine g_iload_n h 1 dX6_condition_19 rfl rfl ?_
      refine g_iconst h (nI 1) dX6_condition_20 (by decide) ?_
      refine g_icmp_neN h 29 dX6_condition_21 (by decide) (by decide) (by decide) (fun c21_6 => absurd c21_6 (by decide)) (fun c21_6 => ?_)
      refine g_bipush h (nI 40) dX6_condition_24 (by decide) ?_
      refine g_goto h 31 dX6_condition_26 (by decide) ?_
      refine g_callS h [] (c_X6_in (xL X) E _ a3 (nI 0) (nI 40)) cf_X6_62 cs_X6_in dX6_condition_31 rfl rfl (Nat.le_of_ble_eq_true rfl) ⟨(Nat.le_of_ble_eq_true rfl), (Nat.le_of_ble_eq_true rfl)⟩ ⟨(Nat.le_of_ble_eq_true rfl), (Nat.le_of_ble_eq_true rfl)⟩ ?_
      refine kk_det ?_
      refine g_top (y := bI (inR a3 41)) (bI_iff (in_N (by omega))) ?_
      refine g_if_neB h 40 dX6_condition_34 (by decide) (fun c34_7 => absurd c34_7 na3) (fun c34_7 => ?_)
      refine g_bipush h (-2) dX6_condition_37 (by decide) ?_
      exact g_iret h hr dX6_condition_39 ((fun e => ⟨by rw [e], by rw [e]; exact hM⟩) (show opCond S (nI 1) (nI x) a3 = (-2, S) from cif_f (fun q => na3 (hif ▸ q.2.2)))) (Nat.le_of_ble_eq_true rfl) (Nat.le_of_ble_eq_true rfl)
    obtain ⟨y, hy9, rfl⟩ := Classical.not_not.mp na3
    have ey9 : cl (nI y) = y := cl_nI (by omega)
    have hok : inR (nI 1) 7 ∧ inR (nI x) 100 ∧ inR (nI y) (if nI 1 = nI 1 then 41 else 100) := ⟨⟨_, hs9, rfl⟩, ⟨x, hx9, rfl⟩, by rw [hif]; exact ⟨y, hy9, rfl⟩⟩
    refine g_iload_n h 1 dX6_condition_0 rfl rfl ?_
    refine g_iconst h (nI 0) dX6_condition_1 (by decide) ?_
    refine g_bipush h (nI 6) dX6_condition_2 (by decide) ?_
    refine g_callS h [] (c_X6_in (xL X) E _ (nI 1) (nI 0) (nI 6)) cf_X6_62 cs_X6_in dX6_condition_4 rfl rfl (Nat.le_of_ble_eq_true rfl) ⟨(Nat.le_of_ble_eq_true rfl), (Nat.le_of_ble_eq_true rfl)⟩ ⟨(Nat.le_of_ble_eq_true rfl), (Nat.le_of_ble_eq_true rfl)⟩ ?_
    refine kk_det ?_
    refine g_top (y := bI (inR (nI 1) 7)) (bI_iff (in_N (by omega))) ?_
    refine g_if_eqB h 37 dX6_condition_7 (by decide) (fun c7_8 => absurd ⟨1, hs9, rfl⟩ c7_8) (fun c7_8 => ?_)
    refine g_iload_n h 2 dX6_condition_10 rfl rfl ?_
    refine g_callS h [] (c_X6_isLine (xL X) E _ (nI x)) cf_X6_70 cs_X6_isLine dX6_condition_11 rfl rfl (Nat.le_of_ble_eq_true rfl) ⟨(Nat.le_of_ble_eq_true rfl), (Nat.le_of_ble_eq_true rfl)⟩ ⟨(Nat.le_of_ble_eq_true rfl), (Nat.le_of_ble_eq_true rfl)⟩ ?_
    refine kk_det ?_
    refine g_if_eqB h 37 dX6_condition_14 (by decide) (fun c14_9 => absurd ⟨x, hx9, rfl⟩ c14_9) (fun c14_9 => ?_)
    refine g_iload_n h 3 dX6_condition_17 rfl rfl ?_
    refine g_iconst h (nI 0) dX6_condition_18 (by decide) ?_
    refine g_iload_n h 1 dX6_condition_19 rfl rfl ?_
    refine g_iconst h (nI 1) dX6_condition_20 (by decide) ?_
    refine g_icmp_neN h 29 dX6_condition_21 (by decide) (by decide) (by decide) (fun c21_10 => absurd c21_10 (by decide)) (fun c21_10 => ?_)
    refine g_bipush h (nI 40) dX6_condition_24 (by decide) ?_
    refine g_goto h 31 dX6_condition_26 (by decide) ?_
    refine g_callS h [] (c_X6_in (xL X) E _ (nI y) (nI 0) (nI 40)) cf_X6_62 cs_X6_in dX6_condition_31 rfl rfl (Nat.le_of_ble_eq_true rfl) ⟨(Nat.le_of_ble_eq_true rfl), (Nat.le_of_ble_eq_true rfl)⟩ ⟨(Nat.le_of_ble_eq_true rfl), (Nat.le_of_ble_eq_true rfl)⟩ ?_
    refine kk_det ?_
    refine g_top (y := bI (inR (nI y) 41)) (bI_iff (in_N (by omega))) ?_
    refine g_if_neB h 40 dX6_condition_34 (by decide) (fun c34_11 => ?_) (fun c34_11 => absurd ⟨y, hy9, rfl⟩ c34_11)
    refine g_aload_n h 0 dX6_condition_40 rfl rfl ?_
    refine g_get h 4 fa_X6_81 dX6_condition_41 r0 rfl ?_
    refine g_bipush h (nI 12) dX6_condition_44 (by decide) ?_
    refine g_icmp_neN h 52 dX6_condition_46 (by decide) (by omega) (by decide) (fun c46_12 => ?_) (fun c46_12 => ?_)
    · skip
      refine g_aload_n h 0 dX6_condition_52 rfl rfl ?_
      refine g_get h 5 fa_X6_22 dX6_condition_53 r0 rfl ?_
      refine g_aload_n h 0 dX6_condition_56 rfl rfl ?_
      refine g_get h 4 fa_X6_81 dX6_condition_57 r0 rfl ?_
      refine g_iload_n h 1 dX6_condition_60 rfl rfl ?_
      refine g_iast h dX6_condition_61 r5 (by omega) (by omega) ?_
      refine g_aload_n h 0 dX6_condition_62 rfl rfl ?_
      refine g_get h 6 fa_X6_25 dX6_condition_63 ((sup_ne (by omega)).trans r0) rfl ?_
      refine g_aload_n h 0 dX6_condition_66 rfl rfl ?_
      refine g_get h 4 fa_X6_81 dX6_condition_67 ((sup_ne (by omega)).trans r0) rfl ?_
      refine g_iload_n h 2 dX6_condition_70 rfl rfl ?_
      refine g_iast h dX6_condition_71 ((sup_ne (by omega)).trans r6) (by omega) (by omega) ?_
      refine g_aload_n h 0 dX6_condition_72 rfl rfl ?_
      refine g_get h 7 fa_X6_28 dX6_condition_73 ((sup_ne (by omega)).trans ((sup_ne (by omega)).trans r0)) rfl ?_
      refine g_aload_n h 0 dX6_condition_76 rfl rfl ?_
      refine g_get h 4 fa_X6_81 dX6_condition_77 ((sup_ne (by omega)).trans ((sup_ne (by omega)).trans r0)) rfl ?_
      refine g_iload_n h 3 dX6_condition_80 rfl rfl ?_
      refine g_iast h dX6_condition_81 ((sup_ne (by omega)).trans ((sup_ne (by omega)).trans r7)) (by omega) (by omega) ?_
      refine g_aload_n h 0 dX6_condition_82 rfl rfl ?_
      refine g_dup h dX6_condition_83 rfl ?_
      refine g_get h 4 fa_X6_81 dX6_condition_84 ((sup_ne (by omega)).trans ((sup_ne (by omega)).trans ((sup_ne (by omega)).trans r0))) rfl ?_
      refine g_iconst h (nI 1) dX6_condition_87 (by decide) ?_
      refine g_iaddN h dX6_condition_88 ?_
      refine g_put (fs' := [_, _, _, _, _, _, _, _, _, _, _, _, _, _, _, _, _, _, _, _]) h 4 fp_X6_81 dX6_condition_89 ((sup_ne (by omega)).trans ((sup_ne (by omega)).trans ((sup_ne (by omega)).trans r0))) (Nat.le_of_ble_eq_true rfl) rfl rfl rfl ?_
      refine g_aload_n h 0 dX6_condition_92 rfl rfl ?_
      refine g_get h 4 fa_X6_81 dX6_condition_93 sup_eq rfl ?_
      refine g_iconst h (nI 1) dX6_condition_96 (by decide) ?_
      refine g_isubN h dX6_condition_97 (by omega) ?_
      exact g_iret h hr dX6_condition_98 ((fun e => ⟨by rw [e]; rfl, by rw [e]; exact ⟨sup_eq, ⟨_, ((sup_ne (by omega)).trans ((sup_ne (by omega)).trans ((sup_ne (by omega)).trans ((sup_ne (by omega)).trans r1)))), e1⟩, ⟨_, ((sup_ne (by omega)).trans ((sup_ne (by omega)).trans ((sup_ne (by omega)).trans ((sup_ne (by omega)).trans r2)))), e2⟩, ⟨_, ((sup_ne (by omega)).trans ((sup_ne (by omega)).trans ((sup_ne (by omega)).trans ((sup_ne (by omega)).trans r3)))), e3⟩, ⟨_, ((sup_ne (by omega)).trans ((sup_ne (by omega)).trans ((sup_ne (by omega)).trans ((sup_ne (by omega)).trans r4)))), e4⟩, ⟨_, ((sup_ne (by omega)).trans ((sup_ne (by omega)).trans ((sup_ne (by omega)).trans sup_eq))), m_add (T := S.2.2.1.2) (n := S.2.2.1.1) (t := (1, x, y)) (pr := fun q => q.1) e5 rfl⟩, ⟨_, ((sup_ne (by omega)).trans ((sup_ne (by omega)).trans sup_eq)), m_add (T := S.2.2.1.2) (n := S.2.2.1.1) (t := (1, x, y)) (pr := fun q => q.2.1) e6 rfl⟩, ⟨_, ((sup_ne (by omega)).trans sup_eq), m_add (T := S.2.2.1.2) (n := S.2.2.1.1) (t := (1, x, y)) (pr := fun q => q.2.2) e7 rfl⟩, ⟨_, ((sup_ne (by omega)).trans ((sup_ne (by omega)).trans ((sup_ne (by omega)).trans ((sup_ne (by omega)).trans r8)))), e8⟩, ⟨_, ((sup_ne (by omega)).trans ((sup_ne (by omega)).trans ((sup_ne (by omega)).trans ((sup_ne (by omega)).trans r9)))), e9⟩, ⟨_, ((sup_ne (by omega)).trans ((sup_ne (by omega)).trans ((sup_ne (by omega)).trans ((sup_ne (by omega)).trans r10)))), e10⟩, ⟨_, ((sup_ne (by omega)).trans ((sup_ne (by omega)).trans ((sup_ne (by omega)).trans ((sup_ne (by omega)).trans r11)))), e11⟩, ⟨_, ((sup_ne (by omega)).trans ((sup_ne (by omega)).trans ((sup_ne (by omega)).trans ((sup_ne (by omega)).trans r12)))), e12⟩, ⟨_, ((sup_ne (by omega)).trans ((sup_ne (by omega)).trans ((sup_ne (by omega)).trans ((sup_ne (by omega)).trans r13))))⟩, ⟨_, ((sup_ne (by omega)).trans ((sup_ne (by omega)).trans ((sup_ne (by omega)).trans ((sup_ne (by omega)).trans r14))))⟩, ⟨_, ((sup_ne (by omega)).trans ((sup_ne (by omega)).trans ((sup_ne (by omega)).trans ((sup_ne (by omega)).trans r15))))⟩, ⟨_, ((sup_ne (by omega)).trans ((sup_ne (by omega)).trans ((sup_ne (by omega)).trans ((sup_ne (by omega)).trans r16)))), e16⟩, ⟨_, ((sup_ne (by omega)).trans ((sup_ne (by omega)).trans ((sup_ne (by omega)).trans ((sup_ne (by omega)).trans r17))))⟩⟩⟩) (show opCond S (nI 1) (nI x) (nI y) = (nI (sCn S), addC S 1 x y) from by unfold opCond; rw [cif_t hok, cif_f (by omega), es9, ex9, ey9])) (Nat.le_of_ble_eq_true rfl) (Nat.le_of_ble_eq_true rfl)
    · skip
      refine g_bipush h (-4) dX6_condition_49 (by decide) ?_
      exact g_iret h hr dX6_condition_51 ((fun e => ⟨by rw [e], by rw [e]; exact hM⟩) (show opCond S (nI 1) (nI x) (nI y) = (-4, S) from by unfold opCond; rw [cif_t hok, cif_t (by omega)])) (Nat.le_of_ble_eq_true rfl) (Nat.le_of_ble_eq_true rfl)
  · skip
    have hif := (show (if nI s = nI 1 then 41 else 100) = 100 from if_neg (fun w => hs1 (nI_inj (by omega) (by omega) w)))
    by_cases na3 : ¬ inR a3 100
    · skip
      refine g_iload_n h 1 dX6_condition_0 rfl rfl ?_
      refine g_iconst h (nI 0) dX6_condition_1 (by decide) ?_
      refine g_bipush h (nI 6) dX6_condition_2 (by decide) ?_
      refine g_callS h [] (c_X6_in (xL X) E _ (nI s) (nI 0) (nI 6)) cf_X6_62 cs_X6_in dX6_condition_4 rfl rfl (Nat.le_of_ble_eq_true rfl) ⟨(Nat.le_of_ble_eq_true rfl), (Nat.le_of_ble_eq_true rfl)⟩ ⟨(Nat.le_of_ble_eq_true rfl), (Nat.le_of_ble_eq_true rfl)⟩ ?_
      refine kk_det ?_
      refine g_top (y := bI (inR (nI s) 7)) (bI_iff (in_N (by omega))) ?_
      refine g_if_eqB h 37 dX6_condition_7 (by decide) (fun c7_13 => absurd ⟨s, hs9, rfl⟩ c7_13) (fun c7_13 => ?_)
      refine g_iload_n h 2 dX6_condition_10 rfl rfl ?_
      refine g_callS h [] (c_X6_isLine (xL X) E _ (nI x)) cf_X6_70 cs_X6_isLine dX6_condition_11 rfl rfl (Nat.le_of_ble_eq_true rfl) ⟨(Nat.le_of_ble_eq_true rfl), (Nat.le_of_ble_eq_true rfl)⟩ ⟨(Nat.le_of_ble_eq_true rfl), (Nat.le_of_ble_eq_true rfl)⟩ ?_
      refine kk_det ?_
      refine g_if_eqB h 37 dX6_condition_14 (by decide) (fun c14_14 => absurd ⟨x, hx9, rfl⟩ c14_14) (fun c14_14 => ?_)
      refine g_iload_n h 3 dX6_condition_17 rfl rfl ?_
      refine g_iconst h (nI 0) dX6_condition_18 (by decide) ?_
      refine g_iload_n h 1 dX6_condition_19 rfl rfl ?_
      refine g_iconst h (nI 1) dX6_condition_20 (by decide) ?_
      refine g_icmp_neN h 29 dX6_condition_21 (by decide) (by omega) (by decide) (fun c21_15 => ?_) (fun c21_15 => absurd c21_15 hs1)
      refine g_bipush h (nI 99) dX6_condition_29 (by decide) ?_
      refine g_callS h [] (c_X6_in (xL X) E _ a3 (nI 0) (nI 99)) cf_X6_62 cs_X6_in dX6_condition_31 rfl rfl (Nat.le_of_ble_eq_true rfl) ⟨(Nat.le_of_ble_eq_true rfl), (Nat.le_of_ble_eq_true rfl)⟩ ⟨(Nat.le_of_ble_eq_true rfl), (Nat.le_of_ble_eq_true rfl)⟩ ?_
      refine kk_det ?_
      refine g_top (y := bI (inR a3 100)) (bI_iff (in_N (by omega))) ?_
      refine g_if_neB h 40 dX6_condition_34 (by decide) (fun c34_16 => absurd c34_16 na3) (fun c34_16 => ?_)
      refine g_bipush h (-2) dX6_condition_37 (by decide) ?_
      exact g_iret h hr dX6_condition_39 ((fun e => ⟨by rw [e], by rw [e]; exact hM⟩) (show opCond S (nI s) (nI x) a3 = (-2, S) from cif_f (fun q => na3 (hif ▸ q.2.2)))) (Nat.le_of_ble_eq_true rfl) (Nat.le_of_ble_eq_true rfl)
    obtain ⟨y, hy9, rfl⟩ := Classical.not_not.mp na3
    have ey9 : cl (nI y) = y := cl_nI (by omega)
    have hok : inR (nI s) 7 ∧ inR (nI x) 100 ∧ inR (nI y) (if nI s = nI 1 then 41 else 100) := ⟨⟨_, hs9, rfl⟩, ⟨x, hx9, rfl⟩, by rw [hif]; exact ⟨y, hy9, rfl⟩⟩
    refine g_iload_n h 1 dX6_condition_0 rfl rfl ?_
    refine g_iconst h (nI 0) dX6_condition_1 (by decide) ?_
    refine g_bipush h (nI 6) dX6_condition_2 (by decide) ?_
    refine g_callS h [] (c_X6_in (xL X) E _ (nI s) (nI 0) (nI 6)) cf_X6_62 cs_X6_in dX6_condition_4 rfl rfl (Nat.le_of_ble_eq_true rfl) ⟨(Nat.le_of_ble_eq_true rfl), (Nat.le_of_ble_eq_true rfl)⟩ ⟨(Nat.le_of_ble_eq_true rfl), (Nat.le_of_ble_eq_true rfl)⟩ ?_
    refine kk_det ?_
    refine g_top (y := bI (inR (nI s) 7)) (bI_iff (in_N (by omega))) ?_
    refine g_if_eqB h 37 dX6_condition_7 (by decide) (fun c7_17 => absurd ⟨s, hs9, rfl⟩ c7_17) (fun c7_17 => ?_)
    refine g_iload_n h 2 dX6_condition_10 rfl rfl ?_
    refine g_callS h [] (c_X6_isLine (xL X) E _ (nI x)) cf_X6_70 cs_X6_isLine dX6_condition_11 rfl rfl (Nat.le_of_ble_eq_true rfl) ⟨(Nat.le_of_ble_eq_true rfl), (Nat.le_of_ble_eq_true rfl)⟩ ⟨(Nat.le_of_ble_eq_true rfl), (Nat.le_of_ble_eq_true rfl)⟩ ?_
    refine kk_det ?_
    refine g_if_eqB h 37 dX6_condition_14 (by decide) (fun c14_18 => absurd ⟨x, hx9, rfl⟩ c14_18) (fun c14_18 => ?_)
    refine g_iload_n h 3 dX6_condition_17 rfl rfl ?_
    refine g_iconst h (nI 0) dX6_condition_18 (by decide) ?_
    refine g_iload_n h 1 dX6_condition_19 rfl rfl ?_
    refine g_iconst h (nI 1) dX6_condition_20 (by decide) ?_
    refine g_icmp_neN h 29 dX6_condition_21 (by decide) (by omega) (by decide) (fun c21_19 => ?_) (fun c21_19 => absurd c21_19 hs1)
    refine g_bipush h (nI 99) dX6_condition_29 (by decide) ?_
    refine g_callS h [] (c_X6_in (xL X) E _ (nI y) (nI 0) (nI 99)) cf_X6_62 cs_X6_in dX6_condition_31 rfl rfl (Nat.le_of_ble_eq_true rfl) ⟨(Nat.le_of_ble_eq_true rfl), (Nat.le_of_ble_eq_true rfl)⟩ ⟨(Nat.le_of_ble_eq_true rfl), (Nat.le_of_ble_eq_true rfl)⟩ ?_
    refine kk_det ?_
    refine g_top (y := bI (inR (nI y) 100)) (bI_iff (in_N (by omega))) ?_
    refine g_if_neB h 40 dX6_condition_34 (by decide) (fun c34_20 => ?_) (fun c34_20 => absurd ⟨y, hy9, rfl⟩ c34_20)
    refine g_aload_n h 0 dX6_condition_40 rfl rfl ?_
    refine g_get h 4 fa_X6_81 dX6_condition_41 r0 rfl ?_
    refine g_bipush h (nI 12) dX6_condition_44 (by decide) ?_
    refine g_icmp_neN h 52 dX6_condition_46 (by decide) (by omega) (by decide) (fun c46_21 => ?_) (fun c46_21 => ?_)
    · skip
      refine g_aload_n h 0 dX6_condition_52 rfl rfl ?_
      refine g_get h 5 fa_X6_22 dX6_condition_53 r0 rfl ?_
      refine g_aload_n h 0 dX6_condition_56 rfl rfl ?_
      refine g_get h 4 fa_X6_81 dX6_condition_57 r0 rfl ?_
      refine g_iload_n h 1 dX6_condition_60 rfl rfl ?_
      refine g_iast h dX6_condition_61 r5 (by omega) (by omega) ?_
      refine g_aload_n h 0 dX6_condition_62 rfl rfl ?_
      refine g_get h 6 fa_X6_25 dX6_condition_63 ((sup_ne (by omega)).trans r0) rfl ?_
      refine g_aload_n h 0 dX6_condition_66 rfl rfl ?_
      refine g_get h 4 fa_X6_81 dX6_condition_67 ((sup_ne (by omega)).trans r0) rfl ?_
      refine g_iload_n h 2 dX6_condition_70 rfl rfl ?_
      refine g_iast h dX6_condition_71 ((sup_ne (by omega)).trans r6) (by omega) (by omega) ?_
      refine g_aload_n h 0 dX6_condition_72 rfl rfl ?_
      refine g_get h 7 fa_X6_28 dX6_condition_73 ((sup_ne (by omega)).trans ((sup_ne (by omega)).trans r0)) rfl ?_
      refine g_aload_n h 0 dX6_condition_76 rfl rfl ?_
      refine g_get h 4 fa_X6_81 dX6_condition_77 ((sup_ne (by omega)).trans ((sup_ne (by omega)).trans r0)) rfl ?_
      refine g_iload_n h 3 dX6_condition_80 rfl rfl ?_
      refine g_iast h dX6_condition_81 ((sup_ne (by omega)).trans ((sup_ne (by omega)).trans r7)) (by omega) (by omega) ?_
      refine g_aload_n h 0 dX6_condition_82 rfl rfl ?_
      refine g_dup h dX6_condition_83 rfl ?_
      refine g_get h 4 fa_X6_81 dX6_condition_84 ((sup_ne (by omega)).trans ((sup_ne (by omega)).trans ((sup_ne (by omega)).trans r0))) rfl ?_
      refine g_iconst h (nI 1) dX6_condition_87 (by decide) ?_
      refine g_iaddN h dX6_condition_88 ?_
      refine g_put (fs' := [_, _, _, _, _, _, _, _, _, _, _, _, _, _, _, _, _, _, _, _]) h 4 fp_X6_81 dX6_condition_89 ((sup_ne (by omega)).trans ((sup_ne (by omega)).trans ((sup_ne (by omega)).trans r0))) (Nat.le_of_ble_eq_true rfl) rfl rfl rfl ?_
      refine g_aload_n h 0 dX6_condition_92 rfl rfl ?_
      refine g_get h 4 fa_X6_81 dX6_condition_93 sup_eq rfl ?_
      refine g_iconst h (nI 1) dX6_condition_96 (by decide) ?_
      refine g_isubN h dX6_condition_97 (by omega) ?_
      exact g_iret h hr dX6_condition_98 ((fun e => ⟨by rw [e]; rfl, by rw [e]; exact ⟨sup_eq, ⟨_, ((sup_ne (by omega)).trans ((sup_ne (by omega)).trans ((sup_ne (by omega)).trans ((sup_ne (by omega)).trans r1)))), e1⟩, ⟨_, ((sup_ne (by omega)).trans ((sup_ne (by omega)).trans ((sup_ne (by omega)).trans ((sup_ne (by omega)).trans r2)))), e2⟩, ⟨_, ((sup_ne (by omega)).trans ((sup_ne (by omega)).trans ((sup_ne (by omega)).trans ((sup_ne (by omega)).trans r3)))), e3⟩, ⟨_, ((sup_ne (by omega)).trans ((sup_ne (by omega)).trans ((sup_ne (by omega)).trans ((sup_ne (by omega)).trans r4)))), e4⟩, ⟨_, ((sup_ne (by omega)).trans ((sup_ne (by omega)).trans ((sup_ne (by omega)).trans sup_eq))), m_add (T := S.2.2.1.2) (n := S.2.2.1.1) (t := (s, x, y)) (pr := fun q => q.1) e5 rfl⟩, ⟨_, ((sup_ne (by omega)).trans ((sup_ne (by omega)).trans sup_eq)), m_add (T := S.2.2.1.2) (n := S.2.2.1.1) (t := (s, x, y)) (pr := fun q => q.2.1) e6 rfl⟩, ⟨_, ((sup_ne (by omega)).trans sup_eq), m_add (T := S.2.2.1.2) (n := S.2.2.1.1) (t := (s, x, y)) (pr := fun q => q.2.2) e7 rfl⟩, ⟨_, ((sup_ne (by omega)).trans ((sup_ne (by omega)).trans ((sup_ne (by omega)).trans ((sup_ne (by omega)).trans r8)))), e8⟩, ⟨_, ((sup_ne (by omega)).trans ((sup_ne (by omega)).trans ((sup_ne (by omega)).trans ((sup_ne (by omega)).trans r9)))), e9⟩, ⟨_, ((sup_ne (by omega)).trans ((sup_ne (by omega)).trans ((sup_ne (by omega)).trans ((sup_ne (by omega)).trans r10)))), e10⟩, ⟨_, ((sup_ne (by omega)).trans ((sup_ne (by omega)).trans ((sup_ne (by omega)).trans ((sup_ne (by omega)).trans r11)))), e11⟩, ⟨_, ((sup_ne (by omega)).trans ((sup_ne (by omega)).trans ((sup_ne (by omega)).trans ((sup_ne (by omega)).trans r12)))), e12⟩, ⟨_, ((sup_ne (by omega)).trans ((sup_ne (by omega)).trans ((sup_ne (by omega)).trans ((sup_ne (by omega)).trans r13))))⟩, ⟨_, ((sup_ne (by omega)).trans ((sup_ne (by omega)).trans ((sup_ne (by omega)).trans ((sup_ne (by omega)).trans r14))))⟩, ⟨_, ((sup_ne (by omega)).trans ((sup_ne (by omega)).trans ((sup_ne (by omega)).trans ((sup_ne (by omega)).trans r15))))⟩, ⟨_, ((sup_ne (by omega)).trans ((sup_ne (by omega)).trans ((sup_ne (by omega)).trans ((sup_ne (by omega)).trans r16)))), e16⟩, ⟨_, ((sup_ne (by omega)).trans ((sup_ne (by omega)).trans ((sup_ne (by omega)).trans ((sup_ne (by omega)).trans r17))))⟩⟩⟩) (show opCond S (nI s) (nI x) (nI y) = (nI (sCn S), addC S s x y) from by unfold opCond; rw [cif_t hok, cif_f (by omega), es9, ex9, ey9])) (Nat.le_of_ble_eq_true rfl) (Nat.le_of_ble_eq_true rfl)
    · skip
      refine g_bipush h (-4) dX6_condition_49 (by decide) ?_
      exact g_iret h hr dX6_condition_51 ((fun e => ⟨by rw [e], by rw [e]; exact hM⟩) (show opCond S (nI s) (nI x) (nI y) = (-4, S) from by unfold opCond; rw [cif_t hok, cif_t (by omega)])) (Nat.le_of_ble_eq_true rfl) (Nat.le_of_ble_eq_true rfl)
abbrev rm_X6_clear : Room := { frames := 0, cells := 0, slots := 0, locals := 0 }
set_option maxRecDepth 100000 in
set_option maxHeartbeats 4000000 in
theorem D_clear (lau : Launch) (E : EnvD) (σ : Sto) {b : Nat} {S : PSt} (hI : Inv S) (hM : RepM E b S σ) : CC lau yX6_clear cX6_clear 2 (some .int) rm_X6_clear E [.ref b] σ (fun o s => o = some (.int (opClear S).1) ∧ RepM E b (opClear S).2 s) := by
  refine cc_of (vs := [_, _]) (by decide) (Nat.le_of_ble_eq_true rfl) rfl ?_
  intro X h hr hn
  obtain ⟨r0, ⟨f1, r1, e1⟩, ⟨f2, r2, e2⟩, ⟨f3, r3, e3⟩, ⟨f4, r4, e4⟩, ⟨f5, r5, e5⟩, ⟨f6, r6, e6⟩, ⟨f7, r7, e7⟩, ⟨f8, r8, e8⟩, ⟨f9, r9, e9⟩, ⟨f10, r10, e10⟩, ⟨f11, r11, e11⟩, ⟨f12, r12, e12⟩, ⟨f13, r13⟩, ⟨f14, r14⟩, ⟨f15, r15⟩, ⟨f16, r16, e16⟩, ⟨f17, r17⟩⟩ := id hM
  have hc12 := hI.2.2.1.1
  refine g_aload_n h 0 dX6_clear_0 rfl rfl ?_
  refine g_get h 4 fa_X6_81 dX6_clear_1 r0 rfl ?_
  refine g_istore_n (vs' := [_, _]) h 1 dX6_clear_4 rfl (Nat.le_of_ble_eq_true rfl) rfl rfl ?_
  refine g_aload_n h 0 dX6_clear_5 rfl rfl ?_
  refine g_iconst h (nI 0) dX6_clear_6 (by decide) ?_
  refine g_put (fs' := [_, _, _, _, _, _, _, _, _, _, _, _, _, _, _, _, _, _, _, _]) h 4 fp_X6_81 dX6_clear_7 r0 (Nat.le_of_ble_eq_true rfl) rfl rfl rfl ?_
  refine g_iload_n h 1 dX6_clear_10 rfl rfl ?_
  exact g_iret h hr dX6_clear_11 (⟨rfl, ⟨sup_eq, ⟨_, ((sup_ne (by omega)).trans r1), e1⟩, ⟨_, ((sup_ne (by omega)).trans r2), e2⟩, ⟨_, ((sup_ne (by omega)).trans r3), e3⟩, ⟨_, ((sup_ne (by omega)).trans r4), e4⟩, ⟨_, ((sup_ne (by omega)).trans r5), fun i hi => absurd hi (Nat.not_lt_zero _)⟩, ⟨_, ((sup_ne (by omega)).trans r6), fun i hi => absurd hi (Nat.not_lt_zero _)⟩, ⟨_, ((sup_ne (by omega)).trans r7), fun i hi => absurd hi (Nat.not_lt_zero _)⟩, ⟨_, ((sup_ne (by omega)).trans r8), e8⟩, ⟨_, ((sup_ne (by omega)).trans r9), e9⟩, ⟨_, ((sup_ne (by omega)).trans r10), e10⟩, ⟨_, ((sup_ne (by omega)).trans r11), e11⟩, ⟨_, ((sup_ne (by omega)).trans r12), e12⟩, ⟨_, ((sup_ne (by omega)).trans r13)⟩, ⟨_, ((sup_ne (by omega)).trans r14)⟩, ⟨_, ((sup_ne (by omega)).trans r15)⟩, ⟨_, ((sup_ne (by omega)).trans r16), e16⟩, ⟨_, ((sup_ne (by omega)).trans r17)⟩⟩⟩) (Nat.le_of_ble_eq_true rfl) (Nat.le_of_ble_eq_true rfl)
abbrev rm_X6_keeps : Room := { frames := 0, cells := 0, slots := 0, locals := 0 }
set_option maxRecDepth 100000 in
set_option maxHeartbeats 4000000 in
theorem c_X6_keeps (lau : Launch) (E : EnvD) (σ : Sto) {b : Nat} {S : PSt} (hI : Inv S) (hM : RepM E b S σ) {v c : Nat} (hv : v < 8) (hc : c < sCn S) : CC lau yX6_keeps cX6_keeps 11 (some .boolean) rm_X6_keeps E [.ref b, .int (nI v), .int (nI c)] σ (fun o s => o = some (.int (bI (¬ jdS S c (rwV S v) (sVn S v) = 2))) ∧ s = σ) := by
  refine cc_of (vs := [_, _, _, _, _, _, _, _, _, _, _]) (by decide) (Nat.le_of_ble_eq_true rfl) rfl ?_
  intro X h hr hn
  obtain ⟨r0, ⟨f1, r1, e1⟩, ⟨f2, r2, e2⟩, ⟨f3, r3, e3⟩, ⟨f4, r4, e4⟩, ⟨f5, r5, e5⟩, ⟨f6, r6, e6⟩, ⟨f7, r7, e7⟩, ⟨f8, r8, e8⟩, ⟨f9, r9, e9⟩, ⟨f10, r10, e10⟩, ⟨f11, r11, e11⟩, ⟨f12, r12, e12⟩, ⟨f13, r13⟩, ⟨f14, r14⟩, ⟨f15, r15⟩, ⟨f16, r16, e16⟩, ⟨f17, r17⟩⟩ := id hM
  obtain ⟨hnv, hlv⟩ := hI.1 v hv
  obtain ⟨hs7, hx, hy, hy1⟩ := hI.2.2.1.2 c hc
  have hc12 := hI.2.2.1.1
  have hng : ∀ i, i < sVn S v → rwV S v i ≠ -1 := fun i hi => m1n _ (by have := hlv i hi; omega)
  obtain ⟨kp0, kp1, kp3, kp4, kp9⟩ := kpA (so := sCs S c) hx hy hng
  refine g_aload_n h 0 dX6_keeps_0 rfl rfl ?_
  refine g_get h 6 fa_X6_25 dX6_keeps_1 r0 rfl ?_
  refine g_iload_n h 2 dX6_keeps_4 rfl rfl ?_
  refine g_iald h dX6_keeps_5 r6 (by omega) (by omega) ?_
  refine g_top (y := nI (sCx S c)) (e6 c (by omega)) ?_
  refine g_istore_n (vs' := [_, _, _, _, _, _, _, _, _, _, _]) h 3 dX6_keeps_6 rfl (Nat.le_of_ble_eq_true rfl) rfl rfl ?_
  refine g_aload_n h 0 dX6_keeps_7 rfl rfl ?_
  refine g_get h 7 fa_X6_28 dX6_keeps_8 r0 rfl ?_
  refine g_iload_n h 2 dX6_keeps_11 rfl rfl ?_
  refine g_iald h dX6_keeps_12 r7 (by omega) (by omega) ?_
  refine g_top (y := nI (sCy S c)) (e7 c (by omega)) ?_
  refine g_istore (vs' := [_, _, _, _, _, _, _, _, _, _, _]) h dX6_keeps_13 (Nat.le_of_ble_eq_true rfl) rfl rfl ?_
  refine g_iconst h (nI 0) dX6_keeps_15 (by decide) ?_
  refine g_istore (vs' := [_, _, _, _, _, _, _, _, _, _, _]) h dX6_keeps_16 (Nat.le_of_ble_eq_true rfl) rfl rfl ?_
  refine g_iconst h (nI 0) dX6_keeps_18 (by decide) ?_
  refine g_istore (vs' := [_, _, _, _, _, _, _, _, _, _, _]) h dX6_keeps_19 (Nat.le_of_ble_eq_true rfl) rfl rfl ?_
  refine g_iconst h (nI 1) dX6_keeps_21 (by decide) ?_
  refine g_istore (vs' := [_, _, _, _, _, _, _, _, _, _, _]) h dX6_keeps_22 (Nat.le_of_ble_eq_true rfl) rfl rfl ?_
  refine g_iconst h (nI 0) dX6_keeps_24 (by decide) ?_
  refine g_istore (vs' := [_, _, _, _, _, _, _, _, _, _, _]) h dX6_keeps_25 (Nat.le_of_ble_eq_true rfl) rfl rfl ?_
  refine g_few (vs' := [some (.ref b), some (.int (nI v)), some (.int (nI c)), some (.int (nI (sCx S c))), some (.int (nI (sCy S c))), some (.int (nI 0)), some (.int (nI 0)), some (.int (nI 1)), some (.int (nI 0)), none, none]) ⟨Or.inr rfl, Or.inr rfl, Or.inr rfl, Or.inr rfl, Or.inr rfl, Or.inr rfl, Or.inr rfl, Or.inr rfl, Or.inr rfl, Or.inl rfl, Or.inl rfl, trivial⟩ ?_
  have L27 : ∀ (m0 : Nat) (i : Nat) (t6 : Int32) (t7 : Int32), (i ≤ sVn S v) → (t6 = bI (0 < mN (sCy S c) (rwV S v) i)) → (t7 = bI (kpL (sCs S c) (sCx S c) (sCy S c) (rwV S v) i)) → (sVn S v - i) < m0 → G X E 11 (AD σ) (QF X E σ (fun o s => o = some (.int (bI (¬ jdS S c (rwV S v) (sVn S v) = 2))) ∧ s = σ) rm_X6_keeps) 0 0 27 [some (.ref b), some (.int (nI v)), some (.int (nI c)), some (.int (nI (sCx S c))), some (.int (nI (sCy S c))), some (.int (nI (mN (sCx S c) (rwV S v) i))), some (.int t6), some (.int t7), some (.int (nI i)), none, none] [] σ := by
    intro m0
    induction m0 with
    | zero => intro i t6 t7 _ _ _ hm0; exact absurd hm0 (Nat.not_lt_zero _)
    | succ m0 ih =>
      intro i t6 t7 hi h6 h7 hm0
      refine g_iload h dX6_keeps_27 rfl ?_
      refine g_aload_n h 0 dX6_keeps_29 rfl rfl ?_
      refine g_get h 1 fa_X6_13 dX6_keeps_30 r0 rfl ?_
      refine g_iload_n h 1 dX6_keeps_33 rfl rfl ?_
      refine g_iald h dX6_keeps_34 r2 (by omega) (by omega) ?_
      refine g_top (y := nI (sVn S v)) (e2 v (by omega)) ?_
      refine g_icmp_geN h 194 dX6_keeps_35 (by decide) (by omega) (by omega) (fun c35_1 => ?_) (fun c35_1 => ?_)
      · skip
        obtain rfl : i = sVn S v := by omega
        subst h6 h7
        have mb := mN_le9 (c := sCx S c) (h := rwV S v) (sVn S v)
        rcases (show sCs S c = 0 ∨ sCs S c = 1 ∨ sCs S c = 2 ∨ sCs S c = 3 ∨ sCs S c = 4 ∨ sCs S c = 5 ∨ sCs S c = 6 by omega) with hso | hso | hso | hso | hso | hso | hso
        · skip
          refine g_aload_n h 0 dX6_keeps_194 rfl rfl ?_
          refine g_get h 5 fa_X6_22 dX6_keeps_195 r0 rfl ?_
          refine g_iload_n h 2 dX6_keeps_198 rfl rfl ?_
          refine g_iald h dX6_keeps_199 r5 (by omega) (by omega) ?_
          refine g_top (y := nI (sCs S c)) (e5 c (by omega)) ?_
          refine g_top (y := nI 0) (congrArg nI hso) ?_
          refine g_tabIn (off := 36) h 236 dX6_keeps_200 (by decide) (by decide) rfl (by decide) ?_
          refine g_iload h dX6_keeps_236 rfl ?_
          refine g_if_neN h 245 dX6_keeps_238 (by decide) (by omega) (fun c238_2 => ?_) (fun c238_2 => ?_)
          · skip
            refine g_iconst h (nI 0) dX6_keeps_245 (by decide) ?_
            exact g_zret h hr rfl dX6_keeps_246 (⟨congrArg (fun q => some (Value.int q)) (v0 (fun q => absurd ((kp0 hso).mpr q) (by omega))), rfl⟩) (Nat.le_of_ble_eq_true rfl) (Nat.le_of_ble_eq_true rfl)
          · skip
            refine g_iconst h (nI 1) dX6_keeps_241 (by decide) ?_
            refine g_goto h 246 dX6_keeps_242 (by decide) ?_
            exact g_zret h hr rfl dX6_keeps_246 (⟨congrArg (fun q => some (Value.int q)) (v1 ((kp0 hso).mp (by omega))), rfl⟩) (Nat.le_of_ble_eq_true rfl) (Nat.le_of_ble_eq_true rfl)
        · skip
          refine g_aload_n h 0 dX6_keeps_194 rfl rfl ?_
          refine g_get h 5 fa_X6_22 dX6_keeps_195 r0 rfl ?_
          refine g_iload_n h 2 dX6_keeps_198 rfl rfl ?_
          refine g_iald h dX6_keeps_199 r5 (by omega) (by omega) ?_
          refine g_top (y := nI (sCs S c)) (e5 c (by omega)) ?_
          refine g_top (y := nI 1) (congrArg nI hso) ?_
          refine g_tabIn (off := 47) h 247 dX6_keeps_200 (by decide) (by decide) rfl (by decide) ?_
          refine g_iload h dX6_keeps_247 rfl ?_
          refine g_iload h dX6_keeps_249 rfl ?_
          refine g_icmp_gtN h 258 dX6_keeps_251 (by decide) (by omega) (by omega) (fun c251_3 => ?_) (fun c251_3 => ?_)
          · skip
            refine g_iconst h (nI 0) dX6_keeps_258 (by decide) ?_
            exact g_zret h hr rfl dX6_keeps_259 (⟨congrArg (fun q => some (Value.int q)) (v0 (fun q => absurd ((kp1 hso).mpr q) (by omega))), rfl⟩) (Nat.le_of_ble_eq_true rfl) (Nat.le_of_ble_eq_true rfl)
          · skip
            refine g_iconst h (nI 1) dX6_keeps_254 (by decide) ?_
            refine g_goto h 259 dX6_keeps_255 (by decide) ?_
            exact g_zret h hr rfl dX6_keeps_259 (⟨congrArg (fun q => some (Value.int q)) (v1 ((kp1 hso).mp (by omega))), rfl⟩) (Nat.le_of_ble_eq_true rfl) (Nat.le_of_ble_eq_true rfl)
        · skip
          refine g_aload_n h 0 dX6_keeps_194 rfl rfl ?_
          refine g_get h 5 fa_X6_22 dX6_keeps_195 r0 rfl ?_
          refine g_iload_n h 2 dX6_keeps_198 rfl rfl ?_
          refine g_iald h dX6_keeps_199 r5 (by omega) (by omega) ?_
          refine g_top (y := nI (sCs S c)) (e5 c (by omega)) ?_
          refine g_top (y := nI 2) (congrArg nI hso) ?_
          refine g_tabIn (off := 87) h 287 dX6_keeps_200 (by decide) (by decide) rfl (by decide) ?_
          refine g_iload h dX6_keeps_287 rfl ?_
          exact g_zret h hr nw_bI dX6_keeps_289 (⟨congrArg (fun q => some (Value.int q)) (bI_iff (kp9 (by omega))), rfl⟩) (Nat.le_of_ble_eq_true rfl) (Nat.le_of_ble_eq_true rfl)
        · skip
          refine g_aload_n h 0 dX6_keeps_194 rfl rfl ?_
          refine g_get h 5 fa_X6_22 dX6_keeps_195 r0 rfl ?_
          refine g_iload_n h 2 dX6_keeps_198 rfl rfl ?_
          refine g_iald h dX6_keeps_199 r5 (by omega) (by omega) ?_
          refine g_top (y := nI (sCs S c)) (e5 c (by omega)) ?_
          refine g_top (y := nI 3) (congrArg nI hso) ?_
          refine g_tabIn (off := 60) h 260 dX6_keeps_200 (by decide) (by decide) rfl (by decide) ?_
          refine g_iload h dX6_keeps_260 rfl ?_
          refine g_if_eqN h 270 dX6_keeps_262 (by decide) (by omega) (fun c262_4 => ?_) (fun c262_4 => ?_)
          · skip
            refine g_iconst h (nI 1) dX6_keeps_270 (by decide) ?_
            refine g_goto h 275 dX6_keeps_271 (by decide) ?_
            exact g_zret h hr rfl dX6_keeps_275 (⟨congrArg (fun q => some (Value.int q)) (v1 ((kp3 hso).mp (by first | exact Or.inl (by omega) | exact Or.inr (by omega)))), rfl⟩) (Nat.le_of_ble_eq_true rfl) (Nat.le_of_ble_eq_true rfl)
          · skip
            refine g_iload h dX6_keeps_265 rfl ?_
            refine g_if_neB h 274 dX6_keeps_267 (by decide) (fun c267_5 => ?_) (fun c267_5 => ?_)
            · skip
              refine g_iconst h (nI 0) dX6_keeps_274 (by decide) ?_
              exact g_zret h hr rfl dX6_keeps_275 (⟨congrArg (fun q => some (Value.int q)) (v0 (fun q => absurd ((kp3 hso).mpr q) (by omega))), rfl⟩) (Nat.le_of_ble_eq_true rfl) (Nat.le_of_ble_eq_true rfl)
            · skip
              refine g_iconst h (nI 1) dX6_keeps_270 (by decide) ?_
              refine g_goto h 275 dX6_keeps_271 (by decide) ?_
              exact g_zret h hr rfl dX6_keeps_275 (⟨congrArg (fun q => some (Value.int q)) (v1 ((kp3 hso).mp (by first | exact Or.inl (by omega) | exact Or.inr (by omega)))), rfl⟩) (Nat.le_of_ble_eq_true rfl) (Nat.le_of_ble_eq_true rfl)
        · skip
          refine g_aload_n h 0 dX6_keeps_194 rfl rfl ?_
          refine g_get h 5 fa_X6_22 dX6_keeps_195 r0 rfl ?_
          refine g_iload_n h 2 dX6_keeps_198 rfl rfl ?_
          refine g_iald h dX6_keeps_199 r5 (by omega) (by omega) ?_
          refine g_top (y := nI (sCs S c)) (e5 c (by omega)) ?_
          refine g_top (y := nI 4) (congrArg nI hso) ?_
          refine g_tabIn (off := 76) h 276 dX6_keeps_200 (by decide) (by decide) rfl (by decide) ?_
          refine g_iload h dX6_keeps_276 rfl ?_
          refine g_if_leN h 285 dX6_keeps_278 (by decide) (by omega) (fun c278_6 => ?_) (fun c278_6 => ?_)
          · skip
            refine g_iconst h (nI 0) dX6_keeps_285 (by decide) ?_
            exact g_zret h hr rfl dX6_keeps_286 (⟨congrArg (fun q => some (Value.int q)) (v0 (fun q => absurd ((kp4 hso).mpr q) (by omega))), rfl⟩) (Nat.le_of_ble_eq_true rfl) (Nat.le_of_ble_eq_true rfl)
          · skip
            refine g_iconst h (nI 1) dX6_keeps_281 (by decide) ?_
            refine g_goto h 286 dX6_keeps_282 (by decide) ?_
            exact g_zret h hr rfl dX6_keeps_286 (⟨congrArg (fun q => some (Value.int q)) (v1 ((kp4 hso).mp (by omega))), rfl⟩) (Nat.le_of_ble_eq_true rfl) (Nat.le_of_ble_eq_true rfl)
        · skip
          refine g_aload_n h 0 dX6_keeps_194 rfl rfl ?_
          refine g_get h 5 fa_X6_22 dX6_keeps_195 r0 rfl ?_
          refine g_iload_n h 2 dX6_keeps_198 rfl rfl ?_
          refine g_iald h dX6_keeps_199 r5 (by omega) (by omega) ?_
          refine g_top (y := nI (sCs S c)) (e5 c (by omega)) ?_
          refine g_top (y := nI 5) (congrArg nI hso) ?_
          refine g_tabOut h 287 dX6_keeps_200 (by decide) (by decide) ?_
          refine g_iload h dX6_keeps_287 rfl ?_
          exact g_zret h hr nw_bI dX6_keeps_289 (⟨congrArg (fun q => some (Value.int q)) (bI_iff (kp9 (by omega))), rfl⟩) (Nat.le_of_ble_eq_true rfl) (Nat.le_of_ble_eq_true rfl)
        · skip
          refine g_aload_n h 0 dX6_keeps_194 rfl rfl ?_
          refine g_get h 5 fa_X6_22 dX6_keeps_195 r0 rfl ?_
          refine g_iload_n h 2 dX6_keeps_198 rfl rfl ?_
          refine g_iald h dX6_keeps_199 r5 (by omega) (by omega) ?_
          refine g_top (y := nI (sCs S c)) (e5 c (by omega)) ?_
          refine g_top (y := nI 6) (congrArg nI hso) ?_
          refine g_tabOut h 287 dX6_keeps_200 (by decide) (by decide) ?_
          refine g_iload h dX6_keeps_287 rfl ?_
          exact g_zret h hr nw_bI dX6_keeps_289 (⟨congrArg (fun q => some (Value.int q)) (bI_iff (kp9 (by omega))), rfl⟩) (Nat.le_of_ble_eq_true rfl) (Nat.le_of_ble_eq_true rfl)
      · skip
        subst h6 h7
        have hx9 := hlv i (by omega)
        have mb := mN_le9 (c := sCx S c) (h := rwV S v) i
        have hye : rwV S v i = nI (sCy S c) ↔ sVl S v i = sCy S c := ⟨fun w => nI_inj (by omega) (by omega) w, fun w => congrArg nI w⟩
        have hxe : rwV S v i = nI (sCx S c) ↔ sVl S v i = sCx S c := ⟨fun w => nI_inj (by omega) (by omega) w, fun w => congrArg nI w⟩
        have J169 : ∀ (m5 : Nat) (t7 : Int32), (m5 = mN (sCx S c) (rwV S v) (i + 1)) → (t7 = bI (kpL (sCs S c) (sCx S c) (sCy S c) (rwV S v) (i + 1))) → G X E 11 (AD σ) (QF X E σ (fun o s => o = some (.int (bI (¬ jdS S c (rwV S v) (sVn S v) = 2))) ∧ s = σ) rm_X6_keeps) 0 0 169 [some (.ref b), some (.int (nI v)), some (.int (nI c)), some (.int (nI (sCx S c))), some (.int (nI (sCy S c))), some (.int (nI m5)), some (.int (bI (0 < mN (sCy S c) (rwV S v) i))), some (.int t7), some (.int (nI i)), some (.int (nI (sVl S v i))), none] [] σ := by
          intro m5 t7 h5 h7
          subst h5
          refine g_iload h dX6_keeps_169 rfl ?_
          refine g_if_neB h 181 dX6_keeps_171 (by decide) (fun c171_7 => ?_) (fun c171_7 => ?_)
          · skip
            refine g_iconst h (nI 1) dX6_keeps_181 (by decide) ?_
            refine g_goto h 186 dX6_keeps_182 (by decide) ?_
            refine g_istore (vs' := [_, _, _, _, _, _, _, _, _, _, _]) h dX6_keeps_186 (Nat.le_of_ble_eq_true rfl) rfl rfl ?_
            refine g_iinc (vs' := [_, _, _, _, _, _, _, _, _, _, _]) h (nI (i + 1)) dX6_keeps_188 rfl (by first | exact nI_1 _ | rfl) (Nat.le_of_ble_eq_true rfl) rfl rfl ?_
            refine g_goto h 27 dX6_keeps_191 (by decide) ?_
            refine g_few (vs' := [some (.ref b), some (.int (nI v)), some (.int (nI c)), some (.int (nI (sCx S c))), some (.int (nI (sCy S c))), some (.int (nI (mN (sCx S c) (rwV S v) (i + 1)))), some (.int (nI 1)), some (.int t7), some (.int (nI (i + 1))), none, none]) ⟨Or.inr rfl, Or.inr rfl, Or.inr rfl, Or.inr rfl, Or.inr rfl, Or.inr rfl, Or.inr rfl, Or.inr rfl, Or.inr rfl, Or.inl rfl, Or.inl rfl, trivial⟩ ?_
            exact ih (i + 1) _ _ (by omega) (v1 (by rw [mN_s]; omega)) h7 (by omega)
          · skip
            refine g_iload h dX6_keeps_174 rfl ?_
            refine g_iload h dX6_keeps_176 rfl ?_
            refine g_icmp_neN h 185 dX6_keeps_178 (by decide) (by omega) (by omega) (fun c178_8 => ?_) (fun c178_8 => ?_)
            · skip
              refine g_iconst h (nI 0) dX6_keeps_185 (by decide) ?_
              refine g_istore (vs' := [_, _, _, _, _, _, _, _, _, _, _]) h dX6_keeps_186 (Nat.le_of_ble_eq_true rfl) rfl rfl ?_
              refine g_iinc (vs' := [_, _, _, _, _, _, _, _, _, _, _]) h (nI (i + 1)) dX6_keeps_188 rfl (by first | exact nI_1 _ | rfl) (Nat.le_of_ble_eq_true rfl) rfl rfl ?_
              refine g_goto h 27 dX6_keeps_191 (by decide) ?_
              refine g_few (vs' := [some (.ref b), some (.int (nI v)), some (.int (nI c)), some (.int (nI (sCx S c))), some (.int (nI (sCy S c))), some (.int (nI (mN (sCx S c) (rwV S v) (i + 1)))), some (.int (nI 0)), some (.int t7), some (.int (nI (i + 1))), none, none]) ⟨Or.inr rfl, Or.inr rfl, Or.inr rfl, Or.inr rfl, Or.inr rfl, Or.inr rfl, Or.inr rfl, Or.inr rfl, Or.inr rfl, Or.inl rfl, Or.inl rfl, trivial⟩ ?_
              exact ih (i + 1) _ _ (by omega) (v0 (by rw [mN_s, if_neg (fun w => c178_8 (hye.mp w))]; omega)) h7 (by omega)
            · skip
              refine g_iconst h (nI 1) dX6_keeps_181 (by decide) ?_
              refine g_goto h 186 dX6_keeps_182 (by decide) ?_
              refine g_istore (vs' := [_, _, _, _, _, _, _, _, _, _, _]) h dX6_keeps_186 (Nat.le_of_ble_eq_true rfl) rfl rfl ?_
              refine g_iinc (vs' := [_, _, _, _, _, _, _, _, _, _, _]) h (nI (i + 1)) dX6_keeps_188 rfl (by first | exact nI_1 _ | rfl) (Nat.le_of_ble_eq_true rfl) rfl rfl ?_
              refine g_goto h 27 dX6_keeps_191 (by decide) ?_
              refine g_few (vs' := [some (.ref b), some (.int (nI v)), some (.int (nI c)), some (.int (nI (sCx S c))), some (.int (nI (sCy S c))), some (.int (nI (mN (sCx S c) (rwV S v) (i + 1)))), some (.int (nI 1)), some (.int t7), some (.int (nI (i + 1))), none, none]) ⟨Or.inr rfl, Or.inr rfl, Or.inr rfl, Or.inr rfl, Or.inr rfl, Or.inr rfl, Or.inr rfl, Or.inr rfl, Or.inr rfl, Or.inl rfl, Or.inl rfl, trivial⟩ ?_
              exact ih (i + 1) _ _ (by omega) (v1 (by rw [mN_s, if_pos (hye.mpr c178_8)]; omega)) h7 (by omega)
        have J87 : G X E 11 (AD σ) (QF X E σ (fun o s => o = some (.int (bI (¬ jdS S c (rwV S v) (sVn S v) = 2))) ∧ s = σ) rm_X6_keeps) 0 0 87 [some (.ref b), some (.int (nI v)), some (.int (nI c)), some (.int (nI (sCx S c))), some (.int (nI (sCy S c))), some (.int (nI (mN (sCx S c) (rwV S v) i))), some (.int (bI (0 < mN (sCy S c) (rwV S v) i))), some (.int (bI (kpL (sCs S c) (sCx S c) (sCy S c) (rwV S v) i ∧ (rwV S v i = nI (sCy S c) → sCs S c = 6 → mN (sCx S c) (rwV S v) i = 0)))), some (.int (nI i)), some (.int (nI (sVl S v i))), none] [] σ := by
          refine g_iload h dX6_keeps_87 rfl ?_
          refine g_iload_n h 3 dX6_keeps_89 rfl rfl ?_
          refine g_icmp_neN h 169 dX6_keeps_90 (by decide) (by omega) (by omega) (fun c90_9 => ?_) (fun c90_9 => ?_)
          · skip
            refine g_few (vs' := [some (.ref b), some (.int (nI v)), some (.int (nI c)), some (.int (nI (sCx S c))), some (.int (nI (sCy S c))), some (.int (nI (mN (sCx S c) (rwV S v) i))), some (.int (bI (0 < mN (sCy S c) (rwV S v) i))), some (.int (bI (kpL (sCs S c) (sCx S c) (sCy S c) (rwV S v) i ∧ (rwV S v i = nI (sCy S c) → sCs S c = 6 → mN (sCx S c) (rwV S v) i = 0)))), some (.int (nI i)), some (.int (nI (sVl S v i))), none]) ⟨Or.inr rfl, Or.inr rfl, Or.inr rfl, Or.inr rfl, Or.inr rfl, Or.inr rfl, Or.inr rfl, Or.inr rfl, Or.inr rfl, Or.inr rfl, Or.inl rfl, trivial⟩ ?_
            exact J169 _ _ (by rw [mN_s, if_neg (fun w => c90_9 (hxe.mp w))]; rfl) (bI_iff ⟨fun q => ⟨q, fun w => absurd (hxe.mp w) c90_9⟩, fun q => q.1⟩)
          · skip
            have J124 : G X E 11 (AD σ) (QF X E σ (fun o s => o = some (.int (bI (¬ jdS S c (rwV S v) (sVn S v) = 2))) ∧ s = σ) rm_X6_keeps) 0 0 124 [some (.ref b), some (.int (nI v)), some (.int (nI c)), some (.int (nI (sCx S c))), some (.int (nI (sCy S c))), some (.int (nI (mN (sCx S c) (rwV S v) i))), some (.int (bI (0 < mN (sCy S c) (rwV S v) i))), some (.int (bI (kpL (sCs S c) (sCx S c) (sCy S c) (rwV S v) i ∧ (rwV S v i = nI (sCy S c) → sCs S c = 6 → mN (sCx S c) (rwV S v) i = 0)))), some (.int (nI i)), some (.int (nI (sVl S v i))), some (.int (bI (0 < i ∧ rwV S v (i - 1) = nI (sCy S c))))] [] σ := by
              refine g_iload h dX6_keeps_124 rfl ?_
              refine g_if_eqB h 163 dX6_keeps_126 (by decide) (fun c126_10 => ?_) (fun c126_10 => ?_)
              · skip
                refine g_iconst h (nI 0) dX6_keeps_163 (by decide) ?_
                refine g_istore (vs' := [_, _, _, _, _, _, _, _, _, _, _]) h dX6_keeps_164 (Nat.le_of_ble_eq_true rfl) rfl rfl ?_
                refine g_iinc (vs' := [_, _, _, _, _, _, _, _, _, _, _]) h (nI ((mN (sCx S c) (rwV S v) i) + 1)) dX6_keeps_166 rfl (by first | exact nI_1 _ | rfl) (Nat.le_of_ble_eq_true rfl) rfl rfl ?_
                refine g_few (vs' := [some (.ref b), some (.int (nI v)), some (.int (nI c)), some (.int (nI (sCx S c))), some (.int (nI (sCy S c))), some (.int (nI ((mN (sCx S c) (rwV S v) i) + 1))), some (.int (bI (0 < mN (sCy S c) (rwV S v) i))), some (.int (nI 0)), some (.int (nI i)), some (.int (nI (sVl S v i))), none]) ⟨Or.inr rfl, Or.inr rfl, Or.inr rfl, Or.inr rfl, Or.inr rfl, Or.inr rfl, Or.inr rfl, Or.inr rfl, Or.inr rfl, Or.inr rfl, Or.inl rfl, trivial⟩ ?_
                exact J169 _ _ (by rw [mN_s, if_pos (hxe.mpr c90_9)]) (v0 (fun q => c126_10 q.1))
              · skip
                refine g_aload_n h 0 dX6_keeps_129 rfl rfl ?_
                refine g_get h 5 fa_X6_22 dX6_keeps_130 r0 rfl ?_
                refine g_iload_n h 2 dX6_keeps_133 rfl rfl ?_
                refine g_iald h dX6_keeps_134 r5 (by omega) (by omega) ?_
                refine g_top (y := nI (sCs S c)) (e5 c (by omega)) ?_
                refine g_iconst h (nI 2) dX6_keeps_135 (by decide) ?_
                refine g_icmp_neN h 144 dX6_keeps_136 (by decide) (by omega) (by decide) (fun c136_11 => ?_) (fun c136_11 => ?_)
                · skip
                  refine g_aload_n h 0 dX6_keeps_144 rfl rfl ?_
                  refine g_get h 5 fa_X6_22 dX6_keeps_145 r0 rfl ?_
                  refine g_iload_n h 2 dX6_keeps_148 rfl rfl ?_
                  refine g_iald h dX6_keeps_149 r5 (by omega) (by omega) ?_
                  refine g_top (y := nI (sCs S c)) (e5 c (by omega)) ?_
                  refine g_iconst h (nI 5) dX6_keeps_150 (by decide) ?_
                  refine g_icmp_neN h 159 dX6_keeps_151 (by decide) (by omega) (by decide) (fun c151_12 => ?_) (fun c151_12 => ?_)
                  · skip
                    refine g_iconst h (nI 1) dX6_keeps_159 (by decide) ?_
                    refine g_goto h 164 dX6_keeps_160 (by decide) ?_
                    refine g_istore (vs' := [_, _, _, _, _, _, _, _, _, _, _]) h dX6_keeps_164 (Nat.le_of_ble_eq_true rfl) rfl rfl ?_
                    refine g_iinc (vs' := [_, _, _, _, _, _, _, _, _, _, _]) h (nI ((mN (sCx S c) (rwV S v) i) + 1)) dX6_keeps_166 rfl (by first | exact nI_1 _ | rfl) (Nat.le_of_ble_eq_true rfl) rfl rfl ?_
                    refine g_few (vs' := [some (.ref b), some (.int (nI v)), some (.int (nI c)), some (.int (nI (sCx S c))), some (.int (nI (sCy S c))), some (.int (nI ((mN (sCx S c) (rwV S v) i) + 1))), some (.int (bI (0 < mN (sCy S c) (rwV S v) i))), some (.int (nI 1)), some (.int (nI i)), some (.int (nI (sVl S v i))), none]) ⟨Or.inr rfl, Or.inr rfl, Or.inr rfl, Or.inr rfl, Or.inr rfl, Or.inr rfl, Or.inr rfl, Or.inr rfl, Or.inr rfl, Or.inr rfl, Or.inl rfl, trivial⟩ ?_
                    exact J169 _ _ (by rw [mN_s, if_pos (hxe.mpr c90_9)]) (v1 ⟨c126_10, fun _ => ⟨fun e => absurd e c136_11, fun e => absurd e c151_12⟩⟩)
                  · skip
                    refine g_iload h dX6_keeps_154 rfl ?_
                    refine g_if_eqB h 163 dX6_keeps_156 (by decide) (fun c156_13 => ?_) (fun c156_13 => ?_)
                    · skip
                      refine g_iconst h (nI 0) dX6_keeps_163 (by decide) ?_
                      refine g_istore (vs' := [_, _, _, _, _, _, _, _, _, _, _]) h dX6_keeps_164 (Nat.le_of_ble_eq_true rfl) rfl rfl ?_
                      refine g_iinc (vs' := [_, _, _, _, _, _, _, _, _, _, _]) h (nI ((mN (sCx S c) (rwV S v) i) + 1)) dX6_keeps_166 rfl (by first | exact nI_1 _ | rfl) (Nat.le_of_ble_eq_true rfl) rfl rfl ?_
                      refine g_few (vs' := [some (.ref b), some (.int (nI v)), some (.int (nI c)), some (.int (nI (sCx S c))), some (.int (nI (sCy S c))), some (.int (nI ((mN (sCx S c) (rwV S v) i) + 1))), some (.int (bI (0 < mN (sCy S c) (rwV S v) i))), some (.int (nI 0)), some (.int (nI i)), some (.int (nI (sVl S v i))), none]) ⟨Or.inr rfl, Or.inr rfl, Or.inr rfl, Or.inr rfl, Or.inr rfl, Or.inr rfl, Or.inr rfl, Or.inr rfl, Or.inr rfl, Or.inr rfl, Or.inl rfl, trivial⟩ ?_
                      exact J169 _ _ (by rw [mN_s, if_pos (hxe.mpr c90_9)]) (v0 (fun q => c156_13 ((q.2 (hxe.mpr c90_9)).2 c151_12)))
                    · skip
                      refine g_iconst h (nI 1) dX6_keeps_159 (by decide) ?_
                      refine g_goto h 164 dX6_keeps_160 (by decide) ?_
                      refine g_istore (vs' := [_, _, _, _, _, _, _, _, _, _, _]) h dX6_keeps_164 (Nat.le_of_ble_eq_true rfl) rfl rfl ?_
                      refine g_iinc (vs' := [_, _, _, _, _, _, _, _, _, _, _]) h (nI ((mN (sCx S c) (rwV S v) i) + 1)) dX6_keeps_166 rfl (by first | exact nI_1 _ | rfl) (Nat.le_of_ble_eq_true rfl) rfl rfl ?_
                      refine g_few (vs' := [some (.ref b), some (.int (nI v)), some (.int (nI c)), some (.int (nI (sCx S c))), some (.int (nI (sCy S c))), some (.int (nI ((mN (sCx S c) (rwV S v) i) + 1))), some (.int (bI (0 < mN (sCy S c) (rwV S v) i))), some (.int (nI 1)), some (.int (nI i)), some (.int (nI (sVl S v i))), none]) ⟨Or.inr rfl, Or.inr rfl, Or.inr rfl, Or.inr rfl, Or.inr rfl, Or.inr rfl, Or.inr rfl, Or.inr rfl, Or.inr rfl, Or.inr rfl, Or.inl rfl, trivial⟩ ?_
                      exact J169 _ _ (by rw [mN_s, if_pos (hxe.mpr c90_9)]) (v1 ⟨c126_10, fun _ => ⟨fun e => absurd e c136_11, fun _ => c156_13⟩⟩)
                · skip
                  refine g_iload h dX6_keeps_139 rfl ?_
                  refine g_if_eqB h 163 dX6_keeps_141 (by decide) (fun c141_14 => ?_) (fun c141_14 => ?_)
                  · skip
                    refine g_iconst h (nI 0) dX6_keeps_163 (by decide) ?_
                    refine g_istore (vs' := [_, _, _, _, _, _, _, _, _, _, _]) h dX6_keeps_164 (Nat.le_of_ble_eq_true rfl) rfl rfl ?_
                    refine g_iinc (vs' := [_, _, _, _, _, _, _, _, _, _, _]) h (nI ((mN (sCx S c) (rwV S v) i) + 1)) dX6_keeps_166 rfl (by first | exact nI_1 _ | rfl) (Nat.le_of_ble_eq_true rfl) rfl rfl ?_
                    refine g_few (vs' := [some (.ref b), some (.int (nI v)), some (.int (nI c)), some (.int (nI (sCx S c))), some (.int (nI (sCy S c))), some (.int (nI ((mN (sCx S c) (rwV S v) i) + 1))), some (.int (bI (0 < mN (sCy S c) (rwV S v) i))), some (.int (nI 0)), some (.int (nI i)), some (.int (nI (sVl S v i))), none]) ⟨Or.inr rfl, Or.inr rfl, Or.inr rfl, Or.inr rfl, Or.inr rfl, Or.inr rfl, Or.inr rfl, Or.inr rfl, Or.inr rfl, Or.inr rfl, Or.inl rfl, trivial⟩ ?_
                    exact J169 _ _ (by rw [mN_s, if_pos (hxe.mpr c90_9)]) (v0 (fun q => c141_14 ((q.2 (hxe.mpr c90_9)).1 c136_11)))
                  · skip
                    refine g_aload_n h 0 dX6_keeps_144 rfl rfl ?_
                    refine g_get h 5 fa_X6_22 dX6_keeps_145 r0 rfl ?_
                    refine g_iload_n h 2 dX6_keeps_148 rfl rfl ?_
                    refine g_iald h dX6_keeps_149 r5 (by omega) (by omega) ?_
                    refine g_top (y := nI (sCs S c)) (e5 c (by omega)) ?_
                    refine g_iconst h (nI 5) dX6_keeps_150 (by decide) ?_
                    refine g_icmp_neN h 159 dX6_keeps_151 (by decide) (by omega) (by decide) (fun c151_15 => ?_) (fun c151_15 => ?_)
                    · skip
                      refine g_iconst h (nI 1) dX6_keeps_159 (by decide) ?_
                      refine g_goto h 164 dX6_keeps_160 (by decide) ?_
                      refine g_istore (vs' := [_, _, _, _, _, _, _, _, _, _, _]) h dX6_keeps_164 (Nat.le_of_ble_eq_true rfl) rfl rfl ?_
                      refine g_iinc (vs' := [_, _, _, _, _, _, _, _, _, _, _]) h (nI ((mN (sCx S c) (rwV S v) i) + 1)) dX6_keeps_166 rfl (by first | exact nI_1 _ | rfl) (Nat.le_of_ble_eq_true rfl) rfl rfl ?_
                      refine g_few (vs' := [some (.ref b), some (.int (nI v)), some (.int (nI c)), some (.int (nI (sCx S c))), some (.int (nI (sCy S c))), some (.int (nI ((mN (sCx S c) (rwV S v) i) + 1))), some (.int (bI (0 < mN (sCy S c) (rwV S v) i))), some (.int (nI 1)), some (.int (nI i)), some (.int (nI (sVl S v i))), none]) ⟨Or.inr rfl, Or.inr rfl, Or.inr rfl, Or.inr rfl, Or.inr rfl, Or.inr rfl, Or.inr rfl, Or.inr rfl, Or.inr rfl, Or.inr rfl, Or.inl rfl, trivial⟩ ?_
                      exact J169 _ _ (by rw [mN_s, if_pos (hxe.mpr c90_9)]) (v1 ⟨c126_10, fun _ => ⟨fun _ => c141_14, fun e => absurd e c151_15⟩⟩)
                    · skip
                      refine g_iload h dX6_keeps_154 rfl ?_
                      refine g_if_eqB h 163 dX6_keeps_156 (by decide) (fun c156_16 => ?_) (fun c156_16 => ?_)
                      · skip
                        refine g_iconst h (nI 0) dX6_keeps_163 (by decide) ?_
                        refine g_istore (vs' := [_, _, _, _, _, _, _, _, _, _, _]) h dX6_keeps_164 (Nat.le_of_ble_eq_true rfl) rfl rfl ?_
                        refine g_iinc (vs' := [_, _, _, _, _, _, _, _, _, _, _]) h (nI ((mN (sCx S c) (rwV S v) i) + 1)) dX6_keeps_166 rfl (by first | exact nI_1 _ | rfl) (Nat.le_of_ble_eq_true rfl) rfl rfl ?_
                        refine g_few (vs' := [some (.ref b), some (.int (nI v)), some (.int (nI c)), some (.int (nI (sCx S c))), some (.int (nI (sCy S c))), some (.int (nI ((mN (sCx S c) (rwV S v) i) + 1))), some (.int (bI (0 < mN (sCy S c) (rwV S v) i))), some (.int (nI 0)), some (.int (nI i)), some (.int (nI (sVl S v i))), none]) ⟨Or.inr rfl, Or.inr rfl, Or.inr rfl, Or.inr rfl, Or.inr rfl, Or.inr rfl, Or.inr rfl, Or.inr rfl, Or.inr rfl, Or.inr rfl, Or.inl rfl, trivial⟩ ?_
                        exact J169 _ _ (by rw [mN_s, if_pos (hxe.mpr c90_9)]) (v0 (fun q => c156_16 ((q.2 (hxe.mpr c90_9)).2 c151_15)))
                      · skip
                        refine g_iconst h (nI 1) dX6_keeps_159 (by decide) ?_
                        refine g_goto h 164 dX6_keeps_160 (by decide) ?_
                        refine g_istore (vs' := [_, _, _, _, _, _, _, _, _, _, _]) h dX6_keeps_164 (Nat.le_of_ble_eq_true rfl) rfl rfl ?_
                        refine g_iinc (vs' := [_, _, _, _, _, _, _, _, _, _, _]) h (nI ((mN (sCx S c) (rwV S v) i) + 1)) dX6_keeps_166 rfl (by first | exact nI_1 _ | rfl) (Nat.le_of_ble_eq_true rfl) rfl rfl ?_
                        refine g_few (vs' := [some (.ref b), some (.int (nI v)), some (.int (nI c)), some (.int (nI (sCx S c))), some (.int (nI (sCy S c))), some (.int (nI ((mN (sCx S c) (rwV S v) i) + 1))), some (.int (bI (0 < mN (sCy S c) (rwV S v) i))), some (.int (nI 1)), some (.int (nI i)), some (.int (nI (sVl S v i))), none]) ⟨Or.inr rfl, Or.inr rfl, Or.inr rfl, Or.inr rfl, Or.inr rfl, Or.inr rfl, Or.inr rfl, Or.inr rfl, Or.inr rfl, Or.inr rfl, Or.inl rfl, trivial⟩ ?_
                        exact J169 _ _ (by rw [mN_s, if_pos (hxe.mpr c90_9)]) (v1 ⟨c126_10, fun _ => ⟨fun _ => c141_14, fun _ => c156_16⟩⟩)
            refine g_iload h dX6_keeps_93 rfl ?_
            refine g_if_leN h 121 dX6_keeps_95 (by decide) (by omega) (fun c95_17 => ?_) (fun c95_17 => ?_)
            · skip
              refine g_iconst h (nI 0) dX6_keeps_121 (by decide) ?_
              refine g_istore (vs' := [_, _, _, _, _, _, _, _, _, _, _]) h dX6_keeps_122 (Nat.le_of_ble_eq_true rfl) rfl rfl ?_
              rw [show nI 0 = bI (0 < i ∧ rwV S v (i - 1) = nI (sCy S c)) from v0 (fun w => by omega)]
              exact J124
            · skip
              have hx8 := hlv (i - 1) (by omega)
              refine g_aload_n h 0 dX6_keeps_98 rfl rfl ?_
              refine g_get h 0 fa_X6_7 dX6_keeps_99 r0 rfl ?_
              refine g_bipush h (nI 40) dX6_keeps_102 (by decide) ?_
              refine g_iload_n h 1 dX6_keeps_104 rfl rfl ?_
              refine g_imulN h dX6_keeps_105 ?_
              refine g_iload h dX6_keeps_106 rfl ?_
              refine g_iaddN h dX6_keeps_108 ?_
              refine g_iconst h (nI 1) dX6_keeps_109 (by decide) ?_
              refine g_isubN h dX6_keeps_110 (by omega) ?_
              refine g_iald h dX6_keeps_111 r1 (by omega) (by omega) ?_
              refine g_top (y := nI (sVl S v (i - 1))) ((congrArg f1 (by omega)).trans (e1 v (by omega) (i - 1) (by omega))) ?_
              refine g_iload h dX6_keeps_112 rfl ?_
              refine g_icmp_neN h 121 dX6_keeps_114 (by decide) (by omega) (by omega) (fun c114_18 => ?_) (fun c114_18 => ?_)
              · skip
                refine g_iconst h (nI 0) dX6_keeps_121 (by decide) ?_
                refine g_istore (vs' := [_, _, _, _, _, _, _, _, _, _, _]) h dX6_keeps_122 (Nat.le_of_ble_eq_true rfl) rfl rfl ?_
                rw [show nI 0 = bI (0 < i ∧ rwV S v (i - 1) = nI (sCy S c)) from v0 (fun w => c114_18 (nI_inj (by omega) (by omega) w.2))]
                exact J124
              · skip
                refine g_iconst h (nI 1) dX6_keeps_117 (by decide) ?_
                refine g_goto h 122 dX6_keeps_118 (by decide) ?_
                refine g_istore (vs' := [_, _, _, _, _, _, _, _, _, _, _]) h dX6_keeps_122 (Nat.le_of_ble_eq_true rfl) rfl rfl ?_
                rw [show nI 1 = bI (0 < i ∧ rwV S v (i - 1) = nI (sCy S c)) from v1 ⟨by omega, congrArg nI c114_18⟩]
                exact J124
        refine g_aload_n h 0 dX6_keeps_38 rfl rfl ?_
        refine g_get h 0 fa_X6_7 dX6_keeps_39 r0 rfl ?_
        refine g_bipush h (nI 40) dX6_keeps_42 (by decide) ?_
        refine g_iload_n h 1 dX6_keeps_44 rfl rfl ?_
        refine g_imulN h dX6_keeps_45 ?_
        refine g_iload h dX6_keeps_46 rfl ?_
        refine g_iaddN h dX6_keeps_48 ?_
        refine g_iald h dX6_keeps_49 r1 (by omega) (by omega) ?_
        refine g_top (y := nI (sVl S v i)) (e1 v (by omega) i (by omega)) ?_
        refine g_istore (vs' := [_, _, _, _, _, _, _, _, _, _, _]) h dX6_keeps_50 (Nat.le_of_ble_eq_true rfl) rfl rfl ?_
        refine g_iload h dX6_keeps_52 rfl ?_
        refine g_iload h dX6_keeps_54 rfl ?_
        refine g_icmp_neN h 87 dX6_keeps_56 (by decide) (by omega) (by omega) (fun c56_19 => ?_) (fun c56_19 => ?_)
        · skip
          rw [show bI (kpL (sCs S c) (sCx S c) (sCy S c) (rwV S v) i) = bI (kpL (sCs S c) (sCx S c) (sCy S c) (rwV S v) i ∧ (rwV S v i = nI (sCy S c) → sCs S c = 6 → mN (sCx S c) (rwV S v) i = 0)) from bI_iff ⟨fun q => ⟨q, fun w => absurd (hye.mp w) c56_19⟩, fun q => q.1⟩]
          exact J87
        · skip
          refine g_iload h dX6_keeps_59 rfl ?_
          refine g_if_eqB h 84 dX6_keeps_61 (by decide) (fun c61_20 => ?_) (fun c61_20 => ?_)
          · skip
            refine g_iconst h (nI 0) dX6_keeps_84 (by decide) ?_
            refine g_istore (vs' := [_, _, _, _, _, _, _, _, _, _, _]) h dX6_keeps_85 (Nat.le_of_ble_eq_true rfl) rfl rfl ?_
            rw [show nI 0 = bI (kpL (sCs S c) (sCx S c) (sCy S c) (rwV S v) i ∧ (rwV S v i = nI (sCy S c) → sCs S c = 6 → mN (sCx S c) (rwV S v) i = 0)) from v0 (fun q => c61_20 q.1)]
            exact J87
          · skip
            refine g_aload_n h 0 dX6_keeps_64 rfl rfl ?_
            refine g_get h 5 fa_X6_22 dX6_keeps_65 r0 rfl ?_
            refine g_iload_n h 2 dX6_keeps_68 rfl rfl ?_
            refine g_iald h dX6_keeps_69 r5 (by omega) (by omega) ?_
            refine g_top (y := nI (sCs S c)) (e5 c (by omega)) ?_
            refine g_bipush h (nI 6) dX6_keeps_70 (by decide) ?_
            refine g_icmp_neN h 80 dX6_keeps_72 (by decide) (by omega) (by decide) (fun c72_21 => ?_) (fun c72_21 => ?_)
            · skip
              refine g_iconst h (nI 1) dX6_keeps_80 (by decide) ?_
              refine g_goto h 85 dX6_keeps_81 (by decide) ?_
              refine g_istore (vs' := [_, _, _, _, _, _, _, _, _, _, _]) h dX6_keeps_85 (Nat.le_of_ble_eq_true rfl) rfl rfl ?_
              rw [show nI 1 = bI (kpL (sCs S c) (sCx S c) (sCy S c) (rwV S v) i ∧ (rwV S v i = nI (sCy S c) → sCs S c = 6 → mN (sCx S c) (rwV S v) i = 0)) from v1 ⟨c61_20, fun _ e => absurd e c72_21⟩]
              exact J87
            · skip
              refine g_iload h dX6_keeps_75 rfl ?_
              refine g_if_neN h 84 dX6_keeps_77 (by decide) (by omega) (fun c77_22 => ?_) (fun c77_22 => ?_)
              · skip
                refine g_iconst h (nI 0) dX6_keeps_84 (by decide) ?_
                refine g_istore (vs' := [_, _, _, _, _, _, _, _, _, _, _]) h dX6_keeps_85 (Nat.le_of_ble_eq_true rfl) rfl rfl ?_
                rw [show nI 0 = bI (kpL (sCs S c) (sCx S c) (sCy S c) (rwV S v) i ∧ (rwV S v i = nI (sCy S c) → sCs S c = 6 → mN (sCx S c) (rwV S v) i = 0)) from v0 (fun q => by have := q.2 (hye.mpr c56_19) c72_21; omega)]
                exact J87
              · skip
                refine g_iconst h (nI 1) dX6_keeps_80 (by decide) ?_
                refine g_goto h 85 dX6_keeps_81 (by decide) ?_
                refine g_istore (vs' := [_, _, _, _, _, _, _, _, _, _, _]) h dX6_keeps_85 (Nat.le_of_ble_eq_true rfl) rfl rfl ?_
                rw [show nI 1 = bI (kpL (sCs S c) (sCx S c) (sCy S c) (rwV S v) i ∧ (rwV S v i = nI (sCy S c) → sCs S c = 6 → mN (sCx S c) (rwV S v) i = 0)) from v1 ⟨c61_20, fun _ _ => by omega⟩]
                exact J87
  exact L27 (sVn S v + 1) 0 _ _ (by omega) (v0 (Nat.lt_irrefl _)) (v1 trivial) (by omega)
abbrev rm_X6_breaks : Room := { frames := 2, cells := 0, slots := 0, locals := 42 }
set_option maxRecDepth 100000 in
set_option maxHeartbeats 4000000 in
theorem D_breaks (lau : Launch) (E : EnvD) (σ : Sto) {b : Nat} {S : PSt} (hI : Inv S) (hM : RepM E b S σ) (a1 : Int32) : CC lau yX6_breaks cX6_breaks 3 (some .int) rm_X6_breaks E [.ref b, .int a1] σ (fun o s => o = some (.int (opBreaks S a1).1) ∧ RepM E b (opBreaks S a1).2 s) := by
  refine cc_of (vs := [_, _, _]) (by decide) (Nat.le_of_ble_eq_true rfl) rfl ?_
  intro X h hr hn
  obtain ⟨r0, ⟨f1, r1, e1⟩, ⟨f2, r2, e2⟩, ⟨f3, r3, e3⟩, ⟨f4, r4, e4⟩, ⟨f5, r5, e5⟩, ⟨f6, r6, e6⟩, ⟨f7, r7, e7⟩, ⟨f8, r8, e8⟩, ⟨f9, r9, e9⟩, ⟨f10, r10, e10⟩, ⟨f11, r11, e11⟩, ⟨f12, r12, e12⟩, ⟨f13, r13⟩, ⟨f14, r14⟩, ⟨f15, r15⟩, ⟨f16, r16, e16⟩, ⟨f17, r17⟩⟩ := id hM
  by_cases na1 : ¬ inR a1 8
  · skip
    refine g_iload_n h 1 dX6_breaks_0 rfl rfl ?_
    refine g_callS h [] (c_X6_isVersion (xL X) E _ a1) cf_X6_66 cs_X6_isVersion dX6_breaks_1 rfl rfl (Nat.le_of_ble_eq_true rfl) ⟨(Nat.le_of_ble_eq_true rfl), (Nat.le_of_ble_eq_true rfl)⟩ ⟨(Nat.le_of_ble_eq_true rfl), (Nat.le_of_ble_eq_true rfl)⟩ ?_
    refine kk_det ?_
    refine g_if_neB h 10 dX6_breaks_4 (by decide) (fun c4_1 => absurd c4_1 na1) (fun c4_1 => ?_)
    refine g_bipush h (-2) dX6_breaks_7 (by decide) ?_
    exact g_iret h hr dX6_breaks_9 ((fun e => ⟨by rw [e], by rw [e]; exact hM⟩) (show opBreaks S a1 = (-2, S) from by unfold opBreaks; rw [cif_f (fun q => na1 q)])) (Nat.le_of_ble_eq_true rfl) (Nat.le_of_ble_eq_true rfl)
  obtain ⟨v, hv9, rfl⟩ := Classical.not_not.mp na1
  have ev9 : cl (nI v) = v := cl_nI (by omega)
  have hc12 := hI.2.2.1.1
  have e0 : opBreaks S (nI v) = (fp (fun c => jdS S c (rwV S v) (sVn S v) = 2) 0 (sCn S), S) := by unfold opBreaks; rw [cif_t ⟨v, hv9, rfl⟩, ev9]
  refine g_iload_n h 1 dX6_breaks_0 rfl rfl ?_
  refine g_callS h [] (c_X6_isVersion (xL X) E _ (nI v)) cf_X6_66 cs_X6_isVersion dX6_breaks_1 rfl rfl (Nat.le_of_ble_eq_true rfl) ⟨(Nat.le_of_ble_eq_true rfl), (Nat.le_of_ble_eq_true rfl)⟩ ⟨(Nat.le_of_ble_eq_true rfl), (Nat.le_of_ble_eq_true rfl)⟩ ?_
  refine kk_det ?_
  refine g_if_neB h 10 dX6_breaks_4 (by decide) (fun c4_2 => ?_) (fun c4_2 => absurd ⟨v, hv9, rfl⟩ c4_2)
  refine g_iconst h (nI 0) dX6_breaks_10 (by decide) ?_
  refine g_istore_n (vs' := [_, _, _]) h 2 dX6_breaks_11 rfl (Nat.le_of_ble_eq_true rfl) rfl rfl ?_
  have L12 : ∀ (m0 : Nat) (c : Nat), (c ≤ sCn S) → (fp (fun c => jdS S c (rwV S v) (sVn S v) = 2) 0 (sCn S) = fp (fun c => jdS S c (rwV S v) (sVn S v) = 2) c (sCn S - c)) → (sCn S - c) < m0 → G X E 3 (AD σ) (QF X E σ (fun o s => o = some (.int (opBreaks S (nI v)).1) ∧ RepM E b (opBreaks S (nI v)).2 s) rm_X6_breaks) 0 0 12 [some (.ref b), some (.int (nI v)), some (.int (nI c))] [] σ := by
    intro m0
    induction m0 with
    | zero => intro c _ _ hm0; exact absurd hm0 (Nat.not_lt_zero _)
    | succ m0 ih =>
      intro c hc hf hm0
      refine g_iload_n h 2 dX6_breaks_12 rfl rfl ?_
      refine g_aload_n h 0 dX6_breaks_13 rfl rfl ?_
      refine g_get h 4 fa_X6_81 dX6_breaks_14 r0 rfl ?_
      refine g_icmp_geN h 37 dX6_breaks_17 (by decide) (by omega) (by omega) (fun c17_3 => ?_) (fun c17_3 => ?_)
      · skip
        refine g_iconst h (-1) dX6_breaks_37 (by decide) ?_
        exact g_iret h hr dX6_breaks_38 (⟨by rw [e0]; exact congrArg (fun q => some (Value.int q)) (by rw [hf, show sCn S - c = 0 by omega]; rfl), by rw [e0]; exact hM⟩) (Nat.le_of_ble_eq_true rfl) (Nat.le_of_ble_eq_true rfl)
      · skip
        refine g_aload_n h 0 dX6_breaks_20 rfl rfl ?_
        refine g_iload_n h 1 dX6_breaks_21 rfl rfl ?_
        refine g_iload_n h 2 dX6_breaks_22 rfl rfl ?_
        refine g_callV h [] (c_X6_keeps (xL X) E _ hI hM (v := v) (c := c) hv9 (by omega)) cf_X6_85 cv_X6_keeps dX6_breaks_23 rfl r0 rfl rfl (Nat.le_of_ble_eq_true rfl) ⟨(Nat.le_of_ble_eq_true rfl), (Nat.le_of_ble_eq_true rfl)⟩ ⟨(Nat.le_of_ble_eq_true rfl), (Nat.le_of_ble_eq_true rfl)⟩ ?_
        refine kk_det ?_
        refine g_if_neB h 31 dX6_breaks_26 (by decide) (fun c26_4 => ?_) (fun c26_4 => ?_)
        · skip
          refine g_iinc (vs' := [_, _, _]) h (nI (c + 1)) dX6_breaks_31 rfl (by first | exact nI_1 _ | rfl) (Nat.le_of_ble_eq_true rfl) rfl rfl ?_
          refine g_goto h 12 dX6_breaks_34 (by decide) ?_
          exact ih (c + 1) (by omega) (hf.trans (by rw [show sCn S - c = (sCn S - (c + 1)) + 1 by omega, fp_f (p := (fun c => jdS S c (rwV S v) (sVn S v) = 2)) c26_4])) (by omega)
        · skip
          refine g_iload_n h 2 dX6_breaks_29 rfl rfl ?_
          exact g_iret h hr dX6_breaks_30 (⟨by rw [e0]; exact congrArg (fun q => some (Value.int q)) (by rw [hf, show sCn S - c = (sCn S - (c + 1)) + 1 by omega, fp_t (p := (fun c => jdS S c (rwV S v) (sVn S v) = 2)) (Classical.not_not.mp c26_4)]), by rw [e0]; exact hM⟩) (Nat.le_of_ble_eq_true rfl) (Nat.le_of_ble_eq_true rfl)
  exact L12 (sCn S + 1) 0 (by omega) rfl (by omega)
