/-! the reference's performances (own work; walks by program) -/
section CB
variable {so x y n : Nat} {h : Nat → Int32}
theorem cK0 (e : so = 0) : canK so x y h n ↔ mN x h n = 0 := by subst e; simp [canK]
theorem cK1 (e : so = 1) : canK so x y h n ↔ mN x h n ≤ y := by subst e; simp [canK]
theorem cK2 (e : so = 2) : canK so x y h n ↔ hel so x y h n := by subst e; simp [canK]
theorem cK3 (e : so = 3) : canK so x y h n ↔ (mN x h n = 0 ∨ mN y h n = 0) := by subst e; simp [canK]
theorem cK4 (e : so = 4) : canK so x y h n ↔ (0 < mN x h n ∨ gp h n) := by subst e; simp [canK]
theorem cK5 (e : so = 5) : canK so x y h n ↔ hel so x y h n := by subst e; simp [canK]
theorem cK6 (e : so = 6) : canK so x y h n ↔ bar so x y h n := by subst e; simp [canK]
theorem cB0 (e : so = 0) : canB so x y h n ↔ (gp h n ∨ 0 < mN x h n) := by subst e; simp [canB]
theorem cB1 (e : so = 1) : canB so x y h n ↔ (gp h n ∨ y < mN x h n) := by subst e; simp [canB]
theorem cB2 (e : so = 2) : canB so x y h n ↔ opn x y h n := by subst e; simp [canB]
theorem cB3 (e : so = 3) : canB so x y h n ↔ (gp h n ∨ ¬ (mN x h n = 0 ∨ mN y h n = 0)) := by subst e; simp [canB]
theorem cB4 (e : so = 4) : canB so x y h n ↔ mN x h n = 0 := by subst e; simp [canB]
theorem cB5 (e : so = 5) : canB so x y h n ↔ (gp h n ∨ ¬ bar so x y h n) := by subst e; simp [canB]
theorem cB6 (e : so = 6) : canB so x y h n ↔ (gp h n ∨ ¬ bar so x y h n) := by subst e; simp [canB]
end CB
theorem m_hrd {S : PSt} {f : Nat → Int32} {p n : Nat} {l : Nat → Int32} (e4 : ∀ v, v < 4 → f v = nI (sPn S v)) : ∀ w, w < 4 → upd f p (nI n) w = nI (sPn (setP S p n l) w) := by
  intro w hw
  show _ = nI (upN S.2.1.1 p n w)
  by_cases e : w = p
  · subst e
    rw [upd_eq9, upN_eq]
  · rw [upd_ne9 e, upN_ne e]
    exact e4 w hw
theorem m_thg {S : PSt} {f g : Nat → Int32} {v n : Nat} {l : Nat → Int32} (hI : Inv S) (e3 : ∀ v, v < 4 → ∀ i, i < sPn S v → f (40 * v + i) = sPh S v i) (h1 : ∀ i, i < n → g (40 * v + i) = l i) (h2 : ∀ w i, w < 4 → w ≠ v → i < 40 → g (40 * w + i) = f (40 * w + i)) : ∀ w, w < 4 → ∀ i, i < sPn (setP S v n l) w → g (40 * w + i) = sPh (setP S v n l) w i := by
  intro w hw i hi
  have hi2 : i < upN S.2.1.1 v n w := hi
  show _ = upN S.2.1.2 v l w i
  by_cases e : w = v
  · subst e
    rw [upN_eq] at hi2 ⊢
    exact h1 i hi2
  · rw [upN_ne e] at hi2 ⊢
    have h40 : sPn S w ≤ 40 := (hI.2.1 w hw).1
    have hi3 : i < sPn S w := hi2
    rw [h2 w i hw e (by omega)]
    exact e3 w hw i hi2
theorem m_hear {S : PSt} {f : Nat → Int32} {p : Nat} {x : Int32} (hI : Inv S) (e3 : ∀ v, v < 4 → ∀ i, i < sPn S v → f (40 * v + i) = sPh S v i) (hp : p < 4) (hn : sPn S p < 40) : ∀ w, w < 4 → ∀ i, i < sPn (setP S p (sPn S p + 1) (insF (sPh S p) (sPn S p) (sPn S p) x)) w → upd f (40 * p + sPn S p) x (40 * w + i) = sPh (setP S p (sPn S p + 1) (insF (sPh S p) (sPn S p) (sPn S p) x)) w i := by
  refine m_thg hI e3 (fun i hi => ?_) (fun w i hw e hi => upd_ne9 (by omega))
  unfold insF
  by_cases c : i < sPn S p
  · rw [if_pos c, upd_ne9 (by omega)]
    exact e3 p hp i c
  · obtain rfl : i = sPn S p := by omega
    rw [upd_eq9, if_neg c, if_pos rfl]
theorem m_forget {S : PSt} {f : Nat → Int32} {p : Nat} (hI : Inv S) (e3 : ∀ v, v < 4 → ∀ i, i < sPn S v → f (40 * v + i) = sPh S v i) : ∀ w, w < 4 → ∀ i, i < sPn (setP S p 0 (sPh S p)) w → f (40 * w + i) = sPh (setP S p 0 (sPh S p)) w i :=
  m_thg hI e3 (fun i hi => absurd hi (Nat.not_lt_zero _)) (fun w i hw e hi => rfl)
abbrev rm_X6_hear : Room := { frames := 2, cells := 0, slots := 0, locals := 42 }
set_option maxRecDepth 100000 in
set_option maxHeartbeats 4000000 in
theorem D_hear (lau : Launch) (E : EnvD) (σ : Sto) {b : Nat} {S : PSt} (hI : Inv S) (hM : RepM E b S σ) (a1 a2 : Int32) : CC lau yX6_hear cX6_hear 3 (some .int) rm_X6_hear E [.ref b, .int a1, .int a2] σ (fun o s => o = some (.int (opHear S a1 a2).1) ∧ RepM E b (opHear S a1 a2).2 s) := by
  refine cc_of (vs := [_, _, _]) (by decide) (Nat.le_of_ble_eq_true rfl) rfl ?_
  intro X h hr hn
  obtain ⟨r0, ⟨f1, r1, e1⟩, ⟨f2, r2, e2⟩, ⟨f3, r3, e3⟩, ⟨f4, r4, e4⟩, ⟨f5, r5, e5⟩, ⟨f6, r6, e6⟩, ⟨f7, r7, e7⟩, ⟨f8, r8, e8⟩, ⟨f9, r9, e9⟩, ⟨f10, r10, e10⟩, ⟨f11, r11, e11⟩, ⟨f12, r12, e12⟩, ⟨f13, r13⟩, ⟨f14, r14⟩, ⟨f15, r15⟩, ⟨f16, r16, e16⟩, ⟨f17, r17⟩⟩ := id hM
  by_cases na1 : ¬ inR a1 4
  · skip
    refine g_iload_n h 1 dX6_hear_0 rfl rfl ?_
    refine g_callS h [] (c_X6_isHeard (xL X) E _ a1) cf_X6_89 cs_X6_isHeard dX6_hear_1 rfl rfl (Nat.le_of_ble_eq_true rfl) ⟨(Nat.le_of_ble_eq_true rfl), (Nat.le_of_ble_eq_true rfl)⟩ ⟨(Nat.le_of_ble_eq_true rfl), (Nat.le_of_ble_eq_true rfl)⟩ ?_
    refine kk_det ?_
    refine g_if_eqB h 19 dX6_hear_4 (by decide) (fun c4_1 => ?_) (fun c4_1 => absurd c4_1 na1)
    refine g_bipush h (-2) dX6_hear_19 (by decide) ?_
    exact g_iret h hr dX6_hear_21 ((fun e => ⟨by rw [e], by rw [e]; exact hM⟩) (show opHear S a1 a2 = (-2, S) from cif_f (fun q => na1 q.1))) (Nat.le_of_ble_eq_true rfl) (Nat.le_of_ble_eq_true rfl)
  obtain ⟨p, hp9, rfl⟩ := Classical.not_not.mp na1
  have ep9 : cl (nI p) = p := cl_nI (by omega)
  have hn40 := (hI.2.1 p hp9).1
  by_cases hx : ¬ (a2 = -1 ∨ inR a2 100)
  · skip
    refine g_iload_n h 1 dX6_hear_0 rfl rfl ?_
    refine g_callS h [] (c_X6_isHeard (xL X) E _ (nI p)) cf_X6_89 cs_X6_isHeard dX6_hear_1 rfl rfl (Nat.le_of_ble_eq_true rfl) ⟨(Nat.le_of_ble_eq_true rfl), (Nat.le_of_ble_eq_true rfl)⟩ ⟨(Nat.le_of_ble_eq_true rfl), (Nat.le_of_ble_eq_true rfl)⟩ ?_
    refine kk_det ?_
    refine g_if_eqB h 19 dX6_hear_4 (by decide) (fun c4_2 => absurd ⟨p, hp9, rfl⟩ c4_2) (fun c4_2 => ?_)
    refine g_iload_n h 2 dX6_hear_7 rfl rfl ?_
    refine g_iconst h (-1) dX6_hear_8 (by decide) ?_
    refine g_icmp_eq h 22 dX6_hear_9 (by decide) (fun c9_3 => absurd (Or.inl c9_3) hx) (fun c9_3 => ?_)
    refine g_iload_n h 2 dX6_hear_12 rfl rfl ?_
    refine g_callS h [] (c_X6_isLine (xL X) E _ a2) cf_X6_70 cs_X6_isLine dX6_hear_13 rfl rfl (Nat.le_of_ble_eq_true rfl) ⟨(Nat.le_of_ble_eq_true rfl), (Nat.le_of_ble_eq_true rfl)⟩ ⟨(Nat.le_of_ble_eq_true rfl), (Nat.le_of_ble_eq_true rfl)⟩ ?_
    refine kk_det ?_
    refine g_if_neB h 22 dX6_hear_16 (by decide) (fun c16_4 => absurd c16_4 (fun q => hx (Or.inr q))) (fun c16_4 => ?_)
    refine g_bipush h (-2) dX6_hear_19 (by decide) ?_
    exact g_iret h hr dX6_hear_21 ((fun e => ⟨by rw [e], by rw [e]; exact hM⟩) (show opHear S (nI p) a2 = (-2, S) from cif_f (fun q => hx q.2))) (Nat.le_of_ble_eq_true rfl) (Nat.le_of_ble_eq_true rfl)
  have hx9 := Classical.not_not.mp hx
  refine g_iload_n h 1 dX6_hear_0 rfl rfl ?_
  refine g_callS h [] (c_X6_isHeard (xL X) E _ (nI p)) cf_X6_89 cs_X6_isHeard dX6_hear_1 rfl rfl (Nat.le_of_ble_eq_true rfl) ⟨(Nat.le_of_ble_eq_true rfl), (Nat.le_of_ble_eq_true rfl)⟩ ⟨(Nat.le_of_ble_eq_true rfl), (Nat.le_of_ble_eq_true rfl)⟩ ?_
  refine kk_det ?_
  refine g_if_eqB h 19 dX6_hear_4 (by decide) (fun c4_5 => absurd ⟨p, hp9, rfl⟩ c4_5) (fun c4_5 => ?_)
  refine g_iload_n h 2 dX6_hear_7 rfl rfl ?_
  refine g_iconst h (-1) dX6_hear_8 (by decide) ?_
  refine g_icmp_eq h 22 dX6_hear_9 (by decide) (fun c9_6 => ?_) (fun c9_6 => ?_)
  · skip
    refine g_aload_n h 0 dX6_hear_22 rfl rfl ?_
    refine g_get h 3 fa_X6_19 dX6_hear_23 r0 rfl ?_
    refine g_iload_n h 1 dX6_hear_26 rfl rfl ?_
    refine g_iald h dX6_hear_27 r4 (by omega) (by omega) ?_
    refine g_top (y := nI (sPn S p)) (e4 p (by omega)) ?_
    refine g_bipush h (nI 40) dX6_hear_28 (by decide) ?_
    refine g_icmp_neN h 36 dX6_hear_30 (by decide) (by omega) (by decide) (fun c30_7 => ?_) (fun c30_7 => ?_)
    · skip
      refine g_aload_n h 0 dX6_hear_36 rfl rfl ?_
      refine g_get h 2 fa_X6_16 dX6_hear_37 r0 rfl ?_
      refine g_bipush h (nI 40) dX6_hear_40 (by decide) ?_
      refine g_iload_n h 1 dX6_hear_42 rfl rfl ?_
      refine g_imulN h dX6_hear_43 ?_
      refine g_aload_n h 0 dX6_hear_44 rfl rfl ?_
      refine g_get h 3 fa_X6_19 dX6_hear_45 r0 rfl ?_
      refine g_iload_n h 1 dX6_hear_48 rfl rfl ?_
      refine g_iald h dX6_hear_49 r4 (by omega) (by omega) ?_
      refine g_top (y := nI (sPn S p)) (e4 p (by omega)) ?_
      refine g_iaddN h dX6_hear_50 ?_
      refine g_iload_n h 2 dX6_hear_51 rfl rfl ?_
      refine g_iast h dX6_hear_52 r3 (by omega) (by omega) ?_
      refine g_aload_n h 0 dX6_hear_53 rfl rfl ?_
      refine g_get h 3 fa_X6_19 dX6_hear_54 ((sup_ne (by omega)).trans r0) rfl ?_
      refine g_iload_n h 1 dX6_hear_57 rfl rfl ?_
      refine g_dup2 h dX6_hear_58 rfl rfl ?_
      refine g_iald h dX6_hear_59 ((sup_ne (by omega)).trans r4) (by omega) (by omega) ?_
      refine g_top (y := nI (sPn S p)) (e4 p (by omega)) ?_
      refine g_iconst h (nI 1) dX6_hear_60 (by decide) ?_
      refine g_iaddN h dX6_hear_61 ?_
      refine g_iast h dX6_hear_62 ((sup_ne (by omega)).trans r4) (by omega) (by omega) ?_
      refine g_aload_n h 0 dX6_hear_63 rfl rfl ?_
      refine g_get h 3 fa_X6_19 dX6_hear_64 ((sup_ne (by omega)).trans ((sup_ne (by omega)).trans r0)) rfl ?_
      refine g_iload_n h 1 dX6_hear_67 rfl rfl ?_
      refine g_iald h dX6_hear_68 sup_eq (by omega) (by omega) ?_
      refine g_top (y := nI (sPn S p + 1)) (upd_eq9) ?_
      exact g_iret h hr dX6_hear_69 ((fun e => ⟨by rw [e], by rw [e]; exact ⟨((sup_ne (by omega)).trans ((sup_ne (by omega)).trans r0)), ⟨_, ((sup_ne (by omega)).trans ((sup_ne (by omega)).trans r1)), e1⟩, ⟨_, ((sup_ne (by omega)).trans ((sup_ne (by omega)).trans r2)), e2⟩, ⟨_, ((sup_ne (by omega)).trans sup_eq), m_hear hI e3 hp9 (by omega)⟩, ⟨_, sup_eq, m_hrd e4⟩, ⟨_, ((sup_ne (by omega)).trans ((sup_ne (by omega)).trans r5)), e5⟩, ⟨_, ((sup_ne (by omega)).trans ((sup_ne (by omega)).trans r6)), e6⟩, ⟨_, ((sup_ne (by omega)).trans ((sup_ne (by omega)).trans r7)), e7⟩, ⟨_, ((sup_ne (by omega)).trans ((sup_ne (by omega)).trans r8)), e8⟩, ⟨_, ((sup_ne (by omega)).trans ((sup_ne (by omega)).trans r9)), e9⟩, ⟨_, ((sup_ne (by omega)).trans ((sup_ne (by omega)).trans r10)), e10⟩, ⟨_, ((sup_ne (by omega)).trans ((sup_ne (by omega)).trans r11)), e11⟩, ⟨_, ((sup_ne (by omega)).trans ((sup_ne (by omega)).trans r12)), e12⟩, ⟨_, ((sup_ne (by omega)).trans ((sup_ne (by omega)).trans r13))⟩, ⟨_, ((sup_ne (by omega)).trans ((sup_ne (by omega)).trans r14))⟩, ⟨_, ((sup_ne (by omega)).trans ((sup_ne (by omega)).trans r15))⟩, ⟨_, ((sup_ne (by omega)).trans ((sup_ne (by omega)).trans r16)), e16⟩, ⟨_, ((sup_ne (by omega)).trans ((sup_ne (by omega)).trans r17))⟩⟩⟩) (show opHear S (nI p) a2 = (nI (sPn S p + 1), setP S p (sPn S p + 1) (insF (sPh S p) (sPn S p) (sPn S p) a2)) from by unfold opHear; rw [cif_t ⟨⟨p, hp9, rfl⟩, hx9⟩, cif_f (by rw [ep9]; omega), ep9])) (Nat.le_of_ble_eq_true rfl) (Nat.le_of_ble_eq_true rfl)
    · skip
      refine g_bipush h (-4) dX6_hear_33 (by decide) ?_
      exact g_iret h hr dX6_hear_35 ((fun e => ⟨by rw [e], by rw [e]; exact hM⟩) (show opHear S (nI p) a2 = (-4, S) from by unfold opHear; rw [cif_t ⟨⟨p, hp9, rfl⟩, hx9⟩, cif_t (by rw [ep9]; omega)])) (Nat.le_of_ble_eq_true rfl) (Nat.le_of_ble_eq_true rfl)
  · skip
    refine g_iload_n h 2 dX6_hear_12 rfl rfl ?_
    refine g_callS h [] (c_X6_isLine (xL X) E _ a2) cf_X6_70 cs_X6_isLine dX6_hear_13 rfl rfl (Nat.le_of_ble_eq_true rfl) ⟨(Nat.le_of_ble_eq_true rfl), (Nat.le_of_ble_eq_true rfl)⟩ ⟨(Nat.le_of_ble_eq_true rfl), (Nat.le_of_ble_eq_true rfl)⟩ ?_
    refine kk_det ?_
    refine g_if_neB h 22 dX6_hear_16 (by decide) (fun c16_8 => ?_) (fun c16_8 => ?_)
    · skip
      refine g_aload_n h 0 dX6_hear_22 rfl rfl ?_
      refine g_get h 3 fa_X6_19 dX6_hear_23 r0 rfl ?_
      refine g_iload_n h 1 dX6_hear_26 rfl rfl ?_
      refine g_iald h dX6_hear_27 r4 (by omega) (by omega) ?_
      refine g_top (y := nI (sPn S p)) (e4 p (by omega)) ?_
      refine g_bipush h (nI 40) dX6_hear_28 (by decide) ?_
      refine g_icmp_neN h 36 dX6_hear_30 (by decide) (by omega) (by decide) (fun c30_9 => ?_) (fun c30_9 => ?_)
      · skip
        refine g_aload_n h 0 dX6_hear_36 rfl rfl ?_
        refine g_get h 2 fa_X6_16 dX6_hear_37 r0 rfl ?_
        refine g_bipush h (nI 40) dX6_hear_40 (by decide) ?_
        refine g_iload_n h 1 dX6_hear_42 rfl rfl ?_
        refine g_imulN h dX6_hear_43 ?_
        refine g_aload_n h 0 dX6_hear_44 rfl rfl ?_
        refine g_get h 3 fa_X6_19 dX6_hear_45 r0 rfl ?_
        refine g_iload_n h 1 dX6_hear_48 rfl rfl ?_
        refine g_iald h dX6_hear_49 r4 (by omega) (by omega) ?_
        refine g_top (y := nI (sPn S p)) (e4 p (by omega)) ?_
        refine g_iaddN h dX6_hear_50 ?_
        refine g_iload_n h 2 dX6_hear_51 rfl rfl ?_
        refine g_iast h dX6_hear_52 r3 (by omega) (by omega) ?_
        refine g_aload_n h 0 dX6_hear_53 rfl rfl ?_
        refine g_get h 3 fa_X6_19 dX6_hear_54 ((sup_ne (by omega)).trans r0) rfl ?_
        refine g_iload_n h 1 dX6_hear_57 rfl rfl ?_
        refine g_dup2 h dX6_hear_58 rfl rfl ?_
        refine g_iald h dX6_hear_59 ((sup_ne (by omega)).trans r4) (by omega) (by omega) ?_
        refine g_top (y := nI (sPn S p)) (e4 p (by omega)) ?_
        refine g_iconst h (nI 1) dX6_hear_60 (by decide) ?_
        refine g_iaddN h dX6_hear_61 ?_
        refine g_iast h dX6_hear_62 ((sup_ne (by omega)).trans r4) (by omega) (by omega) ?_
        refine g_aload_n h 0 dX6_hear_63 rfl rfl ?_
        refine g_get h 3 fa_X6_19 dX6_hear_64 ((sup_ne (by omega)).trans ((sup_ne (by omega)).trans r0)) rfl ?_
        refine g_iload_n h 1 dX6_hear_67 rfl rfl ?_
        refine g_iald h dX6_hear_68 sup_eq (by omega) (by omega) ?_
        refine g_top (y := nI (sPn S p + 1)) (upd_eq9) ?_
        exact g_iret h hr dX6_hear_69 ((fun e => ⟨by rw [e], by rw [e]; exact ⟨((sup_ne (by omega)).trans ((sup_ne (by omega)).trans r0)), ⟨_, ((sup_ne (by omega)).trans ((sup_ne (by omega)).trans r1)), e1⟩, ⟨_, ((sup_ne (by omega)).trans ((sup_ne (by omega)).trans r2)), e2⟩, ⟨_, ((sup_ne (by omega)).trans sup_eq), m_hear hI e3 hp9 (by omega)⟩, ⟨_, sup_eq, m_hrd e4⟩, ⟨_, ((sup_ne (by omega)).trans ((sup_ne (by omega)).trans r5)), e5⟩, ⟨_, ((sup_ne (by omega)).trans ((sup_ne (by omega)).trans r6)), e6⟩, ⟨_, ((sup_ne (by omega)).trans ((sup_ne (by omega)).trans r7)), e7⟩, ⟨_, ((sup_ne (by omega)).trans ((sup_ne (by omega)).trans r8)), e8⟩, ⟨_, ((sup_ne (by omega)).trans ((sup_ne (by omega)).trans r9)), e9⟩, ⟨_, ((sup_ne (by omega)).trans ((sup_ne (by omega)).trans r10)), e10⟩, ⟨_, ((sup_ne (by omega)).trans ((sup_ne (by omega)).trans r11)), e11⟩, ⟨_, ((sup_ne (by omega)).trans ((sup_ne (by omega)).trans r12)), e12⟩, ⟨_, ((sup_ne (by omega)).trans ((sup_ne (by omega)).trans r13))⟩, ⟨_, ((sup_ne (by omega)).trans ((sup_ne (by omega)).trans r14))⟩, ⟨_, ((sup_ne (by omega)).trans ((sup_ne (by omega)).trans r15))⟩, ⟨_, ((sup_ne (by omega)).trans ((sup_ne (by omega)).trans r16)), e16⟩, ⟨_, ((sup_ne (by omega)).trans ((sup_ne (by omega)).trans r17))⟩⟩⟩) (show opHear S (nI p) a2 = (nI (sPn S p + 1), setP S p (sPn S p + 1) (insF (sPh S p) (sPn S p) (sPn S p) a2)) from by unfold opHear; rw [cif_t ⟨⟨p, hp9, rfl⟩, hx9⟩, cif_f (by rw [ep9]; omega), ep9])) (Nat.le_of_ble_eq_true rfl) (Nat.le_of_ble_eq_true rfl)
      · skip
        refine g_bipush h (-4) dX6_hear_33 (by decide) ?_
        exact g_iret h hr dX6_hear_35 ((fun e => ⟨by rw [e], by rw [e]; exact hM⟩) (show opHear S (nI p) a2 = (-4, S) from by unfold opHear; rw [cif_t ⟨⟨p, hp9, rfl⟩, hx9⟩, cif_t (by rw [ep9]; omega)])) (Nat.le_of_ble_eq_true rfl) (Nat.le_of_ble_eq_true rfl)
    · skip
      exact absurd hx9 (fun q => q.elim (by assumption) (by assumption))
abbrev rm_X6_forget : Room := { frames := 2, cells := 0, slots := 0, locals := 42 }
set_option maxRecDepth 100000 in
set_option maxHeartbeats 4000000 in
theorem D_forget (lau : Launch) (E : EnvD) (σ : Sto) {b : Nat} {S : PSt} (hI : Inv S) (hM : RepM E b S σ) (a1 : Int32) : CC lau yX6_forget cX6_forget 3 (some .int) rm_X6_forget E [.ref b, .int a1] σ (fun o s => o = some (.int (opForget S a1).1) ∧ RepM E b (opForget S a1).2 s) := by
  refine cc_of (vs := [_, _, _]) (by decide) (Nat.le_of_ble_eq_true rfl) rfl ?_
  intro X h hr hn
  obtain ⟨r0, ⟨f1, r1, e1⟩, ⟨f2, r2, e2⟩, ⟨f3, r3, e3⟩, ⟨f4, r4, e4⟩, ⟨f5, r5, e5⟩, ⟨f6, r6, e6⟩, ⟨f7, r7, e7⟩, ⟨f8, r8, e8⟩, ⟨f9, r9, e9⟩, ⟨f10, r10, e10⟩, ⟨f11, r11, e11⟩, ⟨f12, r12, e12⟩, ⟨f13, r13⟩, ⟨f14, r14⟩, ⟨f15, r15⟩, ⟨f16, r16, e16⟩, ⟨f17, r17⟩⟩ := id hM
  by_cases na1 : ¬ inR a1 4
  · skip
    refine g_iload_n h 1 dX6_forget_0 rfl rfl ?_
    refine g_callS h [] (c_X6_isHeard (xL X) E _ a1) cf_X6_89 cs_X6_isHeard dX6_forget_1 rfl rfl (Nat.le_of_ble_eq_true rfl) ⟨(Nat.le_of_ble_eq_true rfl), (Nat.le_of_ble_eq_true rfl)⟩ ⟨(Nat.le_of_ble_eq_true rfl), (Nat.le_of_ble_eq_true rfl)⟩ ?_
    refine kk_det ?_
    refine g_if_neB h 10 dX6_forget_4 (by decide) (fun c4_1 => absurd c4_1 na1) (fun c4_1 => ?_)
    refine g_bipush h (-2) dX6_forget_7 (by decide) ?_
    exact g_iret h hr dX6_forget_9 ((fun e => ⟨by rw [e], by rw [e]; exact hM⟩) (show opForget S a1 = (-2, S) from cif_f (fun q => na1 q))) (Nat.le_of_ble_eq_true rfl) (Nat.le_of_ble_eq_true rfl)
  obtain ⟨p, hp9, rfl⟩ := Classical.not_not.mp na1
  have ep9 : cl (nI p) = p := cl_nI (by omega)
  have hn40 := (hI.2.1 p hp9).1
  refine g_iload_n h 1 dX6_forget_0 rfl rfl ?_
  refine g_callS h [] (c_X6_isHeard (xL X) E _ (nI p)) cf_X6_89 cs_X6_isHeard dX6_forget_1 rfl rfl (Nat.le_of_ble_eq_true rfl) ⟨(Nat.le_of_ble_eq_true rfl), (Nat.le_of_ble_eq_true rfl)⟩ ⟨(Nat.le_of_ble_eq_true rfl), (Nat.le_of_ble_eq_true rfl)⟩ ?_
  refine kk_det ?_
  refine g_if_neB h 10 dX6_forget_4 (by decide) (fun c4_2 => ?_) (fun c4_2 => absurd ⟨p, hp9, rfl⟩ c4_2)
  refine g_aload_n h 0 dX6_forget_10 rfl rfl ?_
  refine g_get h 3 fa_X6_19 dX6_forget_11 r0 rfl ?_
  refine g_iload_n h 1 dX6_forget_14 rfl rfl ?_
  refine g_iald h dX6_forget_15 r4 (by omega) (by omega) ?_
  refine g_top (y := nI (sPn S p)) (e4 p (by omega)) ?_
  refine g_istore_n (vs' := [_, _, _]) h 2 dX6_forget_16 rfl (Nat.le_of_ble_eq_true rfl) rfl rfl ?_
  refine g_aload_n h 0 dX6_forget_17 rfl rfl ?_
  refine g_get h 3 fa_X6_19 dX6_forget_18 r0 rfl ?_
  refine g_iload_n h 1 dX6_forget_21 rfl rfl ?_
  refine g_iconst h (nI 0) dX6_forget_22 (by decide) ?_
  refine g_iast h dX6_forget_23 r4 (by omega) (by omega) ?_
  refine g_iload_n h 2 dX6_forget_24 rfl rfl ?_
  exact g_iret h hr dX6_forget_25 ((fun e => ⟨by rw [e], by rw [e]; exact ⟨((sup_ne (by omega)).trans r0), ⟨_, ((sup_ne (by omega)).trans r1), e1⟩, ⟨_, ((sup_ne (by omega)).trans r2), e2⟩, ⟨_, ((sup_ne (by omega)).trans r3), m_forget hI e3⟩, ⟨_, sup_eq, m_hrd e4⟩, ⟨_, ((sup_ne (by omega)).trans r5), e5⟩, ⟨_, ((sup_ne (by omega)).trans r6), e6⟩, ⟨_, ((sup_ne (by omega)).trans r7), e7⟩, ⟨_, ((sup_ne (by omega)).trans r8), e8⟩, ⟨_, ((sup_ne (by omega)).trans r9), e9⟩, ⟨_, ((sup_ne (by omega)).trans r10), e10⟩, ⟨_, ((sup_ne (by omega)).trans r11), e11⟩, ⟨_, ((sup_ne (by omega)).trans r12), e12⟩, ⟨_, ((sup_ne (by omega)).trans r13)⟩, ⟨_, ((sup_ne (by omega)).trans r14)⟩, ⟨_, ((sup_ne (by omega)).trans r15)⟩, ⟨_, ((sup_ne (by omega)).trans r16), e16⟩, ⟨_, ((sup_ne (by omega)).trans r17)⟩⟩⟩) (show opForget S (nI p) = (nI (sPn S p), setP S p 0 (sPh S p)) from by unfold opForget; rw [cif_t ⟨p, hp9, rfl⟩, ep9])) (Nat.le_of_ble_eq_true rfl) (Nat.le_of_ble_eq_true rfl)
abbrev rm_X6_heard : Room := { frames := 2, cells := 0, slots := 0, locals := 42 }
set_option maxRecDepth 100000 in
set_option maxHeartbeats 4000000 in
theorem D_heard (lau : Launch) (E : EnvD) (σ : Sto) {b : Nat} {S : PSt} (hI : Inv S) (hM : RepM E b S σ) (a1 a2 : Int32) : CC lau yX6_heard cX6_heard 3 (some .int) rm_X6_heard E [.ref b, .int a1, .int a2] σ (fun o s => o = some (.int (opHeard S a1 a2).1) ∧ RepM E b (opHeard S a1 a2).2 s) := by
  refine cc_of (vs := [_, _, _]) (by decide) (Nat.le_of_ble_eq_true rfl) rfl ?_
  intro X h hr hn
  obtain ⟨r0, ⟨f1, r1, e1⟩, ⟨f2, r2, e2⟩, ⟨f3, r3, e3⟩, ⟨f4, r4, e4⟩, ⟨f5, r5, e5⟩, ⟨f6, r6, e6⟩, ⟨f7, r7, e7⟩, ⟨f8, r8, e8⟩, ⟨f9, r9, e9⟩, ⟨f10, r10, e10⟩, ⟨f11, r11, e11⟩, ⟨f12, r12, e12⟩, ⟨f13, r13⟩, ⟨f14, r14⟩, ⟨f15, r15⟩, ⟨f16, r16, e16⟩, ⟨f17, r17⟩⟩ := id hM
  by_cases na1 : ¬ inR a1 4
  · skip
    refine g_iload_n h 1 dX6_heard_0 rfl rfl ?_
    refine g_callS h [] (c_X6_isHeard (xL X) E _ a1) cf_X6_89 cs_X6_isHeard dX6_heard_1 rfl rfl (Nat.le_of_ble_eq_true rfl) ⟨(Nat.le_of_ble_eq_true rfl), (Nat.le_of_ble_eq_true rfl)⟩ ⟨(Nat.le_of_ble_eq_true rfl), (Nat.le_of_ble_eq_true rfl)⟩ ?_
    refine kk_det ?_
    refine g_if_eqB h 37 dX6_heard_4 (by decide) (fun c4_1 => ?_) (fun c4_1 => absurd c4_1 na1)
    refine g_bipush h (-2) dX6_heard_37 (by decide) ?_
    exact g_iret h hr dX6_heard_39 ((fun e => ⟨by rw [e], by rw [e]; exact hM⟩) (show opHeard S a1 a2 = (-2, S) from by unfold opHeard; rw [cif_f (fun q => na1 q.1)])) (Nat.le_of_ble_eq_true rfl) (Nat.le_of_ble_eq_true rfl)
  obtain ⟨p, hp9, rfl⟩ := Classical.not_not.mp na1
  have ep9 : cl (nI p) = p := cl_nI (by omega)
  have hn40 := (hI.2.1 p hp9).1
  by_cases na2 : ¬ inR a2 (sPn S p)
  · skip
    refine g_iload_n h 1 dX6_heard_0 rfl rfl ?_
    refine g_callS h [] (c_X6_isHeard (xL X) E _ (nI p)) cf_X6_89 cs_X6_isHeard dX6_heard_1 rfl rfl (Nat.le_of_ble_eq_true rfl) ⟨(Nat.le_of_ble_eq_true rfl), (Nat.le_of_ble_eq_true rfl)⟩ ⟨(Nat.le_of_ble_eq_true rfl), (Nat.le_of_ble_eq_true rfl)⟩ ?_
    refine kk_det ?_
    refine g_if_eqB h 37 dX6_heard_4 (by decide) (fun c4_2 => absurd ⟨p, hp9, rfl⟩ c4_2) (fun c4_2 => ?_)
    refine g_iload_n h 2 dX6_heard_7 rfl rfl ?_
    refine g_iconst h (nI 0) dX6_heard_8 (by decide) ?_
    refine g_aload_n h 0 dX6_heard_9 rfl rfl ?_
    refine g_get h 3 fa_X6_19 dX6_heard_10 r0 rfl ?_
    refine g_iload_n h 1 dX6_heard_13 rfl rfl ?_
    refine g_iald h dX6_heard_14 r4 (by omega) (by omega) ?_
    refine g_top (y := nI (sPn S p)) (e4 p (by omega)) ?_
    refine g_iconst h (nI 1) dX6_heard_15 (by decide) ?_
    refine g_isub h dX6_heard_16 ?_
    refine g_callS h [] (c_X6_in (xL X) E _ a2 (nI 0) ((nI (sPn S p) - nI 1))) cf_X6_62 cs_X6_in dX6_heard_17 rfl rfl (Nat.le_of_ble_eq_true rfl) ⟨(Nat.le_of_ble_eq_true rfl), (Nat.le_of_ble_eq_true rfl)⟩ ⟨(Nat.le_of_ble_eq_true rfl), (Nat.le_of_ble_eq_true rfl)⟩ ?_
    refine kk_det ?_
    refine g_top (y := bI (inR a2 (sPn S p))) (bI_iff (in_M (by omega))) ?_
    refine g_if_eqB h 37 dX6_heard_20 (by decide) (fun c20_3 => ?_) (fun c20_3 => absurd c20_3 na2)
    refine g_bipush h (-2) dX6_heard_37 (by decide) ?_
    exact g_iret h hr dX6_heard_39 ((fun e => ⟨by rw [e], by rw [e]; exact hM⟩) (show opHeard S (nI p) a2 = (-2, S) from by unfold opHeard; rw [cif_f (fun q => na2 (ep9 ▸ q.2))])) (Nat.le_of_ble_eq_true rfl) (Nat.le_of_ble_eq_true rfl)
  obtain ⟨i, hi9, rfl⟩ := Classical.not_not.mp na2
  have ei9 : cl (nI i) = i := cl_nI (by omega)
  refine g_iload_n h 1 dX6_heard_0 rfl rfl ?_
  refine g_callS h [] (c_X6_isHeard (xL X) E _ (nI p)) cf_X6_89 cs_X6_isHeard dX6_heard_1 rfl rfl (Nat.le_of_ble_eq_true rfl) ⟨(Nat.le_of_ble_eq_true rfl), (Nat.le_of_ble_eq_true rfl)⟩ ⟨(Nat.le_of_ble_eq_true rfl), (Nat.le_of_ble_eq_true rfl)⟩ ?_
  refine kk_det ?_
  refine g_if_eqB h 37 dX6_heard_4 (by decide) (fun c4_4 => absurd ⟨p, hp9, rfl⟩ c4_4) (fun c4_4 => ?_)
  refine g_iload_n h 2 dX6_heard_7 rfl rfl ?_
  refine g_iconst h (nI 0) dX6_heard_8 (by decide) ?_
  refine g_aload_n h 0 dX6_heard_9 rfl rfl ?_
  refine g_get h 3 fa_X6_19 dX6_heard_10 r0 rfl ?_
  refine g_iload_n h 1 dX6_heard_13 rfl rfl ?_
  refine g_iald h dX6_heard_14 r4 (by omega) (by omega) ?_
  refine g_top (y := nI (sPn S p)) (e4 p (by omega)) ?_
  refine g_iconst h (nI 1) dX6_heard_15 (by decide) ?_
  refine g_isub h dX6_heard_16 ?_
  refine g_callS h [] (c_X6_in (xL X) E _ (nI i) (nI 0) ((nI (sPn S p) - nI 1))) cf_X6_62 cs_X6_in dX6_heard_17 rfl rfl (Nat.le_of_ble_eq_true rfl) ⟨(Nat.le_of_ble_eq_true rfl), (Nat.le_of_ble_eq_true rfl)⟩ ⟨(Nat.le_of_ble_eq_true rfl), (Nat.le_of_ble_eq_true rfl)⟩ ?_
  refine kk_det ?_
  refine g_top (y := bI (inR (nI i) (sPn S p))) (bI_iff (in_M (by omega))) ?_
  refine g_if_eqB h 37 dX6_heard_20 (by decide) (fun c20_5 => absurd ⟨i, hi9, rfl⟩ c20_5) (fun c20_5 => ?_)
  refine g_aload_n h 0 dX6_heard_23 rfl rfl ?_
  refine g_get h 2 fa_X6_16 dX6_heard_24 r0 rfl ?_
  refine g_bipush h (nI 40) dX6_heard_27 (by decide) ?_
  refine g_iload_n h 1 dX6_heard_29 rfl rfl ?_
  refine g_imulN h dX6_heard_30 ?_
  refine g_iload_n h 2 dX6_heard_31 rfl rfl ?_
  refine g_iaddN h dX6_heard_32 ?_
  refine g_iald h dX6_heard_33 r3 (by omega) (by omega) ?_
  refine g_top (y := (sPh S p i)) (e3 p (by omega) i (by omega)) ?_
  refine g_goto h 39 dX6_heard_34 (by decide) ?_
  exact g_iret h hr dX6_heard_39 ((fun e => ⟨by rw [e], by rw [e]; exact hM⟩) (show opHeard S (nI p) (nI i) = (sPh S p i, S) from by unfold opHeard; rw [cif_t ⟨⟨p, hp9, rfl⟩, ⟨i, by rw [ep9]; exact hi9, rfl⟩⟩, ep9, ei9])) (Nat.le_of_ble_eq_true rfl) (Nat.le_of_ble_eq_true rfl)
abbrev rm_X6_judged : Room := { frames := 0, cells := 0, slots := 0, locals := 0 }
set_option maxRecDepth 100000 in
set_option maxHeartbeats 4000000 in
theorem c_X6_judged (lau : Launch) (E : EnvD) (σ : Sto) {b : Nat} {S : PSt} (hI : Inv S) (hM : RepM E b S σ) {p c : Nat} (hp : p < 4) (hc : c < sCn S) : CC lau yX6_judged cX6_judged 14 (some .int) rm_X6_judged E [.ref b, .int (nI p), .int (nI c)] σ (fun o s => o = some (.int (nI (jdS S c (sPh S p) (sPn S p)))) ∧ s = σ) := by
  refine cc_of (vs := [_, _, _, _, _, _, _, _, _, _, _, _, _, _]) (by decide) (Nat.le_of_ble_eq_true rfl) rfl ?_
  intro X h hr hn
  obtain ⟨r0, ⟨f1, r1, e1⟩, ⟨f2, r2, e2⟩, ⟨f3, r3, e3⟩, ⟨f4, r4, e4⟩, ⟨f5, r5, e5⟩, ⟨f6, r6, e6⟩, ⟨f7, r7, e7⟩, ⟨f8, r8, e8⟩, ⟨f9, r9, e9⟩, ⟨f10, r10, e10⟩, ⟨f11, r11, e11⟩, ⟨f12, r12, e12⟩, ⟨f13, r13⟩, ⟨f14, r14⟩, ⟨f15, r15⟩, ⟨f16, r16, e16⟩, ⟨f17, r17⟩⟩ := id hM
  have hn40 := (hI.2.1 p hp).1
  obtain ⟨hs7, hx, hy, hy1⟩ := hI.2.2.1.2 c hc
  have hc12 := hI.2.2.1.1
  refine g_aload_n h 0 dX6_judged_0 rfl rfl ?_
  refine g_get h 6 fa_X6_25 dX6_judged_1 r0 rfl ?_
  refine g_iload_n h 2 dX6_judged_4 rfl rfl ?_
  refine g_iald h dX6_judged_5 r6 (by omega) (by omega) ?_
  refine g_top (y := nI (sCx S c)) (e6 c (by omega)) ?_
  refine g_istore_n (vs' := [_, _, _, _, _, _, _, _, _, _, _, _, _, _]) h 3 dX6_judged_6 rfl (Nat.le_of_ble_eq_true rfl) rfl rfl ?_
  refine g_aload_n h 0 dX6_judged_7 rfl rfl ?_
  refine g_get h 7 fa_X6_28 dX6_judged_8 r0 rfl ?_
  refine g_iload_n h 2 dX6_judged_11 rfl rfl ?_
  refine g_iald h dX6_judged_12 r7 (by omega) (by omega) ?_
  refine g_top (y := nI (sCy S c)) (e7 c (by omega)) ?_
  refine g_istore (vs' := [_, _, _, _, _, _, _, _, _, _, _, _, _, _]) h dX6_judged_13 (Nat.le_of_ble_eq_true rfl) rfl rfl ?_
  refine g_iconst h (nI 0) dX6_judged_15 (by decide) ?_
  refine g_istore (vs' := [_, _, _, _, _, _, _, _, _, _, _, _, _, _]) h dX6_judged_16 (Nat.le_of_ble_eq_true rfl) rfl rfl ?_
  refine g_iconst h (nI 0) dX6_judged_18 (by decide) ?_
  refine g_istore (vs' := [_, _, _, _, _, _, _, _, _, _, _, _, _, _]) h dX6_judged_19 (Nat.le_of_ble_eq_true rfl) rfl rfl ?_
  refine g_iconst h (nI 0) dX6_judged_21 (by decide) ?_
  refine g_istore (vs' := [_, _, _, _, _, _, _, _, _, _, _, _, _, _]) h dX6_judged_22 (Nat.le_of_ble_eq_true rfl) rfl rfl ?_
  refine g_iconst h (nI 1) dX6_judged_24 (by decide) ?_
  refine g_istore (vs' := [_, _, _, _, _, _, _, _, _, _, _, _, _, _]) h dX6_judged_25 (Nat.le_of_ble_eq_true rfl) rfl rfl ?_
  refine g_iconst h (nI 1) dX6_judged_27 (by decide) ?_
  refine g_istore (vs' := [_, _, _, _, _, _, _, _, _, _, _, _, _, _]) h dX6_judged_28 (Nat.le_of_ble_eq_true rfl) rfl rfl ?_
  refine g_iconst h (nI 0) dX6_judged_30 (by decide) ?_
  refine g_istore (vs' := [_, _, _, _, _, _, _, _, _, _, _, _, _, _]) h dX6_judged_31 (Nat.le_of_ble_eq_true rfl) rfl rfl ?_
  refine g_iconst h (nI 0) dX6_judged_33 (by decide) ?_
  refine g_istore (vs' := [_, _, _, _, _, _, _, _, _, _, _, _, _, _]) h dX6_judged_34 (Nat.le_of_ble_eq_true rfl) rfl rfl ?_
  refine g_few (vs' := [some (.ref b), some (.int (nI p)), some (.int (nI c)), some (.int (nI (sCx S c))), some (.int (nI (sCy S c))), some (.int (nI 0)), some (.int (nI 0)), some (.int (nI 0)), some (.int (nI 1)), some (.int (nI 1)), some (.int (nI 0)), some (.int (nI 0)), none, none]) ⟨Or.inr rfl, Or.inr rfl, Or.inr rfl, Or.inr rfl, Or.inr rfl, Or.inr rfl, Or.inr rfl, Or.inr rfl, Or.inr rfl, Or.inr rfl, Or.inr rfl, Or.inr rfl, Or.inl rfl, Or.inl rfl, trivial⟩ ?_
  have L36 : ∀ (m0 : Nat) (i : Nat) (m6 : Nat) (t7 : Int32) (t8 : Int32) (t9 : Int32) (t10 : Int32), (i ≤ sPn S p) → (m6 = mN (sCy S c) (sPh S p) i) → (t7 = bI (gp (sPh S p) i)) → (t8 = bI (hel (sCs S c) (sCx S c) (sCy S c) (sPh S p) i)) → (t9 = bI (bar (sCs S c) (sCx S c) (sCy S c) (sPh S p) i)) → (t10 = bI (opn (sCx S c) (sCy S c) (sPh S p) i)) → (sPn S p - i) < m0 → G X E 14 (AD σ) (QF X E σ (fun o s => o = some (.int (nI (jdS S c (sPh S p) (sPn S p)))) ∧ s = σ) rm_X6_judged) 0 0 36 [some (.ref b), some (.int (nI p)), some (.int (nI c)), some (.int (nI (sCx S c))), some (.int (nI (sCy S c))), some (.int (nI (mN (sCx S c) (sPh S p) i))), some (.int (nI m6)), some (.int t7), some (.int t8), some (.int t9), some (.int t10), some (.int (nI i)), none, none] [] σ := by
    intro m0
    induction m0 with
    | zero => intro i m6 t7 t8 t9 t10 _ _ _ _ _ _ hm0; exact absurd hm0 (Nat.not_lt_zero _)
    | succ m0 ih =>
      intro i m6 t7 t8 t9 t10 hi h6 h7 h8 h9 h10 hm0
      subst h6 h7 h8 h9 h10
      have mbx := mN_le9 (c := sCx S c) (h := sPh S p) i
      have mby := mN_le9 (c := sCy S c) (h := sPh S p) i
      refine g_iload h dX6_judged_36 rfl ?_
      refine g_aload_n h 0 dX6_judged_38 rfl rfl ?_
      refine g_get h 3 fa_X6_19 dX6_judged_39 r0 rfl ?_
      refine g_iload_n h 1 dX6_judged_42 rfl rfl ?_
      refine g_iald h dX6_judged_43 r4 (by omega) (by omega) ?_
      refine g_top (y := nI (sPn S p)) (e4 p (by omega)) ?_
      refine g_icmp_geN h 286 dX6_judged_44 (by decide) (by omega) (by omega) (fun c44_1 => ?_) (fun c44_1 => ?_)
      · skip
        obtain rfl : i = sPn S p := by omega
        have J529 : ∀ (t11 : Int32) (t12 : Int32), (t11 = bI (canK (sCs S c) (sCx S c) (sCy S c) (sPh S p) (sPn S p))) → (t12 = bI (canB (sCs S c) (sCx S c) (sCy S c) (sPh S p) (sPn S p))) → G X E 14 (AD σ) (QF X E σ (fun o s => o = some (.int (nI (jdS S c (sPh S p) (sPn S p)))) ∧ s = σ) rm_X6_judged) 0 0 529 [some (.ref b), some (.int (nI p)), some (.int (nI c)), none, none, none, none, none, none, none, none, some (.int t11), some (.int t12), none] [] σ := by
          intro t11 t12 h11 h12
          subst h11 h12
          refine g_iload h dX6_judged_529 rfl ?_
          refine g_if_neB h 538 dX6_judged_531 (by decide) (fun c531_2 => ?_) (fun c531_2 => ?_)
          · skip
            refine g_iload h dX6_judged_538 rfl ?_
            refine g_if_eqB h 547 dX6_judged_540 (by decide) (fun c540_3 => ?_) (fun c540_3 => ?_)
            · skip
              refine g_iconst h (nI 2) dX6_judged_547 (by decide) ?_
              exact g_iret h hr dX6_judged_548 (⟨congrArg (fun q => some (Value.int (nI q))) (jdV_2 c531_2 c540_3).symm, rfl⟩) (Nat.le_of_ble_eq_true rfl) (Nat.le_of_ble_eq_true rfl)
            · skip
              refine g_iconst h (nI 1) dX6_judged_543 (by decide) ?_
              refine g_goto h 548 dX6_judged_544 (by decide) ?_
              exact g_iret h hr dX6_judged_548 (⟨congrArg (fun q => some (Value.int (nI q))) (jdV_1 c531_2 c540_3).symm, rfl⟩) (Nat.le_of_ble_eq_true rfl) (Nat.le_of_ble_eq_true rfl)
          · skip
            refine g_iconst h (nI 0) dX6_judged_534 (by decide) ?_
            refine g_goto h 548 dX6_judged_535 (by decide) ?_
            exact g_iret h hr dX6_judged_548 (⟨congrArg (fun q => some (Value.int (nI q))) (jdV_0 c531_2).symm, rfl⟩) (Nat.le_of_ble_eq_true rfl) (Nat.le_of_ble_eq_true rfl)
        rcases (show sCs S c = 0 ∨ sCs S c = 1 ∨ sCs S c = 2 ∨ sCs S c = 3 ∨ sCs S c = 4 ∨ sCs S c = 5 ∨ sCs S c = 6 by omega) with hso | hso | hso | hso | hso | hso | hso
        · skip
          refine g_iconst h (nI 1) dX6_judged_286 (by decide) ?_
          refine g_istore (vs' := [_, _, _, _, _, _, _, _, _, _, _, _, _, _]) h dX6_judged_287 (Nat.le_of_ble_eq_true rfl) rfl rfl ?_
          refine g_iload h dX6_judged_289 rfl ?_
          refine g_istore (vs' := [_, _, _, _, _, _, _, _, _, _, _, _, _, _]) h dX6_judged_291 (Nat.le_of_ble_eq_true rfl) rfl rfl ?_
          refine g_aload_n h 0 dX6_judged_293 rfl rfl ?_
          refine g_get h 5 fa_X6_22 dX6_judged_294 r0 rfl ?_
          refine g_iload_n h 2 dX6_judged_297 rfl rfl ?_
          refine g_iald h dX6_judged_298 r5 (by omega) (by omega) ?_
          refine g_top (y := nI (sCs S c)) (e5 c (by omega)) ?_
          refine g_top (y := nI 0) (congrArg nI hso) ?_
          refine g_tabIn (off := 37) h 336 dX6_judged_299 (by decide) (by decide) rfl (by decide) ?_
          refine g_iload h dX6_judged_336 rfl ?_
          refine g_if_neN h 345 dX6_judged_338 (by decide) (by omega) (fun c338_4 => ?_) (fun c338_4 => ?_)
          · skip
            refine g_iconst h (nI 0) dX6_judged_345 (by decide) ?_
            refine g_istore (vs' := [_, _, _, _, _, _, _, _, _, _, _, _, _, _]) h dX6_judged_346 (Nat.le_of_ble_eq_true rfl) rfl rfl ?_
            refine g_iload h dX6_judged_348 rfl ?_
            refine g_if_neB h 358 dX6_judged_350 (by decide) (fun c350_5 => ?_) (fun c350_5 => ?_)
            · skip
              refine g_iconst h (nI 1) dX6_judged_358 (by decide) ?_
              refine g_goto h 363 dX6_judged_359 (by decide) ?_
              refine g_istore (vs' := [_, _, _, _, _, _, _, _, _, _, _, _, _, _]) h dX6_judged_363 (Nat.le_of_ble_eq_true rfl) rfl rfl ?_
              refine g_goto h 529 dX6_judged_365 (by decide) ?_
              refine g_few (vs' := [some (.ref b), some (.int (nI p)), some (.int (nI c)), none, none, none, none, none, none, none, none, some (.int (nI 0)), some (.int (nI 1)), none]) ⟨Or.inr rfl, Or.inr rfl, Or.inr rfl, Or.inl rfl, Or.inl rfl, Or.inl rfl, Or.inl rfl, Or.inl rfl, Or.inl rfl, Or.inl rfl, Or.inl rfl, Or.inr rfl, Or.inr rfl, Or.inl rfl, trivial⟩ ?_
              exact J529 _ _ (v0 (fun q => by have := (cK0 hso).mp q; omega)) (v1 ((cB0 hso).mpr (Or.inl c350_5)))
            · skip
              refine g_iload h dX6_judged_353 rfl ?_
              refine g_if_leN h 362 dX6_judged_355 (by decide) (by omega) (fun c355_6 => ?_) (fun c355_6 => ?_)
              · skip
                refine g_iconst h (nI 0) dX6_judged_362 (by decide) ?_
                refine g_istore (vs' := [_, _, _, _, _, _, _, _, _, _, _, _, _, _]) h dX6_judged_363 (Nat.le_of_ble_eq_true rfl) rfl rfl ?_
                refine g_goto h 529 dX6_judged_365 (by decide) ?_
                refine g_few (vs' := [some (.ref b), some (.int (nI p)), some (.int (nI c)), none, none, none, none, none, none, none, none, some (.int (nI 0)), some (.int (nI 0)), none]) ⟨Or.inr rfl, Or.inr rfl, Or.inr rfl, Or.inl rfl, Or.inl rfl, Or.inl rfl, Or.inl rfl, Or.inl rfl, Or.inl rfl, Or.inl rfl, Or.inl rfl, Or.inr rfl, Or.inr rfl, Or.inl rfl, trivial⟩ ?_
                exact J529 _ _ (v0 (fun q => by have := (cK0 hso).mp q; omega)) (v0 (fun q => ((cB0 hso).mp q).elim c350_5 (fun w => by omega)))
              · skip
                refine g_iconst h (nI 1) dX6_judged_358 (by decide) ?_
                refine g_goto h 363 dX6_judged_359 (by decide) ?_
                refine g_istore (vs' := [_, _, _, _, _, _, _, _, _, _, _, _, _, _]) h dX6_judged_363 (Nat.le_of_ble_eq_true rfl) rfl rfl ?_
                refine g_goto h 529 dX6_judged_365 (by decide) ?_
                refine g_few (vs' := [some (.ref b), some (.int (nI p)), some (.int (nI c)), none, none, none, none, none, none, none, none, some (.int (nI 0)), some (.int (nI 1)), none]) ⟨Or.inr rfl, Or.inr rfl, Or.inr rfl, Or.inl rfl, Or.inl rfl, Or.inl rfl, Or.inl rfl, Or.inl rfl, Or.inl rfl, Or.inl rfl, Or.inl rfl, Or.inr rfl, Or.inr rfl, Or.inl rfl, trivial⟩ ?_
                exact J529 _ _ (v0 (fun q => by have := (cK0 hso).mp q; omega)) (v1 ((cB0 hso).mpr (Or.inr (by omega))))
          · skip
            refine g_iconst h (nI 1) dX6_judged_341 (by decide) ?_
            refine g_goto h 346 dX6_judged_342 (by decide) ?_
            refine g_istore (vs' := [_, _, _, _, _, _, _, _, _, _, _, _, _, _]) h dX6_judged_346 (Nat.le_of_ble_eq_true rfl) rfl rfl ?_
            refine g_iload h dX6_judged_348 rfl ?_
            refine g_if_neB h 358 dX6_judged_350 (by decide) (fun c350_7 => ?_) (fun c350_7 => ?_)
            · skip
              refine g_iconst h (nI 1) dX6_judged_358 (by decide) ?_
              refine g_goto h 363 dX6_judged_359 (by decide) ?_
              refine g_istore (vs' := [_, _, _, _, _, _, _, _, _, _, _, _, _, _]) h dX6_judged_363 (Nat.le_of_ble_eq_true rfl) rfl rfl ?_
              refine g_goto h 529 dX6_judged_365 (by decide) ?_
              refine g_few (vs' := [some (.ref b), some (.int (nI p)), some (.int (nI c)), none, none, none, none, none, none, none, none, some (.int (nI 1)), some (.int (nI 1)), none]) ⟨Or.inr rfl, Or.inr rfl, Or.inr rfl, Or.inl rfl, Or.inl rfl, Or.inl rfl, Or.inl rfl, Or.inl rfl, Or.inl rfl, Or.inl rfl, Or.inl rfl, Or.inr rfl, Or.inr rfl, Or.inl rfl, trivial⟩ ?_
              exact J529 _ _ (v1 ((cK0 hso).mpr (by omega))) (v1 ((cB0 hso).mpr (Or.inl c350_7)))
            · skip
              refine g_iload h dX6_judged_353 rfl ?_
              refine g_if_leN h 362 dX6_judged_355 (by decide) (by omega) (fun c355_8 => ?_) (fun c355_8 => ?_)
              · skip
                refine g_iconst h (nI 0) dX6_judged_362 (by decide) ?_
                refine g_istore (vs' := [_, _, _, _, _, _, _, _, _, _, _, _, _, _]) h dX6_judged_363 (Nat.le_of_ble_eq_true rfl) rfl rfl ?_
                refine g_goto h 529 dX6_judged_365 (by decide) ?_
                refine g_few (vs' := [some (.ref b), some (.int (nI p)), some (.int (nI c)), none, none, none, none, none, none, none, none, some (.int (nI 1)), some (.int (nI 0)), none]) ⟨Or.inr rfl, Or.inr rfl, Or.inr rfl, Or.inl rfl, Or.inl rfl, Or.inl rfl, Or.inl rfl, Or.inl rfl, Or.inl rfl, Or.inl rfl, Or.inl rfl, Or.inr rfl, Or.inr rfl, Or.inl rfl, trivial⟩ ?_
                exact J529 _ _ (v1 ((cK0 hso).mpr (by omega))) (v0 (fun q => ((cB0 hso).mp q).elim c350_7 (fun w => by omega)))
              · skip
                refine g_iconst h (nI 1) dX6_judged_358 (by decide) ?_
                refine g_goto h 363 dX6_judged_359 (by decide) ?_
                refine g_istore (vs' := [_, _, _, _, _, _, _, _, _, _, _, _, _, _]) h dX6_judged_363 (Nat.le_of_ble_eq_true rfl) rfl rfl ?_
                refine g_goto h 529 dX6_judged_365 (by decide) ?_
                refine g_few (vs' := [some (.ref b), some (.int (nI p)), some (.int (nI c)), none, none, none, none, none, none, none, none, some (.int (nI 1)), some (.int (nI 1)), none]) ⟨Or.inr rfl, Or.inr rfl, Or.inr rfl, Or.inl rfl, Or.inl rfl, Or.inl rfl, Or.inl rfl, Or.inl rfl, Or.inl rfl, Or.inl rfl, Or.inl rfl, Or.inr rfl, Or.inr rfl, Or.inl rfl, trivial⟩ ?_
                exact J529 _ _ (v1 ((cK0 hso).mpr (by omega))) (v1 ((cB0 hso).mpr (Or.inr (by omega))))
        · skip
          refine g_iconst h (nI 1) dX6_judged_286 (by decide) ?_
          refine g_istore (vs' := [_, _, _, _, _, _, _, _, _, _, _, _, _, _]) h dX6_judged_287 (Nat.le_of_ble_eq_true rfl) rfl rfl ?_
          refine g_iload h dX6_judged_289 rfl ?_
          refine g_istore (vs' := [_, _, _, _, _, _, _, _, _, _, _, _, _, _]) h dX6_judged_291 (Nat.le_of_ble_eq_true rfl) rfl rfl ?_
          refine g_aload_n h 0 dX6_judged_293 rfl rfl ?_
          refine g_get h 5 fa_X6_22 dX6_judged_294 r0 rfl ?_
          refine g_iload_n h 2 dX6_judged_297 rfl rfl ?_
          refine g_iald h dX6_judged_298 r5 (by omega) (by omega) ?_
          refine g_top (y := nI (sCs S c)) (e5 c (by omega)) ?_
          refine g_top (y := nI 1) (congrArg nI hso) ?_
          refine g_tabIn (off := 69) h 368 dX6_judged_299 (by decide) (by decide) rfl (by decide) ?_
          refine g_iload h dX6_judged_368 rfl ?_
          refine g_iload h dX6_judged_370 rfl ?_
          refine g_icmp_gtN h 379 dX6_judged_372 (by decide) (by omega) (by omega) (fun c372_9 => ?_) (fun c372_9 => ?_)
          · skip
            refine g_iconst h (nI 0) dX6_judged_379 (by decide) ?_
            refine g_istore (vs' := [_, _, _, _, _, _, _, _, _, _, _, _, _, _]) h dX6_judged_380 (Nat.le_of_ble_eq_true rfl) rfl rfl ?_
            refine g_iload h dX6_judged_382 rfl ?_
            refine g_if_neB h 394 dX6_judged_384 (by decide) (fun c384_10 => ?_) (fun c384_10 => ?_)
            · skip
              refine g_iconst h (nI 1) dX6_judged_394 (by decide) ?_
              refine g_goto h 399 dX6_judged_395 (by decide) ?_
              refine g_istore (vs' := [_, _, _, _, _, _, _, _, _, _, _, _, _, _]) h dX6_judged_399 (Nat.le_of_ble_eq_true rfl) rfl rfl ?_
              refine g_goto h 529 dX6_judged_401 (by decide) ?_
              refine g_few (vs' := [some (.ref b), some (.int (nI p)), some (.int (nI c)), none, none, none, none, none, none, none, none, some (.int (nI 0)), some (.int (nI 1)), none]) ⟨Or.inr rfl, Or.inr rfl, Or.inr rfl, Or.inl rfl, Or.inl rfl, Or.inl rfl, Or.inl rfl, Or.inl rfl, Or.inl rfl, Or.inl rfl, Or.inl rfl, Or.inr rfl, Or.inr rfl, Or.inl rfl, trivial⟩ ?_
              exact J529 _ _ (v0 (fun q => by have := (cK1 hso).mp q; omega)) (v1 ((cB1 hso).mpr (Or.inl c384_10)))
            · skip
              refine g_iload h dX6_judged_387 rfl ?_
              refine g_iload h dX6_judged_389 rfl ?_
              refine g_icmp_leN h 398 dX6_judged_391 (by decide) (by omega) (by omega) (fun c391_11 => ?_) (fun c391_11 => ?_)
              · skip
                refine g_iconst h (nI 0) dX6_judged_398 (by decide) ?_
                refine g_istore (vs' := [_, _, _, _, _, _, _, _, _, _, _, _, _, _]) h dX6_judged_399 (Nat.le_of_ble_eq_true rfl) rfl rfl ?_
                refine g_goto h 529 dX6_judged_401 (by decide) ?_
                refine g_few (vs' := [some (.ref b), some (.int (nI p)), some (.int (nI c)), none, none, none, none, none, none, none, none, some (.int (nI 0)), some (.int (nI 0)), none]) ⟨Or.inr rfl, Or.inr rfl, Or.inr rfl, Or.inl rfl, Or.inl rfl, Or.inl rfl, Or.inl rfl, Or.inl rfl, Or.inl rfl, Or.inl rfl, Or.inl rfl, Or.inr rfl, Or.inr rfl, Or.inl rfl, trivial⟩ ?_
                exact J529 _ _ (v0 (fun q => by have := (cK1 hso).mp q; omega)) (v0 (fun q => ((cB1 hso).mp q).elim c384_10 (fun w => by omega)))
              · skip
                refine g_iconst h (nI 1) dX6_judged_394 (by decide) ?_
                refine g_goto h 399 dX6_judged_395 (by decide) ?_
                refine g_istore (vs' := [_, _, _, _, _, _, _, _, _, _, _, _, _, _]) h dX6_judged_399 (Nat.le_of_ble_eq_true rfl) rfl rfl ?_
                refine g_goto h 529 dX6_judged_401 (by decide) ?_
                refine g_few (vs' := [some (.ref b), some (.int (nI p)), some (.int (nI c)), none, none, none, none, none, none, none, none, some (.int (nI 0)), some (.int (nI 1)), none]) ⟨Or.inr rfl, Or.inr rfl, Or.inr rfl, Or.inl rfl, Or.inl rfl, Or.inl rfl, Or.inl rfl, Or.inl rfl, Or.inl rfl, Or.inl rfl, Or.inl rfl, Or.inr rfl, Or.inr rfl, Or.inl rfl, trivial⟩ ?_
                exact J529 _ _ (v0 (fun q => by have := (cK1 hso).mp q; omega)) (v1 ((cB1 hso).mpr (Or.inr (by omega))))
          · skip
            refine g_iconst h (nI 1) dX6_judged_375 (by decide) ?_
            refine g_goto h 380 dX6_judged_376 (by decide) ?_
            refine g_istore (vs' := [_, _, _, _, _, _, _, _, _, _, _, _, _, _]) h dX6_judged_380 (Nat.le_of_ble_eq_true rfl) rfl rfl ?_
            refine g_iload h dX6_judged_382 rfl ?_
            refine g_if_neB h 394 dX6_judged_384 (by decide) (fun c384_12 => ?_) (fun c384_12 => ?_)
            · skip
              refine g_iconst h (nI 1) dX6_judged_394 (by decide) ?_
              refine g_goto h 399 dX6_judged_395 (by decide) ?_
              refine g_istore (vs' := [_, _, _, _, _, _, _, _, _, _, _, _, _, _]) h dX6_judged_399 (Nat.le_of_ble_eq_true rfl) rfl rfl ?_
              refine g_goto h 529 dX6_judged_401 (by decide) ?_
              refine g_few (vs' := [some (.ref b), some (.int (nI p)), some (.int (nI c)), none, none, none, none, none, none, none, none, some (.int (nI 1)), some (.int (nI 1)), none]) ⟨Or.inr rfl, Or.inr rfl, Or.inr rfl, Or.inl rfl, Or.inl rfl, Or.inl rfl, Or.inl rfl, Or.inl rfl, Or.inl rfl, Or.inl rfl, Or.inl rfl, Or.inr rfl, Or.inr rfl, Or.inl rfl, trivial⟩ ?_
              exact J529 _ _ (v1 ((cK1 hso).mpr (by omega))) (v1 ((cB1 hso).mpr (Or.inl c384_12)))
            · skip
              refine g_iload h dX6_judged_387 rfl ?_
              refine g_iload h dX6_judged_389 rfl ?_
              refine g_icmp_leN h 398 dX6_judged_391 (by decide) (by omega) (by omega) (fun c391_13 => ?_) (fun c391_13 => ?_)
              · skip
                refine g_iconst h (nI 0) dX6_judged_398 (by decide) ?_
                refine g_istore (vs' := [_, _, _, _, _, _, _, _, _, _, _, _, _, _]) h dX6_judged_399 (Nat.le_of_ble_eq_true rfl) rfl rfl ?_
                refine g_goto h 529 dX6_judged_401 (by decide) ?_
                refine g_few (vs' := [some (.ref b), some (.int (nI p)), some (.int (nI c)), none, none, none, none, none, none, none, none, some (.int (nI 1)), some (.int (nI 0)), none]) ⟨Or.inr rfl, Or.inr rfl, Or.inr rfl, Or.inl rfl, Or.inl rfl, Or.inl rfl, Or.inl rfl, Or.inl rfl, Or.inl rfl, Or.inl rfl, Or.inl rfl, Or.inr rfl, Or.inr rfl, Or.inl rfl, trivial⟩ ?_
                exact J529 _ _ (v1 ((cK1 hso).mpr (by omega))) (v0 (fun q => ((cB1 hso).mp q).elim c384_12 (fun w => by omega)))
              · skip
                refine g_iconst h (nI 1) dX6_judged_394 (by decide) ?_
                refine g_goto h 399 dX6_judged_395 (by decide) ?_
                refine g_istore (vs' := [_, _, _, _, _, _, _, _, _, _, _, _, _, _]) h dX6_judged_399 (Nat.le_of_ble_eq_true rfl) rfl rfl ?_
                refine g_goto h 529 dX6_judged_401 (by decide) ?_
                refine g_few (vs' := [some (.ref b), some (.int (nI p)), some (.int (nI c)), none, none, none, none, none, none, none, none, some (.int (nI 1)), some (.int (nI 1)), none]) ⟨Or.inr rfl, Or.inr rfl, Or.inr rfl, Or.inl rfl, Or.inl rfl, Or.inl rfl, Or.inl rfl, Or.inl rfl, Or.inl rfl, Or.inl rfl, Or.inl rfl, Or.inr rfl, Or.inr rfl, Or.inl rfl, trivial⟩ ?_
                exact J529 _ _ (v1 ((cK1 hso).mpr (by omega))) (v1 ((cB1 hso).mpr (Or.inr (by omega))))
        · skip
          refine g_iconst h (nI 1) dX6_judged_286 (by decide) ?_
          refine g_istore (vs' := [_, _, _, _, _, _, _, _, _, _, _, _, _, _]) h dX6_judged_287 (Nat.le_of_ble_eq_true rfl) rfl rfl ?_
          refine g_iload h dX6_judged_289 rfl ?_
          refine g_istore (vs' := [_, _, _, _, _, _, _, _, _, _, _, _, _, _]) h dX6_judged_291 (Nat.le_of_ble_eq_true rfl) rfl rfl ?_
          refine g_aload_n h 0 dX6_judged_293 rfl rfl ?_
          refine g_get h 5 fa_X6_22 dX6_judged_294 r0 rfl ?_
          refine g_iload_n h 2 dX6_judged_297 rfl rfl ?_
          refine g_iald h dX6_judged_298 r5 (by omega) (by omega) ?_
          refine g_top (y := nI (sCs S c)) (e5 c (by omega)) ?_
          refine g_top (y := nI 2) (congrArg nI hso) ?_
          refine g_tabIn (off := 105) h 404 dX6_judged_299 (by decide) (by decide) rfl (by decide) ?_
          refine g_iload h dX6_judged_404 rfl ?_
          refine g_istore (vs' := [_, _, _, _, _, _, _, _, _, _, _, _, _, _]) h dX6_judged_406 (Nat.le_of_ble_eq_true rfl) rfl rfl ?_
          refine g_iload h dX6_judged_408 rfl ?_
          refine g_istore (vs' := [_, _, _, _, _, _, _, _, _, _, _, _, _, _]) h dX6_judged_410 (Nat.le_of_ble_eq_true rfl) rfl rfl ?_
          refine g_goto h 529 dX6_judged_412 (by decide) ?_
          refine g_few (vs' := [some (.ref b), some (.int (nI p)), some (.int (nI c)), none, none, none, none, none, none, none, none, some (.int (bI (hel (sCs S c) (sCx S c) (sCy S c) (sPh S p) (sPn S p)))), some (.int (bI (opn (sCx S c) (sCy S c) (sPh S p) (sPn S p)))), none]) ⟨Or.inr rfl, Or.inr rfl, Or.inr rfl, Or.inl rfl, Or.inl rfl, Or.inl rfl, Or.inl rfl, Or.inl rfl, Or.inl rfl, Or.inl rfl, Or.inl rfl, Or.inr rfl, Or.inr rfl, Or.inl rfl, trivial⟩ ?_
          exact J529 _ _ (bI_iff (cK2 hso).symm) (bI_iff (cB2 hso).symm)
        · skip
          refine g_iconst h (nI 1) dX6_judged_286 (by decide) ?_
          refine g_istore (vs' := [_, _, _, _, _, _, _, _, _, _, _, _, _, _]) h dX6_judged_287 (Nat.le_of_ble_eq_true rfl) rfl rfl ?_
          refine g_iload h dX6_judged_289 rfl ?_
          refine g_istore (vs' := [_, _, _, _, _, _, _, _, _, _, _, _, _, _]) h dX6_judged_291 (Nat.le_of_ble_eq_true rfl) rfl rfl ?_
          refine g_aload_n h 0 dX6_judged_293 rfl rfl ?_
          refine g_get h 5 fa_X6_22 dX6_judged_294 r0 rfl ?_
          refine g_iload_n h 2 dX6_judged_297 rfl rfl ?_
          refine g_iald h dX6_judged_298 r5 (by omega) (by omega) ?_
          refine g_top (y := nI (sCs S c)) (e5 c (by omega)) ?_
          refine g_top (y := nI 3) (congrArg nI hso) ?_
          refine g_tabIn (off := 116) h 415 dX6_judged_299 (by decide) (by decide) rfl (by decide) ?_
          refine g_iload h dX6_judged_415 rfl ?_
          refine g_if_eqN h 425 dX6_judged_417 (by decide) (by omega) (fun c417_14 => ?_) (fun c417_14 => ?_)
          · skip
            refine g_iconst h (nI 1) dX6_judged_425 (by decide) ?_
            refine g_goto h 430 dX6_judged_426 (by decide) ?_
            refine g_istore (vs' := [_, _, _, _, _, _, _, _, _, _, _, _, _, _]) h dX6_judged_430 (Nat.le_of_ble_eq_true rfl) rfl rfl ?_
            refine g_iload h dX6_judged_432 rfl ?_
            refine g_if_neB h 442 dX6_judged_434 (by decide) (fun c434_15 => ?_) (fun c434_15 => ?_)
            · skip
              refine g_iconst h (nI 1) dX6_judged_442 (by decide) ?_
              refine g_goto h 447 dX6_judged_443 (by decide) ?_
              refine g_istore (vs' := [_, _, _, _, _, _, _, _, _, _, _, _, _, _]) h dX6_judged_447 (Nat.le_of_ble_eq_true rfl) rfl rfl ?_
              refine g_goto h 529 dX6_judged_449 (by decide) ?_
              refine g_few (vs' := [some (.ref b), some (.int (nI p)), some (.int (nI c)), none, none, none, none, none, none, none, none, some (.int (nI 1)), some (.int (nI 1)), none]) ⟨Or.inr rfl, Or.inr rfl, Or.inr rfl, Or.inl rfl, Or.inl rfl, Or.inl rfl, Or.inl rfl, Or.inl rfl, Or.inl rfl, Or.inl rfl, Or.inl rfl, Or.inr rfl, Or.inr rfl, Or.inl rfl, trivial⟩ ?_
              exact J529 _ _ (v1 ((cK3 hso).mpr (Or.inl (by omega)))) (v1 ((cB3 hso).mpr (Or.inl c434_15)))
            · skip
              refine g_iload h dX6_judged_437 rfl ?_
              refine g_if_neN h 446 dX6_judged_439 (by decide) (by decide) (fun c439_16 => ?_) (fun c439_16 => absurd c439_16 (by decide))
              refine g_iconst h (nI 0) dX6_judged_446 (by decide) ?_
              refine g_istore (vs' := [_, _, _, _, _, _, _, _, _, _, _, _, _, _]) h dX6_judged_447 (Nat.le_of_ble_eq_true rfl) rfl rfl ?_
              refine g_goto h 529 dX6_judged_449 (by decide) ?_
              refine g_few (vs' := [some (.ref b), some (.int (nI p)), some (.int (nI c)), none, none, none, none, none, none, none, none, some (.int (nI 1)), some (.int (nI 0)), none]) ⟨Or.inr rfl, Or.inr rfl, Or.inr rfl, Or.inl rfl, Or.inl rfl, Or.inl rfl, Or.inl rfl, Or.inl rfl, Or.inl rfl, Or.inl rfl, Or.inl rfl, Or.inr rfl, Or.inr rfl, Or.inl rfl, trivial⟩ ?_
              exact J529 _ _ (v1 ((cK3 hso).mpr (Or.inl (by omega)))) (v0 (fun q => ((cB3 hso).mp q).elim c434_15 (fun w => w (by omega))))
          · skip
            refine g_iload h dX6_judged_420 rfl ?_
            refine g_if_neN h 429 dX6_judged_422 (by decide) (by omega) (fun c422_17 => ?_) (fun c422_17 => ?_)
            · skip
              refine g_iconst h (nI 0) dX6_judged_429 (by decide) ?_
              refine g_istore (vs' := [_, _, _, _, _, _, _, _, _, _, _, _, _, _]) h dX6_judged_430 (Nat.le_of_ble_eq_true rfl) rfl rfl ?_
              refine g_iload h dX6_judged_432 rfl ?_
              refine g_if_neB h 442 dX6_judged_434 (by decide) (fun c434_18 => ?_) (fun c434_18 => ?_)
              · skip
                refine g_iconst h (nI 1) dX6_judged_442 (by decide) ?_
                refine g_goto h 447 dX6_judged_443 (by decide) ?_
                refine g_istore (vs' := [_, _, _, _, _, _, _, _, _, _, _, _, _, _]) h dX6_judged_447 (Nat.le_of_ble_eq_true rfl) rfl rfl ?_
                refine g_goto h 529 dX6_judged_449 (by decide) ?_
                refine g_few (vs' := [some (.ref b), some (.int (nI p)), some (.int (nI c)), none, none, none, none, none, none, none, none, some (.int (nI 0)), some (.int (nI 1)), none]) ⟨Or.inr rfl, Or.inr rfl, Or.inr rfl, Or.inl rfl, Or.inl rfl, Or.inl rfl, Or.inl rfl, Or.inl rfl, Or.inl rfl, Or.inl rfl, Or.inl rfl, Or.inr rfl, Or.inr rfl, Or.inl rfl, trivial⟩ ?_
                exact J529 _ _ (v0 (fun q => by have := (cK3 hso).mp q; omega)) (v1 ((cB3 hso).mpr (Or.inl c434_18)))
              · skip
                refine g_iload h dX6_judged_437 rfl ?_
                refine g_if_neN h 446 dX6_judged_439 (by decide) (by decide) (fun c439_19 => absurd c439_19 (by decide)) (fun c439_19 => ?_)
                refine g_iconst h (nI 1) dX6_judged_442 (by decide) ?_
                refine g_goto h 447 dX6_judged_443 (by decide) ?_
                refine g_istore (vs' := [_, _, _, _, _, _, _, _, _, _, _, _, _, _]) h dX6_judged_447 (Nat.le_of_ble_eq_true rfl) rfl rfl ?_
                refine g_goto h 529 dX6_judged_449 (by decide) ?_
                refine g_few (vs' := [some (.ref b), some (.int (nI p)), some (.int (nI c)), none, none, none, none, none, none, none, none, some (.int (nI 0)), some (.int (nI 1)), none]) ⟨Or.inr rfl, Or.inr rfl, Or.inr rfl, Or.inl rfl, Or.inl rfl, Or.inl rfl, Or.inl rfl, Or.inl rfl, Or.inl rfl, Or.inl rfl, Or.inl rfl, Or.inr rfl, Or.inr rfl, Or.inl rfl, trivial⟩ ?_
                exact J529 _ _ (v0 (fun q => by have := (cK3 hso).mp q; omega)) (v1 ((cB3 hso).mpr (Or.inr (by omega))))
            · skip
              refine g_iconst h (nI 1) dX6_judged_425 (by decide) ?_
              refine g_goto h 430 dX6_judged_426 (by decide) ?_
              refine g_istore (vs' := [_, _, _, _, _, _, _, _, _, _, _, _, _, _]) h dX6_judged_430 (Nat.le_of_ble_eq_true rfl) rfl rfl ?_
              refine g_iload h dX6_judged_432 rfl ?_
              refine g_if_neB h 442 dX6_judged_434 (by decide) (fun c434_20 => ?_) (fun c434_20 => ?_)
              · skip
                refine g_iconst h (nI 1) dX6_judged_442 (by decide) ?_
                refine g_goto h 447 dX6_judged_443 (by decide) ?_
                refine g_istore (vs' := [_, _, _, _, _, _, _, _, _, _, _, _, _, _]) h dX6_judged_447 (Nat.le_of_ble_eq_true rfl) rfl rfl ?_
                refine g_goto h 529 dX6_judged_449 (by decide) ?_
                refine g_few (vs' := [some (.ref b), some (.int (nI p)), some (.int (nI c)), none, none, none, none, none, none, none, none, some (.int (nI 1)), some (.int (nI 1)), none]) ⟨Or.inr rfl, Or.inr rfl, Or.inr rfl, Or.inl rfl, Or.inl rfl, Or.inl rfl, Or.inl rfl, Or.inl rfl, Or.inl rfl, Or.inl rfl, Or.inl rfl, Or.inr rfl, Or.inr rfl, Or.inl rfl, trivial⟩ ?_
                exact J529 _ _ (v1 ((cK3 hso).mpr (Or.inr (by omega)))) (v1 ((cB3 hso).mpr (Or.inl c434_20)))
              · skip
                refine g_iload h dX6_judged_437 rfl ?_
                refine g_if_neN h 446 dX6_judged_439 (by decide) (by decide) (fun c439_21 => ?_) (fun c439_21 => absurd c439_21 (by decide))
                refine g_iconst h (nI 0) dX6_judged_446 (by decide) ?_
                refine g_istore (vs' := [_, _, _, _, _, _, _, _, _, _, _, _, _, _]) h dX6_judged_447 (Nat.le_of_ble_eq_true rfl) rfl rfl ?_
                refine g_goto h 529 dX6_judged_449 (by decide) ?_
                refine g_few (vs' := [some (.ref b), some (.int (nI p)), some (.int (nI c)), none, none, none, none, none, none, none, none, some (.int (nI 1)), some (.int (nI 0)), none]) ⟨Or.inr rfl, Or.inr rfl, Or.inr rfl, Or.inl rfl, Or.inl rfl, Or.inl rfl, Or.inl rfl, Or.inl rfl, Or.inl rfl, Or.inl rfl, Or.inl rfl, Or.inr rfl, Or.inr rfl, Or.inl rfl, trivial⟩ ?_
                exact J529 _ _ (v1 ((cK3 hso).mpr (Or.inr (by omega)))) (v0 (fun q => ((cB3 hso).mp q).elim c434_20 (fun w => w (by omega))))
        · skip
          refine g_iconst h (nI 1) dX6_judged_286 (by decide) ?_
          refine g_istore (vs' := [_, _, _, _, _, _, _, _, _, _, _, _, _, _]) h dX6_judged_287 (Nat.le_of_ble_eq_true rfl) rfl rfl ?_
          refine g_iload h dX6_judged_289 rfl ?_
          refine g_istore (vs' := [_, _, _, _, _, _, _, _, _, _, _, _, _, _]) h dX6_judged_291 (Nat.le_of_ble_eq_true rfl) rfl rfl ?_
          refine g_aload_n h 0 dX6_judged_293 rfl rfl ?_
          refine g_get h 5 fa_X6_22 dX6_judged_294 r0 rfl ?_
          refine g_iload_n h 2 dX6_judged_297 rfl rfl ?_
          refine g_iald h dX6_judged_298 r5 (by omega) (by omega) ?_
          refine g_top (y := nI (sCs S c)) (e5 c (by omega)) ?_
          refine g_top (y := nI 4) (congrArg nI hso) ?_
          refine g_tabIn (off := 153) h 452 dX6_judged_299 (by decide) (by decide) rfl (by decide) ?_
          refine g_iload h dX6_judged_452 rfl ?_
          refine g_if_gtN h 462 dX6_judged_454 (by decide) (by omega) (fun c454_22 => ?_) (fun c454_22 => ?_)
          · skip
            refine g_iconst h (nI 1) dX6_judged_462 (by decide) ?_
            refine g_goto h 467 dX6_judged_463 (by decide) ?_
            refine g_istore (vs' := [_, _, _, _, _, _, _, _, _, _, _, _, _, _]) h dX6_judged_467 (Nat.le_of_ble_eq_true rfl) rfl rfl ?_
            refine g_iload h dX6_judged_469 rfl ?_
            refine g_if_neN h 478 dX6_judged_471 (by decide) (by omega) (fun c471_23 => ?_) (fun c471_23 => ?_)
            · skip
              refine g_iconst h (nI 0) dX6_judged_478 (by decide) ?_
              refine g_istore (vs' := [_, _, _, _, _, _, _, _, _, _, _, _, _, _]) h dX6_judged_479 (Nat.le_of_ble_eq_true rfl) rfl rfl ?_
              refine g_goto h 529 dX6_judged_481 (by decide) ?_
              refine g_few (vs' := [some (.ref b), some (.int (nI p)), some (.int (nI c)), none, none, none, none, none, none, none, none, some (.int (nI 1)), some (.int (nI 0)), none]) ⟨Or.inr rfl, Or.inr rfl, Or.inr rfl, Or.inl rfl, Or.inl rfl, Or.inl rfl, Or.inl rfl, Or.inl rfl, Or.inl rfl, Or.inl rfl, Or.inl rfl, Or.inr rfl, Or.inr rfl, Or.inl rfl, trivial⟩ ?_
              exact J529 _ _ (v1 ((cK4 hso).mpr (Or.inl (by omega)))) (v0 (fun q => by have := (cB4 hso).mp q; omega))
            · skip
              refine g_iconst h (nI 1) dX6_judged_474 (by decide) ?_
              refine g_goto h 479 dX6_judged_475 (by decide) ?_
              refine g_istore (vs' := [_, _, _, _, _, _, _, _, _, _, _, _, _, _]) h dX6_judged_479 (Nat.le_of_ble_eq_true rfl) rfl rfl ?_
              refine g_goto h 529 dX6_judged_481 (by decide) ?_
              refine g_few (vs' := [some (.ref b), some (.int (nI p)), some (.int (nI c)), none, none, none, none, none, none, none, none, some (.int (nI 1)), some (.int (nI 1)), none]) ⟨Or.inr rfl, Or.inr rfl, Or.inr rfl, Or.inl rfl, Or.inl rfl, Or.inl rfl, Or.inl rfl, Or.inl rfl, Or.inl rfl, Or.inl rfl, Or.inl rfl, Or.inr rfl, Or.inr rfl, Or.inl rfl, trivial⟩ ?_
              exact J529 _ _ (v1 ((cK4 hso).mpr (Or.inl (by omega)))) (v1 ((cB4 hso).mpr (by omega)))
          · skip
            refine g_iload h dX6_judged_457 rfl ?_
            refine g_if_eqB h 466 dX6_judged_459 (by decide) (fun c459_24 => ?_) (fun c459_24 => ?_)
            · skip
              refine g_iconst h (nI 0) dX6_judged_466 (by decide) ?_
              refine g_istore (vs' := [_, _, _, _, _, _, _, _, _, _, _, _, _, _]) h dX6_judged_467 (Nat.le_of_ble_eq_true rfl) rfl rfl ?_
              refine g_iload h dX6_judged_469 rfl ?_
              refine g_if_neN h 478 dX6_judged_471 (by decide) (by omega) (fun c471_25 => ?_) (fun c471_25 => ?_)
              · skip
                refine g_iconst h (nI 0) dX6_judged_478 (by decide) ?_
                refine g_istore (vs' := [_, _, _, _, _, _, _, _, _, _, _, _, _, _]) h dX6_judged_479 (Nat.le_of_ble_eq_true rfl) rfl rfl ?_
                refine g_goto h 529 dX6_judged_481 (by decide) ?_
                refine g_few (vs' := [some (.ref b), some (.int (nI p)), some (.int (nI c)), none, none, none, none, none, none, none, none, some (.int (nI 0)), some (.int (nI 0)), none]) ⟨Or.inr rfl, Or.inr rfl, Or.inr rfl, Or.inl rfl, Or.inl rfl, Or.inl rfl, Or.inl rfl, Or.inl rfl, Or.inl rfl, Or.inl rfl, Or.inl rfl, Or.inr rfl, Or.inr rfl, Or.inl rfl, trivial⟩ ?_
                exact J529 _ _ (v0 (fun q => ((cK4 hso).mp q).elim (fun w => by omega) c459_24)) (v0 (fun q => by have := (cB4 hso).mp q; omega))
              · skip
                refine g_iconst h (nI 1) dX6_judged_474 (by decide) ?_
                refine g_goto h 479 dX6_judged_475 (by decide) ?_
                refine g_istore (vs' := [_, _, _, _, _, _, _, _, _, _, _, _, _, _]) h dX6_judged_479 (Nat.le_of_ble_eq_true rfl) rfl rfl ?_
                refine g_goto h 529 dX6_judged_481 (by decide) ?_
                refine g_few (vs' := [some (.ref b), some (.int (nI p)), some (.int (nI c)), none, none, none, none, none, none, none, none, some (.int (nI 0)), some (.int (nI 1)), none]) ⟨Or.inr rfl, Or.inr rfl, Or.inr rfl, Or.inl rfl, Or.inl rfl, Or.inl rfl, Or.inl rfl, Or.inl rfl, Or.inl rfl, Or.inl rfl, Or.inl rfl, Or.inr rfl, Or.inr rfl, Or.inl rfl, trivial⟩ ?_
                exact J529 _ _ (v0 (fun q => ((cK4 hso).mp q).elim (fun w => by omega) c459_24)) (v1 ((cB4 hso).mpr (by omega)))
            · skip
              refine g_iconst h (nI 1) dX6_judged_462 (by decide) ?_
              refine g_goto h 467 dX6_judged_463 (by decide) ?_
              refine g_istore (vs' := [_, _, _, _, _, _, _, _, _, _, _, _, _, _]) h dX6_judged_467 (Nat.le_of_ble_eq_true rfl) rfl rfl ?_
              refine g_iload h dX6_judged_469 rfl ?_
              refine g_if_neN h 478 dX6_judged_471 (by decide) (by omega) (fun c471_26 => ?_) (fun c471_26 => ?_)
              · skip
                refine g_iconst h (nI 0) dX6_judged_478 (by decide) ?_
                refine g_istore (vs' := [_, _, _, _, _, _, _, _, _, _, _, _, _, _]) h dX6_judged_479 (Nat.le_of_ble_eq_true rfl) rfl rfl ?_
                refine g_goto h 529 dX6_judged_481 (by decide) ?_
                refine g_few (vs' := [some (.ref b), some (.int (nI p)), some (.int (nI c)), none, none, none, none, none, none, none, none, some (.int (nI 1)), some (.int (nI 0)), none]) ⟨Or.inr rfl, Or.inr rfl, Or.inr rfl, Or.inl rfl, Or.inl rfl, Or.inl rfl, Or.inl rfl, Or.inl rfl, Or.inl rfl, Or.inl rfl, Or.inl rfl, Or.inr rfl, Or.inr rfl, Or.inl rfl, trivial⟩ ?_
                exact J529 _ _ (v1 ((cK4 hso).mpr (Or.inr c459_24))) (v0 (fun q => by have := (cB4 hso).mp q; omega))
              · skip
                refine g_iconst h (nI 1) dX6_judged_474 (by decide) ?_
                refine g_goto h 479 dX6_judged_475 (by decide) ?_
                refine g_istore (vs' := [_, _, _, _, _, _, _, _, _, _, _, _, _, _]) h dX6_judged_479 (Nat.le_of_ble_eq_true rfl) rfl rfl ?_
                refine g_goto h 529 dX6_judged_481 (by decide) ?_
                refine g_few (vs' := [some (.ref b), some (.int (nI p)), some (.int (nI c)), none, none, none, none, none, none, none, none, some (.int (nI 1)), some (.int (nI 1)), none]) ⟨Or.inr rfl, Or.inr rfl, Or.inr rfl, Or.inl rfl, Or.inl rfl, Or.inl rfl, Or.inl rfl, Or.inl rfl, Or.inl rfl, Or.inl rfl, Or.inl rfl, Or.inr rfl, Or.inr rfl, Or.inl rfl, trivial⟩ ?_
                exact J529 _ _ (v1 ((cK4 hso).mpr (Or.inr c459_24))) (v1 ((cB4 hso).mpr (by omega)))
        · skip
          refine g_iconst h (nI 1) dX6_judged_286 (by decide) ?_
          refine g_istore (vs' := [_, _, _, _, _, _, _, _, _, _, _, _, _, _]) h dX6_judged_287 (Nat.le_of_ble_eq_true rfl) rfl rfl ?_
          refine g_iload h dX6_judged_289 rfl ?_
          refine g_istore (vs' := [_, _, _, _, _, _, _, _, _, _, _, _, _, _]) h dX6_judged_291 (Nat.le_of_ble_eq_true rfl) rfl rfl ?_
          refine g_aload_n h 0 dX6_judged_293 rfl rfl ?_
          refine g_get h 5 fa_X6_22 dX6_judged_294 r0 rfl ?_
          refine g_iload_n h 2 dX6_judged_297 rfl rfl ?_
          refine g_iald h dX6_judged_298 r5 (by omega) (by omega) ?_
          refine g_top (y := nI (sCs S c)) (e5 c (by omega)) ?_
          refine g_top (y := nI 5) (congrArg nI hso) ?_
          refine g_tabIn (off := 185) h 484 dX6_judged_299 (by decide) (by decide) rfl (by decide) ?_
          refine g_iload h dX6_judged_484 rfl ?_
          refine g_istore (vs' := [_, _, _, _, _, _, _, _, _, _, _, _, _, _]) h dX6_judged_486 (Nat.le_of_ble_eq_true rfl) rfl rfl ?_
          refine g_iload h dX6_judged_488 rfl ?_
          refine g_if_neB h 498 dX6_judged_490 (by decide) (fun c490_27 => ?_) (fun c490_27 => ?_)
          · skip
            refine g_iconst h (nI 1) dX6_judged_498 (by decide) ?_
            refine g_goto h 503 dX6_judged_499 (by decide) ?_
            refine g_istore (vs' := [_, _, _, _, _, _, _, _, _, _, _, _, _, _]) h dX6_judged_503 (Nat.le_of_ble_eq_true rfl) rfl rfl ?_
            refine g_goto h 529 dX6_judged_505 (by decide) ?_
            refine g_few (vs' := [some (.ref b), some (.int (nI p)), some (.int (nI c)), none, none, none, none, none, none, none, none, some (.int (bI (hel (sCs S c) (sCx S c) (sCy S c) (sPh S p) (sPn S p)))), some (.int (nI 1)), none]) ⟨Or.inr rfl, Or.inr rfl, Or.inr rfl, Or.inl rfl, Or.inl rfl, Or.inl rfl, Or.inl rfl, Or.inl rfl, Or.inl rfl, Or.inl rfl, Or.inl rfl, Or.inr rfl, Or.inr rfl, Or.inl rfl, trivial⟩ ?_
            exact J529 _ _ (bI_iff (cK5 hso).symm) (v1 ((cB5 hso).mpr (Or.inl c490_27)))
          · skip
            refine g_iload h dX6_judged_493 rfl ?_
            refine g_if_neB h 502 dX6_judged_495 (by decide) (fun c495_28 => ?_) (fun c495_28 => ?_)
            · skip
              refine g_iconst h (nI 0) dX6_judged_502 (by decide) ?_
              refine g_istore (vs' := [_, _, _, _, _, _, _, _, _, _, _, _, _, _]) h dX6_judged_503 (Nat.le_of_ble_eq_true rfl) rfl rfl ?_
              refine g_goto h 529 dX6_judged_505 (by decide) ?_
              refine g_few (vs' := [some (.ref b), some (.int (nI p)), some (.int (nI c)), none, none, none, none, none, none, none, none, some (.int (bI (hel (sCs S c) (sCx S c) (sCy S c) (sPh S p) (sPn S p)))), some (.int (nI 0)), none]) ⟨Or.inr rfl, Or.inr rfl, Or.inr rfl, Or.inl rfl, Or.inl rfl, Or.inl rfl, Or.inl rfl, Or.inl rfl, Or.inl rfl, Or.inl rfl, Or.inl rfl, Or.inr rfl, Or.inr rfl, Or.inl rfl, trivial⟩ ?_
              exact J529 _ _ (bI_iff (cK5 hso).symm) (v0 (fun q => ((cB5 hso).mp q).elim c490_27 (fun w => w c495_28)))
            · skip
              refine g_iconst h (nI 1) dX6_judged_498 (by decide) ?_
              refine g_goto h 503 dX6_judged_499 (by decide) ?_
              refine g_istore (vs' := [_, _, _, _, _, _, _, _, _, _, _, _, _, _]) h dX6_judged_503 (Nat.le_of_ble_eq_true rfl) rfl rfl ?_
              refine g_goto h 529 dX6_judged_505 (by decide) ?_
              refine g_few (vs' := [some (.ref b), some (.int (nI p)), some (.int (nI c)), none, none, none, none, none, none, none, none, some (.int (bI (hel (sCs S c) (sCx S c) (sCy S c) (sPh S p) (sPn S p)))), some (.int (nI 1)), none]) ⟨Or.inr rfl, Or.inr rfl, Or.inr rfl, Or.inl rfl, Or.inl rfl, Or.inl rfl, Or.inl rfl, Or.inl rfl, Or.inl rfl, Or.inl rfl, Or.inl rfl, Or.inr rfl, Or.inr rfl, Or.inl rfl, trivial⟩ ?_
              exact J529 _ _ (bI_iff (cK5 hso).symm) (v1 ((cB5 hso).mpr (Or.inr c495_28)))
        · skip
          refine g_iconst h (nI 1) dX6_judged_286 (by decide) ?_
          refine g_istore (vs' := [_, _, _, _, _, _, _, _, _, _, _, _, _, _]) h dX6_judged_287 (Nat.le_of_ble_eq_true rfl) rfl rfl ?_
          refine g_iload h dX6_judged_289 rfl ?_
          refine g_istore (vs' := [_, _, _, _, _, _, _, _, _, _, _, _, _, _]) h dX6_judged_291 (Nat.le_of_ble_eq_true rfl) rfl rfl ?_
          refine g_aload_n h 0 dX6_judged_293 rfl rfl ?_
          refine g_get h 5 fa_X6_22 dX6_judged_294 r0 rfl ?_
          refine g_iload_n h 2 dX6_judged_297 rfl rfl ?_
          refine g_iald h dX6_judged_298 r5 (by omega) (by omega) ?_
          refine g_top (y := nI (sCs S c)) (e5 c (by omega)) ?_
          refine g_top (y := nI 6) (congrArg nI hso) ?_
          refine g_tabOut h 508 dX6_judged_299 (by decide) (by decide) ?_
          refine g_iload h dX6_judged_508 rfl ?_
          refine g_istore (vs' := [_, _, _, _, _, _, _, _, _, _, _, _, _, _]) h dX6_judged_510 (Nat.le_of_ble_eq_true rfl) rfl rfl ?_
          refine g_iload h dX6_judged_512 rfl ?_
          refine g_if_neB h 522 dX6_judged_514 (by decide) (fun c514_29 => ?_) (fun c514_29 => ?_)
          · skip
            refine g_iconst h (nI 1) dX6_judged_522 (by decide) ?_
            refine g_goto h 527 dX6_judged_523 (by decide) ?_
            refine g_istore (vs' := [_, _, _, _, _, _, _, _, _, _, _, _, _, _]) h dX6_judged_527 (Nat.le_of_ble_eq_true rfl) rfl rfl ?_
            refine g_few (vs' := [some (.ref b), some (.int (nI p)), some (.int (nI c)), none, none, none, none, none, none, none, none, some (.int (bI (bar (sCs S c) (sCx S c) (sCy S c) (sPh S p) (sPn S p)))), some (.int (nI 1)), none]) ⟨Or.inr rfl, Or.inr rfl, Or.inr rfl, Or.inl rfl, Or.inl rfl, Or.inl rfl, Or.inl rfl, Or.inl rfl, Or.inl rfl, Or.inl rfl, Or.inl rfl, Or.inr rfl, Or.inr rfl, Or.inl rfl, trivial⟩ ?_
            exact J529 _ _ (bI_iff (cK6 hso).symm) (v1 ((cB6 hso).mpr (Or.inl c514_29)))
          · skip
            refine g_iload h dX6_judged_517 rfl ?_
            refine g_if_neB h 526 dX6_judged_519 (by decide) (fun c519_30 => ?_) (fun c519_30 => ?_)
            · skip
              refine g_iconst h (nI 0) dX6_judged_526 (by decide) ?_
              refine g_istore (vs' := [_, _, _, _, _, _, _, _, _, _, _, _, _, _]) h dX6_judged_527 (Nat.le_of_ble_eq_true rfl) rfl rfl ?_
              refine g_few (vs' := [some (.ref b), some (.int (nI p)), some (.int (nI c)), none, none, none, none, none, none, none, none, some (.int (bI (bar (sCs S c) (sCx S c) (sCy S c) (sPh S p) (sPn S p)))), some (.int (nI 0)), none]) ⟨Or.inr rfl, Or.inr rfl, Or.inr rfl, Or.inl rfl, Or.inl rfl, Or.inl rfl, Or.inl rfl, Or.inl rfl, Or.inl rfl, Or.inl rfl, Or.inl rfl, Or.inr rfl, Or.inr rfl, Or.inl rfl, trivial⟩ ?_
              exact J529 _ _ (bI_iff (cK6 hso).symm) (v0 (fun q => ((cB6 hso).mp q).elim c514_29 (fun w => w c519_30)))
            · skip
              refine g_iconst h (nI 1) dX6_judged_522 (by decide) ?_
              refine g_goto h 527 dX6_judged_523 (by decide) ?_
              refine g_istore (vs' := [_, _, _, _, _, _, _, _, _, _, _, _, _, _]) h dX6_judged_527 (Nat.le_of_ble_eq_true rfl) rfl rfl ?_
              refine g_few (vs' := [some (.ref b), some (.int (nI p)), some (.int (nI c)), none, none, none, none, none, none, none, none, some (.int (bI (bar (sCs S c) (sCx S c) (sCy S c) (sPh S p) (sPn S p)))), some (.int (nI 1)), none]) ⟨Or.inr rfl, Or.inr rfl, Or.inr rfl, Or.inl rfl, Or.inl rfl, Or.inl rfl, Or.inl rfl, Or.inl rfl, Or.inl rfl, Or.inl rfl, Or.inl rfl, Or.inr rfl, Or.inr rfl, Or.inl rfl, trivial⟩ ?_
              exact J529 _ _ (bI_iff (cK6 hso).symm) (v1 ((cB6 hso).mpr (Or.inr c519_30)))
      · skip
        have J263 : ∀ (m5 : Nat) (t8 : Int32) (t9 : Int32) (t10 : Int32), (m5 = mN (sCx S c) (sPh S p) (i + 1)) → (t8 = bI (hel (sCs S c) (sCx S c) (sCy S c) (sPh S p) (i + 1))) → (t9 = bI (bar (sCs S c) (sCx S c) (sCy S c) (sPh S p) (i + 1))) → (t10 = bI (opn (sCx S c) (sCy S c) (sPh S p) (i + 1))) → G X E 14 (AD σ) (QF X E σ (fun o s => o = some (.int (nI (jdS S c (sPh S p) (sPn S p)))) ∧ s = σ) rm_X6_judged) 0 0 263 [some (.ref b), some (.int (nI p)), some (.int (nI c)), some (.int (nI (sCx S c))), some (.int (nI (sCy S c))), some (.int (nI m5)), some (.int (nI (mN (sCy S c) (sPh S p) i))), some (.int (bI (gp (sPh S p) (i + 1)))), some (.int t8), some (.int t9), some (.int t10), some (.int (nI i)), some (.int (sPh S p i)), some (.int (ahd (sPh S p) i))] [] σ := by
          intro m5 t8 t9 t10 h5 h8 h9 h10
          subst h5
          have h7 : bI (gp (sPh S p) (i + 1)) = bI (gp (sPh S p) (i + 1)) := rfl
          refine g_iload h dX6_judged_263 rfl ?_
          refine g_iload h dX6_judged_265 rfl ?_
          refine g_iload h dX6_judged_267 rfl ?_
          refine g_icmp_ne h 276 dX6_judged_269 (by decide) (fun c269_31 => ?_) (fun c269_31 => ?_)
          · skip
            refine g_iconst h (nI 0) dX6_judged_276 (by decide) ?_
            refine g_iaddN h dX6_judged_277 ?_
            refine g_istore (vs' := [_, _, _, _, _, _, _, _, _, _, _, _, _, _]) h dX6_judged_278 (Nat.le_of_ble_eq_true rfl) rfl rfl ?_
            refine g_iinc (vs' := [_, _, _, _, _, _, _, _, _, _, _, _, _, _]) h (nI (i + 1)) dX6_judged_280 rfl (by first | exact nI_1 _ | rfl) (Nat.le_of_ble_eq_true rfl) rfl rfl ?_
            refine g_goto h 36 dX6_judged_283 (by decide) ?_
            refine g_few (vs' := [some (.ref b), some (.int (nI p)), some (.int (nI c)), some (.int (nI (sCx S c))), some (.int (nI (sCy S c))), some (.int (nI (mN (sCx S c) (sPh S p) (i + 1)))), some (.int (nI ((mN (sCy S c) (sPh S p) i) + 0))), some (.int (bI (gp (sPh S p) (i + 1)))), some (.int t8), some (.int t9), some (.int t10), some (.int (nI (i + 1))), none, none]) ⟨Or.inr rfl, Or.inr rfl, Or.inr rfl, Or.inr rfl, Or.inr rfl, Or.inr rfl, Or.inr rfl, Or.inr rfl, Or.inr rfl, Or.inr rfl, Or.inr rfl, Or.inr rfl, Or.inl rfl, Or.inl rfl, trivial⟩ ?_
            exact ih (i + 1) _ _ _ _ _ (by omega) (show _ = mN _ _ (i + 1) from by rw [mN_s, if_neg c269_31]) h7 h8 h9 h10 (by omega)
          · skip
            refine g_iconst h (nI 1) dX6_judged_272 (by decide) ?_
            refine g_goto h 277 dX6_judged_273 (by decide) ?_
            refine g_iaddN h dX6_judged_277 ?_
            refine g_istore (vs' := [_, _, _, _, _, _, _, _, _, _, _, _, _, _]) h dX6_judged_278 (Nat.le_of_ble_eq_true rfl) rfl rfl ?_
            refine g_iinc (vs' := [_, _, _, _, _, _, _, _, _, _, _, _, _, _]) h (nI (i + 1)) dX6_judged_280 rfl (by first | exact nI_1 _ | rfl) (Nat.le_of_ble_eq_true rfl) rfl rfl ?_
            refine g_goto h 36 dX6_judged_283 (by decide) ?_
            refine g_few (vs' := [some (.ref b), some (.int (nI p)), some (.int (nI c)), some (.int (nI (sCx S c))), some (.int (nI (sCy S c))), some (.int (nI (mN (sCx S c) (sPh S p) (i + 1)))), some (.int (nI ((mN (sCy S c) (sPh S p) i) + 1))), some (.int (bI (gp (sPh S p) (i + 1)))), some (.int t8), some (.int t9), some (.int t10), some (.int (nI (i + 1))), none, none]) ⟨Or.inr rfl, Or.inr rfl, Or.inr rfl, Or.inr rfl, Or.inr rfl, Or.inr rfl, Or.inr rfl, Or.inr rfl, Or.inr rfl, Or.inr rfl, Or.inr rfl, Or.inr rfl, Or.inl rfl, Or.inl rfl, trivial⟩ ?_
            exact ih (i + 1) _ _ _ _ _ (by omega) (show _ = mN _ _ (i + 1) from by rw [mN_s, if_pos c269_31]) h7 h8 h9 h10 (by omega)
        have J139 : ∀ (t9 : Int32), (t9 = bI (bar (sCs S c) (sCx S c) (sCy S c) (sPh S p) i ∧ (sPh S p i = nI (sCy S c) → sCs S c = 6 → mN (sCx S c) (sPh S p) i = 0))) → G X E 14 (AD σ) (QF X E σ (fun o s => o = some (.int (nI (jdS S c (sPh S p) (sPn S p)))) ∧ s = σ) rm_X6_judged) 0 0 139 [some (.ref b), some (.int (nI p)), some (.int (nI c)), some (.int (nI (sCx S c))), some (.int (nI (sCy S c))), some (.int (nI (mN (sCx S c) (sPh S p) i))), some (.int (nI (mN (sCy S c) (sPh S p) i))), some (.int (bI (gp (sPh S p) (i + 1)))), some (.int (bI (hel (sCs S c) (sCx S c) (sCy S c) (sPh S p) i))), some (.int t9), some (.int (bI (opn (sCx S c) (sCy S c) (sPh S p) i ∨ (sPh S p i = -1 ∧ mN (sCy S c) (sPh S p) i = 0)))), some (.int (nI i)), some (.int (sPh S p i)), some (.int (ahd (sPh S p) i))] [] σ := by
          intro t9 h9
          subst h9
          refine g_iload h dX6_judged_139 rfl ?_
          refine g_iload_n h 3 dX6_judged_141 rfl rfl ?_
          refine g_icmp_ne h 263 dX6_judged_142 (by decide) (fun c142_32 => ?_) (fun c142_32 => ?_)
          · skip
            exact J263 _ _ _ _ (by rw [mN_s, if_neg c142_32]; rfl) (bI_iff ⟨fun q => ⟨q, fun w => absurd w c142_32⟩, fun q => q.1⟩) (bI_iff ⟨fun q => ⟨q.1, q.2, fun w => absurd w c142_32⟩, fun q => ⟨q.1, q.2.1⟩⟩) (bI_iff ⟨fun q => q.elim Or.inl (fun w => Or.inr ⟨Or.inl w.1, w.2⟩), fun q => q.elim Or.inl (fun w => Or.inr ⟨w.1.resolve_right c142_32, w.2⟩)⟩)
          · skip
            have hne : ¬ sPh S p i = -1 := by rw [c142_32]; exact m1n _ (by omega)
            have J200 : ∀ (t8 : Int32) (t10 : Int32), (t8 = bI (hel (sCs S c) (sCx S c) (sCy S c) (sPh S p) i ∧ (sCs S c = 2 → sCx S c ≠ sCy S c ∧ (0 < mN (sCy S c) (sPh S p) i ∨ gp (sPh S p) i)))) → (t10 = bI (opn (sCx S c) (sCy S c) (sPh S p) (i + 1))) → G X E 14 (AD σ) (QF X E σ (fun o s => o = some (.int (nI (jdS S c (sPh S p) (sPn S p)))) ∧ s = σ) rm_X6_judged) 0 0 200 [some (.ref b), some (.int (nI p)), some (.int (nI c)), some (.int (nI (sCx S c))), some (.int (nI (sCy S c))), some (.int (nI (mN (sCx S c) (sPh S p) i))), some (.int (nI (mN (sCy S c) (sPh S p) i))), some (.int (bI (gp (sPh S p) (i + 1)))), some (.int t8), some (.int (bI (bar (sCs S c) (sCx S c) (sCy S c) (sPh S p) i ∧ (sPh S p i = nI (sCy S c) → sCs S c = 6 → mN (sCx S c) (sPh S p) i = 0)))), some (.int t10), some (.int (nI i)), some (.int (sPh S p i)), some (.int (ahd (sPh S p) i))] [] σ := by
              intro t8 t10 h8 h10
              subst h8
              refine g_aload_n h 0 dX6_judged_200 rfl rfl ?_
              refine g_get h 5 fa_X6_22 dX6_judged_201 r0 rfl ?_
              refine g_iload_n h 2 dX6_judged_204 rfl rfl ?_
              refine g_iald h dX6_judged_205 r5 (by omega) (by omega) ?_
              refine g_top (y := nI (sCs S c)) (e5 c (by omega)) ?_
              refine g_iconst h (nI 5) dX6_judged_206 (by decide) ?_
              refine g_icmp_neN h 260 dX6_judged_207 (by decide) (by omega) (by decide) (fun c207_33 => ?_) (fun c207_33 => ?_)
              · skip
                refine g_iinc (vs' := [_, _, _, _, _, _, _, _, _, _, _, _, _, _]) h (nI ((mN (sCx S c) (sPh S p) i) + 1)) dX6_judged_260 rfl (by first | exact nI_1 _ | rfl) (Nat.le_of_ble_eq_true rfl) rfl rfl ?_
                exact J263 _ _ _ _ (by rw [mN_s, if_pos c142_32]) (bI_iff ⟨fun q => ⟨q.1, fun _ => ⟨q.2, fun w => absurd w c207_33⟩⟩, fun q => ⟨q.1, (q.2 c142_32).1⟩⟩) (bI_iff ⟨fun q => ⟨q.1, q.2, fun _ w => absurd w c207_33⟩, fun q => ⟨q.1, q.2.1⟩⟩) (h10)
              · skip
                refine g_iload h dX6_judged_210 rfl ?_
                refine g_if_eqB h 238 dX6_judged_212 (by decide) (fun c212_34 => ?_) (fun c212_34 => ?_)
                · skip
                  refine g_iconst h (nI 0) dX6_judged_238 (by decide) ?_
                  refine g_istore (vs' := [_, _, _, _, _, _, _, _, _, _, _, _, _, _]) h dX6_judged_239 (Nat.le_of_ble_eq_true rfl) rfl rfl ?_
                  refine g_iload h dX6_judged_241 rfl ?_
                  refine g_if_eqB h 257 dX6_judged_243 (by decide) (fun c243_35 => ?_) (fun c243_35 => ?_)
                  · skip
                    refine g_iconst h (nI 0) dX6_judged_257 (by decide) ?_
                    refine g_istore (vs' := [_, _, _, _, _, _, _, _, _, _, _, _, _, _]) h dX6_judged_258 (Nat.le_of_ble_eq_true rfl) rfl rfl ?_
                    refine g_iinc (vs' := [_, _, _, _, _, _, _, _, _, _, _, _, _, _]) h (nI ((mN (sCx S c) (sPh S p) i) + 1)) dX6_judged_260 rfl (by first | exact nI_1 _ | rfl) (Nat.le_of_ble_eq_true rfl) rfl rfl ?_
                    exact J263 _ _ _ _ (by rw [mN_s, if_pos c142_32]) (v0 (fun q => c212_34 ⟨q.1, (q.2 c142_32).1⟩)) (v0 (fun q => c243_35 ⟨q.1, q.2.1⟩)) (h10)
                  · skip
                    refine g_iload h dX6_judged_246 rfl ?_
                    refine g_iload h dX6_judged_248 rfl ?_
                    refine g_icmp_ne h 257 dX6_judged_250 (by decide) (fun c250_36 => ?_) (fun c250_36 => ?_)
                    · skip
                      refine g_iconst h (nI 0) dX6_judged_257 (by decide) ?_
                      refine g_istore (vs' := [_, _, _, _, _, _, _, _, _, _, _, _, _, _]) h dX6_judged_258 (Nat.le_of_ble_eq_true rfl) rfl rfl ?_
                      refine g_iinc (vs' := [_, _, _, _, _, _, _, _, _, _, _, _, _, _]) h (nI ((mN (sCx S c) (sPh S p) i) + 1)) dX6_judged_260 rfl (by first | exact nI_1 _ | rfl) (Nat.le_of_ble_eq_true rfl) rfl rfl ?_
                      exact J263 _ _ _ _ (by rw [mN_s, if_pos c142_32]) (v0 (fun q => c212_34 ⟨q.1, (q.2 c142_32).1⟩)) (v0 (fun q => c250_36 (q.2.2 c142_32 c207_33))) (h10)
                    · skip
                      refine g_iconst h (nI 1) dX6_judged_253 (by decide) ?_
                      refine g_goto h 258 dX6_judged_254 (by decide) ?_
                      refine g_istore (vs' := [_, _, _, _, _, _, _, _, _, _, _, _, _, _]) h dX6_judged_258 (Nat.le_of_ble_eq_true rfl) rfl rfl ?_
                      refine g_iinc (vs' := [_, _, _, _, _, _, _, _, _, _, _, _, _, _]) h (nI ((mN (sCx S c) (sPh S p) i) + 1)) dX6_judged_260 rfl (by first | exact nI_1 _ | rfl) (Nat.le_of_ble_eq_true rfl) rfl rfl ?_
                      exact J263 _ _ _ _ (by rw [mN_s, if_pos c142_32]) (v0 (fun q => c212_34 ⟨q.1, (q.2 c142_32).1⟩)) (v1 ⟨c243_35.1, c243_35.2, fun _ _ => c250_36⟩) (h10)
                · skip
                  refine g_iload_n h 3 dX6_judged_215 rfl rfl ?_
                  refine g_iload h dX6_judged_216 rfl ?_
                  refine g_icmp_eqN h 238 dX6_judged_218 (by decide) (by omega) (by omega) (fun c218_37 => ?_) (fun c218_37 => ?_)
                  · skip
                    refine g_iconst h (nI 0) dX6_judged_238 (by decide) ?_
                    refine g_istore (vs' := [_, _, _, _, _, _, _, _, _, _, _, _, _, _]) h dX6_judged_239 (Nat.le_of_ble_eq_true rfl) rfl rfl ?_
                    refine g_iload h dX6_judged_241 rfl ?_
                    refine g_if_eqB h 257 dX6_judged_243 (by decide) (fun c243_38 => ?_) (fun c243_38 => ?_)
                    · skip
                      refine g_iconst h (nI 0) dX6_judged_257 (by decide) ?_
                      refine g_istore (vs' := [_, _, _, _, _, _, _, _, _, _, _, _, _, _]) h dX6_judged_258 (Nat.le_of_ble_eq_true rfl) rfl rfl ?_
                      refine g_iinc (vs' := [_, _, _, _, _, _, _, _, _, _, _, _, _, _]) h (nI ((mN (sCx S c) (sPh S p) i) + 1)) dX6_judged_260 rfl (by first | exact nI_1 _ | rfl) (Nat.le_of_ble_eq_true rfl) rfl rfl ?_
                      exact J263 _ _ _ _ (by rw [mN_s, if_pos c142_32]) (v0 (fun q => ((q.2 c142_32).2 c207_33).1 c218_37)) (v0 (fun q => c243_38 ⟨q.1, q.2.1⟩)) (h10)
                    · skip
                      refine g_iload h dX6_judged_246 rfl ?_
                      refine g_iload h dX6_judged_248 rfl ?_
                      refine g_icmp_ne h 257 dX6_judged_250 (by decide) (fun c250_39 => ?_) (fun c250_39 => ?_)
                      · skip
                        refine g_iconst h (nI 0) dX6_judged_257 (by decide) ?_
                        refine g_istore (vs' := [_, _, _, _, _, _, _, _, _, _, _, _, _, _]) h dX6_judged_258 (Nat.le_of_ble_eq_true rfl) rfl rfl ?_
                        refine g_iinc (vs' := [_, _, _, _, _, _, _, _, _, _, _, _, _, _]) h (nI ((mN (sCx S c) (sPh S p) i) + 1)) dX6_judged_260 rfl (by first | exact nI_1 _ | rfl) (Nat.le_of_ble_eq_true rfl) rfl rfl ?_
                        exact J263 _ _ _ _ (by rw [mN_s, if_pos c142_32]) (v0 (fun q => ((q.2 c142_32).2 c207_33).1 c218_37)) (v0 (fun q => c250_39 (q.2.2 c142_32 c207_33))) (h10)
                      · skip
                        refine g_iconst h (nI 1) dX6_judged_253 (by decide) ?_
                        refine g_goto h 258 dX6_judged_254 (by decide) ?_
                        refine g_istore (vs' := [_, _, _, _, _, _, _, _, _, _, _, _, _, _]) h dX6_judged_258 (Nat.le_of_ble_eq_true rfl) rfl rfl ?_
                        refine g_iinc (vs' := [_, _, _, _, _, _, _, _, _, _, _, _, _, _]) h (nI ((mN (sCx S c) (sPh S p) i) + 1)) dX6_judged_260 rfl (by first | exact nI_1 _ | rfl) (Nat.le_of_ble_eq_true rfl) rfl rfl ?_
                        exact J263 _ _ _ _ (by rw [mN_s, if_pos c142_32]) (v0 (fun q => ((q.2 c142_32).2 c207_33).1 c218_37)) (v1 ⟨c243_38.1, c243_38.2, fun _ _ => c250_39⟩) (h10)
                  · skip
                    refine g_iload h dX6_judged_221 rfl ?_
                    refine g_iload h dX6_judged_223 rfl ?_
                    refine g_icmp_eq h 234 dX6_judged_225 (by decide) (fun c225_40 => ?_) (fun c225_40 => ?_)
                    · skip
                      refine g_iconst h (nI 1) dX6_judged_234 (by decide) ?_
                      refine g_goto h 239 dX6_judged_235 (by decide) ?_
                      refine g_istore (vs' := [_, _, _, _, _, _, _, _, _, _, _, _, _, _]) h dX6_judged_239 (Nat.le_of_ble_eq_true rfl) rfl rfl ?_
                      refine g_iload h dX6_judged_241 rfl ?_
                      refine g_if_eqB h 257 dX6_judged_243 (by decide) (fun c243_41 => ?_) (fun c243_41 => ?_)
                      · skip
                        refine g_iconst h (nI 0) dX6_judged_257 (by decide) ?_
                        refine g_istore (vs' := [_, _, _, _, _, _, _, _, _, _, _, _, _, _]) h dX6_judged_258 (Nat.le_of_ble_eq_true rfl) rfl rfl ?_
                        refine g_iinc (vs' := [_, _, _, _, _, _, _, _, _, _, _, _, _, _]) h (nI ((mN (sCx S c) (sPh S p) i) + 1)) dX6_judged_260 rfl (by first | exact nI_1 _ | rfl) (Nat.le_of_ble_eq_true rfl) rfl rfl ?_
                        exact J263 _ _ _ _ (by rw [mN_s, if_pos c142_32]) (v1 ⟨c212_34.1, fun _ => ⟨c212_34.2, fun _ => ⟨c218_37, Or.inl c225_40⟩⟩⟩) (v0 (fun q => c243_41 ⟨q.1, q.2.1⟩)) (h10)
                      · skip
                        refine g_iload h dX6_judged_246 rfl ?_
                        refine g_iload h dX6_judged_248 rfl ?_
                        refine g_icmp_ne h 257 dX6_judged_250 (by decide) (fun c250_42 => ?_) (fun c250_42 => ?_)
                        · skip
                          refine g_iconst h (nI 0) dX6_judged_257 (by decide) ?_
                          refine g_istore (vs' := [_, _, _, _, _, _, _, _, _, _, _, _, _, _]) h dX6_judged_258 (Nat.le_of_ble_eq_true rfl) rfl rfl ?_
                          refine g_iinc (vs' := [_, _, _, _, _, _, _, _, _, _, _, _, _, _]) h (nI ((mN (sCx S c) (sPh S p) i) + 1)) dX6_judged_260 rfl (by first | exact nI_1 _ | rfl) (Nat.le_of_ble_eq_true rfl) rfl rfl ?_
                          exact J263 _ _ _ _ (by rw [mN_s, if_pos c142_32]) (v1 ⟨c212_34.1, fun _ => ⟨c212_34.2, fun _ => ⟨c218_37, Or.inl c225_40⟩⟩⟩) (v0 (fun q => c250_42 (q.2.2 c142_32 c207_33))) (h10)
                        · skip
                          refine g_iconst h (nI 1) dX6_judged_253 (by decide) ?_
                          refine g_goto h 258 dX6_judged_254 (by decide) ?_
                          refine g_istore (vs' := [_, _, _, _, _, _, _, _, _, _, _, _, _, _]) h dX6_judged_258 (Nat.le_of_ble_eq_true rfl) rfl rfl ?_
                          refine g_iinc (vs' := [_, _, _, _, _, _, _, _, _, _, _, _, _, _]) h (nI ((mN (sCx S c) (sPh S p) i) + 1)) dX6_judged_260 rfl (by first | exact nI_1 _ | rfl) (Nat.le_of_ble_eq_true rfl) rfl rfl ?_
                          exact J263 _ _ _ _ (by rw [mN_s, if_pos c142_32]) (v1 ⟨c212_34.1, fun _ => ⟨c212_34.2, fun _ => ⟨c218_37, Or.inl c225_40⟩⟩⟩) (v1 ⟨c243_41.1, c243_41.2, fun _ _ => c250_42⟩) (h10)
                    · skip
                      refine g_iload h dX6_judged_228 rfl ?_
                      refine g_iconst h (-1) dX6_judged_230 (by decide) ?_
                      refine g_icmp_ne h 238 dX6_judged_231 (by decide) (fun c231_43 => ?_) (fun c231_43 => ?_)
                      · skip
                        refine g_iconst h (nI 0) dX6_judged_238 (by decide) ?_
                        refine g_istore (vs' := [_, _, _, _, _, _, _, _, _, _, _, _, _, _]) h dX6_judged_239 (Nat.le_of_ble_eq_true rfl) rfl rfl ?_
                        refine g_iload h dX6_judged_241 rfl ?_
                        refine g_if_eqB h 257 dX6_judged_243 (by decide) (fun c243_44 => ?_) (fun c243_44 => ?_)
                        · skip
                          refine g_iconst h (nI 0) dX6_judged_257 (by decide) ?_
                          refine g_istore (vs' := [_, _, _, _, _, _, _, _, _, _, _, _, _, _]) h dX6_judged_258 (Nat.le_of_ble_eq_true rfl) rfl rfl ?_
                          refine g_iinc (vs' := [_, _, _, _, _, _, _, _, _, _, _, _, _, _]) h (nI ((mN (sCx S c) (sPh S p) i) + 1)) dX6_judged_260 rfl (by first | exact nI_1 _ | rfl) (Nat.le_of_ble_eq_true rfl) rfl rfl ?_
                          exact J263 _ _ _ _ (by rw [mN_s, if_pos c142_32]) (v0 (fun q => ((q.2 c142_32).2 c207_33).2.elim c225_40 c231_43)) (v0 (fun q => c243_44 ⟨q.1, q.2.1⟩)) (h10)
                        · skip
                          refine g_iload h dX6_judged_246 rfl ?_
                          refine g_iload h dX6_judged_248 rfl ?_
                          refine g_icmp_ne h 257 dX6_judged_250 (by decide) (fun c250_45 => ?_) (fun c250_45 => ?_)
                          · skip
                            refine g_iconst h (nI 0) dX6_judged_257 (by decide) ?_
                            refine g_istore (vs' := [_, _, _, _, _, _, _, _, _, _, _, _, _, _]) h dX6_judged_258 (Nat.le_of_ble_eq_true rfl) rfl rfl ?_
                            refine g_iinc (vs' := [_, _, _, _, _, _, _, _, _, _, _, _, _, _]) h (nI ((mN (sCx S c) (sPh S p) i) + 1)) dX6_judged_260 rfl (by first | exact nI_1 _ | rfl) (Nat.le_of_ble_eq_true rfl) rfl rfl ?_
                            exact J263 _ _ _ _ (by rw [mN_s, if_pos c142_32]) (v0 (fun q => ((q.2 c142_32).2 c207_33).2.elim c225_40 c231_43)) (v0 (fun q => c250_45 (q.2.2 c142_32 c207_33))) (h10)
                          · skip
                            refine g_iconst h (nI 1) dX6_judged_253 (by decide) ?_
                            refine g_goto h 258 dX6_judged_254 (by decide) ?_
                            refine g_istore (vs' := [_, _, _, _, _, _, _, _, _, _, _, _, _, _]) h dX6_judged_258 (Nat.le_of_ble_eq_true rfl) rfl rfl ?_
                            refine g_iinc (vs' := [_, _, _, _, _, _, _, _, _, _, _, _, _, _]) h (nI ((mN (sCx S c) (sPh S p) i) + 1)) dX6_judged_260 rfl (by first | exact nI_1 _ | rfl) (Nat.le_of_ble_eq_true rfl) rfl rfl ?_
                            exact J263 _ _ _ _ (by rw [mN_s, if_pos c142_32]) (v0 (fun q => ((q.2 c142_32).2 c207_33).2.elim c225_40 c231_43)) (v1 ⟨c243_44.1, c243_44.2, fun _ _ => c250_45⟩) (h10)
                      · skip
                        refine g_iconst h (nI 1) dX6_judged_234 (by decide) ?_
                        refine g_goto h 239 dX6_judged_235 (by decide) ?_
                        refine g_istore (vs' := [_, _, _, _, _, _, _, _, _, _, _, _, _, _]) h dX6_judged_239 (Nat.le_of_ble_eq_true rfl) rfl rfl ?_
                        refine g_iload h dX6_judged_241 rfl ?_
                        refine g_if_eqB h 257 dX6_judged_243 (by decide) (fun c243_46 => ?_) (fun c243_46 => ?_)
                        · skip
                          refine g_iconst h (nI 0) dX6_judged_257 (by decide) ?_
                          refine g_istore (vs' := [_, _, _, _, _, _, _, _, _, _, _, _, _, _]) h dX6_judged_258 (Nat.le_of_ble_eq_true rfl) rfl rfl ?_
                          refine g_iinc (vs' := [_, _, _, _, _, _, _, _, _, _, _, _, _, _]) h (nI ((mN (sCx S c) (sPh S p) i) + 1)) dX6_judged_260 rfl (by first | exact nI_1 _ | rfl) (Nat.le_of_ble_eq_true rfl) rfl rfl ?_
                          exact J263 _ _ _ _ (by rw [mN_s, if_pos c142_32]) (v1 ⟨c212_34.1, fun _ => ⟨c212_34.2, fun _ => ⟨c218_37, Or.inr c231_43⟩⟩⟩) (v0 (fun q => c243_46 ⟨q.1, q.2.1⟩)) (h10)
                        · skip
                          refine g_iload h dX6_judged_246 rfl ?_
                          refine g_iload h dX6_judged_248 rfl ?_
                          refine g_icmp_ne h 257 dX6_judged_250 (by decide) (fun c250_47 => ?_) (fun c250_47 => ?_)
                          · skip
                            refine g_iconst h (nI 0) dX6_judged_257 (by decide) ?_
                            refine g_istore (vs' := [_, _, _, _, _, _, _, _, _, _, _, _, _, _]) h dX6_judged_258 (Nat.le_of_ble_eq_true rfl) rfl rfl ?_
                            refine g_iinc (vs' := [_, _, _, _, _, _, _, _, _, _, _, _, _, _]) h (nI ((mN (sCx S c) (sPh S p) i) + 1)) dX6_judged_260 rfl (by first | exact nI_1 _ | rfl) (Nat.le_of_ble_eq_true rfl) rfl rfl ?_
                            exact J263 _ _ _ _ (by rw [mN_s, if_pos c142_32]) (v1 ⟨c212_34.1, fun _ => ⟨c212_34.2, fun _ => ⟨c218_37, Or.inr c231_43⟩⟩⟩) (v0 (fun q => c250_47 (q.2.2 c142_32 c207_33))) (h10)
                          · skip
                            refine g_iconst h (nI 1) dX6_judged_253 (by decide) ?_
                            refine g_goto h 258 dX6_judged_254 (by decide) ?_
                            refine g_istore (vs' := [_, _, _, _, _, _, _, _, _, _, _, _, _, _]) h dX6_judged_258 (Nat.le_of_ble_eq_true rfl) rfl rfl ?_
                            refine g_iinc (vs' := [_, _, _, _, _, _, _, _, _, _, _, _, _, _]) h (nI ((mN (sCx S c) (sPh S p) i) + 1)) dX6_judged_260 rfl (by first | exact nI_1 _ | rfl) (Nat.le_of_ble_eq_true rfl) rfl rfl ?_
                            exact J263 _ _ _ _ (by rw [mN_s, if_pos c142_32]) (v1 ⟨c212_34.1, fun _ => ⟨c212_34.2, fun _ => ⟨c218_37, Or.inr c231_43⟩⟩⟩) (v1 ⟨c243_46.1, c243_46.2, fun _ _ => c250_47⟩) (h10)
            have J162 : ∀ (t10 : Int32), (t10 = bI (opn (sCx S c) (sCy S c) (sPh S p) (i + 1))) → G X E 14 (AD σ) (QF X E σ (fun o s => o = some (.int (nI (jdS S c (sPh S p) (sPn S p)))) ∧ s = σ) rm_X6_judged) 0 0 162 [some (.ref b), some (.int (nI p)), some (.int (nI c)), some (.int (nI (sCx S c))), some (.int (nI (sCy S c))), some (.int (nI (mN (sCx S c) (sPh S p) i))), some (.int (nI (mN (sCy S c) (sPh S p) i))), some (.int (bI (gp (sPh S p) (i + 1)))), some (.int (bI (hel (sCs S c) (sCx S c) (sCy S c) (sPh S p) i))), some (.int (bI (bar (sCs S c) (sCx S c) (sCy S c) (sPh S p) i ∧ (sPh S p i = nI (sCy S c) → sCs S c = 6 → mN (sCx S c) (sPh S p) i = 0)))), some (.int t10), some (.int (nI i)), some (.int (sPh S p i)), some (.int (ahd (sPh S p) i))] [] σ := by
              intro t10 h10
              refine g_aload_n h 0 dX6_judged_162 rfl rfl ?_
              refine g_get h 5 fa_X6_22 dX6_judged_163 r0 rfl ?_
              refine g_iload_n h 2 dX6_judged_166 rfl rfl ?_
              refine g_iald h dX6_judged_167 r5 (by omega) (by omega) ?_
              refine g_top (y := nI (sCs S c)) (e5 c (by omega)) ?_
              refine g_iconst h (nI 2) dX6_judged_168 (by decide) ?_
              refine g_icmp_neN h 200 dX6_judged_169 (by decide) (by omega) (by decide) (fun c169_48 => ?_) (fun c169_48 => ?_)
              · skip
                exact J200 _ _ (bI_iff ⟨fun q => ⟨q, fun w => absurd w c169_48⟩, fun q => q.1⟩) (h10)
              · skip
                refine g_iload h dX6_judged_172 rfl ?_
                refine g_if_eqB h 197 dX6_judged_174 (by decide) (fun c174_49 => ?_) (fun c174_49 => ?_)
                · skip
                  refine g_iconst h (nI 0) dX6_judged_197 (by decide) ?_
                  refine g_istore (vs' := [_, _, _, _, _, _, _, _, _, _, _, _, _, _]) h dX6_judged_198 (Nat.le_of_ble_eq_true rfl) rfl rfl ?_
                  exact J200 _ _ (v0 (fun q => c174_49 q.1)) (h10)
                · skip
                  refine g_iload_n h 3 dX6_judged_177 rfl rfl ?_
                  refine g_iload h dX6_judged_178 rfl ?_
                  refine g_icmp_eqN h 197 dX6_judged_180 (by decide) (by omega) (by omega) (fun c180_50 => ?_) (fun c180_50 => ?_)
                  · skip
                    refine g_iconst h (nI 0) dX6_judged_197 (by decide) ?_
                    refine g_istore (vs' := [_, _, _, _, _, _, _, _, _, _, _, _, _, _]) h dX6_judged_198 (Nat.le_of_ble_eq_true rfl) rfl rfl ?_
                    exact J200 _ _ (v0 (fun q => (q.2 c169_48).1 c180_50)) (h10)
                  · skip
                    refine g_iload h dX6_judged_183 rfl ?_
                    refine g_if_gtN h 193 dX6_judged_185 (by decide) (by omega) (fun c185_51 => ?_) (fun c185_51 => ?_)
                    · skip
                      refine g_iconst h (nI 1) dX6_judged_193 (by decide) ?_
                      refine g_goto h 198 dX6_judged_194 (by decide) ?_
                      refine g_istore (vs' := [_, _, _, _, _, _, _, _, _, _, _, _, _, _]) h dX6_judged_198 (Nat.le_of_ble_eq_true rfl) rfl rfl ?_
                      exact J200 _ _ (v1 ⟨c174_49, fun _ => ⟨c180_50, Or.inl (by omega)⟩⟩) (h10)
                    · skip
                      refine g_iload h dX6_judged_188 rfl ?_
                      refine g_if_eqB h 197 dX6_judged_190 (by decide) (fun c190_52 => ?_) (fun c190_52 => ?_)
                      · skip
                        refine g_iconst h (nI 0) dX6_judged_197 (by decide) ?_
                        refine g_istore (vs' := [_, _, _, _, _, _, _, _, _, _, _, _, _, _]) h dX6_judged_198 (Nat.le_of_ble_eq_true rfl) rfl rfl ?_
                        exact J200 _ _ (v0 (fun q => (q.2 c169_48).2.elim (fun w => by omega) (fun w => c190_52 (Or.inl w)))) (h10)
                      · skip
                        refine g_iconst h (nI 1) dX6_judged_193 (by decide) ?_
                        refine g_goto h 198 dX6_judged_194 (by decide) ?_
                        refine g_istore (vs' := [_, _, _, _, _, _, _, _, _, _, _, _, _, _]) h dX6_judged_198 (Nat.le_of_ble_eq_true rfl) rfl rfl ?_
                        exact J200 _ _ (v1 ⟨c174_49, fun _ => ⟨c180_50, Or.inr (Or.resolve_right c190_52 hne)⟩⟩) (h10)
            refine g_iload h dX6_judged_145 rfl ?_
            refine g_if_neB h 155 dX6_judged_147 (by decide) (fun c147_53 => ?_) (fun c147_53 => ?_)
            · skip
              refine g_iconst h (nI 1) dX6_judged_155 (by decide) ?_
              refine g_goto h 160 dX6_judged_156 (by decide) ?_
              refine g_istore (vs' := [_, _, _, _, _, _, _, _, _, _, _, _, _, _]) h dX6_judged_160 (Nat.le_of_ble_eq_true rfl) rfl rfl ?_
              exact J162 _ (v1 (Or.elim c147_53 Or.inl (fun w => Or.inr ⟨Or.inl w.1, w.2⟩)))
            · skip
              refine g_iload h dX6_judged_150 rfl ?_
              refine g_if_neN h 159 dX6_judged_152 (by decide) (by omega) (fun c152_54 => ?_) (fun c152_54 => ?_)
              · skip
                refine g_iconst h (nI 0) dX6_judged_159 (by decide) ?_
                refine g_istore (vs' := [_, _, _, _, _, _, _, _, _, _, _, _, _, _]) h dX6_judged_160 (Nat.le_of_ble_eq_true rfl) rfl rfl ?_
                exact J162 _ (v0 (fun q => q.elim (fun w => c147_53 (Or.inl w)) (fun w => absurd w.2 (by omega))))
              · skip
                refine g_iconst h (nI 1) dX6_judged_155 (by decide) ?_
                refine g_goto h 160 dX6_judged_156 (by decide) ?_
                refine g_istore (vs' := [_, _, _, _, _, _, _, _, _, _, _, _, _, _]) h dX6_judged_160 (Nat.le_of_ble_eq_true rfl) rfl rfl ?_
                exact J162 _ (v1 (Or.inr ⟨Or.inr c142_32, by omega⟩))
        have J113 : ∀ (t7 : Int32) (t10 : Int32), (t7 = bI (gp (sPh S p) (i + 1))) → (t10 = bI (opn (sCx S c) (sCy S c) (sPh S p) i ∨ (sPh S p i = -1 ∧ mN (sCy S c) (sPh S p) i = 0))) → G X E 14 (AD σ) (QF X E σ (fun o s => o = some (.int (nI (jdS S c (sPh S p) (sPn S p)))) ∧ s = σ) rm_X6_judged) 0 0 113 [some (.ref b), some (.int (nI p)), some (.int (nI c)), some (.int (nI (sCx S c))), some (.int (nI (sCy S c))), some (.int (nI (mN (sCx S c) (sPh S p) i))), some (.int (nI (mN (sCy S c) (sPh S p) i))), some (.int t7), some (.int (bI (hel (sCs S c) (sCx S c) (sCy S c) (sPh S p) i))), some (.int (bI (bar (sCs S c) (sCx S c) (sCy S c) (sPh S p) i))), some (.int t10), some (.int (nI i)), some (.int (sPh S p i)), some (.int (ahd (sPh S p) i))] [] σ := by
          intro t7 t10 h7 h10
          subst h7 h10
          refine g_iload h dX6_judged_113 rfl ?_
          refine g_iload h dX6_judged_115 rfl ?_
          refine g_icmp_ne h 139 dX6_judged_117 (by decide) (fun c117_55 => ?_) (fun c117_55 => ?_)
          · skip
            exact J139 _ (bI_iff ⟨fun q => ⟨q, fun w => absurd w c117_55⟩, fun q => q.1⟩)
          · skip
            refine g_aload_n h 0 dX6_judged_120 rfl rfl ?_
            refine g_get h 5 fa_X6_22 dX6_judged_121 r0 rfl ?_
            refine g_iload_n h 2 dX6_judged_124 rfl rfl ?_
            refine g_iald h dX6_judged_125 r5 (by omega) (by omega) ?_
            refine g_top (y := nI (sCs S c)) (e5 c (by omega)) ?_
            refine g_bipush h (nI 6) dX6_judged_126 (by decide) ?_
            refine g_icmp_neN h 139 dX6_judged_128 (by decide) (by omega) (by decide) (fun c128_56 => ?_) (fun c128_56 => ?_)
            · skip
              exact J139 _ (bI_iff ⟨fun q => ⟨q, fun _ w => absurd w c128_56⟩, fun q => q.1⟩)
            · skip
              refine g_iload h dX6_judged_131 rfl ?_
              refine g_if_leN h 139 dX6_judged_133 (by decide) (by omega) (fun c133_57 => ?_) (fun c133_57 => ?_)
              · skip
                exact J139 _ (bI_iff ⟨fun q => ⟨q, fun _ _ => by omega⟩, fun q => q.1⟩)
              · skip
                refine g_iconst h (nI 0) dX6_judged_136 (by decide) ?_
                refine g_istore (vs' := [_, _, _, _, _, _, _, _, _, _, _, _, _, _]) h dX6_judged_137 (Nat.le_of_ble_eq_true rfl) rfl rfl ?_
                exact J139 _ (v0 (fun q => by have := q.2 c117_55 c128_56; omega))
        have J87 : ∀ (t13 : Int32), (t13 = ahd (sPh S p) i) → G X E 14 (AD σ) (QF X E σ (fun o s => o = some (.int (nI (jdS S c (sPh S p) (sPn S p)))) ∧ s = σ) rm_X6_judged) 0 0 87 [some (.ref b), some (.int (nI p)), some (.int (nI c)), some (.int (nI (sCx S c))), some (.int (nI (sCy S c))), some (.int (nI (mN (sCx S c) (sPh S p) i))), some (.int (nI (mN (sCy S c) (sPh S p) i))), some (.int (bI (gp (sPh S p) i))), some (.int (bI (hel (sCs S c) (sCx S c) (sCy S c) (sPh S p) i))), some (.int (bI (bar (sCs S c) (sCx S c) (sCy S c) (sPh S p) i))), some (.int (bI (opn (sCx S c) (sCy S c) (sPh S p) i))), some (.int (nI i)), some (.int (sPh S p i)), some (.int t13)] [] σ := by
          intro t13 h13
          subst h13
          refine g_iload h dX6_judged_87 rfl ?_
          refine g_iconst h (-1) dX6_judged_89 (by decide) ?_
          refine g_icmp_ne h 113 dX6_judged_90 (by decide) (fun c90_58 => ?_) (fun c90_58 => ?_)
          · skip
            exact J113 _ _ (bI_iff ⟨Or.inl, fun q => q.resolve_right c90_58⟩) (bI_iff ⟨Or.inl, fun q => q.resolve_right (fun w => c90_58 w.1)⟩)
          · skip
            refine g_iload h dX6_judged_93 rfl ?_
            refine g_if_neB h 103 dX6_judged_95 (by decide) (fun c95_59 => ?_) (fun c95_59 => ?_)
            · skip
              refine g_iconst h (nI 1) dX6_judged_103 (by decide) ?_
              refine g_goto h 108 dX6_judged_104 (by decide) ?_
              refine g_istore (vs' := [_, _, _, _, _, _, _, _, _, _, _, _, _, _]) h dX6_judged_108 (Nat.le_of_ble_eq_true rfl) rfl rfl ?_
              refine g_iconst h (nI 1) dX6_judged_110 (by decide) ?_
              refine g_istore (vs' := [_, _, _, _, _, _, _, _, _, _, _, _, _, _]) h dX6_judged_111 (Nat.le_of_ble_eq_true rfl) rfl rfl ?_
              exact J113 _ _ (v1 (Or.inr c90_58)) (v1 (Or.inl c95_59))
            · skip
              refine g_iload h dX6_judged_98 rfl ?_
              refine g_if_neN h 107 dX6_judged_100 (by decide) (by omega) (fun c100_60 => ?_) (fun c100_60 => ?_)
              · skip
                refine g_iconst h (nI 0) dX6_judged_107 (by decide) ?_
                refine g_istore (vs' := [_, _, _, _, _, _, _, _, _, _, _, _, _, _]) h dX6_judged_108 (Nat.le_of_ble_eq_true rfl) rfl rfl ?_
                refine g_iconst h (nI 1) dX6_judged_110 (by decide) ?_
                refine g_istore (vs' := [_, _, _, _, _, _, _, _, _, _, _, _, _, _]) h dX6_judged_111 (Nat.le_of_ble_eq_true rfl) rfl rfl ?_
                exact J113 _ _ (v1 (Or.inr c90_58)) (v0 (fun q => q.elim c95_59 (fun w => absurd w.2 (by omega))))
              · skip
                refine g_iconst h (nI 1) dX6_judged_103 (by decide) ?_
                refine g_goto h 108 dX6_judged_104 (by decide) ?_
                refine g_istore (vs' := [_, _, _, _, _, _, _, _, _, _, _, _, _, _]) h dX6_judged_108 (Nat.le_of_ble_eq_true rfl) rfl rfl ?_
                refine g_iconst h (nI 1) dX6_judged_110 (by decide) ?_
                refine g_istore (vs' := [_, _, _, _, _, _, _, _, _, _, _, _, _, _]) h dX6_judged_111 (Nat.le_of_ble_eq_true rfl) rfl rfl ?_
                exact J113 _ _ (v1 (Or.inr c90_58)) (v1 (Or.inr ⟨c90_58, by omega⟩))
        refine g_aload_n h 0 dX6_judged_47 rfl rfl ?_
        refine g_get h 2 fa_X6_16 dX6_judged_48 r0 rfl ?_
        refine g_bipush h (nI 40) dX6_judged_51 (by decide) ?_
        refine g_iload_n h 1 dX6_judged_53 rfl rfl ?_
        refine g_imulN h dX6_judged_54 ?_
        refine g_iload h dX6_judged_55 rfl ?_
        refine g_iaddN h dX6_judged_57 ?_
        refine g_iald h dX6_judged_58 r3 (by omega) (by omega) ?_
        refine g_top (y := (sPh S p i)) (e3 p (by omega) i (by omega)) ?_
        refine g_istore (vs' := [_, _, _, _, _, _, _, _, _, _, _, _, _, _]) h dX6_judged_59 (Nat.le_of_ble_eq_true rfl) rfl rfl ?_
        refine g_iload h dX6_judged_61 rfl ?_
        refine g_if_leN h 83 dX6_judged_63 (by decide) (by omega) (fun c63_61 => ?_) (fun c63_61 => ?_)
        · skip
          refine g_bipush h (-2) dX6_judged_83 (by decide) ?_
          refine g_istore (vs' := [_, _, _, _, _, _, _, _, _, _, _, _, _, _]) h dX6_judged_85 (Nat.le_of_ble_eq_true rfl) rfl rfl ?_
          exact J87 _ (by unfold ahd; rw [if_neg (by omega)])
        · skip
          refine g_aload_n h 0 dX6_judged_66 rfl rfl ?_
          refine g_get h 2 fa_X6_16 dX6_judged_67 r0 rfl ?_
          refine g_bipush h (nI 40) dX6_judged_70 (by decide) ?_
          refine g_iload_n h 1 dX6_judged_72 rfl rfl ?_
          refine g_imulN h dX6_judged_73 ?_
          refine g_iload h dX6_judged_74 rfl ?_
          refine g_iaddN h dX6_judged_76 ?_
          refine g_iconst h (nI 1) dX6_judged_77 (by decide) ?_
          refine g_isubN h dX6_judged_78 (by omega) ?_
          refine g_iald h dX6_judged_79 r3 (by omega) (by omega) ?_
          refine g_top (y := (sPh S p (i - 1))) ((congrArg f3 (by omega)).trans (e3 p (by omega) (i - 1) (by omega))) ?_
          refine g_goto h 85 dX6_judged_80 (by decide) ?_
          refine g_istore (vs' := [_, _, _, _, _, _, _, _, _, _, _, _, _, _]) h dX6_judged_85 (Nat.le_of_ble_eq_true rfl) rfl rfl ?_
          exact J87 _ (by unfold ahd; rw [if_pos (by omega)])
  exact L36 (sPn S p + 1) 0 _ _ _ _ _ (by omega) rfl (v0 (fun q => q)) (v1 trivial) (v1 trivial) (v0 (fun q => q)) (by omega)
abbrev rm_X6_judge : Room := { frames := 2, cells := 0, slots := 0, locals := 42 }
set_option maxRecDepth 100000 in
set_option maxHeartbeats 4000000 in
theorem D_judge (lau : Launch) (E : EnvD) (σ : Sto) {b : Nat} {S : PSt} (hI : Inv S) (hM : RepM E b S σ) (a1 a2 : Int32) : CC lau yX6_judge cX6_judge 3 (some .int) rm_X6_judge E [.ref b, .int a1, .int a2] σ (fun o s => o = some (.int (opJudge S a1 a2).1) ∧ RepM E b (opJudge S a1 a2).2 s) := by
  refine cc_of (vs := [_, _, _]) (by decide) (Nat.le_of_ble_eq_true rfl) rfl ?_
  intro X h hr hn
  obtain ⟨r0, ⟨f1, r1, e1⟩, ⟨f2, r2, e2⟩, ⟨f3, r3, e3⟩, ⟨f4, r4, e4⟩, ⟨f5, r5, e5⟩, ⟨f6, r6, e6⟩, ⟨f7, r7, e7⟩, ⟨f8, r8, e8⟩, ⟨f9, r9, e9⟩, ⟨f10, r10, e10⟩, ⟨f11, r11, e11⟩, ⟨f12, r12, e12⟩, ⟨f13, r13⟩, ⟨f14, r14⟩, ⟨f15, r15⟩, ⟨f16, r16, e16⟩, ⟨f17, r17⟩⟩ := id hM
  by_cases na1 : ¬ inR a1 4
  · skip
    refine g_iload_n h 1 dX6_judge_0 rfl rfl ?_
    refine g_callS h [] (c_X6_isHeard (xL X) E _ a1) cf_X6_89 cs_X6_isHeard dX6_judge_1 rfl rfl (Nat.le_of_ble_eq_true rfl) ⟨(Nat.le_of_ble_eq_true rfl), (Nat.le_of_ble_eq_true rfl)⟩ ⟨(Nat.le_of_ble_eq_true rfl), (Nat.le_of_ble_eq_true rfl)⟩ ?_
    refine kk_det ?_
    refine g_if_eqB h 30 dX6_judge_4 (by decide) (fun c4_1 => ?_) (fun c4_1 => absurd c4_1 na1)
    refine g_bipush h (-2) dX6_judge_30 (by decide) ?_
    exact g_iret h hr dX6_judge_32 ((fun e => ⟨by rw [e], by rw [e]; exact hM⟩) (show opJudge S a1 a2 = (-2, S) from by unfold opJudge; rw [cif_f (fun q => na1 q.1)])) (Nat.le_of_ble_eq_true rfl) (Nat.le_of_ble_eq_true rfl)
  obtain ⟨p, hp9, rfl⟩ := Classical.not_not.mp na1
  have ep9 : cl (nI p) = p := cl_nI (by omega)
  have hn40 := (hI.2.1 p hp9).1
  have hc12 := hI.2.2.1.1
  by_cases na2 : ¬ inR a2 (sCn S)
  · skip
    refine g_iload_n h 1 dX6_judge_0 rfl rfl ?_
    refine g_callS h [] (c_X6_isHeard (xL X) E _ (nI p)) cf_X6_89 cs_X6_isHeard dX6_judge_1 rfl rfl (Nat.le_of_ble_eq_true rfl) ⟨(Nat.le_of_ble_eq_true rfl), (Nat.le_of_ble_eq_true rfl)⟩ ⟨(Nat.le_of_ble_eq_true rfl), (Nat.le_of_ble_eq_true rfl)⟩ ?_
    refine kk_det ?_
    refine g_if_eqB h 30 dX6_judge_4 (by decide) (fun c4_2 => absurd ⟨p, hp9, rfl⟩ c4_2) (fun c4_2 => ?_)
    refine g_iload_n h 2 dX6_judge_7 rfl rfl ?_
    refine g_iconst h (nI 0) dX6_judge_8 (by decide) ?_
    refine g_aload_n h 0 dX6_judge_9 rfl rfl ?_
    refine g_get h 4 fa_X6_81 dX6_judge_10 r0 rfl ?_
    refine g_iconst h (nI 1) dX6_judge_13 (by decide) ?_
    refine g_isub h dX6_judge_14 ?_
    refine g_callS h [] (c_X6_in (xL X) E _ a2 (nI 0) ((nI (sCn S) - nI 1))) cf_X6_62 cs_X6_in dX6_judge_15 rfl rfl (Nat.le_of_ble_eq_true rfl) ⟨(Nat.le_of_ble_eq_true rfl), (Nat.le_of_ble_eq_true rfl)⟩ ⟨(Nat.le_of_ble_eq_true rfl), (Nat.le_of_ble_eq_true rfl)⟩ ?_
    refine kk_det ?_
    refine g_top (y := bI (inR a2 (sCn S))) (bI_iff (in_M (by omega))) ?_
    refine g_if_eqB h 30 dX6_judge_18 (by decide) (fun c18_3 => ?_) (fun c18_3 => absurd c18_3 na2)
    refine g_bipush h (-2) dX6_judge_30 (by decide) ?_
    exact g_iret h hr dX6_judge_32 ((fun e => ⟨by rw [e], by rw [e]; exact hM⟩) (show opJudge S (nI p) a2 = (-2, S) from by unfold opJudge; rw [cif_f (fun q => na2 q.2)])) (Nat.le_of_ble_eq_true rfl) (Nat.le_of_ble_eq_true rfl)
  obtain ⟨c, hc9, rfl⟩ := Classical.not_not.mp na2
  have ec9 : cl (nI c) = c := cl_nI (by omega)
  refine g_iload_n h 1 dX6_judge_0 rfl rfl ?_
  refine g_callS h [] (c_X6_isHeard (xL X) E _ (nI p)) cf_X6_89 cs_X6_isHeard dX6_judge_1 rfl rfl (Nat.le_of_ble_eq_true rfl) ⟨(Nat.le_of_ble_eq_true rfl), (Nat.le_of_ble_eq_true rfl)⟩ ⟨(Nat.le_of_ble_eq_true rfl), (Nat.le_of_ble_eq_true rfl)⟩ ?_
  refine kk_det ?_
  refine g_if_eqB h 30 dX6_judge_4 (by decide) (fun c4_4 => absurd ⟨p, hp9, rfl⟩ c4_4) (fun c4_4 => ?_)
  refine g_iload_n h 2 dX6_judge_7 rfl rfl ?_
  refine g_iconst h (nI 0) dX6_judge_8 (by decide) ?_
  refine g_aload_n h 0 dX6_judge_9 rfl rfl ?_
  refine g_get h 4 fa_X6_81 dX6_judge_10 r0 rfl ?_
  refine g_iconst h (nI 1) dX6_judge_13 (by decide) ?_
  refine g_isub h dX6_judge_14 ?_
  refine g_callS h [] (c_X6_in (xL X) E _ (nI c) (nI 0) ((nI (sCn S) - nI 1))) cf_X6_62 cs_X6_in dX6_judge_15 rfl rfl (Nat.le_of_ble_eq_true rfl) ⟨(Nat.le_of_ble_eq_true rfl), (Nat.le_of_ble_eq_true rfl)⟩ ⟨(Nat.le_of_ble_eq_true rfl), (Nat.le_of_ble_eq_true rfl)⟩ ?_
  refine kk_det ?_
  refine g_top (y := bI (inR (nI c) (sCn S))) (bI_iff (in_M (by omega))) ?_
  refine g_if_eqB h 30 dX6_judge_18 (by decide) (fun c18_5 => absurd ⟨c, hc9, rfl⟩ c18_5) (fun c18_5 => ?_)
  refine g_aload_n h 0 dX6_judge_21 rfl rfl ?_
  refine g_iload_n h 1 dX6_judge_22 rfl rfl ?_
  refine g_iload_n h 2 dX6_judge_23 rfl rfl ?_
  refine g_callV h [] (c_X6_judged (xL X) E _ hI hM (p := p) (c := c) hp9 (by omega)) cf_X6_92 cv_X6_judged dX6_judge_24 rfl r0 rfl rfl (Nat.le_of_ble_eq_true rfl) ⟨(Nat.le_of_ble_eq_true rfl), (Nat.le_of_ble_eq_true rfl)⟩ ⟨(Nat.le_of_ble_eq_true rfl), (Nat.le_of_ble_eq_true rfl)⟩ ?_
  refine kk_det ?_
  refine g_goto h 32 dX6_judge_27 (by decide) ?_
  exact g_iret h hr dX6_judge_32 ((fun e => ⟨by rw [e], by rw [e]; exact hM⟩) (show opJudge S (nI p) (nI c) = (nI (jdS S c (sPh S p) (sPn S p)), S) from by unfold opJudge; rw [cif_t ⟨⟨p, hp9, rfl⟩, ⟨c, hc9, rfl⟩⟩, ep9, ec9])) (Nat.le_of_ble_eq_true rfl) (Nat.le_of_ble_eq_true rfl)
abbrev rm_X6_verdict : Room := { frames := 2, cells := 0, slots := 0, locals := 42 }
set_option maxRecDepth 100000 in
set_option maxHeartbeats 4000000 in
theorem D_verdict (lau : Launch) (E : EnvD) (σ : Sto) {b : Nat} {S : PSt} (hI : Inv S) (hM : RepM E b S σ) (a1 : Int32) : CC lau yX6_verdict cX6_verdict 5 (some .int) rm_X6_verdict E [.ref b, .int a1] σ (fun o s => o = some (.int (opVerdict S a1).1) ∧ RepM E b (opVerdict S a1).2 s) := by
  refine cc_of (vs := [_, _, _, _, _]) (by decide) (Nat.le_of_ble_eq_true rfl) rfl ?_
  intro X h hr hn
  obtain ⟨r0, ⟨f1, r1, e1⟩, ⟨f2, r2, e2⟩, ⟨f3, r3, e3⟩, ⟨f4, r4, e4⟩, ⟨f5, r5, e5⟩, ⟨f6, r6, e6⟩, ⟨f7, r7, e7⟩, ⟨f8, r8, e8⟩, ⟨f9, r9, e9⟩, ⟨f10, r10, e10⟩, ⟨f11, r11, e11⟩, ⟨f12, r12, e12⟩, ⟨f13, r13⟩, ⟨f14, r14⟩, ⟨f15, r15⟩, ⟨f16, r16, e16⟩, ⟨f17, r17⟩⟩ := id hM
  by_cases na1 : ¬ inR a1 4
  · skip
    refine g_iload_n h 1 dX6_verdict_0 rfl rfl ?_
    refine g_callS h [] (c_X6_isHeard (xL X) E _ a1) cf_X6_89 cs_X6_isHeard dX6_verdict_1 rfl rfl (Nat.le_of_ble_eq_true rfl) ⟨(Nat.le_of_ble_eq_true rfl), (Nat.le_of_ble_eq_true rfl)⟩ ⟨(Nat.le_of_ble_eq_true rfl), (Nat.le_of_ble_eq_true rfl)⟩ ?_
    refine kk_det ?_
    refine g_if_neB h 10 dX6_verdict_4 (by decide) (fun c4_1 => absurd c4_1 na1) (fun c4_1 => ?_)
    refine g_bipush h (-2) dX6_verdict_7 (by decide) ?_
    exact g_iret h hr dX6_verdict_9 ((fun e => ⟨by rw [e], by rw [e]; exact hM⟩) (show opVerdict S a1 = (-2, S) from by unfold opVerdict; rw [cif_f (fun q => na1 q)])) (Nat.le_of_ble_eq_true rfl) (Nat.le_of_ble_eq_true rfl)
  obtain ⟨p, hp9, rfl⟩ := Classical.not_not.mp na1
  have ep9 : cl (nI p) = p := cl_nI (by omega)
  have hn40 := (hI.2.1 p hp9).1
  have hc12 := hI.2.2.1.1
  refine g_iload_n h 1 dX6_verdict_0 rfl rfl ?_
  refine g_callS h [] (c_X6_isHeard (xL X) E _ (nI p)) cf_X6_89 cs_X6_isHeard dX6_verdict_1 rfl rfl (Nat.le_of_ble_eq_true rfl) ⟨(Nat.le_of_ble_eq_true rfl), (Nat.le_of_ble_eq_true rfl)⟩ ⟨(Nat.le_of_ble_eq_true rfl), (Nat.le_of_ble_eq_true rfl)⟩ ?_
  refine kk_det ?_
  refine g_if_neB h 10 dX6_verdict_4 (by decide) (fun c4_2 => ?_) (fun c4_2 => absurd ⟨p, hp9, rfl⟩ c4_2)
  refine g_iconst h (nI 0) dX6_verdict_10 (by decide) ?_
  refine g_istore_n (vs' := [_, _, _, _, _]) h 2 dX6_verdict_11 rfl (Nat.le_of_ble_eq_true rfl) rfl rfl ?_
  refine g_iconst h (nI 0) dX6_verdict_12 (by decide) ?_
  refine g_istore_n (vs' := [_, _, _, _, _]) h 3 dX6_verdict_13 rfl (Nat.le_of_ble_eq_true rfl) rfl rfl ?_
  refine g_few (vs' := [some (.ref b), some (.int (nI p)), some (.int (nI 0)), some (.int (nI 0)), none]) ⟨Or.inr rfl, Or.inr rfl, Or.inr rfl, Or.inr rfl, Or.inl rfl, trivial⟩ ?_
  have L14 : ∀ (m0 : Nat) (c : Nat) (q : Nat), (c ≤ sCn S) → (q = vmx S p c) → (sCn S - c) < m0 → G X E 5 (AD σ) (QF X E σ (fun o s => o = some (.int (opVerdict S (nI p)).1) ∧ RepM E b (opVerdict S (nI p)).2 s) rm_X6_verdict) 0 0 14 [some (.ref b), some (.int (nI p)), some (.int (nI q)), some (.int (nI c)), none] [] σ := by
    intro m0
    induction m0 with
    | zero => intro c q _ _ hm0; exact absurd hm0 (Nat.not_lt_zero _)
    | succ m0 ih =>
      intro c q hc hq hm0
      have v2 := vmx_le (S := S) (p := p) c
      have j2 : jdS S c (sPh S p) (sPn S p) ≤ 2 := jdV_le
      refine g_iload_n h 3 dX6_verdict_14 rfl rfl ?_
      refine g_aload_n h 0 dX6_verdict_15 rfl rfl ?_
      refine g_get h 4 fa_X6_81 dX6_verdict_16 r0 rfl ?_
      refine g_icmp_geN h 49 dX6_verdict_19 (by decide) (by omega) (by omega) (fun c19_3 => ?_) (fun c19_3 => ?_)
      · skip
        obtain rfl : c = sCn S := by omega
        refine g_iload_n h 2 dX6_verdict_49 rfl rfl ?_
        exact g_iret h hr dX6_verdict_50 ((fun e => ⟨by rw [e, hq], by rw [e]; exact hM⟩) (show opVerdict S (nI p) = (nI (vmx S p (sCn S)), S) from by unfold opVerdict; rw [cif_t ⟨p, hp9, rfl⟩, ep9])) (Nat.le_of_ble_eq_true rfl) (Nat.le_of_ble_eq_true rfl)
      · skip
        refine g_aload_n h 0 dX6_verdict_22 rfl rfl ?_
        refine g_iload_n h 1 dX6_verdict_23 rfl rfl ?_
        refine g_iload_n h 3 dX6_verdict_24 rfl rfl ?_
        refine g_callV h [] (c_X6_judged (xL X) E _ hI hM (p := p) (c := c) hp9 (by omega)) cf_X6_92 cv_X6_judged dX6_verdict_25 rfl r0 rfl rfl (Nat.le_of_ble_eq_true rfl) ⟨(Nat.le_of_ble_eq_true rfl), (Nat.le_of_ble_eq_true rfl)⟩ ⟨(Nat.le_of_ble_eq_true rfl), (Nat.le_of_ble_eq_true rfl)⟩ ?_
        refine kk_det ?_
        refine g_top (y := nI (jdS S c (sPh S p) (sPn S p))) rfl ?_
        refine g_istore (vs' := [_, _, _, _, _]) h dX6_verdict_28 (Nat.le_of_ble_eq_true rfl) rfl rfl ?_
        refine g_iload h dX6_verdict_30 rfl ?_
        refine g_iload_n h 2 dX6_verdict_32 rfl rfl ?_
        refine g_icmp_leN h 41 dX6_verdict_33 (by decide) (by omega) (by omega) (fun c33_4 => ?_) (fun c33_4 => ?_)
        · skip
          refine g_iload_n h 2 dX6_verdict_41 rfl rfl ?_
          refine g_istore_n (vs' := [_, _, _, _, _]) h 2 dX6_verdict_42 rfl (Nat.le_of_ble_eq_true rfl) rfl rfl ?_
          refine g_iinc (vs' := [_, _, _, _, _]) h (nI (c + 1)) dX6_verdict_43 rfl (by first | exact nI_1 _ | rfl) (Nat.le_of_ble_eq_true rfl) rfl rfl ?_
          refine g_goto h 14 dX6_verdict_46 (by decide) ?_
          refine g_few (vs' := [some (.ref b), some (.int (nI p)), some (.int (nI q)), some (.int (nI (c + 1))), none]) ⟨Or.inr rfl, Or.inr rfl, Or.inr rfl, Or.inr rfl, Or.inl rfl, trivial⟩ ?_
          exact ih (c + 1) _ (by omega) (show _ = max (vmx S p c) (jdS S c (sPh S p) (sPn S p)) by omega) (by omega)
        · skip
          refine g_iload h dX6_verdict_36 rfl ?_
          refine g_goto h 42 dX6_verdict_38 (by decide) ?_
          refine g_istore_n (vs' := [_, _, _, _, _]) h 2 dX6_verdict_42 rfl (Nat.le_of_ble_eq_true rfl) rfl rfl ?_
          refine g_iinc (vs' := [_, _, _, _, _]) h (nI (c + 1)) dX6_verdict_43 rfl (by first | exact nI_1 _ | rfl) (Nat.le_of_ble_eq_true rfl) rfl rfl ?_
          refine g_goto h 14 dX6_verdict_46 (by decide) ?_
          refine g_few (vs' := [some (.ref b), some (.int (nI p)), some (.int (nI (jdS S c (sPh S p) (sPn S p)))), some (.int (nI (c + 1))), none]) ⟨Or.inr rfl, Or.inr rfl, Or.inr rfl, Or.inr rfl, Or.inl rfl, trivial⟩ ?_
          exact ih (c + 1) _ (by omega) (show _ = max (vmx S p c) (jdS S c (sPh S p) (sPn S p)) by omega) (by omega)
  exact L14 (sCn S + 1) 0 0 (by omega) rfl (by omega)
