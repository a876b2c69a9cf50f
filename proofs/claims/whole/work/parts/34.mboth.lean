/-! the reference: two pairs of ears, what may be, marks, rules, cuts (own work; walks by program) -/
theorem hb2_l {l r : Int32} (h : l = -1) : r = hb2 l r := by
  unfold hb2
  by_cases e : l = r
  · rw [if_pos e, e]
  · by_cases c : r = -1
    · rw [if_neg e, if_pos c, h, c]
    · rw [if_neg e, if_neg c, if_pos h]
theorem hb2_r {l r : Int32} (hn : ¬ l = -1) (h : l = r ∨ r = -1) : l = hb2 l r := by
  unfold hb2
  by_cases e : l = r
  · rw [if_pos e]
  · rw [if_neg e, if_pos (h.resolve_left e)]
theorem hb2_q {l r : Int32} (h1 : ¬ l = r) (h2 : ¬ l = -1) (h3 : ¬ r = -1) : -1 = hb2 l r := by
  unfold hb2
  rw [if_neg h1, if_neg h3, if_neg h2]
/-- things h put from place t on, as far as i -/
def bF (f : Nat → Int32) (t : Nat) (h : Nat → Int32) (i : Nat) : Nat → Int32 := fun q => if t ≤ q ∧ q < t + i then h (q - t) else f q
theorem bF_0 {f : Nat → Int32} {t : Nat} {h : Nat → Int32} : bF f t h 0 = f := by
  funext a
  unfold bF
  rw [if_neg (by omega)]
theorem bF_rd {f h : Nat → Int32} {t i q : Nat} (hq : q < t ∨ t + i ≤ q) : bF f t h i q = f q := by
  unfold bF
  rw [if_neg (by omega)]
theorem bF_step {f h : Nat → Int32} {t i : Nat} {x : Int32} (hx : x = h i) : upd (bF f t h i) (t + i) x = bF f t h (i + 1) := by
  subst hx
  funext a
  by_cases e : a = t + i
  · subst e
    rw [upd_eq9]
    unfold bF
    rw [if_pos (by omega)]
    exact congrArg h (by omega)
  · rw [upd_ne9 e]
    unfold bF
    by_cases c : t ≤ a ∧ a < t + i
    · rw [if_pos c, if_pos (by omega)]
    · rw [if_neg c, if_neg (by omega)]
theorem qrl_s {f g : Nat → Int32} {i : Nat} : qrl f g (i + 1) = qrl f g i + (if ¬ f i = g i ∧ ¬ f i = -1 ∧ ¬ g i = -1 then 1 else 0) := rfl
theorem m_both {S : PSt} {f : Nat → Int32} {u n : Nat} {h : Nat → Int32} (hI : Inv S) (e3 : ∀ v, v < 4 → ∀ i, i < sPn S v → f (40 * v + i) = sPh S v i) (hu : u < 4) (hn : n ≤ 40) : ∀ w, w < 4 → ∀ i, i < sPn (setP S u n h) w → bF f (40 * u) h n (40 * w + i) = sPh (setP S u n h) w i := by
  refine m_thg hI e3 (fun i hi => ?_) (fun w i hw e hi => bF_rd (by omega))
  unfold bF
  rw [if_pos (by omega)]
  exact congrArg h (by omega)
theorem mtc_g {h l : Nat → Int32} {n m i j : Nat} (hi : i < n) (hg : h i = -1) : mtc h l n m i j ↔ (mtc h l n m (i + 1) j ∨ (j < m ∧ mtc h l n m i (j + 1))) := by
  conv => lhs; rw [mtc, dif_pos hi, if_pos hg]
  exact ⟨fun q => q.elim Or.inl (fun ⟨a, b⟩ => Or.inr ⟨a, b⟩), fun q => q.elim Or.inl (fun ⟨a, b⟩ => Or.inr ⟨a, b⟩)⟩
theorem m_mrk {S : PSt} {f : Nat → Int32} {x m : Nat} (e8 : ∀ x, x < 100 → f x = nI (sMk S x)) : ∀ y, y < 100 → upd f x (nI m) y = nI (sMk (setM S x m) y) := by
  intro y hy
  show _ = nI (upN S.2.2.2.1 x m y)
  by_cases e : y = x
  · subst e
    rw [upd_eq9, upN_eq]
  · rw [upd_ne9 e, upN_ne e]
    exact e8 y hy
theorem kep_s {S : PSt} {v fb i : Nat} : kep S v fb (i + 1) = if sMk S (sVl S v i) &&& fb = 0 then kep S v fb i ++ [i] else kep S v fb i := by
  unfold kep
  rw [List.range_succ, List.filter_append]
  by_cases h : sMk S (sVl S v i) &&& fb = 0
  · rw [if_pos h, List.filter_cons_of_pos (by simp [h])]
    rfl
  · rw [if_neg h, List.filter_cons_of_neg (by simp [h])]
    exact List.append_nil _
theorem kep_le {S : PSt} {v fb : Nat} (n : Nat) : (kep S v fb n).length ≤ n := by
  unfold kep
  refine Nat.le_trans (List.length_filter_le _ _) ?_
  rw [List.length_range]
  exact Nat.le_refl _
theorem kep_in {S : PSt} {v fb n q : Nat} (h : q < (kep S v fb n).length) : (kep S v fb n).getD q 0 < n := by
  rw [List.getD_eq_getElem?_getD, List.getElem?_eq_getElem h, Option.getD_some]
  have : (kep S v fb n)[q] ∈ kep S v fb n := List.getElem_mem h
  unfold kep at this
  exact List.mem_range.mp (List.mem_filter.mp this).1
/-- the kept things K of place s on put to place t on -/
def fF (f : Nat → Int32) (t s : Nat) (K : List Nat) : Nat → Int32 := fun a => if t ≤ a ∧ a < t + K.length then f (s + K.getD (a - t) 0) else f a
theorem fF_0 {f : Nat → Int32} {t s : Nat} : fF f t s [] = f := by
  funext a
  unfold fF
  rw [if_neg (by simp)]
theorem fF_rd {f : Nat → Int32} {t s q : Nat} {K : List Nat} (hq : q < t ∨ t + K.length ≤ q) : fF f t s K q = f q := by
  unfold fF
  rw [if_neg (by omega)]
theorem fF_step {f : Nat → Int32} {t s i : Nat} {K : List Nat} {x : Int32} (hx : x = f (s + i)) : upd (fF f t s K) (t + K.length) x = fF f t s (K ++ [i]) := by
  subst hx
  funext a
  by_cases e : a = t + K.length
  · subst e
    rw [upd_eq9]
    unfold fF
    rw [if_pos (by rw [List.length_append]; simp), Nat.add_sub_cancel_left, List.getD_eq_getElem?_getD, List.getElem?_append_right (Nat.le_refl _), Nat.sub_self]
    rfl
  · rw [upd_ne9 e]
    unfold fF
    by_cases c : t ≤ a ∧ a < t + K.length
    · rw [if_pos c, if_pos (by rw [List.length_append]; simp; omega), List.getD_eq_getElem?_getD, List.getD_eq_getElem?_getD, List.getElem?_append_left (by omega)]
    · rw [if_neg c, if_neg (by rw [List.length_append]; simp; omega)]
theorem m_fit {S : PSt} {f : Nat → Int32} {v u fb : Nat} (hI : Inv S) (e1 : ∀ v, v < 8 → ∀ i, i < sVn S v → f (40 * v + i) = nI (sVl S v i)) (hv : v < 8) (hu : u < 8) : ∀ w, w < 8 → ∀ q, q < sVn (setV S u (kep S v fb (sVn S v)).length (fun q => sVl S v ((kep S v fb (sVn S v)).getD q 0))) w → fF f (40 * u) (40 * v) (kep S v fb (sVn S v)) (40 * w + q) = nI (sVl (setV S u (kep S v fb (sVn S v)).length (fun q => sVl S v ((kep S v fb (sVn S v)).getD q 0))) w q) := by
  have hn := (hI.1 v hv).1
  have hk := kep_le (S := S) (v := v) (fb := fb) (sVn S v)
  refine m_lin hI e1 (fun q hq => ?_) (fun w q hw e hq => fF_rd (by omega))
  unfold fF
  rw [if_pos (by omega), Nat.add_sub_cancel_left]
  exact e1 v hv _ (kep_in hq)
abbrev rm_X6_both : Room := { frames := 2, cells := 0, slots := 0, locals := 42 }
set_option maxRecDepth 100000 in
set_option maxHeartbeats 4000000 in
theorem D_both (lau : Launch) (E : EnvD) (σ : Sto) {b : Nat} {S : PSt} (hI : Inv S) (hM : RepM E b S σ) (a1 a2 a3 : Int32) : CC lau yX6_both cX6_both 10 (some .int) rm_X6_both E [.ref b, .int a1, .int a2, .int a3] σ (fun o s => o = some (.int (opBoth S a1 a2 a3).1) ∧ RepM E b (opBoth S a1 a2 a3).2 s) := by
  refine cc_of (vs := [_, _, _, _, _, _, _, _, _, _]) (by decide) (Nat.le_of_ble_eq_true rfl) rfl ?_
  intro X h hr hn
  obtain ⟨r0, ⟨f1, r1, e1⟩, ⟨f2, r2, e2⟩, ⟨f3, r3, e3⟩, ⟨f4, r4, e4⟩, ⟨f5, r5, e5⟩, ⟨f6, r6, e6⟩, ⟨f7, r7, e7⟩, ⟨f8, r8, e8⟩, ⟨f9, r9, e9⟩, ⟨f10, r10, e10⟩, ⟨f11, r11, e11⟩, ⟨f12, r12, e12⟩, ⟨f13, r13⟩, ⟨f14, r14⟩, ⟨f15, r15⟩, ⟨f16, r16, e16⟩, ⟨f17, r17⟩⟩ := id hM
  by_cases na1 : ¬ inR a1 4
  · skip
    refine g_iload_n h 1 dX6_both_0 rfl rfl ?_
    refine g_callS h [] (c_X6_isHeard (xL X) E _ a1) cf_X6_89 cs_X6_isHeard dX6_both_1 rfl rfl (Nat.le_of_ble_eq_true rfl) ⟨(Nat.le_of_ble_eq_true rfl), (Nat.le_of_ble_eq_true rfl)⟩ ⟨(Nat.le_of_ble_eq_true rfl), (Nat.le_of_ble_eq_true rfl)⟩ ?_
    refine kk_det ?_
    refine g_if_eqB h 21 dX6_both_4 (by decide) (fun c4_1 => ?_) (fun c4_1 => absurd c4_1 na1)
    refine g_bipush h (-2) dX6_both_21 (by decide) ?_
    exact g_iret h hr dX6_both_23 ((fun e => ⟨by rw [e], by rw [e]; exact hM⟩) (show opBoth S a1 a2 a3 = (-2, S) from cif_f (fun q => na1 q.1))) (Nat.le_of_ble_eq_true rfl) (Nat.le_of_ble_eq_true rfl)
  obtain ⟨p, hp9, rfl⟩ := Classical.not_not.mp na1
  have ep9 : cl (nI p) = p := cl_nI (by omega)
  have hnp := (hI.2.1 p hp9).1
  by_cases na2 : ¬ inR a2 4
  · skip
    refine g_iload_n h 1 dX6_both_0 rfl rfl ?_
    refine g_callS h [] (c_X6_isHeard (xL X) E _ (nI p)) cf_X6_89 cs_X6_isHeard dX6_both_1 rfl rfl (Nat.le_of_ble_eq_true rfl) ⟨(Nat.le_of_ble_eq_true rfl), (Nat.le_of_ble_eq_true rfl)⟩ ⟨(Nat.le_of_ble_eq_true rfl), (Nat.le_of_ble_eq_true rfl)⟩ ?_
    refine kk_det ?_
    refine g_if_eqB h 21 dX6_both_4 (by decide) (fun c4_2 => absurd ⟨p, hp9, rfl⟩ c4_2) (fun c4_2 => ?_)
    refine g_iload_n h 2 dX6_both_7 rfl rfl ?_
    refine g_callS h [] (c_X6_isHeard (xL X) E _ a2) cf_X6_89 cs_X6_isHeard dX6_both_8 rfl rfl (Nat.le_of_ble_eq_true rfl) ⟨(Nat.le_of_ble_eq_true rfl), (Nat.le_of_ble_eq_true rfl)⟩ ⟨(Nat.le_of_ble_eq_true rfl), (Nat.le_of_ble_eq_true rfl)⟩ ?_
    refine kk_det ?_
    refine g_if_eqB h 21 dX6_both_11 (by decide) (fun c11_3 => ?_) (fun c11_3 => absurd c11_3 na2)
    refine g_bipush h (-2) dX6_both_21 (by decide) ?_
    exact g_iret h hr dX6_both_23 ((fun e => ⟨by rw [e], by rw [e]; exact hM⟩) (show opBoth S (nI p) a2 a3 = (-2, S) from cif_f (fun q => na2 q.2.1))) (Nat.le_of_ble_eq_true rfl) (Nat.le_of_ble_eq_true rfl)
  obtain ⟨r, hr9, rfl⟩ := Classical.not_not.mp na2
  have er9 : cl (nI r) = r := cl_nI (by omega)
  have hnr := (hI.2.1 r hr9).1
  by_cases na3 : ¬ inR a3 4
  · skip
    refine g_iload_n h 1 dX6_both_0 rfl rfl ?_
    refine g_callS h [] (c_X6_isHeard (xL X) E _ (nI p)) cf_X6_89 cs_X6_isHeard dX6_both_1 rfl rfl (Nat.le_of_ble_eq_true rfl) ⟨(Nat.le_of_ble_eq_true rfl), (Nat.le_of_ble_eq_true rfl)⟩ ⟨(Nat.le_of_ble_eq_true rfl), (Nat.le_of_ble_eq_true rfl)⟩ ?_
    refine kk_det ?_
    refine g_if_eqB h 21 dX6_both_4 (by decide) (fun c4_4 => absurd ⟨p, hp9, rfl⟩ c4_4) (fun c4_4 => ?_)
    refine g_iload_n h 2 dX6_both_7 rfl rfl ?_
    refine g_callS h [] (c_X6_isHeard (xL X) E _ (nI r)) cf_X6_89 cs_X6_isHeard dX6_both_8 rfl rfl (Nat.le_of_ble_eq_true rfl) ⟨(Nat.le_of_ble_eq_true rfl), (Nat.le_of_ble_eq_true rfl)⟩ ⟨(Nat.le_of_ble_eq_true rfl), (Nat.le_of_ble_eq_true rfl)⟩ ?_
    refine kk_det ?_
    refine g_if_eqB h 21 dX6_both_11 (by decide) (fun c11_5 => absurd ⟨r, hr9, rfl⟩ c11_5) (fun c11_5 => ?_)
    refine g_iload_n h 3 dX6_both_14 rfl rfl ?_
    refine g_callS h [] (c_X6_isHeard (xL X) E _ a3) cf_X6_89 cs_X6_isHeard dX6_both_15 rfl rfl (Nat.le_of_ble_eq_true rfl) ⟨(Nat.le_of_ble_eq_true rfl), (Nat.le_of_ble_eq_true rfl)⟩ ⟨(Nat.le_of_ble_eq_true rfl), (Nat.le_of_ble_eq_true rfl)⟩ ?_
    refine kk_det ?_
    refine g_if_neB h 24 dX6_both_18 (by decide) (fun c18_6 => absurd c18_6 na3) (fun c18_6 => ?_)
    refine g_bipush h (-2) dX6_both_21 (by decide) ?_
    exact g_iret h hr dX6_both_23 ((fun e => ⟨by rw [e], by rw [e]; exact hM⟩) (show opBoth S (nI p) (nI r) a3 = (-2, S) from cif_f (fun q => na3 q.2.2))) (Nat.le_of_ble_eq_true rfl) (Nat.le_of_ble_eq_true rfl)
  obtain ⟨u, hu9, rfl⟩ := Classical.not_not.mp na3
  have eu9 : cl (nI u) = u := cl_nI (by omega)
  have hnu := (hI.2.1 u hu9).1
  refine g_iload_n h 1 dX6_both_0 rfl rfl ?_
  refine g_callS h [] (c_X6_isHeard (xL X) E _ (nI p)) cf_X6_89 cs_X6_isHeard dX6_both_1 rfl rfl (Nat.le_of_ble_eq_true rfl) ⟨(Nat.le_of_ble_eq_true rfl), (Nat.le_of_ble_eq_true rfl)⟩ ⟨(Nat.le_of_ble_eq_true rfl), (Nat.le_of_ble_eq_true rfl)⟩ ?_
  refine kk_det ?_
  refine g_if_eqB h 21 dX6_both_4 (by decide) (fun c4_7 => absurd ⟨p, hp9, rfl⟩ c4_7) (fun c4_7 => ?_)
  refine g_iload_n h 2 dX6_both_7 rfl rfl ?_
  refine g_callS h [] (c_X6_isHeard (xL X) E _ (nI r)) cf_X6_89 cs_X6_isHeard dX6_both_8 rfl rfl (Nat.le_of_ble_eq_true rfl) ⟨(Nat.le_of_ble_eq_true rfl), (Nat.le_of_ble_eq_true rfl)⟩ ⟨(Nat.le_of_ble_eq_true rfl), (Nat.le_of_ble_eq_true rfl)⟩ ?_
  refine kk_det ?_
  refine g_if_eqB h 21 dX6_both_11 (by decide) (fun c11_8 => absurd ⟨r, hr9, rfl⟩ c11_8) (fun c11_8 => ?_)
  refine g_iload_n h 3 dX6_both_14 rfl rfl ?_
  refine g_callS h [] (c_X6_isHeard (xL X) E _ (nI u)) cf_X6_89 cs_X6_isHeard dX6_both_15 rfl rfl (Nat.le_of_ble_eq_true rfl) ⟨(Nat.le_of_ble_eq_true rfl), (Nat.le_of_ble_eq_true rfl)⟩ ⟨(Nat.le_of_ble_eq_true rfl), (Nat.le_of_ble_eq_true rfl)⟩ ?_
  refine kk_det ?_
  refine g_if_neB h 24 dX6_both_18 (by decide) (fun c18_9 => ?_) (fun c18_9 => absurd ⟨u, hu9, rfl⟩ c18_9)
  refine g_aload_n h 0 dX6_both_24 rfl rfl ?_
  refine g_get h 3 fa_X6_19 dX6_both_25 r0 rfl ?_
  refine g_iload_n h 1 dX6_both_28 rfl rfl ?_
  refine g_iald h dX6_both_29 r4 (by omega) (by omega) ?_
  refine g_top (y := nI (sPn S p)) (e4 p (by omega)) ?_
  refine g_aload_n h 0 dX6_both_30 rfl rfl ?_
  refine g_get h 3 fa_X6_19 dX6_both_31 r0 rfl ?_
  refine g_iload_n h 2 dX6_both_34 rfl rfl ?_
  refine g_iald h dX6_both_35 r4 (by omega) (by omega) ?_
  refine g_top (y := nI (sPn S r)) (e4 r (by omega)) ?_
  refine g_icmp_eqN h 42 dX6_both_36 (by decide) (by omega) (by omega) (fun c36_10 => ?_) (fun c36_10 => ?_)
  · skip
    refine g_iconst h (nI 0) dX6_both_42 (by decide) ?_
    refine g_istore (vs' := [_, _, _, _, _, _, _, _, _, _]) h dX6_both_43 (Nat.le_of_ble_eq_true rfl) rfl rfl ?_
    refine g_aload_n h 0 dX6_both_45 rfl rfl ?_
    refine g_get h 3 fa_X6_19 dX6_both_46 r0 rfl ?_
    refine g_iload_n h 1 dX6_both_49 rfl rfl ?_
    refine g_iald h dX6_both_50 r4 (by omega) (by omega) ?_
    refine g_top (y := nI (sPn S p)) (e4 p (by omega)) ?_
    refine g_istore (vs' := [_, _, _, _, _, _, _, _, _, _]) h dX6_both_51 (Nat.le_of_ble_eq_true rfl) rfl rfl ?_
    refine g_iconst h (nI 0) dX6_both_53 (by decide) ?_
    refine g_istore (vs' := [_, _, _, _, _, _, _, _, _, _]) h dX6_both_54 (Nat.le_of_ble_eq_true rfl) rfl rfl ?_
    refine g_sto (sup_self (e := cI E 160 f3) r3).symm ?_
    refine g_few (vs' := [some (.ref b), some (.int (nI p)), some (.int (nI r)), some (.int (nI u)), some (.int (nI 0)), some (.int (nI (sPn S p))), some (.int (nI 0)), none, none, none]) ⟨Or.inr rfl, Or.inr rfl, Or.inr rfl, Or.inr rfl, Or.inr rfl, Or.inr rfl, Or.inr rfl, Or.inl rfl, Or.inl rfl, Or.inl rfl, trivial⟩ ?_
    have L56 : ∀ (m0 : Nat) (i : Nat) (g : Nat → Int32) (q : Nat), (i ≤ sPn S p) → (g = bF f3 (40 * u) (fun i => hb2 (sPh S p i) (sPh S r i)) i) → (q = qrl (sPh S p) (sPh S r) i) → (sPn S p - i) < m0 → G X E 10 (AD σ) (QF X E σ (fun o s => o = some (.int (opBoth S (nI p) (nI r) (nI u)).1) ∧ RepM E b (opBoth S (nI p) (nI r) (nI u)).2 s) rm_X6_both) 0 0 56 [some (.ref b), some (.int (nI p)), some (.int (nI r)), some (.int (nI u)), some (.int (nI q)), some (.int (nI (sPn S p))), some (.int (nI i)), none, none, none] [] (sup σ (b + 3) (cI E 160 g)) := by
      intro m0
      induction m0 with
      | zero => intro i g q _ _ _ hm0; exact absurd hm0 (Nat.not_lt_zero _)
      | succ m0 ih =>
        intro i g q hi hg hq hm0
        have q40 := qrl_le (f := sPh S p) (g := sPh S r) i
        refine g_iload h dX6_both_56 rfl ?_
        refine g_iload h dX6_both_58 rfl ?_
        refine g_icmp_geN h 172 dX6_both_60 (by decide) (by omega) (by omega) (fun c60_11 => ?_) (fun c60_11 => ?_)
        · skip
          obtain rfl : i = sPn S p := by omega
          refine g_aload_n h 0 dX6_both_172 rfl rfl ?_
          refine g_get h 3 fa_X6_19 dX6_both_173 ((sup_ne (by omega)).trans r0) rfl ?_
          refine g_iload_n h 3 dX6_both_176 rfl rfl ?_
          refine g_iload h dX6_both_177 rfl ?_
          refine g_iast h dX6_both_179 ((sup_ne (by omega)).trans r4) (by omega) (by omega) ?_
          refine g_iload h dX6_both_180 rfl ?_
          exact g_iret h hr dX6_both_182 ((fun e => ⟨by rw [e, hq], by rw [e]; exact ⟨((sup_ne (by omega)).trans ((sup_ne (by omega)).trans r0)), ⟨_, ((sup_ne (by omega)).trans ((sup_ne (by omega)).trans r1)), e1⟩, ⟨_, ((sup_ne (by omega)).trans ((sup_ne (by omega)).trans r2)), e2⟩, ⟨_, ((sup_ne (by omega)).trans sup_eq), by rw [hg]; exact m_both hI e3 hu9 hnp⟩, ⟨_, sup_eq, m_hrd e4⟩, ⟨_, ((sup_ne (by omega)).trans ((sup_ne (by omega)).trans r5)), e5⟩, ⟨_, ((sup_ne (by omega)).trans ((sup_ne (by omega)).trans r6)), e6⟩, ⟨_, ((sup_ne (by omega)).trans ((sup_ne (by omega)).trans r7)), e7⟩, ⟨_, ((sup_ne (by omega)).trans ((sup_ne (by omega)).trans r8)), e8⟩, ⟨_, ((sup_ne (by omega)).trans ((sup_ne (by omega)).trans r9)), e9⟩, ⟨_, ((sup_ne (by omega)).trans ((sup_ne (by omega)).trans r10)), e10⟩, ⟨_, ((sup_ne (by omega)).trans ((sup_ne (by omega)).trans r11)), e11⟩, ⟨_, ((sup_ne (by omega)).trans ((sup_ne (by omega)).trans r12)), e12⟩, ⟨_, ((sup_ne (by omega)).trans ((sup_ne (by omega)).trans r13))⟩, ⟨_, ((sup_ne (by omega)).trans ((sup_ne (by omega)).trans r14))⟩, ⟨_, ((sup_ne (by omega)).trans ((sup_ne (by omega)).trans r15))⟩, ⟨_, ((sup_ne (by omega)).trans ((sup_ne (by omega)).trans r16)), e16⟩, ⟨_, ((sup_ne (by omega)).trans ((sup_ne (by omega)).trans r17))⟩⟩⟩) (show opBoth S (nI p) (nI r) (nI u) = (nI (qrl (sPh S p) (sPh S r) (sPn S p)), setP S u (sPn S p) (fun i => hb2 (sPh S p i) (sPh S r i))) from by unfold opBoth; rw [cif_t ⟨⟨p, hp9, rfl⟩, ⟨r, hr9, rfl⟩, ⟨u, hu9, rfl⟩⟩, cif_t (by rw [ep9, er9]; exact c36_10), ep9, er9, eu9])) (Nat.le_of_ble_eq_true rfl) (Nat.le_of_ble_eq_true rfl)
        · skip
          refine g_aload_n h 0 dX6_both_63 rfl rfl ?_
          refine g_get h 2 fa_X6_16 dX6_both_64 ((sup_ne (by omega)).trans r0) rfl ?_
          refine g_bipush h (nI 40) dX6_both_67 (by decide) ?_
          refine g_iload_n h 1 dX6_both_69 rfl rfl ?_
          refine g_imulN h dX6_both_70 ?_
          refine g_iload h dX6_both_71 rfl ?_
          refine g_iaddN h dX6_both_73 ?_
          refine g_iald h dX6_both_74 sup_eq (by omega) (by omega) ?_
          refine g_top (y := (sPh S p i)) (by rw [hg, bF_rd (by omega)]; exact e3 p hp9 i (by omega)) ?_
          refine g_istore (vs' := [_, _, _, _, _, _, _, _, _, _]) h dX6_both_75 (Nat.le_of_ble_eq_true rfl) rfl rfl ?_
          refine g_aload_n h 0 dX6_both_77 rfl rfl ?_
          refine g_get h 2 fa_X6_16 dX6_both_78 ((sup_ne (by omega)).trans r0) rfl ?_
          refine g_bipush h (nI 40) dX6_both_81 (by decide) ?_
          refine g_iload_n h 2 dX6_both_83 rfl rfl ?_
          refine g_imulN h dX6_both_84 ?_
          refine g_iload h dX6_both_85 rfl ?_
          refine g_iaddN h dX6_both_87 ?_
          refine g_iald h dX6_both_88 sup_eq (by omega) (by omega) ?_
          refine g_top (y := (sPh S r i)) (by rw [hg, bF_rd (by omega)]; exact e3 r hr9 i (by omega)) ?_
          refine g_istore (vs' := [_, _, _, _, _, _, _, _, _, _]) h dX6_both_89 (Nat.le_of_ble_eq_true rfl) rfl rfl ?_
          refine g_iload h dX6_both_91 rfl ?_
          refine g_iload h dX6_both_93 rfl ?_
          refine g_icmp_eq h 114 dX6_both_95 (by decide) (fun c95_12 => ?_) (fun c95_12 => ?_)
          · skip
            refine g_iconst h (nI 0) dX6_both_114 (by decide) ?_
            refine g_istore (vs' := [_, _, _, _, _, _, _, _, _, _]) h dX6_both_115 (Nat.le_of_ble_eq_true rfl) rfl rfl ?_
            refine g_iload h dX6_both_117 rfl ?_
            refine g_iload h dX6_both_119 rfl ?_
            refine g_if_eqN h 128 dX6_both_121 (by decide) (by decide) (fun c121_13 => ?_) (fun c121_13 => absurd c121_13 (by decide))
            refine g_iconst h (nI 0) dX6_both_128 (by decide) ?_
            refine g_iaddN h dX6_both_129 ?_
            refine g_istore (vs' := [_, _, _, _, _, _, _, _, _, _]) h dX6_both_130 (Nat.le_of_ble_eq_true rfl) rfl rfl ?_
            refine g_aload_n h 0 dX6_both_132 rfl rfl ?_
            refine g_get h 2 fa_X6_16 dX6_both_133 ((sup_ne (by omega)).trans r0) rfl ?_
            refine g_bipush h (nI 40) dX6_both_136 (by decide) ?_
            refine g_iload_n h 3 dX6_both_138 rfl rfl ?_
            refine g_imulN h dX6_both_139 ?_
            refine g_iload h dX6_both_140 rfl ?_
            refine g_iaddN h dX6_both_142 ?_
            refine g_iload h dX6_both_143 rfl ?_
            refine g_if_eqN h 152 dX6_both_145 (by decide) (by decide) (fun c145_14 => ?_) (fun c145_14 => absurd c145_14 (by decide))
            refine g_iload h dX6_both_152 rfl ?_
            refine g_iconst h (-1) dX6_both_154 (by decide) ?_
            refine g_icmp_ne h 163 dX6_both_155 (by decide) (fun c155_15 => ?_) (fun c155_15 => ?_)
            · skip
              refine g_iload h dX6_both_163 rfl ?_
              refine g_iast h dX6_both_165 sup_eq (by omega) (by omega) ?_
              refine g_sto sup_sup ?_
              refine g_iinc (vs' := [_, _, _, _, _, _, _, _, _, _]) h (nI (i + 1)) dX6_both_166 rfl (by first | exact nI_1 _ | rfl) (Nat.le_of_ble_eq_true rfl) rfl rfl ?_
              refine g_goto h 56 dX6_both_169 (by decide) ?_
              refine g_few (vs' := [some (.ref b), some (.int (nI p)), some (.int (nI r)), some (.int (nI u)), some (.int (nI (q + 0))), some (.int (nI (sPn S p))), some (.int (nI (i + 1))), none, none, none]) ⟨Or.inr rfl, Or.inr rfl, Or.inr rfl, Or.inr rfl, Or.inr rfl, Or.inr rfl, Or.inr rfl, Or.inl rfl, Or.inl rfl, Or.inl rfl, trivial⟩ ?_
              exact ih (i + 1) _ _ (by omega) (by rw [hg, bF_step (hb2_r c155_15 (Or.inl c95_12))]) (by rw [hq, qrl_s, if_neg (fun w => w.1 c95_12), Nat.add_zero]) (by omega)
            · skip
              refine g_iload h dX6_both_158 rfl ?_
              refine g_goto h 165 dX6_both_160 (by decide) ?_
              refine g_iast h dX6_both_165 sup_eq (by omega) (by omega) ?_
              refine g_sto sup_sup ?_
              refine g_iinc (vs' := [_, _, _, _, _, _, _, _, _, _]) h (nI (i + 1)) dX6_both_166 rfl (by first | exact nI_1 _ | rfl) (Nat.le_of_ble_eq_true rfl) rfl rfl ?_
              refine g_goto h 56 dX6_both_169 (by decide) ?_
              refine g_few (vs' := [some (.ref b), some (.int (nI p)), some (.int (nI r)), some (.int (nI u)), some (.int (nI (q + 0))), some (.int (nI (sPn S p))), some (.int (nI (i + 1))), none, none, none]) ⟨Or.inr rfl, Or.inr rfl, Or.inr rfl, Or.inr rfl, Or.inr rfl, Or.inr rfl, Or.inr rfl, Or.inl rfl, Or.inl rfl, Or.inl rfl, trivial⟩ ?_
              exact ih (i + 1) _ _ (by omega) (by rw [hg, bF_step (hb2_l c155_15)]) (by rw [hq, qrl_s, if_neg (fun w => w.1 c95_12), Nat.add_zero]) (by omega)
          · skip
            refine g_iload h dX6_both_98 rfl ?_
            refine g_iconst h (-1) dX6_both_100 (by decide) ?_
            refine g_icmp_eq h 114 dX6_both_101 (by decide) (fun c101_16 => ?_) (fun c101_16 => ?_)
            · skip
              refine g_iconst h (nI 0) dX6_both_114 (by decide) ?_
              refine g_istore (vs' := [_, _, _, _, _, _, _, _, _, _]) h dX6_both_115 (Nat.le_of_ble_eq_true rfl) rfl rfl ?_
              refine g_iload h dX6_both_117 rfl ?_
              refine g_iload h dX6_both_119 rfl ?_
              refine g_if_eqN h 128 dX6_both_121 (by decide) (by decide) (fun c121_17 => ?_) (fun c121_17 => absurd c121_17 (by decide))
              refine g_iconst h (nI 0) dX6_both_128 (by decide) ?_
              refine g_iaddN h dX6_both_129 ?_
              refine g_istore (vs' := [_, _, _, _, _, _, _, _, _, _]) h dX6_both_130 (Nat.le_of_ble_eq_true rfl) rfl rfl ?_
              refine g_aload_n h 0 dX6_both_132 rfl rfl ?_
              refine g_get h 2 fa_X6_16 dX6_both_133 ((sup_ne (by omega)).trans r0) rfl ?_
              refine g_bipush h (nI 40) dX6_both_136 (by decide) ?_
              refine g_iload_n h 3 dX6_both_138 rfl rfl ?_
              refine g_imulN h dX6_both_139 ?_
              refine g_iload h dX6_both_140 rfl ?_
              refine g_iaddN h dX6_both_142 ?_
              refine g_iload h dX6_both_143 rfl ?_
              refine g_if_eqN h 152 dX6_both_145 (by decide) (by decide) (fun c145_18 => ?_) (fun c145_18 => absurd c145_18 (by decide))
              refine g_iload h dX6_both_152 rfl ?_
              refine g_iconst h (-1) dX6_both_154 (by decide) ?_
              refine g_icmp_ne h 163 dX6_both_155 (by decide) (fun c155_19 => absurd c101_16 c155_19) (fun c155_19 => ?_)
              refine g_iload h dX6_both_158 rfl ?_
              refine g_goto h 165 dX6_both_160 (by decide) ?_
              refine g_iast h dX6_both_165 sup_eq (by omega) (by omega) ?_
              refine g_sto sup_sup ?_
              refine g_iinc (vs' := [_, _, _, _, _, _, _, _, _, _]) h (nI (i + 1)) dX6_both_166 rfl (by first | exact nI_1 _ | rfl) (Nat.le_of_ble_eq_true rfl) rfl rfl ?_
              refine g_goto h 56 dX6_both_169 (by decide) ?_
              refine g_few (vs' := [some (.ref b), some (.int (nI p)), some (.int (nI r)), some (.int (nI u)), some (.int (nI (q + 0))), some (.int (nI (sPn S p))), some (.int (nI (i + 1))), none, none, none]) ⟨Or.inr rfl, Or.inr rfl, Or.inr rfl, Or.inr rfl, Or.inr rfl, Or.inr rfl, Or.inr rfl, Or.inl rfl, Or.inl rfl, Or.inl rfl, trivial⟩ ?_
              exact ih (i + 1) _ _ (by omega) (by rw [hg, bF_step (hb2_l c101_16)]) (by rw [hq, qrl_s, if_neg (fun w => w.2.1 c101_16), Nat.add_zero]) (by omega)
            · skip
              refine g_iload h dX6_both_104 rfl ?_
              refine g_iconst h (-1) dX6_both_106 (by decide) ?_
              refine g_icmp_eq h 114 dX6_both_107 (by decide) (fun c107_20 => ?_) (fun c107_20 => ?_)
              · skip
                refine g_iconst h (nI 0) dX6_both_114 (by decide) ?_
                refine g_istore (vs' := [_, _, _, _, _, _, _, _, _, _]) h dX6_both_115 (Nat.le_of_ble_eq_true rfl) rfl rfl ?_
                refine g_iload h dX6_both_117 rfl ?_
                refine g_iload h dX6_both_119 rfl ?_
                refine g_if_eqN h 128 dX6_both_121 (by decide) (by decide) (fun c121_21 => ?_) (fun c121_21 => absurd c121_21 (by decide))
                refine g_iconst h (nI 0) dX6_both_128 (by decide) ?_
                refine g_iaddN h dX6_both_129 ?_
                refine g_istore (vs' := [_, _, _, _, _, _, _, _, _, _]) h dX6_both_130 (Nat.le_of_ble_eq_true rfl) rfl rfl ?_
                refine g_aload_n h 0 dX6_both_132 rfl rfl ?_
                refine g_get h 2 fa_X6_16 dX6_both_133 ((sup_ne (by omega)).trans r0) rfl ?_
                refine g_bipush h (nI 40) dX6_both_136 (by decide) ?_
                refine g_iload_n h 3 dX6_both_138 rfl rfl ?_
                refine g_imulN h dX6_both_139 ?_
                refine g_iload h dX6_both_140 rfl ?_
                refine g_iaddN h dX6_both_142 ?_
                refine g_iload h dX6_both_143 rfl ?_
                refine g_if_eqN h 152 dX6_both_145 (by decide) (by decide) (fun c145_22 => ?_) (fun c145_22 => absurd c145_22 (by decide))
                refine g_iload h dX6_both_152 rfl ?_
                refine g_iconst h (-1) dX6_both_154 (by decide) ?_
                refine g_icmp_ne h 163 dX6_both_155 (by decide) (fun c155_23 => ?_) (fun c155_23 => absurd c155_23 c101_16)
                refine g_iload h dX6_both_163 rfl ?_
                refine g_iast h dX6_both_165 sup_eq (by omega) (by omega) ?_
                refine g_sto sup_sup ?_
                refine g_iinc (vs' := [_, _, _, _, _, _, _, _, _, _]) h (nI (i + 1)) dX6_both_166 rfl (by first | exact nI_1 _ | rfl) (Nat.le_of_ble_eq_true rfl) rfl rfl ?_
                refine g_goto h 56 dX6_both_169 (by decide) ?_
                refine g_few (vs' := [some (.ref b), some (.int (nI p)), some (.int (nI r)), some (.int (nI u)), some (.int (nI (q + 0))), some (.int (nI (sPn S p))), some (.int (nI (i + 1))), none, none, none]) ⟨Or.inr rfl, Or.inr rfl, Or.inr rfl, Or.inr rfl, Or.inr rfl, Or.inr rfl, Or.inr rfl, Or.inl rfl, Or.inl rfl, Or.inl rfl, trivial⟩ ?_
                exact ih (i + 1) _ _ (by omega) (by rw [hg, bF_step (hb2_r c101_16 (Or.inr c107_20))]) (by rw [hq, qrl_s, if_neg (fun w => w.2.2 c107_20), Nat.add_zero]) (by omega)
              · skip
                refine g_iconst h (nI 1) dX6_both_110 (by decide) ?_
                refine g_goto h 115 dX6_both_111 (by decide) ?_
                refine g_istore (vs' := [_, _, _, _, _, _, _, _, _, _]) h dX6_both_115 (Nat.le_of_ble_eq_true rfl) rfl rfl ?_
                refine g_iload h dX6_both_117 rfl ?_
                refine g_iload h dX6_both_119 rfl ?_
                refine g_if_eqN h 128 dX6_both_121 (by decide) (by decide) (fun c121_24 => absurd c121_24 (by decide)) (fun c121_24 => ?_)
                refine g_iconst h (nI 1) dX6_both_124 (by decide) ?_
                refine g_goto h 129 dX6_both_125 (by decide) ?_
                refine g_iaddN h dX6_both_129 ?_
                refine g_istore (vs' := [_, _, _, _, _, _, _, _, _, _]) h dX6_both_130 (Nat.le_of_ble_eq_true rfl) rfl rfl ?_
                refine g_aload_n h 0 dX6_both_132 rfl rfl ?_
                refine g_get h 2 fa_X6_16 dX6_both_133 ((sup_ne (by omega)).trans r0) rfl ?_
                refine g_bipush h (nI 40) dX6_both_136 (by decide) ?_
                refine g_iload_n h 3 dX6_both_138 rfl rfl ?_
                refine g_imulN h dX6_both_139 ?_
                refine g_iload h dX6_both_140 rfl ?_
                refine g_iaddN h dX6_both_142 ?_
                refine g_iload h dX6_both_143 rfl ?_
                refine g_if_eqN h 152 dX6_both_145 (by decide) (by decide) (fun c145_25 => absurd c145_25 (by decide)) (fun c145_25 => ?_)
                refine g_iconst h (-1) dX6_both_148 (by decide) ?_
                refine g_goto h 165 dX6_both_149 (by decide) ?_
                refine g_iast h dX6_both_165 sup_eq (by omega) (by omega) ?_
                refine g_sto sup_sup ?_
                refine g_iinc (vs' := [_, _, _, _, _, _, _, _, _, _]) h (nI (i + 1)) dX6_both_166 rfl (by first | exact nI_1 _ | rfl) (Nat.le_of_ble_eq_true rfl) rfl rfl ?_
                refine g_goto h 56 dX6_both_169 (by decide) ?_
                refine g_few (vs' := [some (.ref b), some (.int (nI p)), some (.int (nI r)), some (.int (nI u)), some (.int (nI (q + 1))), some (.int (nI (sPn S p))), some (.int (nI (i + 1))), none, none, none]) ⟨Or.inr rfl, Or.inr rfl, Or.inr rfl, Or.inr rfl, Or.inr rfl, Or.inr rfl, Or.inr rfl, Or.inl rfl, Or.inl rfl, Or.inl rfl, trivial⟩ ?_
                exact ih (i + 1) _ _ (by omega) (by rw [hg, bF_step (hb2_q c95_12 c101_16 c107_20)]) (by rw [hq, qrl_s, if_pos ⟨c95_12, c101_16, c107_20⟩]) (by omega)
    exact L56 (sPn S p + 1) 0 f3 0 (by omega) bF_0.symm rfl (by omega)
  · skip
    refine g_bipush h (-3) dX6_both_39 (by decide) ?_
    exact g_iret h hr dX6_both_41 ((fun e => ⟨by rw [e], by rw [e]; exact hM⟩) (show opBoth S (nI p) (nI r) (nI u) = (-3, S) from by unfold opBoth; rw [cif_t ⟨⟨p, hp9, rfl⟩, ⟨r, hr9, rfl⟩, ⟨u, hu9, rfl⟩⟩, cif_f (by rw [ep9, er9]; exact c36_10)])) (Nat.le_of_ble_eq_true rfl) (Nat.le_of_ble_eq_true rfl)
abbrev rm_X6_may : Room := { frames := 2, cells := 0, slots := 0, locals := 42 }
set_option maxRecDepth 100000 in
set_option maxHeartbeats 4000000 in
theorem D_may (lau : Launch) (E : EnvD) (σ : Sto) {b : Nat} {S : PSt} (hI : Inv S) (hM : RepM E b S σ) (a1 a2 : Int32) : CC lau yX6_may cX6_may 8 (some .int) rm_X6_may E [.ref b, .int a1, .int a2] σ (fun o s => o = some (.int (opMay S a1 a2).1) ∧ RepM E b (opMay S a1 a2).2 s) := by
  refine cc_of (vs := [_, _, _, _, _, _, _, _]) (by decide) (Nat.le_of_ble_eq_true rfl) rfl ?_
  intro X h hr hn
  obtain ⟨r0, ⟨f1, r1, e1⟩, ⟨f2, r2, e2⟩, ⟨f3, r3, e3⟩, ⟨f4, r4, e4⟩, ⟨f5, r5, e5⟩, ⟨f6, r6, e6⟩, ⟨f7, r7, e7⟩, ⟨f8, r8, e8⟩, ⟨f9, r9, e9⟩, ⟨f10, r10, e10⟩, ⟨f11, r11, e11⟩, ⟨f12, r12, e12⟩, ⟨f13, r13⟩, ⟨f14, r14⟩, ⟨f15, r15⟩, ⟨f16, r16, e16⟩, ⟨f17, r17⟩⟩ := id hM
  by_cases na1 : ¬ inR a1 4
  · skip
    refine g_iload_n h 1 dX6_may_0 rfl rfl ?_
    refine g_callS h [] (c_X6_isHeard (xL X) E _ a1) cf_X6_89 cs_X6_isHeard dX6_may_1 rfl rfl (Nat.le_of_ble_eq_true rfl) ⟨(Nat.le_of_ble_eq_true rfl), (Nat.le_of_ble_eq_true rfl)⟩ ⟨(Nat.le_of_ble_eq_true rfl), (Nat.le_of_ble_eq_true rfl)⟩ ?_
    refine kk_det ?_
    refine g_if_eqB h 14 dX6_may_4 (by decide) (fun c4_1 => ?_) (fun c4_1 => absurd c4_1 na1)
    refine g_bipush h (-2) dX6_may_14 (by decide) ?_
    exact g_iret h hr dX6_may_16 ((fun e => ⟨by rw [e], by rw [e]; exact hM⟩) (show opMay S a1 a2 = (-2, S) from by unfold opMay; rw [cif_f (fun q => na1 q.1)])) (Nat.le_of_ble_eq_true rfl) (Nat.le_of_ble_eq_true rfl)
  obtain ⟨p, hp9, rfl⟩ := Classical.not_not.mp na1
  have ep9 : cl (nI p) = p := cl_nI (by omega)
  have hnp := (hI.2.1 p hp9).1
  by_cases na2 : ¬ inR a2 8
  · skip
    refine g_iload_n h 1 dX6_may_0 rfl rfl ?_
    refine g_callS h [] (c_X6_isHeard (xL X) E _ (nI p)) cf_X6_89 cs_X6_isHeard dX6_may_1 rfl rfl (Nat.le_of_ble_eq_true rfl) ⟨(Nat.le_of_ble_eq_true rfl), (Nat.le_of_ble_eq_true rfl)⟩ ⟨(Nat.le_of_ble_eq_true rfl), (Nat.le_of_ble_eq_true rfl)⟩ ?_
    refine kk_det ?_
    refine g_if_eqB h 14 dX6_may_4 (by decide) (fun c4_2 => absurd ⟨p, hp9, rfl⟩ c4_2) (fun c4_2 => ?_)
    refine g_iload_n h 2 dX6_may_7 rfl rfl ?_
    refine g_callS h [] (c_X6_isVersion (xL X) E _ a2) cf_X6_66 cs_X6_isVersion dX6_may_8 rfl rfl (Nat.le_of_ble_eq_true rfl) ⟨(Nat.le_of_ble_eq_true rfl), (Nat.le_of_ble_eq_true rfl)⟩ ⟨(Nat.le_of_ble_eq_true rfl), (Nat.le_of_ble_eq_true rfl)⟩ ?_
    refine kk_det ?_
    refine g_if_neB h 17 dX6_may_11 (by decide) (fun c11_3 => absurd c11_3 na2) (fun c11_3 => ?_)
    refine g_bipush h (-2) dX6_may_14 (by decide) ?_
    exact g_iret h hr dX6_may_16 ((fun e => ⟨by rw [e], by rw [e]; exact hM⟩) (show opMay S (nI p) a2 = (-2, S) from by unfold opMay; rw [cif_f (fun q => na2 q.2)])) (Nat.le_of_ble_eq_true rfl) (Nat.le_of_ble_eq_true rfl)
  obtain ⟨v, hv9, rfl⟩ := Classical.not_not.mp na2
  have ev9 : cl (nI v) = v := cl_nI (by omega)
  obtain ⟨hnv, hlv⟩ := hI.1 v hv9
  have e0 : opMay S (nI p) (nI v) = (bI (mtc (sPh S p) (rwV S v) (sPn S p) (sVn S v) 0 0), S) := by unfold opMay; rw [cif_t ⟨⟨p, hp9, rfl⟩, ⟨v, hv9, rfl⟩⟩, ep9, ev9]
  refine g_iload_n h 1 dX6_may_0 rfl rfl ?_
  refine g_callS h [] (c_X6_isHeard (xL X) E _ (nI p)) cf_X6_89 cs_X6_isHeard dX6_may_1 rfl rfl (Nat.le_of_ble_eq_true rfl) ⟨(Nat.le_of_ble_eq_true rfl), (Nat.le_of_ble_eq_true rfl)⟩ ⟨(Nat.le_of_ble_eq_true rfl), (Nat.le_of_ble_eq_true rfl)⟩ ?_
  refine kk_det ?_
  refine g_if_eqB h 14 dX6_may_4 (by decide) (fun c4_4 => absurd ⟨p, hp9, rfl⟩ c4_4) (fun c4_4 => ?_)
  refine g_iload_n h 2 dX6_may_7 rfl rfl ?_
  refine g_callS h [] (c_X6_isVersion (xL X) E _ (nI v)) cf_X6_66 cs_X6_isVersion dX6_may_8 rfl rfl (Nat.le_of_ble_eq_true rfl) ⟨(Nat.le_of_ble_eq_true rfl), (Nat.le_of_ble_eq_true rfl)⟩ ⟨(Nat.le_of_ble_eq_true rfl), (Nat.le_of_ble_eq_true rfl)⟩ ?_
  refine kk_det ?_
  refine g_if_neB h 17 dX6_may_11 (by decide) (fun c11_5 => ?_) (fun c11_5 => absurd ⟨v, hv9, rfl⟩ c11_5)
  refine g_aload_n h 0 dX6_may_17 rfl rfl ?_
  refine g_get h 3 fa_X6_19 dX6_may_18 r0 rfl ?_
  refine g_iload_n h 1 dX6_may_21 rfl rfl ?_
  refine g_iald h dX6_may_22 r4 (by omega) (by omega) ?_
  refine g_top (y := nI (sPn S p)) (e4 p (by omega)) ?_
  refine g_istore_n (vs' := [_, _, _, _, _, _, _, _]) h 3 dX6_may_23 rfl (Nat.le_of_ble_eq_true rfl) rfl rfl ?_
  refine g_aload_n h 0 dX6_may_24 rfl rfl ?_
  refine g_get h 1 fa_X6_13 dX6_may_25 r0 rfl ?_
  refine g_iload_n h 2 dX6_may_28 rfl rfl ?_
  refine g_iald h dX6_may_29 r2 (by omega) (by omega) ?_
  refine g_top (y := nI (sVn S v)) (e2 v (by omega)) ?_
  refine g_istore (vs' := [_, _, _, _, _, _, _, _]) h dX6_may_30 (Nat.le_of_ble_eq_true rfl) rfl rfl ?_
  refine g_iload_n h 3 dX6_may_32 rfl rfl ?_
  refine g_istore (vs' := [_, _, _, _, _, _, _, _]) h dX6_may_33 (Nat.le_of_ble_eq_true rfl) rfl rfl ?_
  refine g_sto (sup_self (e := cZ E 1681 f17) r17).symm ?_
  refine g_few (vs' := [some (.ref b), some (.int (nI p)), some (.int (nI v)), some (.int (nI (sPn S p))), some (.int (nI (sVn S v))), some (.int (nI (sPn S p))), none, none]) ⟨Or.inr rfl, Or.inr rfl, Or.inr rfl, Or.inr rfl, Or.inr rfl, Or.inr rfl, Or.inl rfl, Or.inl rfl, trivial⟩ ?_
  have L35 : ∀ (m0 : Nat) (e : Nat) (x5 : Int32) (g : Nat → Int32), (e ≤ sPn S p + 1) → ((e = 0 ∧ x5 = -1) ∨ ∃ i, e = i + 1 ∧ x5 = nI i) → (∀ a, e ≤ a → a ≤ sPn S p → ∀ c, c ≤ sVn S v → g (41 * a + c) = bI (mtc (sPh S p) (rwV S v) (sPn S p) (sVn S v) a c)) → e < m0 → G X E 8 (AD σ) (QF X E σ (fun o s => o = some (.int (opMay S (nI p) (nI v)).1) ∧ RepM E b (opMay S (nI p) (nI v)).2 s) rm_X6_may) 0 0 35 [some (.ref b), some (.int (nI p)), some (.int (nI v)), some (.int (nI (sPn S p))), some (.int (nI (sVn S v))), some (.int x5), none, none] [] (sup σ (b + 17) (cZ E 1681 g)) := by
    intro m0
    induction m0 with
    | zero => intro e x5 g _ _ _ hm0; exact absurd hm0 (Nat.not_lt_zero _)
    | succ m0 ih =>
      intro e x5 g he hx5 hg1 hm0
      refine g_iload h dX6_may_35 rfl ?_
      refine g_if_lt h 238 dX6_may_37 (by decide) (fun c37_6 => ?_) (fun c37_6 => ?_)
      · skip
        have he0 : e = 0 := by
          rcases hx5 with q | ⟨i, q1, q2⟩
          · exact q.1
          · subst q2; exact absurd c37_6 (nI_pos (by omega))
        subst he0
        refine g_aload_n h 0 dX6_may_238 rfl rfl ?_
        refine g_get h 19 fa_X6_58 dX6_may_239 ((sup_ne (by omega)).trans r0) rfl ?_
        refine g_iconst h (nI 0) dX6_may_242 (by decide) ?_
        refine g_zald h dX6_may_243 sup_eq (by omega) (by omega) ?_
        refine g_top (y := bI (mtc (sPh S p) (rwV S v) (sPn S p) (sVn S v) 0 0)) (hg1 0 (by omega) (by omega) 0 (by omega)) ?_
        refine g_if_eqB h 251 dX6_may_244 (by decide) (fun c244_7 => ?_) (fun c244_7 => ?_)
        · skip
          refine g_iconst h (nI 0) dX6_may_251 (by decide) ?_
          exact g_iret h hr dX6_may_252 (⟨by rw [e0]; exact congrArg (fun q => some (Value.int q)) (v0 c244_7), by rw [e0]; exact ⟨((sup_ne (by omega)).trans r0), ⟨_, ((sup_ne (by omega)).trans r1), e1⟩, ⟨_, ((sup_ne (by omega)).trans r2), e2⟩, ⟨_, ((sup_ne (by omega)).trans r3), e3⟩, ⟨_, ((sup_ne (by omega)).trans r4), e4⟩, ⟨_, ((sup_ne (by omega)).trans r5), e5⟩, ⟨_, ((sup_ne (by omega)).trans r6), e6⟩, ⟨_, ((sup_ne (by omega)).trans r7), e7⟩, ⟨_, ((sup_ne (by omega)).trans r8), e8⟩, ⟨_, ((sup_ne (by omega)).trans r9), e9⟩, ⟨_, ((sup_ne (by omega)).trans r10), e10⟩, ⟨_, ((sup_ne (by omega)).trans r11), e11⟩, ⟨_, ((sup_ne (by omega)).trans r12), e12⟩, ⟨_, ((sup_ne (by omega)).trans r13)⟩, ⟨_, ((sup_ne (by omega)).trans r14)⟩, ⟨_, ((sup_ne (by omega)).trans r15)⟩, ⟨_, ((sup_ne (by omega)).trans r16), e16⟩, ⟨_, sup_eq⟩⟩⟩) (Nat.le_of_ble_eq_true rfl) (Nat.le_of_ble_eq_true rfl)
        · skip
          refine g_iconst h (nI 1) dX6_may_247 (by decide) ?_
          refine g_goto h 252 dX6_may_248 (by decide) ?_
          exact g_iret h hr dX6_may_252 (⟨by rw [e0]; exact congrArg (fun q => some (Value.int q)) (v1 c244_7), by rw [e0]; exact ⟨((sup_ne (by omega)).trans r0), ⟨_, ((sup_ne (by omega)).trans r1), e1⟩, ⟨_, ((sup_ne (by omega)).trans r2), e2⟩, ⟨_, ((sup_ne (by omega)).trans r3), e3⟩, ⟨_, ((sup_ne (by omega)).trans r4), e4⟩, ⟨_, ((sup_ne (by omega)).trans r5), e5⟩, ⟨_, ((sup_ne (by omega)).trans r6), e6⟩, ⟨_, ((sup_ne (by omega)).trans r7), e7⟩, ⟨_, ((sup_ne (by omega)).trans r8), e8⟩, ⟨_, ((sup_ne (by omega)).trans r9), e9⟩, ⟨_, ((sup_ne (by omega)).trans r10), e10⟩, ⟨_, ((sup_ne (by omega)).trans r11), e11⟩, ⟨_, ((sup_ne (by omega)).trans r12), e12⟩, ⟨_, ((sup_ne (by omega)).trans r13)⟩, ⟨_, ((sup_ne (by omega)).trans r14)⟩, ⟨_, ((sup_ne (by omega)).trans r15)⟩, ⟨_, ((sup_ne (by omega)).trans r16), e16⟩, ⟨_, sup_eq⟩⟩⟩) (Nat.le_of_ble_eq_true rfl) (Nat.le_of_ble_eq_true rfl)
      · skip
        obtain ⟨i, rfl, rfl⟩ : ∃ i, e = i + 1 ∧ x5 = nI i := by
          rcases hx5 with q | q
          · rw [q.2] at c37_6; exact absurd (by decide) c37_6
          · exact q
        refine g_iload h dX6_may_40 rfl ?_
        refine g_istore (vs' := [_, _, _, _, _, _, _, _]) h dX6_may_42 (Nat.le_of_ble_eq_true rfl) rfl rfl ?_
        refine g_few (vs' := [some (.ref b), some (.int (nI p)), some (.int (nI v)), some (.int (nI (sPn S p))), some (.int (nI (sVn S v))), some (.int (nI i)), some (.int (nI (sVn S v))), none]) ⟨Or.inr rfl, Or.inr rfl, Or.inr rfl, Or.inr rfl, Or.inr rfl, Or.inr rfl, Or.inr rfl, Or.inl rfl, trivial⟩ ?_
        have L44 : ∀ (m0 : Nat) (d : Nat) (x6 : Int32) (g : Nat → Int32), (d ≤ sVn S v + 1) → ((d = 0 ∧ x6 = -1) ∨ ∃ j, d = j + 1 ∧ x6 = nI j) → (∀ a c, (i < a ∧ a ≤ sPn S p ∧ c ≤ sVn S v) ∨ (a = i ∧ d ≤ c ∧ c ≤ sVn S v) → g (41 * a + c) = bI (mtc (sPh S p) (rwV S v) (sPn S p) (sVn S v) a c)) → d < m0 → G X E 8 (AD σ) (QF X E σ (fun o s => o = some (.int (opMay S (nI p) (nI v)).1) ∧ RepM E b (opMay S (nI p) (nI v)).2 s) rm_X6_may) 0 0 44 [some (.ref b), some (.int (nI p)), some (.int (nI v)), some (.int (nI (sPn S p))), some (.int (nI (sVn S v))), some (.int (nI i)), some (.int x6), none] [] (sup σ (b + 17) (cZ E 1681 g)) := by
          intro m0
          induction m0 with
          | zero => intro d x6 g _ _ _ hm0; exact absurd hm0 (Nat.not_lt_zero _)
          | succ m0 ih2 =>
            intro d x6 g hd hx6 hg2 hm0
            refine g_iload h dX6_may_44 rfl ?_
            refine g_if_lt h 232 dX6_may_46 (by decide) (fun c46_8 => ?_) (fun c46_8 => ?_)
            · skip
              have hd0 : d = 0 := by
                rcases hx6 with q | ⟨i, q1, q2⟩
                · exact q.1
                · subst q2; exact absurd c46_8 (nI_pos (by omega))
              subst hd0
              refine g_iinc (vs' := [_, _, _, _, _, _, _, _]) h (nI i + -1) dX6_may_232 rfl rfl (Nat.le_of_ble_eq_true rfl) rfl rfl ?_
              refine g_goto h 35 dX6_may_235 (by decide) ?_
              refine g_few (vs' := [some (.ref b), some (.int (nI p)), some (.int (nI v)), some (.int (nI (sPn S p))), some (.int (nI (sVn S v))), some (.int (nI i + -1)), none, none]) ⟨Or.inr rfl, Or.inr rfl, Or.inr rfl, Or.inr rfl, Or.inr rfl, Or.inr rfl, Or.inl rfl, Or.inl rfl, trivial⟩ ?_
              exact ih i (nI i + -1) g (by omega) (by rcases Nat.eq_zero_or_pos i with e | e; (· subst e; exact Or.inl ⟨rfl, by decide⟩); (· exact Or.inr ⟨i - 1, by omega, nI_dec e⟩)) (fun a h1 h2 c h3 => hg2 a c (by omega)) (by omega)
            · skip
              obtain ⟨j, rfl, rfl⟩ : ∃ i, d = i + 1 ∧ x6 = nI i := by
                rcases hx6 with q | q
                · rw [q.2] at c46_8; exact absurd (by decide) c46_8
                · exact q
              have J211 : ∀ (t7 : Int32), (t7 = bI (mtc (sPh S p) (rwV S v) (sPn S p) (sVn S v) i j)) → G X E 8 (AD σ) (QF X E σ (fun o s => o = some (.int (opMay S (nI p) (nI v)).1) ∧ RepM E b (opMay S (nI p) (nI v)).2 s) rm_X6_may) 0 0 211 [some (.ref b), some (.int (nI p)), some (.int (nI v)), some (.int (nI (sPn S p))), some (.int (nI (sVn S v))), some (.int (nI i)), some (.int (nI j)), some (.int t7)] [] (sup σ (b + 17) (cZ E 1681 g)) := by
                intro t7 h7
                subst h7
                refine g_aload_n h 0 dX6_may_211 rfl rfl ?_
                refine g_get h 19 fa_X6_58 dX6_may_212 ((sup_ne (by omega)).trans r0) rfl ?_
                refine g_bipush h (nI 41) dX6_may_215 (by decide) ?_
                refine g_iload h dX6_may_217 rfl ?_
                refine g_imulN h dX6_may_219 ?_
                refine g_iload h dX6_may_220 rfl ?_
                refine g_iaddN h dX6_may_222 ?_
                refine g_iload h dX6_may_223 rfl ?_
                refine g_zast h dX6_may_225 nw_bI sup_eq (by omega) (by omega) ?_
                refine g_sto sup_sup ?_
                refine g_iinc (vs' := [_, _, _, _, _, _, _, _]) h (nI j + -1) dX6_may_226 rfl rfl (Nat.le_of_ble_eq_true rfl) rfl rfl ?_
                refine g_goto h 44 dX6_may_229 (by decide) ?_
                refine g_few (vs' := [some (.ref b), some (.int (nI p)), some (.int (nI v)), some (.int (nI (sPn S p))), some (.int (nI (sVn S v))), some (.int (nI i)), some (.int (nI j + -1)), none]) ⟨Or.inr rfl, Or.inr rfl, Or.inr rfl, Or.inr rfl, Or.inr rfl, Or.inr rfl, Or.inr rfl, Or.inl rfl, trivial⟩ ?_
                refine ih2 j _ _ (by omega) (by rcases Nat.eq_zero_or_pos j with e | e; (· subst e; exact Or.inl ⟨rfl, by decide⟩); (· exact Or.inr ⟨j - 1, by omega, nI_dec e⟩)) (fun a c q => ?_) (by omega)
                by_cases q1 : a = i ∧ c = j
                · obtain ⟨rfl, rfl⟩ := q1
                  rw [upd_eq9]
                · rw [upd_ne9 (by omega)]
                  exact hg2 a c (by omega)
              have J69 : ∀ (t7 : Int32), (t7 = bI (i = sPn S p ∧ j = sVn S v)) → G X E 8 (AD σ) (QF X E σ (fun o s => o = some (.int (opMay S (nI p) (nI v)).1) ∧ RepM E b (opMay S (nI p) (nI v)).2 s) rm_X6_may) 0 0 69 [some (.ref b), some (.int (nI p)), some (.int (nI v)), some (.int (nI (sPn S p))), some (.int (nI (sVn S v))), some (.int (nI i)), some (.int (nI j)), some (.int t7)] [] (sup σ (b + 17) (cZ E 1681 g)) := by
                intro t7 h7
                subst h7
                refine g_iload h dX6_may_69 rfl ?_
                refine g_iload_n h 3 dX6_may_71 rfl rfl ?_
                refine g_icmp_geN h 144 dX6_may_72 (by decide) (by omega) (by omega) (fun c72_9 => ?_) (fun c72_9 => ?_)
                · skip
                  refine g_iload h dX6_may_144 rfl ?_
                  refine g_iload_n h 3 dX6_may_146 rfl rfl ?_
                  refine g_icmp_geN h 211 dX6_may_147 (by decide) (by omega) (by omega) (fun c147_10 => ?_) (fun c147_10 => absurd c147_10 (by omega))
                  exact J211 _ (bI_iff ⟨fun q => by rw [q.1, mtc_end]; exact q.2, fun q => by have e : i = sPn S p := (by omega); rw [e, mtc_end] at q; exact ⟨e, q⟩⟩)
                · skip
                  refine g_aload_n h 0 dX6_may_75 rfl rfl ?_
                  refine g_get h 2 fa_X6_16 dX6_may_76 ((sup_ne (by omega)).trans r0) rfl ?_
                  refine g_bipush h (nI 40) dX6_may_79 (by decide) ?_
                  refine g_iload_n h 1 dX6_may_81 rfl rfl ?_
                  refine g_imulN h dX6_may_82 ?_
                  refine g_iload h dX6_may_83 rfl ?_
                  refine g_iaddN h dX6_may_85 ?_
                  refine g_iald h dX6_may_86 ((sup_ne (by omega)).trans r3) (by omega) (by omega) ?_
                  refine g_top (y := (sPh S p i)) (e3 p (by omega) i (by omega)) ?_
                  refine g_iconst h (-1) dX6_may_87 (by decide) ?_
                  refine g_icmp_ne h 144 dX6_may_88 (by decide) (fun c88_11 => ?_) (fun c88_11 => ?_)
                  · skip
                    refine g_iload h dX6_may_144 rfl ?_
                    refine g_iload_n h 3 dX6_may_146 rfl rfl ?_
                    refine g_icmp_geN h 211 dX6_may_147 (by decide) (by omega) (by omega) (fun c147_12 => absurd c147_12 (by omega)) (fun c147_12 => ?_)
                    refine g_iload h dX6_may_150 rfl ?_
                    refine g_iload h dX6_may_152 rfl ?_
                    refine g_icmp_geN h 211 dX6_may_154 (by decide) (by omega) (by omega) (fun c154_13 => ?_) (fun c154_13 => ?_)
                    · skip
                      exact J211 _ (bI_iff ⟨fun q => by omega, fun q => by have := ((mtc_line (by omega) c88_11).mp q).1; omega⟩)
                    · skip
                      refine g_aload_n h 0 dX6_may_157 rfl rfl ?_
                      refine g_get h 2 fa_X6_16 dX6_may_158 ((sup_ne (by omega)).trans r0) rfl ?_
                      refine g_bipush h (nI 40) dX6_may_161 (by decide) ?_
                      refine g_iload_n h 1 dX6_may_163 rfl rfl ?_
                      refine g_imulN h dX6_may_164 ?_
                      refine g_iload h dX6_may_165 rfl ?_
                      refine g_iaddN h dX6_may_167 ?_
                      refine g_iald h dX6_may_168 ((sup_ne (by omega)).trans r3) (by omega) (by omega) ?_
                      refine g_top (y := (sPh S p i)) (e3 p (by omega) i (by omega)) ?_
                      refine g_aload_n h 0 dX6_may_169 rfl rfl ?_
                      refine g_get h 0 fa_X6_7 dX6_may_170 ((sup_ne (by omega)).trans r0) rfl ?_
                      refine g_bipush h (nI 40) dX6_may_173 (by decide) ?_
                      refine g_iload_n h 2 dX6_may_175 rfl rfl ?_
                      refine g_imulN h dX6_may_176 ?_
                      refine g_iload h dX6_may_177 rfl ?_
                      refine g_iaddN h dX6_may_179 ?_
                      refine g_iald h dX6_may_180 ((sup_ne (by omega)).trans r1) (by omega) (by omega) ?_
                      refine g_top (y := (rwV S v j)) (e1 v (by omega) j (by omega)) ?_
                      refine g_icmp_ne h 208 dX6_may_181 (by decide) (fun c181_14 => ?_) (fun c181_14 => ?_)
                      · skip
                        refine g_iconst h (nI 0) dX6_may_208 (by decide) ?_
                        refine g_istore (vs' := [_, _, _, _, _, _, _, _]) h dX6_may_209 (Nat.le_of_ble_eq_true rfl) rfl rfl ?_
                        exact J211 _ (v0 (fun q => c181_14 ((mtc_line (by omega) c88_11).mp q).2.1))
                      · skip
                        refine g_aload_n h 0 dX6_may_184 rfl rfl ?_
                        refine g_get h 19 fa_X6_58 dX6_may_185 ((sup_ne (by omega)).trans r0) rfl ?_
                        refine g_bipush h (nI 41) dX6_may_188 (by decide) ?_
                        refine g_iload h dX6_may_190 rfl ?_
                        refine g_iconst h (nI 1) dX6_may_192 (by decide) ?_
                        refine g_iaddN h dX6_may_193 ?_
                        refine g_imulN h dX6_may_194 ?_
                        refine g_iload h dX6_may_195 rfl ?_
                        refine g_iaddN h dX6_may_197 ?_
                        refine g_iconst h (nI 1) dX6_may_198 (by decide) ?_
                        refine g_iaddN h dX6_may_199 ?_
                        refine g_zald h dX6_may_200 sup_eq (by omega) (by omega) ?_
                        refine g_top (y := bI (mtc (sPh S p) (rwV S v) (sPn S p) (sVn S v) (i + 1) (j + 1))) (hg2 (i + 1) (j + 1) (by omega)) ?_
                        refine g_if_eqB h 208 dX6_may_201 (by decide) (fun c201_15 => ?_) (fun c201_15 => ?_)
                        · skip
                          refine g_iconst h (nI 0) dX6_may_208 (by decide) ?_
                          refine g_istore (vs' := [_, _, _, _, _, _, _, _]) h dX6_may_209 (Nat.le_of_ble_eq_true rfl) rfl rfl ?_
                          exact J211 _ (v0 (fun q => c201_15 ((mtc_line (by omega) c88_11).mp q).2.2))
                        · skip
                          refine g_iconst h (nI 1) dX6_may_204 (by decide) ?_
                          refine g_goto h 209 dX6_may_205 (by decide) ?_
                          refine g_istore (vs' := [_, _, _, _, _, _, _, _]) h dX6_may_209 (Nat.le_of_ble_eq_true rfl) rfl rfl ?_
                          exact J211 _ (v1 ((mtc_line (by omega) c88_11).mpr ⟨by omega, c181_14, c201_15⟩))
                  · skip
                    refine g_aload_n h 0 dX6_may_91 rfl rfl ?_
                    refine g_get h 19 fa_X6_58 dX6_may_92 ((sup_ne (by omega)).trans r0) rfl ?_
                    refine g_bipush h (nI 41) dX6_may_95 (by decide) ?_
                    refine g_iload h dX6_may_97 rfl ?_
                    refine g_iconst h (nI 1) dX6_may_99 (by decide) ?_
                    refine g_iaddN h dX6_may_100 ?_
                    refine g_imulN h dX6_may_101 ?_
                    refine g_iload h dX6_may_102 rfl ?_
                    refine g_iaddN h dX6_may_104 ?_
                    refine g_zald h dX6_may_105 sup_eq (by omega) (by omega) ?_
                    refine g_top (y := bI (mtc (sPh S p) (rwV S v) (sPn S p) (sVn S v) (i + 1) j)) (hg2 (i + 1) j (by omega)) ?_
                    refine g_if_neB h 134 dX6_may_106 (by decide) (fun c106_16 => ?_) (fun c106_16 => ?_)
                    · skip
                      refine g_iconst h (nI 1) dX6_may_134 (by decide) ?_
                      refine g_goto h 139 dX6_may_135 (by decide) ?_
                      refine g_istore (vs' := [_, _, _, _, _, _, _, _]) h dX6_may_139 (Nat.le_of_ble_eq_true rfl) rfl rfl ?_
                      refine g_goto h 211 dX6_may_141 (by decide) ?_
                      exact J211 _ (v1 ((mtc_g (by omega) c88_11).mpr (Or.inl c106_16)))
                    · skip
                      refine g_iload h dX6_may_109 rfl ?_
                      refine g_iload h dX6_may_111 rfl ?_
                      refine g_icmp_geN h 138 dX6_may_113 (by decide) (by omega) (by omega) (fun c113_17 => ?_) (fun c113_17 => ?_)
                      · skip
                        refine g_iconst h (nI 0) dX6_may_138 (by decide) ?_
                        refine g_istore (vs' := [_, _, _, _, _, _, _, _]) h dX6_may_139 (Nat.le_of_ble_eq_true rfl) rfl rfl ?_
                        refine g_goto h 211 dX6_may_141 (by decide) ?_
                        exact J211 _ (v0 (fun q => ((mtc_g (by omega) c88_11).mp q).elim c106_16 (fun w => absurd w.1 (by omega))))
                      · skip
                        refine g_aload_n h 0 dX6_may_116 rfl rfl ?_
                        refine g_get h 19 fa_X6_58 dX6_may_117 ((sup_ne (by omega)).trans r0) rfl ?_
                        refine g_bipush h (nI 41) dX6_may_120 (by decide) ?_
                        refine g_iload h dX6_may_122 rfl ?_
                        refine g_imulN h dX6_may_124 ?_
                        refine g_iload h dX6_may_125 rfl ?_
                        refine g_iaddN h dX6_may_127 ?_
                        refine g_iconst h (nI 1) dX6_may_128 (by decide) ?_
                        refine g_iaddN h dX6_may_129 ?_
                        refine g_zald h dX6_may_130 sup_eq (by omega) (by omega) ?_
                        refine g_top (y := bI (mtc (sPh S p) (rwV S v) (sPn S p) (sVn S v) i (j + 1))) (hg2 i (j + 1) (by omega)) ?_
                        refine g_if_eqB h 138 dX6_may_131 (by decide) (fun c131_18 => ?_) (fun c131_18 => ?_)
                        · skip
                          refine g_iconst h (nI 0) dX6_may_138 (by decide) ?_
                          refine g_istore (vs' := [_, _, _, _, _, _, _, _]) h dX6_may_139 (Nat.le_of_ble_eq_true rfl) rfl rfl ?_
                          refine g_goto h 211 dX6_may_141 (by decide) ?_
                          exact J211 _ (v0 (fun q => ((mtc_g (by omega) c88_11).mp q).elim c106_16 (fun w => c131_18 w.2)))
                        · skip
                          refine g_iconst h (nI 1) dX6_may_134 (by decide) ?_
                          refine g_goto h 139 dX6_may_135 (by decide) ?_
                          refine g_istore (vs' := [_, _, _, _, _, _, _, _]) h dX6_may_139 (Nat.le_of_ble_eq_true rfl) rfl rfl ?_
                          refine g_goto h 211 dX6_may_141 (by decide) ?_
                          exact J211 _ (v1 ((mtc_g (by omega) c88_11).mpr (Or.inr ⟨by omega, c131_18⟩)))
              refine g_iload h dX6_may_49 rfl ?_
              refine g_iload_n h 3 dX6_may_51 rfl rfl ?_
              refine g_icmp_neN h 66 dX6_may_52 (by decide) (by omega) (by omega) (fun c52_19 => ?_) (fun c52_19 => ?_)
              · skip
                refine g_iconst h (nI 0) dX6_may_66 (by decide) ?_
                refine g_istore (vs' := [_, _, _, _, _, _, _, _]) h dX6_may_67 (Nat.le_of_ble_eq_true rfl) rfl rfl ?_
                exact J69 _ (v0 (fun q => c52_19 q.1))
              · skip
                refine g_iload h dX6_may_55 rfl ?_
                refine g_iload h dX6_may_57 rfl ?_
                refine g_icmp_neN h 66 dX6_may_59 (by decide) (by omega) (by omega) (fun c59_20 => ?_) (fun c59_20 => ?_)
                · skip
                  refine g_iconst h (nI 0) dX6_may_66 (by decide) ?_
                  refine g_istore (vs' := [_, _, _, _, _, _, _, _]) h dX6_may_67 (Nat.le_of_ble_eq_true rfl) rfl rfl ?_
                  exact J69 _ (v0 (fun q => c59_20 q.2))
                · skip
                  refine g_iconst h (nI 1) dX6_may_62 (by decide) ?_
                  refine g_goto h 67 dX6_may_63 (by decide) ?_
                  refine g_istore (vs' := [_, _, _, _, _, _, _, _]) h dX6_may_67 (Nat.le_of_ble_eq_true rfl) rfl rfl ?_
                  exact J69 _ (v1 ⟨by omega, by omega⟩)
        exact L44 (sVn S v + 2) (sVn S v + 1) (nI (sVn S v)) g (by omega) (Or.inr ⟨sVn S v, rfl, rfl⟩) (fun a c q => hg1 a (by omega) (by omega) c (by omega)) (by omega)
  exact L35 (sPn S p + 2) (sPn S p + 1) (nI (sPn S p)) f17 (by omega) (Or.inr ⟨sPn S p, rfl, rfl⟩) (fun a h1 h2 => by omega) (by omega)
abbrev rm_X6_mark : Room := { frames := 2, cells := 0, slots := 0, locals := 42 }
set_option maxRecDepth 100000 in
set_option maxHeartbeats 4000000 in
theorem D_mark (lau : Launch) (E : EnvD) (σ : Sto) {b : Nat} {S : PSt} (hI : Inv S) (hM : RepM E b S σ) (a1 a2 : Int32) : CC lau yX6_mark cX6_mark 4 (some .int) rm_X6_mark E [.ref b, .int a1, .int a2] σ (fun o s => o = some (.int (opMark S a1 a2).1) ∧ RepM E b (opMark S a1 a2).2 s) := by
  refine cc_of (vs := [_, _, _, _]) (by decide) (Nat.le_of_ble_eq_true rfl) rfl ?_
  intro X h hr hn
  obtain ⟨r0, ⟨f1, r1, e1⟩, ⟨f2, r2, e2⟩, ⟨f3, r3, e3⟩, ⟨f4, r4, e4⟩, ⟨f5, r5, e5⟩, ⟨f6, r6, e6⟩, ⟨f7, r7, e7⟩, ⟨f8, r8, e8⟩, ⟨f9, r9, e9⟩, ⟨f10, r10, e10⟩, ⟨f11, r11, e11⟩, ⟨f12, r12, e12⟩, ⟨f13, r13⟩, ⟨f14, r14⟩, ⟨f15, r15⟩, ⟨f16, r16, e16⟩, ⟨f17, r17⟩⟩ := id hM
  by_cases na1 : ¬ inR a1 100
  · skip
    refine g_iload_n h 1 dX6_mark_0 rfl rfl ?_
    refine g_callS h [] (c_X6_isLine (xL X) E _ a1) cf_X6_70 cs_X6_isLine dX6_mark_1 rfl rfl (Nat.le_of_ble_eq_true rfl) ⟨(Nat.le_of_ble_eq_true rfl), (Nat.le_of_ble_eq_true rfl)⟩ ⟨(Nat.le_of_ble_eq_true rfl), (Nat.le_of_ble_eq_true rfl)⟩ ?_
    refine kk_det ?_
    refine g_if_eqB h 18 dX6_mark_4 (by decide) (fun c4_1 => ?_) (fun c4_1 => absurd c4_1 na1)
    refine g_bipush h (-2) dX6_mark_18 (by decide) ?_
    exact g_iret h hr dX6_mark_20 ((fun e => ⟨by rw [e], by rw [e]; exact hM⟩) (show opMark S a1 a2 = (-2, S) from cif_f (fun q => na1 q.1))) (Nat.le_of_ble_eq_true rfl) (Nat.le_of_ble_eq_true rfl)
  obtain ⟨x, hx9, rfl⟩ := Classical.not_not.mp na1
  have ex9 : cl (nI x) = x := cl_nI (by omega)
  by_cases na2 : ¬ inR a2 256
  · skip
    refine g_iload_n h 1 dX6_mark_0 rfl rfl ?_
    refine g_callS h [] (c_X6_isLine (xL X) E _ (nI x)) cf_X6_70 cs_X6_isLine dX6_mark_1 rfl rfl (Nat.le_of_ble_eq_true rfl) ⟨(Nat.le_of_ble_eq_true rfl), (Nat.le_of_ble_eq_true rfl)⟩ ⟨(Nat.le_of_ble_eq_true rfl), (Nat.le_of_ble_eq_true rfl)⟩ ?_
    refine kk_det ?_
    refine g_if_eqB h 18 dX6_mark_4 (by decide) (fun c4_2 => absurd ⟨x, hx9, rfl⟩ c4_2) (fun c4_2 => ?_)
    refine g_iload_n h 2 dX6_mark_7 rfl rfl ?_
    refine g_iconst h (nI 0) dX6_mark_8 (by decide) ?_
    refine g_sipush h (nI 255) dX6_mark_9 (by decide) ?_
    refine g_callS h [] (c_X6_in (xL X) E _ a2 (nI 0) (nI 255)) cf_X6_62 cs_X6_in dX6_mark_12 rfl rfl (Nat.le_of_ble_eq_true rfl) ⟨(Nat.le_of_ble_eq_true rfl), (Nat.le_of_ble_eq_true rfl)⟩ ⟨(Nat.le_of_ble_eq_true rfl), (Nat.le_of_ble_eq_true rfl)⟩ ?_
    refine kk_det ?_
    refine g_top (y := bI (inR a2 256)) (bI_iff (in_N (by omega))) ?_
    refine g_if_neB h 21 dX6_mark_15 (by decide) (fun c15_3 => absurd c15_3 na2) (fun c15_3 => ?_)
    refine g_bipush h (-2) dX6_mark_18 (by decide) ?_
    exact g_iret h hr dX6_mark_20 ((fun e => ⟨by rw [e], by rw [e]; exact hM⟩) (show opMark S (nI x) a2 = (-2, S) from cif_f (fun q => na2 q.2))) (Nat.le_of_ble_eq_true rfl) (Nat.le_of_ble_eq_true rfl)
  obtain ⟨y, hy9, rfl⟩ := Classical.not_not.mp na2
  have ey9 : cl (nI y) = y := cl_nI (by omega)
  refine g_iload_n h 1 dX6_mark_0 rfl rfl ?_
  refine g_callS h [] (c_X6_isLine (xL X) E _ (nI x)) cf_X6_70 cs_X6_isLine dX6_mark_1 rfl rfl (Nat.le_of_ble_eq_true rfl) ⟨(Nat.le_of_ble_eq_true rfl), (Nat.le_of_ble_eq_true rfl)⟩ ⟨(Nat.le_of_ble_eq_true rfl), (Nat.le_of_ble_eq_true rfl)⟩ ?_
  refine kk_det ?_
  refine g_if_eqB h 18 dX6_mark_4 (by decide) (fun c4_4 => absurd ⟨x, hx9, rfl⟩ c4_4) (fun c4_4 => ?_)
  refine g_iload_n h 2 dX6_mark_7 rfl rfl ?_
  refine g_iconst h (nI 0) dX6_mark_8 (by decide) ?_
  refine g_sipush h (nI 255) dX6_mark_9 (by decide) ?_
  refine g_callS h [] (c_X6_in (xL X) E _ (nI y) (nI 0) (nI 255)) cf_X6_62 cs_X6_in dX6_mark_12 rfl rfl (Nat.le_of_ble_eq_true rfl) ⟨(Nat.le_of_ble_eq_true rfl), (Nat.le_of_ble_eq_true rfl)⟩ ⟨(Nat.le_of_ble_eq_true rfl), (Nat.le_of_ble_eq_true rfl)⟩ ?_
  refine kk_det ?_
  refine g_top (y := bI (inR (nI y) 256)) (bI_iff (in_N (by omega))) ?_
  refine g_if_neB h 21 dX6_mark_15 (by decide) (fun c15_5 => ?_) (fun c15_5 => absurd ⟨y, hy9, rfl⟩ c15_5)
  refine g_aload_n h 0 dX6_mark_21 rfl rfl ?_
  refine g_get h 8 fa_X6_31 dX6_mark_22 r0 rfl ?_
  refine g_iload_n h 1 dX6_mark_25 rfl rfl ?_
  refine g_iald h dX6_mark_26 r8 (by omega) (by omega) ?_
  refine g_top (y := nI (sMk S x)) (e8 x (by omega)) ?_
  refine g_istore_n (vs' := [_, _, _, _]) h 3 dX6_mark_27 rfl (Nat.le_of_ble_eq_true rfl) rfl rfl ?_
  refine g_aload_n h 0 dX6_mark_28 rfl rfl ?_
  refine g_get h 8 fa_X6_31 dX6_mark_29 r0 rfl ?_
  refine g_iload_n h 1 dX6_mark_32 rfl rfl ?_
  refine g_iload_n h 2 dX6_mark_33 rfl rfl ?_
  refine g_iast h dX6_mark_34 r8 (by omega) (by omega) ?_
  refine g_iload_n h 3 dX6_mark_35 rfl rfl ?_
  exact g_iret h hr dX6_mark_36 ((fun e => ⟨by rw [e], by rw [e]; exact ⟨((sup_ne (by omega)).trans r0), ⟨_, ((sup_ne (by omega)).trans r1), e1⟩, ⟨_, ((sup_ne (by omega)).trans r2), e2⟩, ⟨_, ((sup_ne (by omega)).trans r3), e3⟩, ⟨_, ((sup_ne (by omega)).trans r4), e4⟩, ⟨_, ((sup_ne (by omega)).trans r5), e5⟩, ⟨_, ((sup_ne (by omega)).trans r6), e6⟩, ⟨_, ((sup_ne (by omega)).trans r7), e7⟩, ⟨_, sup_eq, m_mrk e8⟩, ⟨_, ((sup_ne (by omega)).trans r9), e9⟩, ⟨_, ((sup_ne (by omega)).trans r10), e10⟩, ⟨_, ((sup_ne (by omega)).trans r11), e11⟩, ⟨_, ((sup_ne (by omega)).trans r12), e12⟩, ⟨_, ((sup_ne (by omega)).trans r13)⟩, ⟨_, ((sup_ne (by omega)).trans r14)⟩, ⟨_, ((sup_ne (by omega)).trans r15)⟩, ⟨_, ((sup_ne (by omega)).trans r16), e16⟩, ⟨_, ((sup_ne (by omega)).trans r17)⟩⟩⟩) (show opMark S (nI x) (nI y) = (nI (sMk S x), setM S x y) from by unfold opMark; rw [cif_t ⟨⟨x, hx9, rfl⟩, ⟨y, hy9, rfl⟩⟩, ex9, ey9])) (Nat.le_of_ble_eq_true rfl) (Nat.le_of_ble_eq_true rfl)
abbrev rm_X6_rule : Room := { frames := 2, cells := 0, slots := 0, locals := 42 }
set_option maxRecDepth 100000 in
set_option maxHeartbeats 4000000 in
theorem D_rule (lau : Launch) (E : EnvD) (σ : Sto) {b : Nat} {S : PSt} (hI : Inv S) (hM : RepM E b S σ) (a1 a2 a3 a4 : Int32) : CC lau yX6_rule cX6_rule 5 (some .int) rm_X6_rule E [.ref b, .int a1, .int a2, .int a3, .int a4] σ (fun o s => o = some (.int (opRule S a1 a2 a3 a4).1) ∧ RepM E b (opRule S a1 a2 a3 a4).2 s) := by
  refine cc_of (vs := [_, _, _, _, _]) (by decide) (Nat.le_of_ble_eq_true rfl) rfl ?_
  intro X h hr hn
  obtain ⟨r0, ⟨f1, r1, e1⟩, ⟨f2, r2, e2⟩, ⟨f3, r3, e3⟩, ⟨f4, r4, e4⟩, ⟨f5, r5, e5⟩, ⟨f6, r6, e6⟩, ⟨f7, r7, e7⟩, ⟨f8, r8, e8⟩, ⟨f9, r9, e9⟩, ⟨f10, r10, e10⟩, ⟨f11, r11, e11⟩, ⟨f12, r12, e12⟩, ⟨f13, r13⟩, ⟨f14, r14⟩, ⟨f15, r15⟩, ⟨f16, r16, e16⟩, ⟨f17, r17⟩⟩ := id hM
  by_cases na1 : ¬ inR a1 8
  · skip
    refine g_iload_n h 1 dX6_rule_0 rfl rfl ?_
    refine g_callS h [] (c_X6_isTown (xL X) E _ a1) cf_X6_95 cs_X6_isTown dX6_rule_1 rfl rfl (Nat.le_of_ble_eq_true rfl) ⟨(Nat.le_of_ble_eq_true rfl), (Nat.le_of_ble_eq_true rfl)⟩ ⟨(Nat.le_of_ble_eq_true rfl), (Nat.le_of_ble_eq_true rfl)⟩ ?_
    refine kk_det ?_
    refine g_if_eqB h 39 dX6_rule_4 (by decide) (fun c4_1 => ?_) (fun c4_1 => absurd c4_1 na1)
    refine g_bipush h (-2) dX6_rule_39 (by decide) ?_
    exact g_iret h hr dX6_rule_41 ((fun e => ⟨by rw [e], by rw [e]; exact hM⟩) (show opRule S a1 a2 a3 a4 = (-2, S) from cif_f (fun q => na1 q.1))) (Nat.le_of_ble_eq_true rfl) (Nat.le_of_ble_eq_true rfl)
  obtain ⟨t, ht9, rfl⟩ := Classical.not_not.mp na1
  have et9 : cl (nI t) = t := cl_nI (by omega)
  have hc20 := hI.2.2.2.2.1.1
  by_cases na2 : ¬ inR a2 256
  · skip
    refine g_iload_n h 1 dX6_rule_0 rfl rfl ?_
    refine g_callS h [] (c_X6_isTown (xL X) E _ (nI t)) cf_X6_95 cs_X6_isTown dX6_rule_1 rfl rfl (Nat.le_of_ble_eq_true rfl) ⟨(Nat.le_of_ble_eq_true rfl), (Nat.le_of_ble_eq_true rfl)⟩ ⟨(Nat.le_of_ble_eq_true rfl), (Nat.le_of_ble_eq_true rfl)⟩ ?_
    refine kk_det ?_
    refine g_if_eqB h 39 dX6_rule_4 (by decide) (fun c4_2 => absurd ⟨t, ht9, rfl⟩ c4_2) (fun c4_2 => ?_)
    refine g_iload_n h 2 dX6_rule_7 rfl rfl ?_
    refine g_iconst h (nI 0) dX6_rule_8 (by decide) ?_
    refine g_sipush h (nI 255) dX6_rule_9 (by decide) ?_
    refine g_callS h [] (c_X6_in (xL X) E _ a2 (nI 0) (nI 255)) cf_X6_62 cs_X6_in dX6_rule_12 rfl rfl (Nat.le_of_ble_eq_true rfl) ⟨(Nat.le_of_ble_eq_true rfl), (Nat.le_of_ble_eq_true rfl)⟩ ⟨(Nat.le_of_ble_eq_true rfl), (Nat.le_of_ble_eq_true rfl)⟩ ?_
    refine kk_det ?_
    refine g_top (y := bI (inR a2 256)) (bI_iff (in_N (by omega))) ?_
    refine g_if_eqB h 39 dX6_rule_15 (by decide) (fun c15_3 => ?_) (fun c15_3 => absurd c15_3 na2)
    refine g_bipush h (-2) dX6_rule_39 (by decide) ?_
    exact g_iret h hr dX6_rule_41 ((fun e => ⟨by rw [e], by rw [e]; exact hM⟩) (show opRule S (nI t) a2 a3 a4 = (-2, S) from cif_f (fun q => na2 q.2.1))) (Nat.le_of_ble_eq_true rfl) (Nat.le_of_ble_eq_true rfl)
  obtain ⟨y, hy9, rfl⟩ := Classical.not_not.mp na2
  have ey9 : cl (nI y) = y := cl_nI (by omega)
  by_cases na3 : ¬ inR a3 1000
  · skip
    refine g_iload_n h 1 dX6_rule_0 rfl rfl ?_
    refine g_callS h [] (c_X6_isTown (xL X) E _ (nI t)) cf_X6_95 cs_X6_isTown dX6_rule_1 rfl rfl (Nat.le_of_ble_eq_true rfl) ⟨(Nat.le_of_ble_eq_true rfl), (Nat.le_of_ble_eq_true rfl)⟩ ⟨(Nat.le_of_ble_eq_true rfl), (Nat.le_of_ble_eq_true rfl)⟩ ?_
    refine kk_det ?_
    refine g_if_eqB h 39 dX6_rule_4 (by decide) (fun c4_4 => absurd ⟨t, ht9, rfl⟩ c4_4) (fun c4_4 => ?_)
    refine g_iload_n h 2 dX6_rule_7 rfl rfl ?_
    refine g_iconst h (nI 0) dX6_rule_8 (by decide) ?_
    refine g_sipush h (nI 255) dX6_rule_9 (by decide) ?_
    refine g_callS h [] (c_X6_in (xL X) E _ (nI y) (nI 0) (nI 255)) cf_X6_62 cs_X6_in dX6_rule_12 rfl rfl (Nat.le_of_ble_eq_true rfl) ⟨(Nat.le_of_ble_eq_true rfl), (Nat.le_of_ble_eq_true rfl)⟩ ⟨(Nat.le_of_ble_eq_true rfl), (Nat.le_of_ble_eq_true rfl)⟩ ?_
    refine kk_det ?_
    refine g_top (y := bI (inR (nI y) 256)) (bI_iff (in_N (by omega))) ?_
    refine g_if_eqB h 39 dX6_rule_15 (by decide) (fun c15_5 => absurd ⟨y, hy9, rfl⟩ c15_5) (fun c15_5 => ?_)
    refine g_iload_n h 3 dX6_rule_18 rfl rfl ?_
    refine g_callS h [] (c_X6_isDay (xL X) E _ a3) cf_X6_98 cs_X6_isDay dX6_rule_19 rfl rfl (Nat.le_of_ble_eq_true rfl) ⟨(Nat.le_of_ble_eq_true rfl), (Nat.le_of_ble_eq_true rfl)⟩ ⟨(Nat.le_of_ble_eq_true rfl), (Nat.le_of_ble_eq_true rfl)⟩ ?_
    refine kk_det ?_
    refine g_if_eqB h 39 dX6_rule_22 (by decide) (fun c22_6 => ?_) (fun c22_6 => absurd c22_6 na3)
    refine g_bipush h (-2) dX6_rule_39 (by decide) ?_
    exact g_iret h hr dX6_rule_41 ((fun e => ⟨by rw [e], by rw [e]; exact hM⟩) (show opRule S (nI t) (nI y) a3 a4 = (-2, S) from cif_f (fun q => na3 q.2.2.1))) (Nat.le_of_ble_eq_true rfl) (Nat.le_of_ble_eq_true rfl)
  obtain ⟨f, hf9, rfl⟩ := Classical.not_not.mp na3
  have ef9 : cl (nI f) = f := cl_nI (by omega)
  by_cases na4 : ¬ inR a4 1000
  · skip
    refine g_iload_n h 1 dX6_rule_0 rfl rfl ?_
    refine g_callS h [] (c_X6_isTown (xL X) E _ (nI t)) cf_X6_95 cs_X6_isTown dX6_rule_1 rfl rfl (Nat.le_of_ble_eq_true rfl) ⟨(Nat.le_of_ble_eq_true rfl), (Nat.le_of_ble_eq_true rfl)⟩ ⟨(Nat.le_of_ble_eq_true rfl), (Nat.le_of_ble_eq_true rfl)⟩ ?_
    refine kk_det ?_
    refine g_if_eqB h 39 dX6_rule_4 (by decide) (fun c4_7 => absurd ⟨t, ht9, rfl⟩ c4_7) (fun c4_7 => ?_)
    refine g_iload_n h 2 dX6_rule_7 rfl rfl ?_
    refine g_iconst h (nI 0) dX6_rule_8 (by decide) ?_
    refine g_sipush h (nI 255) dX6_rule_9 (by decide) ?_
    refine g_callS h [] (c_X6_in (xL X) E _ (nI y) (nI 0) (nI 255)) cf_X6_62 cs_X6_in dX6_rule_12 rfl rfl (Nat.le_of_ble_eq_true rfl) ⟨(Nat.le_of_ble_eq_true rfl), (Nat.le_of_ble_eq_true rfl)⟩ ⟨(Nat.le_of_ble_eq_true rfl), (Nat.le_of_ble_eq_true rfl)⟩ ?_
    refine kk_det ?_
    refine g_top (y := bI (inR (nI y) 256)) (bI_iff (in_N (by omega))) ?_
    refine g_if_eqB h 39 dX6_rule_15 (by decide) (fun c15_8 => absurd ⟨y, hy9, rfl⟩ c15_8) (fun c15_8 => ?_)
    refine g_iload_n h 3 dX6_rule_18 rfl rfl ?_
    refine g_callS h [] (c_X6_isDay (xL X) E _ (nI f)) cf_X6_98 cs_X6_isDay dX6_rule_19 rfl rfl (Nat.le_of_ble_eq_true rfl) ⟨(Nat.le_of_ble_eq_true rfl), (Nat.le_of_ble_eq_true rfl)⟩ ⟨(Nat.le_of_ble_eq_true rfl), (Nat.le_of_ble_eq_true rfl)⟩ ?_
    refine kk_det ?_
    refine g_if_eqB h 39 dX6_rule_22 (by decide) (fun c22_9 => absurd ⟨f, hf9, rfl⟩ c22_9) (fun c22_9 => ?_)
    refine g_iload h dX6_rule_25 rfl ?_
    refine g_callS h [] (c_X6_isDay (xL X) E _ a4) cf_X6_98 cs_X6_isDay dX6_rule_27 rfl rfl (Nat.le_of_ble_eq_true rfl) ⟨(Nat.le_of_ble_eq_true rfl), (Nat.le_of_ble_eq_true rfl)⟩ ⟨(Nat.le_of_ble_eq_true rfl), (Nat.le_of_ble_eq_true rfl)⟩ ?_
    refine kk_det ?_
    refine g_if_eqB h 39 dX6_rule_30 (by decide) (fun c30_10 => ?_) (fun c30_10 => absurd c30_10 na4)
    refine g_bipush h (-2) dX6_rule_39 (by decide) ?_
    exact g_iret h hr dX6_rule_41 ((fun e => ⟨by rw [e], by rw [e]; exact hM⟩) (show opRule S (nI t) (nI y) (nI f) a4 = (-2, S) from cif_f (fun q => na4 q.2.2.2.1))) (Nat.le_of_ble_eq_true rfl) (Nat.le_of_ble_eq_true rfl)
  obtain ⟨o, ho9, rfl⟩ := Classical.not_not.mp na4
  have eo9 : cl (nI o) = o := cl_nI (by omega)
  refine g_iload_n h 1 dX6_rule_0 rfl rfl ?_
  refine g_callS h [] (c_X6_isTown (xL X) E _ (nI t)) cf_X6_95 cs_X6_isTown dX6_rule_1 rfl rfl (Nat.le_of_ble_eq_true rfl) ⟨(Nat.le_of_ble_eq_true rfl), (Nat.le_of_ble_eq_true rfl)⟩ ⟨(Nat.le_of_ble_eq_true rfl), (Nat.le_of_ble_eq_true rfl)⟩ ?_
  refine kk_det ?_
  refine g_if_eqB h 39 dX6_rule_4 (by decide) (fun c4_11 => absurd ⟨t, ht9, rfl⟩ c4_11) (fun c4_11 => ?_)
  refine g_iload_n h 2 dX6_rule_7 rfl rfl ?_
  refine g_iconst h (nI 0) dX6_rule_8 (by decide) ?_
  refine g_sipush h (nI 255) dX6_rule_9 (by decide) ?_
  refine g_callS h [] (c_X6_in (xL X) E _ (nI y) (nI 0) (nI 255)) cf_X6_62 cs_X6_in dX6_rule_12 rfl rfl (Nat.le_of_ble_eq_true rfl) ⟨(Nat.le_of_ble_eq_true rfl), (Nat.le_of_ble_eq_true rfl)⟩ ⟨(Nat.le_of_ble_eq_true rfl), (Nat.le_of_ble_eq_true rfl)⟩ ?_
  refine kk_det ?_
  refine g_top (y := bI (inR (nI y) 256)) (bI_iff (in_N (by omega))) ?_
  refine g_if_eqB h 39 dX6_rule_15 (by decide) (fun c15_12 => absurd ⟨y, hy9, rfl⟩ c15_12) (fun c15_12 => ?_)
  refine g_iload_n h 3 dX6_rule_18 rfl rfl ?_
  refine g_callS h [] (c_X6_isDay (xL X) E _ (nI f)) cf_X6_98 cs_X6_isDay dX6_rule_19 rfl rfl (Nat.le_of_ble_eq_true rfl) ⟨(Nat.le_of_ble_eq_true rfl), (Nat.le_of_ble_eq_true rfl)⟩ ⟨(Nat.le_of_ble_eq_true rfl), (Nat.le_of_ble_eq_true rfl)⟩ ?_
  refine kk_det ?_
  refine g_if_eqB h 39 dX6_rule_22 (by decide) (fun c22_13 => absurd ⟨f, hf9, rfl⟩ c22_13) (fun c22_13 => ?_)
  refine g_iload h dX6_rule_25 rfl ?_
  refine g_callS h [] (c_X6_isDay (xL X) E _ (nI o)) cf_X6_98 cs_X6_isDay dX6_rule_27 rfl rfl (Nat.le_of_ble_eq_true rfl) ⟨(Nat.le_of_ble_eq_true rfl), (Nat.le_of_ble_eq_true rfl)⟩ ⟨(Nat.le_of_ble_eq_true rfl), (Nat.le_of_ble_eq_true rfl)⟩ ?_
  refine kk_det ?_
  refine g_if_eqB h 39 dX6_rule_30 (by decide) (fun c30_14 => absurd ⟨o, ho9, rfl⟩ c30_14) (fun c30_14 => ?_)
  refine g_iload_n h 3 dX6_rule_33 rfl rfl ?_
  refine g_iload h dX6_rule_34 rfl ?_
  refine g_icmp_leN h 42 dX6_rule_36 (by decide) (by omega) (by omega) (fun c36_15 => ?_) (fun c36_15 => ?_)
  · skip
    refine g_aload_n h 0 dX6_rule_42 rfl rfl ?_
    refine g_get h 9 fa_X6_101 dX6_rule_43 r0 rfl ?_
    refine g_bipush h (nI 20) dX6_rule_46 (by decide) ?_
    refine g_icmp_neN h 54 dX6_rule_48 (by decide) (by omega) (by decide) (fun c48_16 => ?_) (fun c48_16 => ?_)
    · skip
      refine g_aload_n h 0 dX6_rule_54 rfl rfl ?_
      refine g_get h 10 fa_X6_34 dX6_rule_55 r0 rfl ?_
      refine g_aload_n h 0 dX6_rule_58 rfl rfl ?_
      refine g_get h 9 fa_X6_101 dX6_rule_59 r0 rfl ?_
      refine g_iload_n h 1 dX6_rule_62 rfl rfl ?_
      refine g_iast h dX6_rule_63 r9 (by omega) (by omega) ?_
      refine g_aload_n h 0 dX6_rule_64 rfl rfl ?_
      refine g_get h 11 fa_X6_37 dX6_rule_65 ((sup_ne (by omega)).trans r0) rfl ?_
      refine g_aload_n h 0 dX6_rule_68 rfl rfl ?_
      refine g_get h 9 fa_X6_101 dX6_rule_69 ((sup_ne (by omega)).trans r0) rfl ?_
      refine g_iload_n h 2 dX6_rule_72 rfl rfl ?_
      refine g_iast h dX6_rule_73 ((sup_ne (by omega)).trans r10) (by omega) (by omega) ?_
      refine g_aload_n h 0 dX6_rule_74 rfl rfl ?_
      refine g_get h 12 fa_X6_40 dX6_rule_75 ((sup_ne (by omega)).trans ((sup_ne (by omega)).trans r0)) rfl ?_
      refine g_aload_n h 0 dX6_rule_78 rfl rfl ?_
      refine g_get h 9 fa_X6_101 dX6_rule_79 ((sup_ne (by omega)).trans ((sup_ne (by omega)).trans r0)) rfl ?_
      refine g_iload_n h 3 dX6_rule_82 rfl rfl ?_
      refine g_iast h dX6_rule_83 ((sup_ne (by omega)).trans ((sup_ne (by omega)).trans r11)) (by omega) (by omega) ?_
      refine g_aload_n h 0 dX6_rule_84 rfl rfl ?_
      refine g_get h 13 fa_X6_43 dX6_rule_85 ((sup_ne (by omega)).trans ((sup_ne (by omega)).trans ((sup_ne (by omega)).trans r0))) rfl ?_
      refine g_aload_n h 0 dX6_rule_88 rfl rfl ?_
      refine g_get h 9 fa_X6_101 dX6_rule_89 ((sup_ne (by omega)).trans ((sup_ne (by omega)).trans ((sup_ne (by omega)).trans r0))) rfl ?_
      refine g_iload h dX6_rule_92 rfl ?_
      refine g_iast h dX6_rule_94 ((sup_ne (by omega)).trans ((sup_ne (by omega)).trans ((sup_ne (by omega)).trans r12))) (by omega) (by omega) ?_
      refine g_aload_n h 0 dX6_rule_95 rfl rfl ?_
      refine g_dup h dX6_rule_96 rfl ?_
      refine g_get h 9 fa_X6_101 dX6_rule_97 ((sup_ne (by omega)).trans ((sup_ne (by omega)).trans ((sup_ne (by omega)).trans ((sup_ne (by omega)).trans r0)))) rfl ?_
      refine g_iconst h (nI 1) dX6_rule_100 (by decide) ?_
      refine g_iaddN h dX6_rule_101 ?_
      refine g_put (fs' := [_, _, _, _, _, _, _, _, _, _, _, _, _, _, _, _, _, _, _, _]) h 9 fp_X6_101 dX6_rule_102 ((sup_ne (by omega)).trans ((sup_ne (by omega)).trans ((sup_ne (by omega)).trans ((sup_ne (by omega)).trans r0)))) (Nat.le_of_ble_eq_true rfl) rfl rfl rfl ?_
      refine g_aload_n h 0 dX6_rule_105 rfl rfl ?_
      refine g_get h 9 fa_X6_101 dX6_rule_106 sup_eq rfl ?_
      refine g_iconst h (nI 1) dX6_rule_109 (by decide) ?_
      refine g_isubN h dX6_rule_110 (by omega) ?_
      exact g_iret h hr dX6_rule_111 ((fun e => ⟨by rw [e]; rfl, by rw [e]; exact ⟨sup_eq, ⟨_, ((sup_ne (by omega)).trans ((sup_ne (by omega)).trans ((sup_ne (by omega)).trans ((sup_ne (by omega)).trans ((sup_ne (by omega)).trans r1))))), e1⟩, ⟨_, ((sup_ne (by omega)).trans ((sup_ne (by omega)).trans ((sup_ne (by omega)).trans ((sup_ne (by omega)).trans ((sup_ne (by omega)).trans r2))))), e2⟩, ⟨_, ((sup_ne (by omega)).trans ((sup_ne (by omega)).trans ((sup_ne (by omega)).trans ((sup_ne (by omega)).trans ((sup_ne (by omega)).trans r3))))), e3⟩, ⟨_, ((sup_ne (by omega)).trans ((sup_ne (by omega)).trans ((sup_ne (by omega)).trans ((sup_ne (by omega)).trans ((sup_ne (by omega)).trans r4))))), e4⟩, ⟨_, ((sup_ne (by omega)).trans ((sup_ne (by omega)).trans ((sup_ne (by omega)).trans ((sup_ne (by omega)).trans ((sup_ne (by omega)).trans r5))))), e5⟩, ⟨_, ((sup_ne (by omega)).trans ((sup_ne (by omega)).trans ((sup_ne (by omega)).trans ((sup_ne (by omega)).trans ((sup_ne (by omega)).trans r6))))), e6⟩, ⟨_, ((sup_ne (by omega)).trans ((sup_ne (by omega)).trans ((sup_ne (by omega)).trans ((sup_ne (by omega)).trans ((sup_ne (by omega)).trans r7))))), e7⟩, ⟨_, ((sup_ne (by omega)).trans ((sup_ne (by omega)).trans ((sup_ne (by omega)).trans ((sup_ne (by omega)).trans ((sup_ne (by omega)).trans r8))))), e8⟩, ⟨_, ((sup_ne (by omega)).trans ((sup_ne (by omega)).trans ((sup_ne (by omega)).trans ((sup_ne (by omega)).trans sup_eq)))), m_add (T := S.2.2.2.2.1.2) (n := S.2.2.2.2.1.1) (t := (t, y, f, o)) (pr := fun q => q.1) e9 rfl⟩, ⟨_, ((sup_ne (by omega)).trans ((sup_ne (by omega)).trans ((sup_ne (by omega)).trans sup_eq))), m_add (T := S.2.2.2.2.1.2) (n := S.2.2.2.2.1.1) (t := (t, y, f, o)) (pr := fun q => q.2.1) e10 rfl⟩, ⟨_, ((sup_ne (by omega)).trans ((sup_ne (by omega)).trans sup_eq)), m_add (T := S.2.2.2.2.1.2) (n := S.2.2.2.2.1.1) (t := (t, y, f, o)) (pr := fun q => q.2.2.1) e11 rfl⟩, ⟨_, ((sup_ne (by omega)).trans sup_eq), m_add (T := S.2.2.2.2.1.2) (n := S.2.2.2.2.1.1) (t := (t, y, f, o)) (pr := fun q => q.2.2.2) e12 rfl⟩, ⟨_, ((sup_ne (by omega)).trans ((sup_ne (by omega)).trans ((sup_ne (by omega)).trans ((sup_ne (by omega)).trans ((sup_ne (by omega)).trans r13)))))⟩, ⟨_, ((sup_ne (by omega)).trans ((sup_ne (by omega)).trans ((sup_ne (by omega)).trans ((sup_ne (by omega)).trans ((sup_ne (by omega)).trans r14)))))⟩, ⟨_, ((sup_ne (by omega)).trans ((sup_ne (by omega)).trans ((sup_ne (by omega)).trans ((sup_ne (by omega)).trans ((sup_ne (by omega)).trans r15)))))⟩, ⟨_, ((sup_ne (by omega)).trans ((sup_ne (by omega)).trans ((sup_ne (by omega)).trans ((sup_ne (by omega)).trans ((sup_ne (by omega)).trans r16))))), e16⟩, ⟨_, ((sup_ne (by omega)).trans ((sup_ne (by omega)).trans ((sup_ne (by omega)).trans ((sup_ne (by omega)).trans ((sup_ne (by omega)).trans r17)))))⟩⟩⟩) (show opRule S (nI t) (nI y) (nI f) (nI o) = (nI (sRn S), addR S t y f o) from by unfold opRule; rw [cif_t ⟨⟨t, ht9, rfl⟩, ⟨y, hy9, rfl⟩, ⟨f, hf9, rfl⟩, ⟨o, ho9, rfl⟩, by rw [ef9, eo9]; exact c36_15⟩, cif_f (by omega), et9, ey9, ef9, eo9])) (Nat.le_of_ble_eq_true rfl) (Nat.le_of_ble_eq_true rfl)
    · skip
      refine g_bipush h (-4) dX6_rule_51 (by decide) ?_
      exact g_iret h hr dX6_rule_53 ((fun e => ⟨by rw [e], by rw [e]; exact hM⟩) (show opRule S (nI t) (nI y) (nI f) (nI o) = (-4, S) from by unfold opRule; rw [cif_t ⟨⟨t, ht9, rfl⟩, ⟨y, hy9, rfl⟩, ⟨f, hf9, rfl⟩, ⟨o, ho9, rfl⟩, by rw [ef9, eo9]; exact c36_15⟩, cif_t (by omega)])) (Nat.le_of_ble_eq_true rfl) (Nat.le_of_ble_eq_true rfl)
  · skip
    refine g_bipush h (-2) dX6_rule_39 (by decide) ?_
    exact g_iret h hr dX6_rule_41 ((fun e => ⟨by rw [e], by rw [e]; exact hM⟩) (show opRule S (nI t) (nI y) (nI f) (nI o) = (-2, S) from cif_f (fun q => absurd c36_15 (Nat.not_lt.mpr (by have w := q.2.2.2.2; rw [ef9, eo9] at w; exact w))))) (Nat.le_of_ble_eq_true rfl) (Nat.le_of_ble_eq_true rfl)
abbrev rm_X6_forbidden : Room := { frames := 0, cells := 0, slots := 0, locals := 0 }
set_option maxRecDepth 100000 in
set_option maxHeartbeats 4000000 in
theorem c_X6_forbidden (lau : Launch) (E : EnvD) (σ : Sto) {b : Nat} {S : PSt} (hI : Inv S) (hM : RepM E b S σ) {t d : Nat} (ht : t < 8) (hd : d < 1000) : CC lau yX6_forbidden cX6_forbidden 5 (some .int) rm_X6_forbidden E [.ref b, .int (nI t), .int (nI d)] σ (fun o s => o = some (.int (nI (fbN S t d (sRn S)))) ∧ s = σ) := by
  refine cc_of (vs := [_, _, _, _, _]) (by decide) (Nat.le_of_ble_eq_true rfl) rfl ?_
  intro X h hr hn
  obtain ⟨r0, ⟨f1, r1, e1⟩, ⟨f2, r2, e2⟩, ⟨f3, r3, e3⟩, ⟨f4, r4, e4⟩, ⟨f5, r5, e5⟩, ⟨f6, r6, e6⟩, ⟨f7, r7, e7⟩, ⟨f8, r8, e8⟩, ⟨f9, r9, e9⟩, ⟨f10, r10, e10⟩, ⟨f11, r11, e11⟩, ⟨f12, r12, e12⟩, ⟨f13, r13⟩, ⟨f14, r14⟩, ⟨f15, r15⟩, ⟨f16, r16, e16⟩, ⟨f17, r17⟩⟩ := id hM
  have hc20 := hI.2.2.2.2.1.1
  refine g_iconst h (nI 0) dX6_forbidden_0 (by decide) ?_
  refine g_istore_n (vs' := [_, _, _, _, _]) h 3 dX6_forbidden_1 rfl (Nat.le_of_ble_eq_true rfl) rfl rfl ?_
  refine g_iconst h (nI 0) dX6_forbidden_2 (by decide) ?_
  refine g_istore (vs' := [_, _, _, _, _]) h dX6_forbidden_3 (Nat.le_of_ble_eq_true rfl) rfl rfl ?_
  have L5 : ∀ (m0 : Nat) (i : Nat) (x3 : Int32), (i ≤ sRn S) → (x3 = nI (fbN S t d i)) → (sRn S - i) < m0 → G X E 5 (AD σ) (QF X E σ (fun o s => o = some (.int (nI (fbN S t d (sRn S)))) ∧ s = σ) rm_X6_forbidden) 0 0 5 [some (.ref b), some (.int (nI t)), some (.int (nI d)), some (.int x3), some (.int (nI i))] [] σ := by
    intro m0
    induction m0 with
    | zero => intro i x3 _ _ hm0; exact absurd hm0 (Nat.not_lt_zero _)
    | succ m0 ih =>
      intro i x3 hi hx hm0
      refine g_iload h dX6_forbidden_5 rfl ?_
      refine g_aload_n h 0 dX6_forbidden_7 rfl rfl ?_
      refine g_get h 9 fa_X6_101 dX6_forbidden_8 r0 rfl ?_
      refine g_icmp_geN h 67 dX6_forbidden_11 (by decide) (by omega) (by omega) (fun c11_1 => ?_) (fun c11_1 => ?_)
      · skip
        obtain rfl : i = sRn S := by omega
        refine g_iload_n h 3 dX6_forbidden_67 rfl rfl ?_
        exact g_iret h hr dX6_forbidden_68 (⟨by rw [hx], rfl⟩) (Nat.le_of_ble_eq_true rfl) (Nat.le_of_ble_eq_true rfl)
      · skip
        obtain ⟨k1, k2, k3, k4⟩ := hI.2.2.2.2.1.2 i (by omega)
        refine g_iload_n h 3 dX6_forbidden_14 rfl rfl ?_
        refine g_aload_n h 0 dX6_forbidden_15 rfl rfl ?_
        refine g_get h 10 fa_X6_34 dX6_forbidden_16 r0 rfl ?_
        refine g_iload h dX6_forbidden_19 rfl ?_
        refine g_iald h dX6_forbidden_21 r9 (by omega) (by omega) ?_
        refine g_top (y := nI (sRt S i)) (e9 i (by omega)) ?_
        refine g_iload_n h 1 dX6_forbidden_22 rfl rfl ?_
        refine g_icmp_neN h 58 dX6_forbidden_23 (by decide) (by omega) (by omega) (fun c23_2 => ?_) (fun c23_2 => ?_)
        · skip
          refine g_iconst h (nI 0) dX6_forbidden_58 (by decide) ?_
          refine g_ior h dX6_forbidden_59 ?_
          refine g_istore_n (vs' := [_, _, _, _, _]) h 3 dX6_forbidden_60 rfl (Nat.le_of_ble_eq_true rfl) rfl rfl ?_
          refine g_iinc (vs' := [_, _, _, _, _]) h (nI (i + 1)) dX6_forbidden_61 rfl (by first | exact nI_1 _ | rfl) (Nat.le_of_ble_eq_true rfl) rfl rfl ?_
          refine g_goto h 5 dX6_forbidden_64 (by decide) ?_
          exact ih (i + 1) _ (by omega) (by rw [hx, nI_or, fbN, cif_f (fun w : inF S i t d => by obtain ⟨w1, w2, w3⟩ := w; omega)]) (by omega)
        · skip
          refine g_iload_n h 2 dX6_forbidden_26 rfl rfl ?_
          refine g_aload_n h 0 dX6_forbidden_27 rfl rfl ?_
          refine g_get h 12 fa_X6_40 dX6_forbidden_28 r0 rfl ?_
          refine g_iload h dX6_forbidden_31 rfl ?_
          refine g_iald h dX6_forbidden_33 r11 (by omega) (by omega) ?_
          refine g_top (y := nI (sRf S i)) (e11 i (by omega)) ?_
          refine g_icmp_ltN h 58 dX6_forbidden_34 (by decide) (by omega) (by omega) (fun c34_3 => ?_) (fun c34_3 => ?_)
          · skip
            refine g_iconst h (nI 0) dX6_forbidden_58 (by decide) ?_
            refine g_ior h dX6_forbidden_59 ?_
            refine g_istore_n (vs' := [_, _, _, _, _]) h 3 dX6_forbidden_60 rfl (Nat.le_of_ble_eq_true rfl) rfl rfl ?_
            refine g_iinc (vs' := [_, _, _, _, _]) h (nI (i + 1)) dX6_forbidden_61 rfl (by first | exact nI_1 _ | rfl) (Nat.le_of_ble_eq_true rfl) rfl rfl ?_
            refine g_goto h 5 dX6_forbidden_64 (by decide) ?_
            exact ih (i + 1) _ (by omega) (by rw [hx, nI_or, fbN, cif_f (fun w : inF S i t d => by obtain ⟨w1, w2, w3⟩ := w; omega)]) (by omega)
          · skip
            refine g_iload_n h 2 dX6_forbidden_37 rfl rfl ?_
            refine g_aload_n h 0 dX6_forbidden_38 rfl rfl ?_
            refine g_get h 13 fa_X6_43 dX6_forbidden_39 r0 rfl ?_
            refine g_iload h dX6_forbidden_42 rfl ?_
            refine g_iald h dX6_forbidden_44 r12 (by omega) (by omega) ?_
            refine g_top (y := nI (sRo S i)) (e12 i (by omega)) ?_
            refine g_icmp_gtN h 58 dX6_forbidden_45 (by decide) (by omega) (by omega) (fun c45_4 => ?_) (fun c45_4 => ?_)
            · skip
              refine g_iconst h (nI 0) dX6_forbidden_58 (by decide) ?_
              refine g_ior h dX6_forbidden_59 ?_
              refine g_istore_n (vs' := [_, _, _, _, _]) h 3 dX6_forbidden_60 rfl (Nat.le_of_ble_eq_true rfl) rfl rfl ?_
              refine g_iinc (vs' := [_, _, _, _, _]) h (nI (i + 1)) dX6_forbidden_61 rfl (by first | exact nI_1 _ | rfl) (Nat.le_of_ble_eq_true rfl) rfl rfl ?_
              refine g_goto h 5 dX6_forbidden_64 (by decide) ?_
              exact ih (i + 1) _ (by omega) (by rw [hx, nI_or, fbN, cif_f (fun w : inF S i t d => by obtain ⟨w1, w2, w3⟩ := w; omega)]) (by omega)
            · skip
              refine g_aload_n h 0 dX6_forbidden_48 rfl rfl ?_
              refine g_get h 11 fa_X6_37 dX6_forbidden_49 r0 rfl ?_
              refine g_iload h dX6_forbidden_52 rfl ?_
              refine g_iald h dX6_forbidden_54 r10 (by omega) (by omega) ?_
              refine g_top (y := nI (sRm S i)) (e10 i (by omega)) ?_
              refine g_goto h 59 dX6_forbidden_55 (by decide) ?_
              refine g_ior h dX6_forbidden_59 ?_
              refine g_istore_n (vs' := [_, _, _, _, _]) h 3 dX6_forbidden_60 rfl (Nat.le_of_ble_eq_true rfl) rfl rfl ?_
              refine g_iinc (vs' := [_, _, _, _, _]) h (nI (i + 1)) dX6_forbidden_61 rfl (by first | exact nI_1 _ | rfl) (Nat.le_of_ble_eq_true rfl) rfl rfl ?_
              refine g_goto h 5 dX6_forbidden_64 (by decide) ?_
              exact ih (i + 1) _ (by omega) (by rw [hx, nI_or, fbN, cif_t (P := inF S i t d) ⟨by omega, by omega, by omega⟩]) (by omega)
  exact L5 (sRn S + 1) 0 _ (by omega) rfl (by omega)
abbrev rm_X6_cutOf : Room := { frames := 1, cells := 0, slots := 0, locals := 24 }
set_option maxRecDepth 100000 in
set_option maxHeartbeats 4000000 in
theorem c_X6_cutOf (lau : Launch) (E : EnvD) (σ : Sto) {b : Nat} {S : PSt} (hI : Inv S) (hM : RepM E b S σ) {v t d : Nat} (hv : v < 8) (ht : t < 8) (hd : d < 1000) : CC lau yX6_cutOf cX6_cutOf 7 (some .int) rm_X6_cutOf E [.ref b, .int (nI v), .int (nI t), .int (nI d)] σ (fun o s => o = some (.int (nI (cutN S v t d))) ∧ s = σ) := by
  refine cc_of (vs := [_, _, _, _, _, _, _]) (by decide) (Nat.le_of_ble_eq_true rfl) rfl ?_
  intro X h hr hn
  obtain ⟨r0, ⟨f1, r1, e1⟩, ⟨f2, r2, e2⟩, ⟨f3, r3, e3⟩, ⟨f4, r4, e4⟩, ⟨f5, r5, e5⟩, ⟨f6, r6, e6⟩, ⟨f7, r7, e7⟩, ⟨f8, r8, e8⟩, ⟨f9, r9, e9⟩, ⟨f10, r10, e10⟩, ⟨f11, r11, e11⟩, ⟨f12, r12, e12⟩, ⟨f13, r13⟩, ⟨f14, r14⟩, ⟨f15, r15⟩, ⟨f16, r16, e16⟩, ⟨f17, r17⟩⟩ := id hM
  obtain ⟨hnv, hlv⟩ := hI.1 v hv
  refine g_aload_n h 0 dX6_cutOf_0 rfl rfl ?_
  refine g_iload_n h 2 dX6_cutOf_1 rfl rfl ?_
  refine g_iload_n h 3 dX6_cutOf_2 rfl rfl ?_
  refine g_callV h [] (c_X6_forbidden (xL X) E _ hI hM (t := t) (d := d) ht hd) cf_X6_104 cv_X6_forbidden dX6_cutOf_3 rfl r0 rfl rfl (Nat.le_of_ble_eq_true rfl) ⟨(Nat.le_of_ble_eq_true rfl), (Nat.le_of_ble_eq_true rfl)⟩ ⟨(Nat.le_of_ble_eq_true rfl), (Nat.le_of_ble_eq_true rfl)⟩ ?_
  refine kk_det ?_
  refine g_istore (vs' := [_, _, _, _, _, _, _]) h dX6_cutOf_6 (Nat.le_of_ble_eq_true rfl) rfl rfl ?_
  refine g_iconst h (nI 0) dX6_cutOf_8 (by decide) ?_
  refine g_istore (vs' := [_, _, _, _, _, _, _]) h dX6_cutOf_9 (Nat.le_of_ble_eq_true rfl) rfl rfl ?_
  refine g_iconst h (nI 0) dX6_cutOf_11 (by decide) ?_
  refine g_istore (vs' := [_, _, _, _, _, _, _]) h dX6_cutOf_12 (Nat.le_of_ble_eq_true rfl) rfl rfl ?_
  have L14 : ∀ (m0 : Nat) (i : Nat) (q : Nat), (i ≤ sVn S v) → (q = cutC S v (fbN S t d (sRn S)) i) → (sVn S v - i) < m0 → G X E 7 (AD σ) (QF X E σ (fun o s => o = some (.int (nI (cutN S v t d))) ∧ s = σ) rm_X6_cutOf) 0 0 14 [some (.ref b), some (.int (nI v)), some (.int (nI t)), some (.int (nI d)), some (.int (nI (fbN S t d (sRn S)))), some (.int (nI q)), some (.int (nI i))] [] σ := by
    intro m0
    induction m0 with
    | zero => intro i q _ _ hm0; exact absurd hm0 (Nat.not_lt_zero _)
    | succ m0 ih =>
      intro i q hi hq hm0
      have cc9 := cutC_le (S := S) (v := v) (fb := (fbN S t d (sRn S))) i
      refine g_iload h dX6_cutOf_14 rfl ?_
      refine g_aload_n h 0 dX6_cutOf_16 rfl rfl ?_
      refine g_get h 1 fa_X6_13 dX6_cutOf_17 r0 rfl ?_
      refine g_iload_n h 1 dX6_cutOf_20 rfl rfl ?_
      refine g_iald h dX6_cutOf_21 r2 (by omega) (by omega) ?_
      refine g_top (y := nI (sVn S v)) (e2 v (by omega)) ?_
      refine g_icmp_geN h 64 dX6_cutOf_22 (by decide) (by omega) (by omega) (fun c22_1 => ?_) (fun c22_1 => ?_)
      · skip
        obtain rfl : i = sVn S v := by omega
        refine g_iload h dX6_cutOf_64 rfl ?_
        exact g_iret h hr dX6_cutOf_66 (⟨by rw [hq]; rfl, rfl⟩) (Nat.le_of_ble_eq_true rfl) (Nat.le_of_ble_eq_true rfl)
      · skip
        have hx9 := hlv i (by omega)
        have hm9 := hI.2.2.2.1 _ hx9
        refine g_iload h dX6_cutOf_25 rfl ?_
        refine g_aload_n h 0 dX6_cutOf_27 rfl rfl ?_
        refine g_get h 8 fa_X6_31 dX6_cutOf_28 r0 rfl ?_
        refine g_aload_n h 0 dX6_cutOf_31 rfl rfl ?_
        refine g_get h 0 fa_X6_7 dX6_cutOf_32 r0 rfl ?_
        refine g_bipush h (nI 40) dX6_cutOf_35 (by decide) ?_
        refine g_iload_n h 1 dX6_cutOf_37 rfl rfl ?_
        refine g_imulN h dX6_cutOf_38 ?_
        refine g_iload h dX6_cutOf_39 rfl ?_
        refine g_iaddN h dX6_cutOf_41 ?_
        refine g_iald h dX6_cutOf_42 r1 (by omega) (by omega) ?_
        refine g_top (y := nI (sVl S v i)) (e1 v (by omega) i (by omega)) ?_
        refine g_iald h dX6_cutOf_43 r8 (by omega) (by omega) ?_
        refine g_top (y := nI (sMk S (sVl S v i))) (e8 (sVl S v i) (by omega)) ?_
        refine g_iload h dX6_cutOf_44 rfl ?_
        refine g_iand h dX6_cutOf_46 ?_
        refine g_top (y := nI (sMk S (sVl S v i) &&& (fbN S t d (sRn S)))) (nI_and _ _) ?_
        have hand := Nat.and_le_left (n := sMk S (sVl S v i)) (m := (fbN S t d (sRn S)))
        refine g_if_eqN h 54 dX6_cutOf_47 (by decide) (by omega) (fun c47_2 => ?_) (fun c47_2 => ?_)
        · skip
          refine g_iconst h (nI 0) dX6_cutOf_54 (by decide) ?_
          refine g_iaddN h dX6_cutOf_55 ?_
          refine g_istore (vs' := [_, _, _, _, _, _, _]) h dX6_cutOf_56 (Nat.le_of_ble_eq_true rfl) rfl rfl ?_
          refine g_iinc (vs' := [_, _, _, _, _, _, _]) h (nI (i + 1)) dX6_cutOf_58 rfl (by first | exact nI_1 _ | rfl) (Nat.le_of_ble_eq_true rfl) rfl rfl ?_
          refine g_goto h 14 dX6_cutOf_61 (by decide) ?_
          exact ih (i + 1) _ (by omega) (by rw [hq, cutC, if_pos c47_2]) (by omega)
        · skip
          refine g_iconst h (nI 1) dX6_cutOf_50 (by decide) ?_
          refine g_goto h 55 dX6_cutOf_51 (by decide) ?_
          refine g_iaddN h dX6_cutOf_55 ?_
          refine g_istore (vs' := [_, _, _, _, _, _, _]) h dX6_cutOf_56 (Nat.le_of_ble_eq_true rfl) rfl rfl ?_
          refine g_iinc (vs' := [_, _, _, _, _, _, _]) h (nI (i + 1)) dX6_cutOf_58 rfl (by first | exact nI_1 _ | rfl) (Nat.le_of_ble_eq_true rfl) rfl rfl ?_
          refine g_goto h 14 dX6_cutOf_61 (by decide) ?_
          exact ih (i + 1) _ (by omega) (by rw [hq, cutC, if_neg (Nat.ne_of_gt c47_2)]) (by omega)
  exact L14 (sVn S v + 1) 0 0 (by omega) rfl (by omega)
abbrev rm_X6_cut : Room := { frames := 2, cells := 0, slots := 0, locals := 50 }
set_option maxRecDepth 100000 in
set_option maxHeartbeats 4000000 in
theorem D_cut (lau : Launch) (E : EnvD) (σ : Sto) {b : Nat} {S : PSt} (hI : Inv S) (hM : RepM E b S σ) (a1 a2 a3 : Int32) : CC lau yX6_cut cX6_cut 4 (some .int) rm_X6_cut E [.ref b, .int a1, .int a2, .int a3] σ (fun o s => o = some (.int (opCut S a1 a2 a3).1) ∧ RepM E b (opCut S a1 a2 a3).2 s) := by
  refine cc_of (vs := [_, _, _, _]) (by decide) (Nat.le_of_ble_eq_true rfl) rfl ?_
  intro X h hr hn
  obtain ⟨r0, ⟨f1, r1, e1⟩, ⟨f2, r2, e2⟩, ⟨f3, r3, e3⟩, ⟨f4, r4, e4⟩, ⟨f5, r5, e5⟩, ⟨f6, r6, e6⟩, ⟨f7, r7, e7⟩, ⟨f8, r8, e8⟩, ⟨f9, r9, e9⟩, ⟨f10, r10, e10⟩, ⟨f11, r11, e11⟩, ⟨f12, r12, e12⟩, ⟨f13, r13⟩, ⟨f14, r14⟩, ⟨f15, r15⟩, ⟨f16, r16, e16⟩, ⟨f17, r17⟩⟩ := id hM
  by_cases na1 : ¬ inR a1 8
  · skip
    refine g_iload_n h 1 dX6_cut_0 rfl rfl ?_
    refine g_callS h [] (c_X6_isVersion (xL X) E _ a1) cf_X6_66 cs_X6_isVersion dX6_cut_1 rfl rfl (Nat.le_of_ble_eq_true rfl) ⟨(Nat.le_of_ble_eq_true rfl), (Nat.le_of_ble_eq_true rfl)⟩ ⟨(Nat.le_of_ble_eq_true rfl), (Nat.le_of_ble_eq_true rfl)⟩ ?_
    refine kk_det ?_
    refine g_if_eqB h 31 dX6_cut_4 (by decide) (fun c4_1 => ?_) (fun c4_1 => absurd c4_1 na1)
    refine g_bipush h (-2) dX6_cut_31 (by decide) ?_
    exact g_iret h hr dX6_cut_33 ((fun e => ⟨by rw [e], by rw [e]; exact hM⟩) (show opCut S a1 a2 a3 = (-2, S) from by unfold opCut; rw [cif_f (fun q => na1 q.1)])) (Nat.le_of_ble_eq_true rfl) (Nat.le_of_ble_eq_true rfl)
  obtain ⟨v, hv9, rfl⟩ := Classical.not_not.mp na1
  have ev9 : cl (nI v) = v := cl_nI (by omega)
  by_cases na2 : ¬ inR a2 8
  · skip
    refine g_iload_n h 1 dX6_cut_0 rfl rfl ?_
    refine g_callS h [] (c_X6_isVersion (xL X) E _ (nI v)) cf_X6_66 cs_X6_isVersion dX6_cut_1 rfl rfl (Nat.le_of_ble_eq_true rfl) ⟨(Nat.le_of_ble_eq_true rfl), (Nat.le_of_ble_eq_true rfl)⟩ ⟨(Nat.le_of_ble_eq_true rfl), (Nat.le_of_ble_eq_true rfl)⟩ ?_
    refine kk_det ?_
    refine g_if_eqB h 31 dX6_cut_4 (by decide) (fun c4_2 => absurd ⟨v, hv9, rfl⟩ c4_2) (fun c4_2 => ?_)
    refine g_iload_n h 2 dX6_cut_7 rfl rfl ?_
    refine g_callS h [] (c_X6_isTown (xL X) E _ a2) cf_X6_95 cs_X6_isTown dX6_cut_8 rfl rfl (Nat.le_of_ble_eq_true rfl) ⟨(Nat.le_of_ble_eq_true rfl), (Nat.le_of_ble_eq_true rfl)⟩ ⟨(Nat.le_of_ble_eq_true rfl), (Nat.le_of_ble_eq_true rfl)⟩ ?_
    refine kk_det ?_
    refine g_if_eqB h 31 dX6_cut_11 (by decide) (fun c11_3 => ?_) (fun c11_3 => absurd c11_3 na2)
    refine g_bipush h (-2) dX6_cut_31 (by decide) ?_
    exact g_iret h hr dX6_cut_33 ((fun e => ⟨by rw [e], by rw [e]; exact hM⟩) (show opCut S (nI v) a2 a3 = (-2, S) from by unfold opCut; rw [cif_f (fun q => na2 q.2.1)])) (Nat.le_of_ble_eq_true rfl) (Nat.le_of_ble_eq_true rfl)
  obtain ⟨t, ht9, rfl⟩ := Classical.not_not.mp na2
  have et9 : cl (nI t) = t := cl_nI (by omega)
  by_cases na3 : ¬ inR a3 1000
  · skip
    refine g_iload_n h 1 dX6_cut_0 rfl rfl ?_
    refine g_callS h [] (c_X6_isVersion (xL X) E _ (nI v)) cf_X6_66 cs_X6_isVersion dX6_cut_1 rfl rfl (Nat.le_of_ble_eq_true rfl) ⟨(Nat.le_of_ble_eq_true rfl), (Nat.le_of_ble_eq_true rfl)⟩ ⟨(Nat.le_of_ble_eq_true rfl), (Nat.le_of_ble_eq_true rfl)⟩ ?_
    refine kk_det ?_
    refine g_if_eqB h 31 dX6_cut_4 (by decide) (fun c4_4 => absurd ⟨v, hv9, rfl⟩ c4_4) (fun c4_4 => ?_)
    refine g_iload_n h 2 dX6_cut_7 rfl rfl ?_
    refine g_callS h [] (c_X6_isTown (xL X) E _ (nI t)) cf_X6_95 cs_X6_isTown dX6_cut_8 rfl rfl (Nat.le_of_ble_eq_true rfl) ⟨(Nat.le_of_ble_eq_true rfl), (Nat.le_of_ble_eq_true rfl)⟩ ⟨(Nat.le_of_ble_eq_true rfl), (Nat.le_of_ble_eq_true rfl)⟩ ?_
    refine kk_det ?_
    refine g_if_eqB h 31 dX6_cut_11 (by decide) (fun c11_5 => absurd ⟨t, ht9, rfl⟩ c11_5) (fun c11_5 => ?_)
    refine g_iload_n h 3 dX6_cut_14 rfl rfl ?_
    refine g_callS h [] (c_X6_isDay (xL X) E _ a3) cf_X6_98 cs_X6_isDay dX6_cut_15 rfl rfl (Nat.le_of_ble_eq_true rfl) ⟨(Nat.le_of_ble_eq_true rfl), (Nat.le_of_ble_eq_true rfl)⟩ ⟨(Nat.le_of_ble_eq_true rfl), (Nat.le_of_ble_eq_true rfl)⟩ ?_
    refine kk_det ?_
    refine g_if_eqB h 31 dX6_cut_18 (by decide) (fun c18_6 => ?_) (fun c18_6 => absurd c18_6 na3)
    refine g_bipush h (-2) dX6_cut_31 (by decide) ?_
    exact g_iret h hr dX6_cut_33 ((fun e => ⟨by rw [e], by rw [e]; exact hM⟩) (show opCut S (nI v) (nI t) a3 = (-2, S) from by unfold opCut; rw [cif_f (fun q => na3 q.2.2)])) (Nat.le_of_ble_eq_true rfl) (Nat.le_of_ble_eq_true rfl)
  obtain ⟨d, hd9, rfl⟩ := Classical.not_not.mp na3
  have ed9 : cl (nI d) = d := cl_nI (by omega)
  refine g_iload_n h 1 dX6_cut_0 rfl rfl ?_
  refine g_callS h [] (c_X6_isVersion (xL X) E _ (nI v)) cf_X6_66 cs_X6_isVersion dX6_cut_1 rfl rfl (Nat.le_of_ble_eq_true rfl) ⟨(Nat.le_of_ble_eq_true rfl), (Nat.le_of_ble_eq_true rfl)⟩ ⟨(Nat.le_of_ble_eq_true rfl), (Nat.le_of_ble_eq_true rfl)⟩ ?_
  refine kk_det ?_
  refine g_if_eqB h 31 dX6_cut_4 (by decide) (fun c4_7 => absurd ⟨v, hv9, rfl⟩ c4_7) (fun c4_7 => ?_)
  refine g_iload_n h 2 dX6_cut_7 rfl rfl ?_
  refine g_callS h [] (c_X6_isTown (xL X) E _ (nI t)) cf_X6_95 cs_X6_isTown dX6_cut_8 rfl rfl (Nat.le_of_ble_eq_true rfl) ⟨(Nat.le_of_ble_eq_true rfl), (Nat.le_of_ble_eq_true rfl)⟩ ⟨(Nat.le_of_ble_eq_true rfl), (Nat.le_of_ble_eq_true rfl)⟩ ?_
  refine kk_det ?_
  refine g_if_eqB h 31 dX6_cut_11 (by decide) (fun c11_8 => absurd ⟨t, ht9, rfl⟩ c11_8) (fun c11_8 => ?_)
  refine g_iload_n h 3 dX6_cut_14 rfl rfl ?_
  refine g_callS h [] (c_X6_isDay (xL X) E _ (nI d)) cf_X6_98 cs_X6_isDay dX6_cut_15 rfl rfl (Nat.le_of_ble_eq_true rfl) ⟨(Nat.le_of_ble_eq_true rfl), (Nat.le_of_ble_eq_true rfl)⟩ ⟨(Nat.le_of_ble_eq_true rfl), (Nat.le_of_ble_eq_true rfl)⟩ ?_
  refine kk_det ?_
  refine g_if_eqB h 31 dX6_cut_18 (by decide) (fun c18_9 => absurd ⟨d, hd9, rfl⟩ c18_9) (fun c18_9 => ?_)
  refine g_aload_n h 0 dX6_cut_21 rfl rfl ?_
  refine g_iload_n h 1 dX6_cut_22 rfl rfl ?_
  refine g_iload_n h 2 dX6_cut_23 rfl rfl ?_
  refine g_iload_n h 3 dX6_cut_24 rfl rfl ?_
  refine g_callV h [] (c_X6_cutOf (xL X) E _ hI hM (v := v) (t := t) (d := d) hv9 ht9 hd9) cf_X6_107 cv_X6_cutOf dX6_cut_25 rfl r0 rfl rfl (Nat.le_of_ble_eq_true rfl) ⟨(Nat.le_of_ble_eq_true rfl), (Nat.le_of_ble_eq_true rfl)⟩ ⟨(Nat.le_of_ble_eq_true rfl), (Nat.le_of_ble_eq_true rfl)⟩ ?_
  refine kk_det ?_
  refine g_goto h 33 dX6_cut_28 (by decide) ?_
  exact g_iret h hr dX6_cut_33 ((fun e => ⟨by rw [e], by rw [e]; exact hM⟩) (show opCut S (nI v) (nI t) (nI d) = (nI (cutN S v t d), S) from by unfold opCut; rw [cif_t ⟨⟨v, hv9, rfl⟩, ⟨t, ht9, rfl⟩, ⟨d, hd9, rfl⟩⟩, ev9, et9, ed9])) (Nat.le_of_ble_eq_true rfl) (Nat.le_of_ble_eq_true rfl)
abbrev rm_X6_fit : Room := { frames := 2, cells := 0, slots := 0, locals := 42 }
set_option maxRecDepth 100000 in
set_option maxHeartbeats 4000000 in
theorem D_fit (lau : Launch) (E : EnvD) (σ : Sto) {b : Nat} {S : PSt} (hI : Inv S) (hM : RepM E b S σ) (a1 a2 a3 a4 : Int32) : CC lau yX6_fit cX6_fit 10 (some .int) rm_X6_fit E [.ref b, .int a1, .int a2, .int a3, .int a4] σ (fun o s => o = some (.int (opFit S a1 a2 a3 a4).1) ∧ RepM E b (opFit S a1 a2 a3 a4).2 s) := by
  refine cc_of (vs := [_, _, _, _, _, _, _, _, _, _]) (by decide) (Nat.le_of_ble_eq_true rfl) rfl ?_
  intro X h hr hn
  obtain ⟨r0, ⟨f1, r1, e1⟩, ⟨f2, r2, e2⟩, ⟨f3, r3, e3⟩, ⟨f4, r4, e4⟩, ⟨f5, r5, e5⟩, ⟨f6, r6, e6⟩, ⟨f7, r7, e7⟩, ⟨f8, r8, e8⟩, ⟨f9, r9, e9⟩, ⟨f10, r10, e10⟩, ⟨f11, r11, e11⟩, ⟨f12, r12, e12⟩, ⟨f13, r13⟩, ⟨f14, r14⟩, ⟨f15, r15⟩, ⟨f16, r16, e16⟩, ⟨f17, r17⟩⟩ := id hM
  by_cases na1 : ¬ inR a1 8
  · skip
    refine g_iload_n h 1 dX6_fit_0 rfl rfl ?_
    refine g_callS h [] (c_X6_isVersion (xL X) E _ a1) cf_X6_66 cs_X6_isVersion dX6_fit_1 rfl rfl (Nat.le_of_ble_eq_true rfl) ⟨(Nat.le_of_ble_eq_true rfl), (Nat.le_of_ble_eq_true rfl)⟩ ⟨(Nat.le_of_ble_eq_true rfl), (Nat.le_of_ble_eq_true rfl)⟩ ?_
    refine kk_det ?_
    refine g_if_eqB h 29 dX6_fit_4 (by decide) (fun c4_1 => ?_) (fun c4_1 => absurd c4_1 na1)
    refine g_bipush h (-2) dX6_fit_29 (by decide) ?_
    exact g_iret h hr dX6_fit_31 ((fun e => ⟨by rw [e], by rw [e]; exact hM⟩) (show opFit S a1 a2 a3 a4 = (-2, S) from cif_f (fun q => na1 q.1))) (Nat.le_of_ble_eq_true rfl) (Nat.le_of_ble_eq_true rfl)
  obtain ⟨v, hv9, rfl⟩ := Classical.not_not.mp na1
  have ev9 : cl (nI v) = v := cl_nI (by omega)
  obtain ⟨hnv, hlv⟩ := hI.1 v hv9
  by_cases na2 : ¬ inR a2 8
  · skip
    refine g_iload_n h 1 dX6_fit_0 rfl rfl ?_
    refine g_callS h [] (c_X6_isVersion (xL X) E _ (nI v)) cf_X6_66 cs_X6_isVersion dX6_fit_1 rfl rfl (Nat.le_of_ble_eq_true rfl) ⟨(Nat.le_of_ble_eq_true rfl), (Nat.le_of_ble_eq_true rfl)⟩ ⟨(Nat.le_of_ble_eq_true rfl), (Nat.le_of_ble_eq_true rfl)⟩ ?_
    refine kk_det ?_
    refine g_if_eqB h 29 dX6_fit_4 (by decide) (fun c4_2 => absurd ⟨v, hv9, rfl⟩ c4_2) (fun c4_2 => ?_)
    refine g_iload_n h 2 dX6_fit_7 rfl rfl ?_
    refine g_callS h [] (c_X6_isTown (xL X) E _ a2) cf_X6_95 cs_X6_isTown dX6_fit_8 rfl rfl (Nat.le_of_ble_eq_true rfl) ⟨(Nat.le_of_ble_eq_true rfl), (Nat.le_of_ble_eq_true rfl)⟩ ⟨(Nat.le_of_ble_eq_true rfl), (Nat.le_of_ble_eq_true rfl)⟩ ?_
    refine kk_det ?_
    refine g_if_eqB h 29 dX6_fit_11 (by decide) (fun c11_3 => ?_) (fun c11_3 => absurd c11_3 na2)
    refine g_bipush h (-2) dX6_fit_29 (by decide) ?_
    exact g_iret h hr dX6_fit_31 ((fun e => ⟨by rw [e], by rw [e]; exact hM⟩) (show opFit S (nI v) a2 a3 a4 = (-2, S) from cif_f (fun q => na2 q.2.1))) (Nat.le_of_ble_eq_true rfl) (Nat.le_of_ble_eq_true rfl)
  obtain ⟨t, ht9, rfl⟩ := Classical.not_not.mp na2
  have et9 : cl (nI t) = t := cl_nI (by omega)
  by_cases na3 : ¬ inR a3 1000
  · skip
    refine g_iload_n h 1 dX6_fit_0 rfl rfl ?_
    refine g_callS h [] (c_X6_isVersion (xL X) E _ (nI v)) cf_X6_66 cs_X6_isVersion dX6_fit_1 rfl rfl (Nat.le_of_ble_eq_true rfl) ⟨(Nat.le_of_ble_eq_true rfl), (Nat.le_of_ble_eq_true rfl)⟩ ⟨(Nat.le_of_ble_eq_true rfl), (Nat.le_of_ble_eq_true rfl)⟩ ?_
    refine kk_det ?_
    refine g_if_eqB h 29 dX6_fit_4 (by decide) (fun c4_4 => absurd ⟨v, hv9, rfl⟩ c4_4) (fun c4_4 => ?_)
    refine g_iload_n h 2 dX6_fit_7 rfl rfl ?_
    refine g_callS h [] (c_X6_isTown (xL X) E _ (nI t)) cf_X6_95 cs_X6_isTown dX6_fit_8 rfl rfl (Nat.le_of_ble_eq_true rfl) ⟨(Nat.le_of_ble_eq_true rfl), (Nat.le_of_ble_eq_true rfl)⟩ ⟨(Nat.le_of_ble_eq_true rfl), (Nat.le_of_ble_eq_true rfl)⟩ ?_
    refine kk_det ?_
    refine g_if_eqB h 29 dX6_fit_11 (by decide) (fun c11_5 => absurd ⟨t, ht9, rfl⟩ c11_5) (fun c11_5 => ?_)
    refine g_iload_n h 3 dX6_fit_14 rfl rfl ?_
    refine g_callS h [] (c_X6_isDay (xL X) E _ a3) cf_X6_98 cs_X6_isDay dX6_fit_15 rfl rfl (Nat.le_of_ble_eq_true rfl) ⟨(Nat.le_of_ble_eq_true rfl), (Nat.le_of_ble_eq_true rfl)⟩ ⟨(Nat.le_of_ble_eq_true rfl), (Nat.le_of_ble_eq_true rfl)⟩ ?_
    refine kk_det ?_
    refine g_if_eqB h 29 dX6_fit_18 (by decide) (fun c18_6 => ?_) (fun c18_6 => absurd c18_6 na3)
    refine g_bipush h (-2) dX6_fit_29 (by decide) ?_
    exact g_iret h hr dX6_fit_31 ((fun e => ⟨by rw [e], by rw [e]; exact hM⟩) (show opFit S (nI v) (nI t) a3 a4 = (-2, S) from cif_f (fun q => na3 q.2.2.1))) (Nat.le_of_ble_eq_true rfl) (Nat.le_of_ble_eq_true rfl)
  obtain ⟨d, hd9, rfl⟩ := Classical.not_not.mp na3
  have ed9 : cl (nI d) = d := cl_nI (by omega)
  by_cases na4 : ¬ inR a4 8
  · skip
    refine g_iload_n h 1 dX6_fit_0 rfl rfl ?_
    refine g_callS h [] (c_X6_isVersion (xL X) E _ (nI v)) cf_X6_66 cs_X6_isVersion dX6_fit_1 rfl rfl (Nat.le_of_ble_eq_true rfl) ⟨(Nat.le_of_ble_eq_true rfl), (Nat.le_of_ble_eq_true rfl)⟩ ⟨(Nat.le_of_ble_eq_true rfl), (Nat.le_of_ble_eq_true rfl)⟩ ?_
    refine kk_det ?_
    refine g_if_eqB h 29 dX6_fit_4 (by decide) (fun c4_7 => absurd ⟨v, hv9, rfl⟩ c4_7) (fun c4_7 => ?_)
    refine g_iload_n h 2 dX6_fit_7 rfl rfl ?_
    refine g_callS h [] (c_X6_isTown (xL X) E _ (nI t)) cf_X6_95 cs_X6_isTown dX6_fit_8 rfl rfl (Nat.le_of_ble_eq_true rfl) ⟨(Nat.le_of_ble_eq_true rfl), (Nat.le_of_ble_eq_true rfl)⟩ ⟨(Nat.le_of_ble_eq_true rfl), (Nat.le_of_ble_eq_true rfl)⟩ ?_
    refine kk_det ?_
    refine g_if_eqB h 29 dX6_fit_11 (by decide) (fun c11_8 => absurd ⟨t, ht9, rfl⟩ c11_8) (fun c11_8 => ?_)
    refine g_iload_n h 3 dX6_fit_14 rfl rfl ?_
    refine g_callS h [] (c_X6_isDay (xL X) E _ (nI d)) cf_X6_98 cs_X6_isDay dX6_fit_15 rfl rfl (Nat.le_of_ble_eq_true rfl) ⟨(Nat.le_of_ble_eq_true rfl), (Nat.le_of_ble_eq_true rfl)⟩ ⟨(Nat.le_of_ble_eq_true rfl), (Nat.le_of_ble_eq_true rfl)⟩ ?_
    refine kk_det ?_
    refine g_if_eqB h 29 dX6_fit_18 (by decide) (fun c18_9 => absurd ⟨d, hd9, rfl⟩ c18_9) (fun c18_9 => ?_)
    refine g_iload h dX6_fit_21 rfl ?_
    refine g_callS h [] (c_X6_isVersion (xL X) E _ a4) cf_X6_66 cs_X6_isVersion dX6_fit_23 rfl rfl (Nat.le_of_ble_eq_true rfl) ⟨(Nat.le_of_ble_eq_true rfl), (Nat.le_of_ble_eq_true rfl)⟩ ⟨(Nat.le_of_ble_eq_true rfl), (Nat.le_of_ble_eq_true rfl)⟩ ?_
    refine kk_det ?_
    refine g_if_neB h 32 dX6_fit_26 (by decide) (fun c26_10 => absurd c26_10 na4) (fun c26_10 => ?_)
    refine g_bipush h (-2) dX6_fit_29 (by decide) ?_
    exact g_iret h hr dX6_fit_31 ((fun e => ⟨by rw [e], by rw [e]; exact hM⟩) (show opFit S (nI v) (nI t) (nI d) a4 = (-2, S) from cif_f (fun q => na4 q.2.2.2))) (Nat.le_of_ble_eq_true rfl) (Nat.le_of_ble_eq_true rfl)
  obtain ⟨u, hu9, rfl⟩ := Classical.not_not.mp na4
  have eu9 : cl (nI u) = u := cl_nI (by omega)
  refine g_iload_n h 1 dX6_fit_0 rfl rfl ?_
  refine g_callS h [] (c_X6_isVersion (xL X) E _ (nI v)) cf_X6_66 cs_X6_isVersion dX6_fit_1 rfl rfl (Nat.le_of_ble_eq_true rfl) ⟨(Nat.le_of_ble_eq_true rfl), (Nat.le_of_ble_eq_true rfl)⟩ ⟨(Nat.le_of_ble_eq_true rfl), (Nat.le_of_ble_eq_true rfl)⟩ ?_
  refine kk_det ?_
  refine g_if_eqB h 29 dX6_fit_4 (by decide) (fun c4_11 => absurd ⟨v, hv9, rfl⟩ c4_11) (fun c4_11 => ?_)
  refine g_iload_n h 2 dX6_fit_7 rfl rfl ?_
  refine g_callS h [] (c_X6_isTown (xL X) E _ (nI t)) cf_X6_95 cs_X6_isTown dX6_fit_8 rfl rfl (Nat.le_of_ble_eq_true rfl) ⟨(Nat.le_of_ble_eq_true rfl), (Nat.le_of_ble_eq_true rfl)⟩ ⟨(Nat.le_of_ble_eq_true rfl), (Nat.le_of_ble_eq_true rfl)⟩ ?_
  refine kk_det ?_
  refine g_if_eqB h 29 dX6_fit_11 (by decide) (fun c11_12 => absurd ⟨t, ht9, rfl⟩ c11_12) (fun c11_12 => ?_)
  refine g_iload_n h 3 dX6_fit_14 rfl rfl ?_
  refine g_callS h [] (c_X6_isDay (xL X) E _ (nI d)) cf_X6_98 cs_X6_isDay dX6_fit_15 rfl rfl (Nat.le_of_ble_eq_true rfl) ⟨(Nat.le_of_ble_eq_true rfl), (Nat.le_of_ble_eq_true rfl)⟩ ⟨(Nat.le_of_ble_eq_true rfl), (Nat.le_of_ble_eq_true rfl)⟩ ?_
  refine kk_det ?_
  refine g_if_eqB h 29 dX6_fit_18 (by decide) (fun c18_13 => absurd ⟨d, hd9, rfl⟩ c18_13) (fun c18_13 => ?_)
  refine g_iload h dX6_fit_21 rfl ?_
  refine g_callS h [] (c_X6_isVersion (xL X) E _ (nI u)) cf_X6_66 cs_X6_isVersion dX6_fit_23 rfl rfl (Nat.le_of_ble_eq_true rfl) ⟨(Nat.le_of_ble_eq_true rfl), (Nat.le_of_ble_eq_true rfl)⟩ ⟨(Nat.le_of_ble_eq_true rfl), (Nat.le_of_ble_eq_true rfl)⟩ ?_
  refine kk_det ?_
  refine g_if_neB h 32 dX6_fit_26 (by decide) (fun c26_14 => ?_) (fun c26_14 => absurd ⟨u, hu9, rfl⟩ c26_14)
  refine g_aload_n h 0 dX6_fit_32 rfl rfl ?_
  refine g_iload_n h 2 dX6_fit_33 rfl rfl ?_
  refine g_iload_n h 3 dX6_fit_34 rfl rfl ?_
  refine g_callV h [] (c_X6_forbidden (xL X) E _ hI hM (t := t) (d := d) ht9 hd9) cf_X6_104 cv_X6_forbidden dX6_fit_35 rfl r0 rfl rfl (Nat.le_of_ble_eq_true rfl) ⟨(Nat.le_of_ble_eq_true rfl), (Nat.le_of_ble_eq_true rfl)⟩ ⟨(Nat.le_of_ble_eq_true rfl), (Nat.le_of_ble_eq_true rfl)⟩ ?_
  refine kk_det ?_
  refine g_istore (vs' := [_, _, _, _, _, _, _, _, _, _]) h dX6_fit_38 (Nat.le_of_ble_eq_true rfl) rfl rfl ?_
  refine g_iconst h (nI 0) dX6_fit_40 (by decide) ?_
  refine g_istore (vs' := [_, _, _, _, _, _, _, _, _, _]) h dX6_fit_41 (Nat.le_of_ble_eq_true rfl) rfl rfl ?_
  refine g_aload_n h 0 dX6_fit_43 rfl rfl ?_
  refine g_get h 1 fa_X6_13 dX6_fit_44 r0 rfl ?_
  refine g_iload_n h 1 dX6_fit_47 rfl rfl ?_
  refine g_iald h dX6_fit_48 r2 (by omega) (by omega) ?_
  refine g_top (y := nI (sVn S v)) (e2 v (by omega)) ?_
  refine g_istore (vs' := [_, _, _, _, _, _, _, _, _, _]) h dX6_fit_49 (Nat.le_of_ble_eq_true rfl) rfl rfl ?_
  refine g_iconst h (nI 0) dX6_fit_51 (by decide) ?_
  refine g_istore (vs' := [_, _, _, _, _, _, _, _, _, _]) h dX6_fit_52 (Nat.le_of_ble_eq_true rfl) rfl rfl ?_
  refine g_sto (sup_self (e := cI E 320 f1) r1).symm ?_
  refine g_few (vs' := [some (.ref b), some (.int (nI v)), some (.int (nI t)), some (.int (nI d)), some (.int (nI u)), some (.int (nI (fbN S t d (sRn S)))), some (.int (nI 0)), some (.int (nI (sVn S v))), some (.int (nI 0)), none]) ⟨Or.inr rfl, Or.inr rfl, Or.inr rfl, Or.inr rfl, Or.inr rfl, Or.inr rfl, Or.inr rfl, Or.inr rfl, Or.inr rfl, Or.inl rfl, trivial⟩ ?_
  have L54 : ∀ (m0 : Nat) (i : Nat) (K : List Nat) (g : Nat → Int32), (i ≤ sVn S v) → (K = (kep S v (fbN S t d (sRn S)) i)) → (g = fF f1 (40 * u) (40 * v) K) → (sVn S v - i) < m0 → G X E 10 (AD σ) (QF X E σ (fun o s => o = some (.int (opFit S (nI v) (nI t) (nI d) (nI u)).1) ∧ RepM E b (opFit S (nI v) (nI t) (nI d) (nI u)).2 s) rm_X6_fit) 0 0 54 [some (.ref b), some (.int (nI v)), some (.int (nI t)), some (.int (nI d)), some (.int (nI u)), some (.int (nI (fbN S t d (sRn S)))), some (.int (nI K.length)), some (.int (nI (sVn S v))), some (.int (nI i)), none] [] (sup σ (b + 1) (cI E 320 g)) := by
    intro m0
    induction m0 with
    | zero => intro i K g _ _ _ hm0; exact absurd hm0 (Nat.not_lt_zero _)
    | succ m0 ih =>
      intro i K g hi hK hg hm0
      have hkl : K.length ≤ i := by rw [hK]; exact kep_le i
      refine g_iload h dX6_fit_54 rfl ?_
      refine g_iload h dX6_fit_56 rfl ?_
      refine g_icmp_geN h 112 dX6_fit_58 (by decide) (by omega) (by omega) (fun c58_15 => ?_) (fun c58_15 => ?_)
      · skip
        obtain rfl : i = sVn S v := by omega
        subst hK
        refine g_aload_n h 0 dX6_fit_112 rfl rfl ?_
        refine g_get h 1 fa_X6_13 dX6_fit_113 ((sup_ne (by omega)).trans r0) rfl ?_
        refine g_iload h dX6_fit_116 rfl ?_
        refine g_iload h dX6_fit_118 rfl ?_
        refine g_iast h dX6_fit_120 ((sup_ne (by omega)).trans r2) (by omega) (by omega) ?_
        refine g_iload h dX6_fit_121 rfl ?_
        exact g_iret h hr dX6_fit_123 ((fun e => ⟨by rw [e], by rw [e]; exact ⟨((sup_ne (by omega)).trans ((sup_ne (by omega)).trans r0)), ⟨_, ((sup_ne (by omega)).trans sup_eq), by rw [hg]; exact m_fit hI e1 hv9 hu9⟩, ⟨_, sup_eq, m_siz e2⟩, ⟨_, ((sup_ne (by omega)).trans ((sup_ne (by omega)).trans r3)), e3⟩, ⟨_, ((sup_ne (by omega)).trans ((sup_ne (by omega)).trans r4)), e4⟩, ⟨_, ((sup_ne (by omega)).trans ((sup_ne (by omega)).trans r5)), e5⟩, ⟨_, ((sup_ne (by omega)).trans ((sup_ne (by omega)).trans r6)), e6⟩, ⟨_, ((sup_ne (by omega)).trans ((sup_ne (by omega)).trans r7)), e7⟩, ⟨_, ((sup_ne (by omega)).trans ((sup_ne (by omega)).trans r8)), e8⟩, ⟨_, ((sup_ne (by omega)).trans ((sup_ne (by omega)).trans r9)), e9⟩, ⟨_, ((sup_ne (by omega)).trans ((sup_ne (by omega)).trans r10)), e10⟩, ⟨_, ((sup_ne (by omega)).trans ((sup_ne (by omega)).trans r11)), e11⟩, ⟨_, ((sup_ne (by omega)).trans ((sup_ne (by omega)).trans r12)), e12⟩, ⟨_, ((sup_ne (by omega)).trans ((sup_ne (by omega)).trans r13))⟩, ⟨_, ((sup_ne (by omega)).trans ((sup_ne (by omega)).trans r14))⟩, ⟨_, ((sup_ne (by omega)).trans ((sup_ne (by omega)).trans r15))⟩, ⟨_, ((sup_ne (by omega)).trans ((sup_ne (by omega)).trans r16)), e16⟩, ⟨_, ((sup_ne (by omega)).trans ((sup_ne (by omega)).trans r17))⟩⟩⟩) (show opFit S (nI v) (nI t) (nI d) (nI u) = (nI (kep S v (fbN S t d (sRn S)) (sVn S v)).length, setV S u (kep S v (fbN S t d (sRn S)) (sVn S v)).length (fun q => sVl S v ((kep S v (fbN S t d (sRn S)) (sVn S v)).getD q 0))) from by unfold opFit; rw [cif_t ⟨⟨v, hv9, rfl⟩, ⟨t, ht9, rfl⟩, ⟨d, hd9, rfl⟩, ⟨u, hu9, rfl⟩⟩, ev9, et9, ed9, eu9])) (Nat.le_of_ble_eq_true rfl) (Nat.le_of_ble_eq_true rfl)
      · skip
        have hx9 := hlv i (by omega)
        have hm9 := hI.2.2.2.1 _ hx9
        refine g_aload_n h 0 dX6_fit_61 rfl rfl ?_
        refine g_get h 0 fa_X6_7 dX6_fit_62 ((sup_ne (by omega)).trans r0) rfl ?_
        refine g_bipush h (nI 40) dX6_fit_65 (by decide) ?_
        refine g_iload_n h 1 dX6_fit_67 rfl rfl ?_
        refine g_imulN h dX6_fit_68 ?_
        refine g_iload h dX6_fit_69 rfl ?_
        refine g_iaddN h dX6_fit_71 ?_
        refine g_iald h dX6_fit_72 sup_eq (by omega) (by omega) ?_
        refine g_top (y := nI (sVl S v i)) (by rw [hg, fF_rd (by omega)]; exact e1 v hv9 i (by omega)) ?_
        refine g_istore (vs' := [_, _, _, _, _, _, _, _, _, _]) h dX6_fit_73 (Nat.le_of_ble_eq_true rfl) rfl rfl ?_
        refine g_aload_n h 0 dX6_fit_75 rfl rfl ?_
        refine g_get h 8 fa_X6_31 dX6_fit_76 ((sup_ne (by omega)).trans r0) rfl ?_
        refine g_iload h dX6_fit_79 rfl ?_
        refine g_iald h dX6_fit_81 ((sup_ne (by omega)).trans r8) (by omega) (by omega) ?_
        refine g_top (y := nI (sMk S (sVl S v i))) (e8 (sVl S v i) (by omega)) ?_
        refine g_iload h dX6_fit_82 rfl ?_
        refine g_iand h dX6_fit_84 ?_
        refine g_top (y := nI (sMk S (sVl S v i) &&& (fbN S t d (sRn S)))) (nI_and _ _) ?_
        have hand := Nat.and_le_left (n := sMk S (sVl S v i)) (m := (fbN S t d (sRn S)))
        refine g_if_neN h 106 dX6_fit_85 (by decide) (by omega) (fun c85_16 => ?_) (fun c85_16 => ?_)
        · skip
          refine g_iinc (vs' := [_, _, _, _, _, _, _, _, _, _]) h (nI (i + 1)) dX6_fit_106 rfl (by first | exact nI_1 _ | rfl) (Nat.le_of_ble_eq_true rfl) rfl rfl ?_
          refine g_goto h 54 dX6_fit_109 (by decide) ?_
          refine g_few (vs' := [some (.ref b), some (.int (nI v)), some (.int (nI t)), some (.int (nI d)), some (.int (nI u)), some (.int (nI (fbN S t d (sRn S)))), some (.int (nI K.length)), some (.int (nI (sVn S v))), some (.int (nI (i + 1))), none]) ⟨Or.inr rfl, Or.inr rfl, Or.inr rfl, Or.inr rfl, Or.inr rfl, Or.inr rfl, Or.inr rfl, Or.inr rfl, Or.inr rfl, Or.inl rfl, trivial⟩ ?_
          exact ih (i + 1) K _ (by omega) (by rw [kep_s, if_neg (Nat.ne_of_gt c85_16), hK]) hg (by omega)
        · skip
          refine g_aload_n h 0 dX6_fit_88 rfl rfl ?_
          refine g_get h 0 fa_X6_7 dX6_fit_89 ((sup_ne (by omega)).trans r0) rfl ?_
          refine g_bipush h (nI 40) dX6_fit_92 (by decide) ?_
          refine g_iload h dX6_fit_94 rfl ?_
          refine g_imulN h dX6_fit_96 ?_
          refine g_iload h dX6_fit_97 rfl ?_
          refine g_iaddN h dX6_fit_99 ?_
          refine g_iload h dX6_fit_100 rfl ?_
          refine g_iast h dX6_fit_102 sup_eq (by omega) (by omega) ?_
          refine g_sto sup_sup ?_
          refine g_iinc (vs' := [_, _, _, _, _, _, _, _, _, _]) h (nI (K.length + 1)) dX6_fit_103 rfl (by first | exact nI_1 _ | rfl) (Nat.le_of_ble_eq_true rfl) rfl rfl ?_
          refine g_iinc (vs' := [_, _, _, _, _, _, _, _, _, _]) h (nI (i + 1)) dX6_fit_106 rfl (by first | exact nI_1 _ | rfl) (Nat.le_of_ble_eq_true rfl) rfl rfl ?_
          refine g_goto h 54 dX6_fit_109 (by decide) ?_
          refine g_few (vs' := [some (.ref b), some (.int (nI v)), some (.int (nI t)), some (.int (nI d)), some (.int (nI u)), some (.int (nI (fbN S t d (sRn S)))), some (.int (nI (K.length + 1))), some (.int (nI (sVn S v))), some (.int (nI (i + 1))), none]) ⟨Or.inr rfl, Or.inr rfl, Or.inr rfl, Or.inr rfl, Or.inr rfl, Or.inr rfl, Or.inr rfl, Or.inr rfl, Or.inr rfl, Or.inl rfl, trivial⟩ ?_
          rw [show K.length + 1 = (K ++ [i]).length by simp]
          exact ih (i + 1) (K ++ [i]) _ (by omega) (by rw [kep_s, if_pos c85_16, hK]) (by rw [hg, fF_step (e1 v hv9 i (by omega)).symm]) (by omega)
  exact L54 (sVn S v + 1) 0 [] f1 (by omega) rfl fF_0.symm (by omega)
