/-! tours, free days, counts, digest (own work; walks by program) -/
/-- the cuts of the tour's table are ct's, at the places of P -/
def TQ (E : EnvD) (z : Nat) (s : Sto) (P : Nat → Nat → Prop) (ct : Nat → Nat → Nat) : Prop := ∀ i, i < 8 → ∃ g, s.1 (z + 49 + 4 + i) = some (cI E 8 g) ∧ ∀ k, k < 8 → P i k → g k = nI (ct i k)
theorem TQ.put {E : EnvD} {z t k : Nat} {s : Sto} {P P' : Nat → Nat → Prop} {ct : Nat → Nat → Nat} {g : Nat → Int32} (h : TQ E z s P ct) (hg : ∀ k, k < 8 → P t k → g k = nI (ct t k)) (hP : ∀ i j, P' i j → P i j ∨ (i = t ∧ j = k)) : TQ E z (sup s (z + 49 + 4 + t) (cI E 8 (upd g k (nI (ct t k))))) P' ct := by
  intro i hi
  by_cases e : i = t
  · subst e
    refine ⟨_, sup_eq, fun j hj q => ?_⟩
    unfold upd
    by_cases e2 : j = k
    · rw [if_pos e2, e2]
    · rw [if_neg e2]
      exact hg j hj ((hP i j q).resolve_right (fun w => e2 w.2))
  · obtain ⟨g', q1, q2⟩ := h i hi
    exact ⟨g', (sup_ne (by omega)).trans q1, fun j hj q => q2 j hj ((hP i j q).resolve_right (fun w => e w.1))⟩
theorem RepC.tpl {E : EnvD} {z n : Nat} {S : PSt} {σ σ' : Sto} {l : Nat → Nat} (h : RepC E z S σ) (ag : ∀ a, ¬ (z + 53 ≤ a ∧ a < z + 62) → a ≠ z + 50 → a ≠ z + 51 → σ'.1 a = σ.1 a) (hc : ∀ i, i < 8 → ∃ g, σ'.1 (z + 49 + 4 + i) = some (cI E 8 g)) (hf : ∃ g, σ'.1 (z + 49 + 12) = some (cI E 256 g)) (ho : RowIs E σ' (z + 50) n (fun k => nI (l k))) : RepC E z (setT S n l) σ' := by
  obtain ⟨h0, h1, h2, h3, h4, h5, h6, ⟨a7, ⟨f7, b7, c7⟩, d7, g7, e7⟩, ⟨w1, f8, w2, -⟩, ⟨m, g', hm, h9⟩, h10, h11⟩ := h
  have agk : ∀ (ci : Nat) (a : Nat) (fs : List Value), a ≠ z + 50 → a ≠ z + 51 → σ.1 a = some (cO ci fs) → σ'.1 a = σ.1 a := fun ci a fs n1 n2 e => ag a (fun q => by
    by_cases q2 : a = z + 49 + 12
    · subst q2
      rw [e7] at e
      cases e
    · obtain ⟨g, eg⟩ := d7 (a - (z + 53)) (by omega)
      rw [show z + 49 + 4 + (a - (z + 53)) = a by omega] at eg
      rw [eg] at e
      cases e) n1 n2
  exact ⟨h0.fr (ag _ (by omega) (by omega) (by omega)) rfl rfl, h1.fr (ag _ (by omega) (by omega) (by omega)), h2.fr (ag _ (by omega) (by omega) (by omega)), h3.fr (ag _ (by omega) (by omega) (by omega)) (fun a fs e => agk 1 a fs (ne_k e w1 (by simp)) (ne_k e w2 (by simp)) e) rfl, h4.fr (ag _ (by omega) (by omega) (by omega)) (fun a fs e => agk 3 a fs (ne_k e w1 (by simp)) (ne_k e w2 (by simp)) e) rfl, h5.fr (ag _ (by omega) (by omega) (by omega)) rfl, h6.fr (fun a _ _ => ag a (by omega) (by omega) (by omega)), ⟨(ag _ (by omega) (by omega) (by omega)).trans a7, ⟨f7, (ag _ (by omega) (by omega) (by omega)).trans b7, c7⟩, hc, hf⟩, ho, ⟨m, g', hm, h9.fr (ag _ (by omega) (by omega) (by omega)) (ag _ (by omega) (by omega) (by omega))⟩, fun w hw => (h10 w hw).fr (ag _ (by omega) (by omega) (by omega)) (ag _ (by omega) (by omega) (by omega)), fun w hw => (h11 w hw).fr (ag _ (by omega) (by omega) (by omega)) (ag _ (by omega) (by omega) (by omega))⟩
theorem inR5 {x : Int32} (h : ¬ inR x 5) : x.toInt < 0 ∨ 4 < x.toInt := by
  refine Classical.byContradiction fun q => h ?_
  have w : x.toInt = 0 ∨ x.toInt = 1 ∨ x.toInt = 2 ∨ x.toInt = 3 ∨ x.toInt = 4 := by omega
  have e : Int32.ofInt x.toInt = x := Int32.ofInt_toInt x
  rcases w with w | w | w | w | w <;> rw [w] at e
  · exact ⟨0, by omega, e.symm⟩
  · exact ⟨1, by omega, e.symm⟩
  · exact ⟨2, by omega, e.symm⟩
  · exact ⟨3, by omega, e.symm⟩
  · exact ⟨4, by omega, e.symm⟩
theorem gapN_le {h : Nat → Int32} : ∀ n, gapN h n ≤ n
  | 0 => Nat.le_refl 0
  | n + 1 => by
    have := gapN_le (h := h) n
    unfold gapN
    split <;> omega
theorem sumN_le {f : Nat → Nat} {b : Nat} : ∀ n, (∀ i, i < n → f i ≤ b) → sumN f n ≤ b * n
  | 0, _ => Nat.zero_le _
  | n + 1, h => by
    have h1 := sumN_le (f := f) (b := b) n (fun i hi => h i (by omega))
    have h2 := h n (by omega)
    unfold sumN
    rw [Nat.mul_succ]
    omega
abbrev rm_X5_tour : Room := { frames := 5, cells := 0, slots := 0, locals := 115 }
set_option maxRecDepth 100000 in
set_option maxHeartbeats 4000000 in
theorem C_tour (lau : Launch) (E : EnvD) (σ : Sto) {z : Nat} {S : PSt} (hI : Inv S) (hR : RepC E z S σ) (a1 a2 a3 a4 : Int32) : CC lau yX5_tour cX5_tour 10 (some .int) rm_X5_tour E [.ref z, .int a1, .int a2, .int a3, .int a4] σ (fun o s => o = some (.int (opTour S a1 a2 a3 a4).1) ∧ RepC E z (opTour S a1 a2 a3 a4).2 s) := by
  refine cc_of (vs := [_, _, _, _, _, _, _, _, _, _]) (by decide) (Nat.le_of_ble_eq_true rfl) rfl ?_
  intro X h hr hn
  obtain ⟨r0, ⟨fV, rV, eV⟩, ⟨fP, rP, eP⟩, ⟨fC, rC, eC⟩, ⟨fR, rR, eR⟩, ⟨fM, rM, eM⟩, rCh, rT, rO, ⟨nE, gE, hE, rE⟩, rows, prows⟩ := id hR
  by_cases ha1 : inR a1 8
  · skip
    obtain ⟨a, ha, rfl⟩ := ha1
    have ea : cl (nI a) = a := cl_nI (by omega)
    obtain ⟨hna, hla⟩ := hI.1 a ha
    obtain ⟨rT0, ⟨fc, rT1, rT2⟩, rT3, gf0, rT4⟩ := rT
    refine g_aload_n h 0 dX5_tour_0 rfl rfl ?_
    refine g_get h 0 fa_X5_11 dX5_tour_1 r0 rfl ?_
    refine g_iload_n h 1 dX5_tour_4 rfl rfl ?_
    refine g_callS h [] (c_X5_rowOf_in (xL X) E _ rV (by omega) (i := a) (by omega) (eV a (by omega))) cf_X5_60 cs_X5_rowOf dX5_tour_5 rfl rfl (Nat.le_of_ble_eq_true rfl) ⟨(Nat.le_of_ble_eq_true rfl), (Nat.le_of_ble_eq_true rfl)⟩ ⟨(Nat.le_of_ble_eq_true rfl), (Nat.le_of_ble_eq_true rfl)⟩ ?_
    refine kk_det ?_
    refine g_astore (vs' := [_, _, _, _, _, _, _, _, _, _]) h dX5_tour_8 (Nat.le_of_ble_eq_true rfl) rfl rfl ?_
    refine g_aload h dX5_tour_10 rfl ?_
    refine g_ifnull h dX5_tour_12 ?_
    refine g_iload_n h 2 dX5_tour_15 rfl rfl ?_
    refine g_iconst h (nI 1) dX5_tour_16 (by decide) ?_
    refine g_icmp_lt h 46 dX5_tour_17 (by decide) (fun c17_1 => ?_) (fun c17_1 => ?_)
    · skip
      refine g_bipush h (-2) dX5_tour_46 (by decide) ?_
      exact g_iret h hr dX5_tour_48 ((fun e => ⟨by rw [e], by rw [e]; exact hR⟩) (show opTour S (nI a) a2 a3 a4 = (-2, S) from cif_f (fun q => by obtain ⟨n0, j, hj, rfl⟩ := q.2.1; have := (nI_ltI (by omega) (by omega)).mp c17_1; exact n0 (by rw [show j = 0 by omega])))) (Nat.le_of_ble_eq_true rfl) (Nat.le_of_ble_eq_true rfl)
    · skip
      refine g_iload_n h 2 dX5_tour_20 rfl rfl ?_
      refine g_sipush h (nI 255) dX5_tour_21 (by decide) ?_
      refine g_icmp_gt h 46 dX5_tour_24 (by decide) (fun c24_2 => ?_) (fun c24_2 => ?_)
      · skip
        refine g_bipush h (-2) dX5_tour_46 (by decide) ?_
        exact g_iret h hr dX5_tour_48 ((fun e => ⟨by rw [e], by rw [e]; exact hR⟩) (show opTour S (nI a) a2 a3 a4 = (-2, S) from cif_f (fun q => inR_gt c24_2 rfl (by omega) q.2.1.2))) (Nat.le_of_ble_eq_true rfl) (Nat.le_of_ble_eq_true rfl)
      · skip
        have hw9 : inR a2 256 := inR_of2 (fun q => c17_1 (Int32.lt_trans q (by decide))) c24_2 rfl (by omega)
        obtain ⟨w, hw, rfl⟩ := hw9
        have ew : cl (nI w) = w := cl_nI (by omega)
        have hw1 : 1 ≤ w := Nat.pos_of_ne_zero (fun q => by subst q; exact c17_1 (by decide))
        have hw0 : ¬ nI w = nI 0 := fun q => by have := nI_inj (by omega) (by omega) q; omega
        have hp1 : pop w ≠ 0 := fun q => by have := (pop_0 w hw).mp q; omega
        have hp8 := pop_le w hw
        refine g_iload_n h 3 dX5_tour_27 rfl rfl ?_
        refine g_callS h [] (c_X5_isDay (xL X) E _ a3) cf_X5_147 cs_X5_isDay dX5_tour_28 rfl rfl (Nat.le_of_ble_eq_true rfl) ⟨(Nat.le_of_ble_eq_true rfl), (Nat.le_of_ble_eq_true rfl)⟩ ⟨(Nat.le_of_ble_eq_true rfl), (Nat.le_of_ble_eq_true rfl)⟩ ?_
        refine kk_det ?_
        refine g_if_eqB h 46 dX5_tour_31 (by decide) (fun c31_3 => ?_) (fun c31_3 => ?_)
        · skip
          refine g_bipush h (-2) dX5_tour_46 (by decide) ?_
          exact g_iret h hr dX5_tour_48 ((fun e => ⟨by rw [e], by rw [e]; exact hR⟩) (show opTour S (nI a) (nI w) a3 a4 = (-2, S) from cif_f (fun q => c31_3 q.2.2.1))) (Nat.le_of_ble_eq_true rfl) (Nat.le_of_ble_eq_true rfl)
        · skip
          obtain ⟨d, hd9, rfl⟩ := c31_3
          have ed : cl (nI d) = d := cl_nI (by omega)
          refine g_iload h dX5_tour_34 rfl ?_
          refine g_if_lt h 46 dX5_tour_36 (by decide) (fun c36_4 => ?_) (fun c36_4 => ?_)
          · skip
            refine g_bipush h (-2) dX5_tour_46 (by decide) ?_
            exact g_iret h hr dX5_tour_48 ((fun e => ⟨by rw [e], by rw [e]; exact hR⟩) (show opTour S (nI a) (nI w) (nI d) a4 = (-2, S) from cif_f (fun q => inR_neg c36_4 (by omega) q.2.2.2))) (Nat.le_of_ble_eq_true rfl) (Nat.le_of_ble_eq_true rfl)
          · skip
            refine g_iload h dX5_tour_39 rfl ?_
            refine g_bipush h (nI 20) dX5_tour_41 (by decide) ?_
            refine g_icmp_le h 49 dX5_tour_43 (by decide) (fun c43_5 => ?_) (fun c43_5 => ?_)
            · skip
              have hr9 : inR a4 21 := inR_of2 c36_4 (fun q => absurd c43_5 (Int32.not_le.mpr q)) rfl (by omega)
              obtain ⟨r, hr21, rfl⟩ := hr9
              have er : cl (nI r) = r := cl_nI (by omega)
              have hmul : (pop w - 1) * (r + 1) ≤ 7 * 21 := Nat.mul_le_mul (by omega) (by omega)
              have h40 : ∀ t k, ctS S a d r t k ≤ 40 := fun t k => Nat.le_trans (cutC_le _) hna
              refine g_iload_n h 2 dX5_tour_49 rfl rfl ?_
              refine g_callS h [] (c_J6_bitCount (xL X) E _ (v := w) hw) cf_X5_163 cs_J6_bitCount_0f7a4 dX5_tour_50 rfl rfl (Nat.le_of_ble_eq_true rfl) ⟨(Nat.le_of_ble_eq_true rfl), (Nat.le_of_ble_eq_true rfl)⟩ ⟨(Nat.le_of_ble_eq_true rfl), (Nat.le_of_ble_eq_true rfl)⟩ ?_
              refine kk_det ?_
              refine g_istore (vs' := [_, _, _, _, _, _, _, _, _, _]) h dX5_tour_53 (Nat.le_of_ble_eq_true rfl) rfl rfl ?_
              refine g_iload_n h 3 dX5_tour_55 rfl rfl ?_
              refine g_iload h dX5_tour_56 rfl ?_
              refine g_iconst h (nI 1) dX5_tour_58 (by decide) ?_
              refine g_isubN h dX5_tour_59 (by omega) ?_
              refine g_iload h dX5_tour_60 rfl ?_
              refine g_iconst h (nI 1) dX5_tour_62 (by decide) ?_
              refine g_iaddN h dX5_tour_63 ?_
              refine g_imulN h dX5_tour_64 ?_
              refine g_iaddN h dX5_tour_65 ?_
              refine g_sipush h (nI 999) dX5_tour_66 (by decide) ?_
              refine g_icmp_leN h 75 dX5_tour_69 (by decide) (by omega) (by decide) (fun c69_6 => ?_) (fun c69_6 => ?_)
              · skip
                refine g_iconst h (nI 0) dX5_tour_75 (by decide) ?_
                refine g_istore (vs' := [_, _, _, _, _, _, _, _, _, _]) h dX5_tour_76 (Nat.le_of_ble_eq_true rfl) rfl rfl ?_
                refine g_few (vs' := [some (.ref z), some (.int (nI a)), some (.int (nI w)), some (.int (nI d)), some (.int (nI r)), some (.ref (z + 64 + 2 * a)), some (.int (nI (pop w))), some (.int (nI 0)), none, none]) ⟨Or.inr rfl, Or.inr rfl, Or.inr rfl, Or.inr rfl, Or.inr rfl, Or.inr rfl, Or.inr rfl, Or.inr rfl, Or.inl rfl, Or.inl rfl, trivial⟩ ?_
                have L78 : ∀ (m0 : Nat) (t : Nat) (s2 : Sto), (t ≤ 8) → (s2.2 = σ.2) → (∀ a, ¬ (z + 53 ≤ a ∧ a < z + 61) → s2.1 a = σ.1 a) → (TQ E z s2 (fun i k => k < pop w ∧ i < t) (ctS S a d r)) → (8 - t) < m0 → G X E 10 (AD σ) (QF X E σ (fun o s => o = some (.int (opTour S (nI a) (nI w) (nI d) (nI r)).1) ∧ RepC E z (opTour S (nI a) (nI w) (nI d) (nI r)).2 s) rm_X5_tour) 0 0 78 [some (.ref z), some (.int (nI a)), some (.int (nI w)), some (.int (nI d)), some (.int (nI r)), some (.ref (z + 64 + 2 * a)), some (.int (nI (pop w))), some (.int (nI t)), none, none] [] s2 := by
                  intro m0
                  induction m0 with
                  | zero => intro t s2 _ _ _ _ hm0; exact absurd hm0 (Nat.not_lt_zero _)
                  | succ m0 ih =>
                    intro t s2 ht hz hA hT hm0
                    refine g_iload h dX5_tour_78 rfl ?_
                    refine g_bipush h (nI 8) dX5_tour_80 (by decide) ?_
                    refine g_icmp_geN h 143 dX5_tour_82 (by decide) (by omega) (by decide) (fun c82_7 => ?_) (fun c82_7 => ?_)
                    · skip
                      obtain rfl : t = 8 := by omega
                      refine g_aload_n h 0 dX5_tour_143 rfl rfl ?_
                      refine g_get h 6 fa_X5_44 dX5_tour_144 ((hA z (by omega)).trans r0) rfl ?_
                      refine g_iload_n h 2 dX5_tour_147 rfl rfl ?_
                      refine g_callV h [] (c_X4_find (xL X) E _ ((hA (z + 49) (by omega)).trans rT0) ((hA (z + 49 + 3) (by omega)).trans rT1) rT2 (tw := w) (ct := ctS S a d r) (fun t ht => by obtain ⟨g, q1, q2⟩ := hT t ht; exact ⟨g, q1, fun k hk => q2 k (by omega) ⟨hk, ht⟩⟩) h40 ((hA (z + 49 + 12) (by omega)).trans rT4) (rO.fr (hA _ (by omega)) (hA _ (by omega))) hw) cf_X5_171 cv_X4_find dX5_tour_148 rfl ((hA (z + 49) (by omega)).trans rT0) rfl rfl (Nat.le_of_ble_eq_true rfl) ⟨(Nat.le_of_ble_eq_true rfl), (Nat.le_of_ble_eq_true rfl)⟩ ⟨(Nat.le_of_ble_eq_true rfl), (Nat.le_of_ble_eq_true rfl)⟩ ?_
                      rintro _ s3 ⟨rfl, hz3, hA3, hf3, ho3⟩
                      exact g_iret h hr dX5_tour_151 ((fun e => ⟨by rw [e], by rw [e]; exact hR.tpl (fun a h1 h2 h3 => (hA3 a (by omega) (by omega) (by omega)).trans (hA a (by omega))) (fun i hi => by obtain ⟨g, q, _⟩ := hT i hi; exact ⟨g, (hA3 _ (by omega) (by omega) (by omega)).trans q⟩) hf3 ho3⟩) (show opTour S (nI a) (nI w) (nI d) (nI r) = (nI (Fm (ctS S a d r) (pop w) (pop w) w), setT S (pop w) (trT (ctS S a d r) (pop w) (pop w) w)) from by unfold opTour; rw [cif_t ⟨⟨a, ha, rfl⟩, ⟨hw0, ⟨w, hw, rfl⟩⟩, ⟨d, hd9, rfl⟩, ⟨r, hr21, rfl⟩⟩, cif_t (by rw [ed, ew, er]; exact c69_6), ea, ew, ed, er])) (Nat.le_of_ble_eq_true rfl) (Nat.le_of_ble_eq_true rfl)
                    · skip
                      refine g_iconst h (nI 0) dX5_tour_85 (by decide) ?_
                      refine g_istore (vs' := [_, _, _, _, _, _, _, _, _, _]) h dX5_tour_86 (Nat.le_of_ble_eq_true rfl) rfl rfl ?_
                      refine g_few (vs' := [some (.ref z), some (.int (nI a)), some (.int (nI w)), some (.int (nI d)), some (.int (nI r)), some (.ref (z + 64 + 2 * a)), some (.int (nI (pop w))), some (.int (nI t)), some (.int (nI 0)), none]) ⟨Or.inr rfl, Or.inr rfl, Or.inr rfl, Or.inr rfl, Or.inr rfl, Or.inr rfl, Or.inr rfl, Or.inr rfl, Or.inr rfl, Or.inl rfl, trivial⟩ ?_
                      have L88 : ∀ (m0 : Nat) (k : Nat) (s2 : Sto), (k ≤ pop w) → (s2.2 = σ.2) → (∀ a, ¬ (z + 53 ≤ a ∧ a < z + 61) → s2.1 a = σ.1 a) → (TQ E z s2 (fun i j => j < pop w ∧ (i < t ∨ (i = t ∧ j < k))) (ctS S a d r)) → (pop w - k) < m0 → G X E 10 (AD σ) (QF X E σ (fun o s => o = some (.int (opTour S (nI a) (nI w) (nI d) (nI r)).1) ∧ RepC E z (opTour S (nI a) (nI w) (nI d) (nI r)).2 s) rm_X5_tour) 0 0 88 [some (.ref z), some (.int (nI a)), some (.int (nI w)), some (.int (nI d)), some (.int (nI r)), some (.ref (z + 64 + 2 * a)), some (.int (nI (pop w))), some (.int (nI t)), some (.int (nI k)), none] [] s2 := by
                        intro m0
                        induction m0 with
                        | zero => intro k s2 _ _ _ _ hm0; exact absurd hm0 (Nat.not_lt_zero _)
                        | succ m0 ih2 =>
                          intro k s2 hk hz hA hT hm0
                          refine g_iload h dX5_tour_88 rfl ?_
                          refine g_iload h dX5_tour_90 rfl ?_
                          refine g_icmp_geN h 137 dX5_tour_92 (by decide) (by omega) (by omega) (fun c92_8 => ?_) (fun c92_8 => ?_)
                          · skip
                            obtain rfl : k = pop w := by omega
                            refine g_iinc (vs' := [_, _, _, _, _, _, _, _, _, _]) h (nI (t + 1)) dX5_tour_137 rfl (by first | exact nI_1 _ | rfl) (Nat.le_of_ble_eq_true rfl) rfl rfl ?_
                            refine g_goto h 78 dX5_tour_140 (by decide) ?_
                            refine g_few (vs' := [some (.ref z), some (.int (nI a)), some (.int (nI w)), some (.int (nI d)), some (.int (nI r)), some (.ref (z + 64 + 2 * a)), some (.int (nI (pop w))), some (.int (nI (t + 1))), none, none]) ⟨Or.inr rfl, Or.inr rfl, Or.inr rfl, Or.inr rfl, Or.inr rfl, Or.inr rfl, Or.inr rfl, Or.inr rfl, Or.inl rfl, Or.inl rfl, trivial⟩ ?_
                            exact ih (t + 1) s2 (by omega) hz hA (fun i hi => by obtain ⟨g, q1, q2⟩ := hT i hi; exact ⟨g, q1, fun k hk q => q2 k hk ⟨q.1, by omega⟩⟩) (by omega)
                          · skip
                            have hmk : k * (r + 1) ≤ (pop w - 1) * (r + 1) := Nat.mul_le_mul (by omega) (Nat.le_refl _)
                            have hR2 : RepC E z S s2 := hR.tpl (n := sTn S) (l := sTl S) (fun a h1 _ _ => hA a (by omega)) (fun i hi => by obtain ⟨g, q, _⟩ := hT i hi; exact ⟨g, q⟩) ⟨gf0, (hA _ (by omega)).trans rT4⟩ (rO.fr (hA _ (by omega)) (hA _ (by omega)))
                            obtain ⟨g, g1, g2⟩ := hT t (by omega)
                            refine g_aload_n h 0 dX5_tour_95 rfl rfl ?_
                            refine g_aload h dX5_tour_96 rfl ?_
                            refine g_aload_n h 0 dX5_tour_98 rfl rfl ?_
                            refine g_iload h dX5_tour_99 rfl ?_
                            refine g_iload_n h 3 dX5_tour_101 rfl rfl ?_
                            refine g_iload h dX5_tour_102 rfl ?_
                            refine g_iload h dX5_tour_104 rfl ?_
                            refine g_iconst h (nI 1) dX5_tour_106 (by decide) ?_
                            refine g_iaddN h dX5_tour_107 ?_
                            refine g_imulN h dX5_tour_108 ?_
                            refine g_iaddN h dX5_tour_109 ?_
                            refine g_callV h [_, _] (c_X5_forbiddenMarks (xL X) E _ hI hR2 (t := t) (d := d + (k * (r + 1))) (by omega) (by omega)) cf_X5_153 cv_X5_forbiddenMarks dX5_tour_110 rfl ((hA z (by omega)).trans r0) rfl rfl (Nat.le_of_ble_eq_true rfl) ⟨(Nat.le_of_ble_eq_true rfl), (Nat.le_of_ble_eq_true rfl)⟩ ⟨(Nat.le_of_ble_eq_true rfl), (Nat.le_of_ble_eq_true rfl)⟩ ?_
                            refine kk_det ?_
                            refine g_callV h [] (c_X5_linesWith (xL X) E _ hI hR2 (v := a) (fb := fbN S t (d + (k * (r + 1))) (sRn S)) ha) cf_X5_156 cv_X5_linesWith dX5_tour_113 rfl ((hA z (by omega)).trans r0) rfl rfl (Nat.le_of_ble_eq_true rfl) ⟨(Nat.le_of_ble_eq_true rfl), (Nat.le_of_ble_eq_true rfl)⟩ ⟨(Nat.le_of_ble_eq_true rfl), (Nat.le_of_ble_eq_true rfl)⟩ ?_
                            refine kk_det ?_
                            refine g_istore (vs' := [_, _, _, _, _, _, _, _, _, _]) h dX5_tour_116 (Nat.le_of_ble_eq_true rfl) rfl rfl ?_
                            refine g_aload_n h 0 dX5_tour_118 rfl rfl ?_
                            refine g_get h 6 fa_X5_44 dX5_tour_119 ((hA z (by omega)).trans r0) rfl ?_
                            refine g_iload h dX5_tour_122 rfl ?_
                            refine g_iload h dX5_tour_124 rfl ?_
                            refine g_iload h dX5_tour_126 rfl ?_
                            refine g_callV h [] (c_X4_setCuts (xL X) E _ ((hA (z + 49) (by omega)).trans rT0) ((hA (z + 49 + 3) (by omega)).trans rT1) rT2 (nI (ctS S a d r t k)) g1 (by omega) (by omega)) cf_X5_168 cv_X4_setCuts dX5_tour_128 rfl ((hA (z + 49) (by omega)).trans rT0) rfl rfl (Nat.le_of_ble_eq_true rfl) ⟨(Nat.le_of_ble_eq_true rfl), (Nat.le_of_ble_eq_true rfl)⟩ ⟨(Nat.le_of_ble_eq_true rfl), (Nat.le_of_ble_eq_true rfl)⟩ ?_
                            refine kk_detv ?_
                            refine g_iinc (vs' := [_, _, _, _, _, _, _, _, _, _]) h (nI (k + 1)) dX5_tour_131 rfl (by first | exact nI_1 _ | rfl) (Nat.le_of_ble_eq_true rfl) rfl rfl ?_
                            refine g_goto h 88 dX5_tour_134 (by decide) ?_
                            refine g_few (vs' := [some (.ref z), some (.int (nI a)), some (.int (nI w)), some (.int (nI d)), some (.int (nI r)), some (.ref (z + 64 + 2 * a)), some (.int (nI (pop w))), some (.int (nI t)), some (.int (nI (k + 1))), none]) ⟨Or.inr rfl, Or.inr rfl, Or.inr rfl, Or.inr rfl, Or.inr rfl, Or.inr rfl, Or.inr rfl, Or.inr rfl, Or.inr rfl, Or.inl rfl, trivial⟩ ?_
                            exact ih2 (k + 1) _ (by omega) hz (fun b hb => (sup_ne (by omega)).trans (hA b hb)) (hT.put g2 (fun i j q => by omega)) (by omega)
                      exact L88 (pop w + 1) 0 s2 (Nat.zero_le _) hz hA (fun i hi => by obtain ⟨g, q1, q2⟩ := hT i hi; exact ⟨g, q1, fun k hk q => q2 k hk ⟨q.1, by omega⟩⟩) (by omega)
                exact L78 9 0 σ (by omega) rfl (fun _ _ => rfl) (fun i hi => by obtain ⟨g, q⟩ := rT3 i hi; exact ⟨g, q, fun k hk q => absurd q.2 (Nat.not_lt_zero _)⟩) (by omega)
              · skip
                refine g_bipush h (-3) dX5_tour_72 (by decide) ?_
                exact g_iret h hr dX5_tour_74 ((fun e => ⟨by rw [e], by rw [e]; exact hR⟩) (show opTour S (nI a) (nI w) (nI d) (nI r) = (-3, S) from by unfold opTour; rw [cif_t ⟨⟨a, ha, rfl⟩, ⟨hw0, ⟨w, hw, rfl⟩⟩, ⟨d, hd9, rfl⟩, ⟨r, hr21, rfl⟩⟩, cif_f (by rw [ed, ew, er]; omega)])) (Nat.le_of_ble_eq_true rfl) (Nat.le_of_ble_eq_true rfl)
            · skip
              refine g_bipush h (-2) dX5_tour_46 (by decide) ?_
              exact g_iret h hr dX5_tour_48 ((fun e => ⟨by rw [e], by rw [e]; exact hR⟩) (show opTour S (nI a) (nI w) (nI d) a4 = (-2, S) from cif_f (fun q => inR_gt (Int32.not_le.mp c43_5) rfl (by omega) q.2.2.2))) (Nat.le_of_ble_eq_true rfl) (Nat.le_of_ble_eq_true rfl)
  · skip
    refine g_aload_n h 0 dX5_tour_0 rfl rfl ?_
    refine g_get h 0 fa_X5_11 dX5_tour_1 r0 rfl ?_
    refine g_iload_n h 1 dX5_tour_4 rfl rfl ?_
    refine g_callS h [] (c_X5_rowOf_out (xL X) E _ a1 rV (by omega) ha1) cf_X5_60 cs_X5_rowOf dX5_tour_5 rfl rfl (Nat.le_of_ble_eq_true rfl) ⟨(Nat.le_of_ble_eq_true rfl), (Nat.le_of_ble_eq_true rfl)⟩ ⟨(Nat.le_of_ble_eq_true rfl), (Nat.le_of_ble_eq_true rfl)⟩ ?_
    refine kk_det ?_
    refine g_astoreN (vs' := [_, _, _, _, _, _, _, _, _, _]) h dX5_tour_8 (Nat.le_of_ble_eq_true rfl) rfl rfl ?_
    refine g_aloadN h dX5_tour_10 rfl ?_
    refine g_ifnullN h 46 dX5_tour_12 (by decide) ?_
    refine g_bipush h (-2) dX5_tour_46 (by decide) ?_
    exact g_iret h hr dX5_tour_48 ((fun e => ⟨by rw [e], by rw [e]; exact hR⟩) (show opTour S a1 a2 a3 a4 = (-2, S) from cif_f (fun q => ha1 q.1))) (Nat.le_of_ble_eq_true rfl) (Nat.le_of_ble_eq_true rfl)
abbrev rm_X5_town : Room := { frames := 2, cells := 0, slots := 0, locals := 42 }
set_option maxRecDepth 100000 in
set_option maxHeartbeats 4000000 in
theorem C_town (lau : Launch) (E : EnvD) (σ : Sto) {z : Nat} {S : PSt} (hI : Inv S) (hR : RepC E z S σ) (a1 : Int32) : CC lau yX5_town cX5_town 2 (some .int) rm_X5_town E [.ref z, .int a1] σ (fun o s => o = some (.int (opTown S a1).1) ∧ RepC E z (opTown S a1).2 s) := by
  refine cc_of (vs := [_, _]) (by decide) (Nat.le_of_ble_eq_true rfl) rfl ?_
  intro X h hr hn
  obtain ⟨r0, ⟨fV, rV, eV⟩, ⟨fP, rP, eP⟩, ⟨fC, rC, eC⟩, ⟨fR, rR, eR⟩, ⟨fM, rM, eM⟩, rCh, rT, rO, ⟨nE, gE, hE, rE⟩, rows, prows⟩ := id hR
  have htn := hI.2.2.2.2.2.1
  refine g_aload_n h 0 dX5_town_0 rfl rfl ?_
  refine g_get h 6 fa_X5_44 dX5_town_1 r0 rfl ?_
  refine g_get h 0 fa_X5_174 dX5_town_4 rT.1 rfl ?_
  refine g_iload_n h 1 dX5_town_7 rfl rfl ?_
  refine g_callV h [] (r_at (xL X) rO (by omega) a1) cf_X5_82 cv_X2_at dX5_town_8 rfl rO.1 rfl rfl (Nat.le_of_ble_eq_true rfl) ⟨(Nat.le_of_ble_eq_true rfl), (Nat.le_of_ble_eq_true rfl)⟩ ⟨(Nat.le_of_ble_eq_true rfl), (Nat.le_of_ble_eq_true rfl)⟩ ?_
  refine kk_det ?_
  exact g_iret h hr dX5_town_11 (⟨rfl, hR⟩) (Nat.le_of_ble_eq_true rfl) (Nat.le_of_ble_eq_true rfl)
abbrev rm_X5_thingsIn : Room := { frames := 1, cells := 0, slots := 0, locals := 21 }
set_option maxRecDepth 100000 in
set_option maxHeartbeats 4000000 in
theorem c_X5_thingsIn (lau : Launch) (E : EnvD) (σ : Sto) {ar m : Nat} {fA : Nat → Option Nat} {rA nn : Nat → Nat} {gg : Nat → Nat → Int32} (hA : σ.1 ar = some (cQ E 2 m fA)) (hf : ∀ v, v < m → fA v = some (rA v)) (hrw : ∀ v, v < m → RowIs E σ (rA v) (nn v) (gg v)) (hn9 : ∀ v, v < m → nn v ≤ 40) (hm8 : m ≤ 8) : CC lau yX5_thingsIn cX5_thingsIn 4 (some .int) rm_X5_thingsIn E [.ref ar] σ (fun o s => o = some (.int (nI (sumN nn m))) ∧ s = σ) := by
  refine cc_of (vs := [_, _, _, _]) (by decide) (Nat.le_of_ble_eq_true rfl) rfl ?_
  intro X h hr hn
  refine g_iconst h (nI 0) dX5_thingsIn_0 (by decide) ?_
  refine g_istore_n (vs' := [_, _, _, _]) h 1 dX5_thingsIn_1 rfl (Nat.le_of_ble_eq_true rfl) rfl rfl ?_
  refine g_iconst h (nI 0) dX5_thingsIn_2 (by decide) ?_
  refine g_istore_n (vs' := [_, _, _, _]) h 2 dX5_thingsIn_3 rfl (Nat.le_of_ble_eq_true rfl) rfl rfl ?_
  refine g_few (vs' := [some (.ref ar), some (.int (nI 0)), some (.int (nI 0)), none]) ⟨Or.inr rfl, Or.inr rfl, Or.inr rfl, Or.inl rfl, trivial⟩ ?_
  have L4 : ∀ (m0 : Nat) (v : Nat), (v ≤ m) → (m - v) < m0 → G X E 4 (AD σ) (QF X E σ (fun o s => o = some (.int (nI (sumN nn m))) ∧ s = σ) rm_X5_thingsIn) 0 0 4 [some (.ref ar), some (.int (nI (sumN nn v))), some (.int (nI v)), none] [] σ := by
    intro m0
    induction m0 with
    | zero => intro v _ hm0; exact absurd hm0 (Nat.not_lt_zero _)
    | succ m0 ih =>
      intro v hv hm0
      refine g_iload_n h 2 dX5_thingsIn_4 rfl rfl ?_
      refine g_aload_n h 0 dX5_thingsIn_5 rfl rfl ?_
      refine g_alen (v := nI m) h 2 dX5_thingsIn_6 rfl hA rfl ?_
      refine g_icmp_geN h 33 dX5_thingsIn_7 (by decide) (by omega) (by omega) (fun c7_1 => ?_) (fun c7_1 => ?_)
      · skip
        obtain rfl : m = v := by omega
        refine g_iload_n h 1 dX5_thingsIn_33 rfl rfl ?_
        exact g_iret h hr dX5_thingsIn_34 (⟨rfl, rfl⟩) (Nat.le_of_ble_eq_true rfl) (Nat.le_of_ble_eq_true rfl)
      · skip
        refine g_aload_n h 0 dX5_thingsIn_10 rfl rfl ?_
        refine g_iload_n h 2 dX5_thingsIn_11 rfl rfl ?_
        refine g_callS h [] (c_X5_rowOf_in (xL X) E _ hA (by omega) (i := v) (by omega) (hf v (by omega))) cf_X5_60 cs_X5_rowOf dX5_thingsIn_12 rfl rfl (Nat.le_of_ble_eq_true rfl) ⟨(Nat.le_of_ble_eq_true rfl), (Nat.le_of_ble_eq_true rfl)⟩ ⟨(Nat.le_of_ble_eq_true rfl), (Nat.le_of_ble_eq_true rfl)⟩ ?_
        refine kk_det ?_
        refine g_astore_n (vs' := [_, _, _, _]) h 3 dX5_thingsIn_15 rfl (Nat.le_of_ble_eq_true rfl) rfl rfl ?_
        refine g_aload_n h 3 dX5_thingsIn_16 rfl rfl ?_
        refine g_ifnull h dX5_thingsIn_17 ?_
        refine g_iload_n h 1 dX5_thingsIn_20 rfl rfl ?_
        refine g_aload_n h 3 dX5_thingsIn_21 rfl rfl ?_
        refine g_get h 1 fa_X5_64 dX5_thingsIn_22 (hrw v (by omega)).1 rfl ?_
        refine g_iaddN h dX5_thingsIn_25 ?_
        refine g_istore_n (vs' := [_, _, _, _]) h 1 dX5_thingsIn_26 rfl (Nat.le_of_ble_eq_true rfl) rfl rfl ?_
        refine g_iinc (vs' := [_, _, _, _]) h (nI (v + 1)) dX5_thingsIn_27 rfl (by first | exact nI_1 _ | rfl) (Nat.le_of_ble_eq_true rfl) rfl rfl ?_
        refine g_goto h 4 dX5_thingsIn_30 (by decide) ?_
        refine g_few (vs' := [some (.ref ar), some (.int (nI ((sumN nn v) + (nn v)))), some (.int (nI (v + 1))), none]) ⟨Or.inr rfl, Or.inr rfl, Or.inr rfl, Or.inl rfl, trivial⟩ ?_
        exact ih (v + 1) (by omega) (by omega)
  exact L4 (m + 1) 0 (by omega) (by omega)
abbrev rm_X5_mixedRows : Room := { frames := 2, cells := 0, slots := 0, locals := 42 }
set_option maxRecDepth 100000 in
set_option maxHeartbeats 4000000 in
theorem c_X5_mixedRows (lau : Launch) (E : EnvD) (σ : Sto) {ar m : Nat} {fA : Nat → Option Nat} {rA nn : Nat → Nat} {gg : Nat → Nat → Int32} (hA : σ.1 ar = some (cQ E 2 m fA)) (hf : ∀ v, v < m → fA v = some (rA v)) (hrw : ∀ v, v < m → RowIs E σ (rA v) (nn v) (gg v)) (hn9 : ∀ v, v < m → nn v ≤ 40) (hm8 : m ≤ 8) (h0 : Int64) : CC lau yX5_mixedRows cX5_mixedRows 8 (some .long) rm_X5_mixedRows E [.long h0, .ref ar] σ (fun o s => o = some (.long (dgR nn gg h0 m)) ∧ s = σ) := by
  refine cc_of (vs := [_, _, _, _, _, _, _, _]) (by decide) (Nat.le_of_ble_eq_true rfl) rfl ?_
  intro X h hr hn
  refine g_lload_n h 0 dX5_mixedRows_0 rfl rfl ?_
  refine g_lstore_n (vs' := [_, _, _, _, _, _, _, _]) h 3 dX5_mixedRows_1 rfl (Nat.le_of_ble_eq_true rfl) rfl rfl ?_
  refine g_iconst h (nI 0) dX5_mixedRows_2 (by decide) ?_
  refine g_istore (vs' := [_, _, _, _, _, _, _, _]) h dX5_mixedRows_3 (Nat.le_of_ble_eq_true rfl) rfl rfl ?_
  refine g_few (vs' := [some (.long h0), none, some (.ref ar), some (.long h0), none, some (.int (nI 0)), none, none]) ⟨Or.inr rfl, Or.inr rfl, Or.inr rfl, Or.inr rfl, Or.inr rfl, Or.inr rfl, Or.inl rfl, Or.inl rfl, trivial⟩ ?_
  have L5 : ∀ (m0 : Nat) (v : Nat), (v ≤ m) → (m - v) < m0 → G X E 8 (AD σ) (QF X E σ (fun o s => o = some (.long (dgR nn gg h0 m)) ∧ s = σ) rm_X5_mixedRows) 0 0 5 [some (.long h0), none, some (.ref ar), some (.long (dgR nn gg h0 v)), none, some (.int (nI v)), none, none] [] σ := by
    intro m0
    induction m0 with
    | zero => intro v _ hm0; exact absurd hm0 (Nat.not_lt_zero _)
    | succ m0 ih =>
      intro v hv hm0
      refine g_iload h dX5_mixedRows_5 rfl ?_
      refine g_aload_n h 2 dX5_mixedRows_7 rfl rfl ?_
      refine g_alen (v := nI m) h 2 dX5_mixedRows_8 rfl hA rfl ?_
      refine g_icmp_geN h 72 dX5_mixedRows_9 (by decide) (by omega) (by omega) (fun c9_1 => ?_) (fun c9_1 => ?_)
      · skip
        obtain rfl : m = v := by omega
        refine g_lload_n h 3 dX5_mixedRows_72 rfl rfl ?_
        exact g_lret h hr dX5_mixedRows_73 (⟨rfl, rfl⟩) (Nat.le_of_ble_eq_true rfl) (Nat.le_of_ble_eq_true rfl)
      · skip
        have hnv := hn9 v (by omega)
        refine g_aload_n h 2 dX5_mixedRows_12 rfl rfl ?_
        refine g_iload h dX5_mixedRows_13 rfl ?_
        refine g_callS h [] (c_X5_rowOf_in (xL X) E _ hA (by omega) (i := v) (by omega) (hf v (by omega))) cf_X5_60 cs_X5_rowOf dX5_mixedRows_15 rfl rfl (Nat.le_of_ble_eq_true rfl) ⟨(Nat.le_of_ble_eq_true rfl), (Nat.le_of_ble_eq_true rfl)⟩ ⟨(Nat.le_of_ble_eq_true rfl), (Nat.le_of_ble_eq_true rfl)⟩ ?_
        refine kk_det ?_
        refine g_astore (vs' := [_, _, _, _, _, _, _, _]) h dX5_mixedRows_18 (Nat.le_of_ble_eq_true rfl) rfl rfl ?_
        refine g_aload h dX5_mixedRows_20 rfl ?_
        refine g_ifnull h dX5_mixedRows_22 ?_
        refine g_lload_n h 3 dX5_mixedRows_25 rfl rfl ?_
        refine g_aload h dX5_mixedRows_26 rfl ?_
        refine g_get h 1 fa_X5_64 dX5_mixedRows_28 (hrw v (by omega)).1 rfl ?_
        refine g_callS h [] (c_X5_mixed (xL X) E _ (dgR nn gg h0 v) (nI (nn v))) cf_X5_197 cs_X5_mixed dX5_mixedRows_31 rfl rfl (Nat.le_of_ble_eq_true rfl) ⟨(Nat.le_of_ble_eq_true rfl), (Nat.le_of_ble_eq_true rfl)⟩ ⟨(Nat.le_of_ble_eq_true rfl), (Nat.le_of_ble_eq_true rfl)⟩ ?_
        refine kk_det ?_
        refine g_lstore_n (vs' := [_, _, _, _, _, _, _, _]) h 3 dX5_mixedRows_34 rfl (Nat.le_of_ble_eq_true rfl) rfl rfl ?_
        refine g_iconst h (nI 0) dX5_mixedRows_35 (by decide) ?_
        refine g_istore (vs' := [_, _, _, _, _, _, _, _]) h dX5_mixedRows_36 (Nat.le_of_ble_eq_true rfl) rfl rfl ?_
        have L38 : ∀ (m0 : Nat) (i : Nat), (i ≤ nn v) → (nn v - i) < m0 → G X E 8 (AD σ) (QF X E σ (fun o s => o = some (.long (dgR nn gg h0 m)) ∧ s = σ) rm_X5_mixedRows) 0 0 38 [some (.long h0), none, some (.ref ar), some (.long (dgF (gg v) (31 * (dgR nn gg h0 v) + (nI (nn v)).toInt64) i)), none, some (.int (nI v)), some (.ref (rA v)), some (.int (nI i))] [] σ := by
          intro m0
          induction m0 with
          | zero => intro i _ hm0; exact absurd hm0 (Nat.not_lt_zero _)
          | succ m0 ih2 =>
            intro i hi hm0
            refine g_iload h dX5_mixedRows_38 rfl ?_
            refine g_aload h dX5_mixedRows_40 rfl ?_
            refine g_get h 1 fa_X5_64 dX5_mixedRows_42 (hrw v (by omega)).1 rfl ?_
            refine g_icmp_geN h 66 dX5_mixedRows_45 (by decide) (by omega) (by omega) (fun c45_2 => ?_) (fun c45_2 => ?_)
            · skip
              obtain rfl : i = nn v := by omega
              refine g_iinc (vs' := [_, _, _, _, _, _, _, _]) h (nI (v + 1)) dX5_mixedRows_66 rfl (by first | exact nI_1 _ | rfl) (Nat.le_of_ble_eq_true rfl) rfl rfl ?_
              refine g_goto h 5 dX5_mixedRows_69 (by decide) ?_
              refine g_few (vs' := [some (.long h0), none, some (.ref ar), some (.long (dgF (gg v) (31 * (dgR nn gg h0 v) + (nI (nn v)).toInt64) (nn v))), none, some (.int (nI (v + 1))), none, none]) ⟨Or.inr rfl, Or.inr rfl, Or.inr rfl, Or.inr rfl, Or.inr rfl, Or.inr rfl, Or.inl rfl, Or.inl rfl, trivial⟩ ?_
              exact ih (v + 1) (by omega) (by omega)
            · skip
              refine g_lload_n h 3 dX5_mixedRows_48 rfl rfl ?_
              refine g_aload h dX5_mixedRows_49 rfl ?_
              refine g_iload h dX5_mixedRows_51 rfl ?_
              refine g_callV h [_] (r_at (xL X) (hrw v (by omega)) (hn9 v (by omega)) (nI i)) cf_X5_82 cv_X2_at dX5_mixedRows_53 rfl (hrw v (by omega)).1 rfl rfl (Nat.le_of_ble_eq_true rfl) ⟨(Nat.le_of_ble_eq_true rfl), (Nat.le_of_ble_eq_true rfl)⟩ ⟨(Nat.le_of_ble_eq_true rfl), (Nat.le_of_ble_eq_true rfl)⟩ ?_
              refine kk_det ?_
              refine g_top (atV_in (by omega) (by omega)) ?_
              refine g_callS h [] (c_X5_mixed (xL X) E _ (dgF (gg v) (31 * (dgR nn gg h0 v) + (nI (nn v)).toInt64) i) (gg v i)) cf_X5_197 cs_X5_mixed dX5_mixedRows_56 rfl rfl (Nat.le_of_ble_eq_true rfl) ⟨(Nat.le_of_ble_eq_true rfl), (Nat.le_of_ble_eq_true rfl)⟩ ⟨(Nat.le_of_ble_eq_true rfl), (Nat.le_of_ble_eq_true rfl)⟩ ?_
              refine kk_det ?_
              refine g_lstore_n (vs' := [_, _, _, _, _, _, _, _]) h 3 dX5_mixedRows_59 rfl (Nat.le_of_ble_eq_true rfl) rfl rfl ?_
              refine g_iinc (vs' := [_, _, _, _, _, _, _, _]) h (nI (i + 1)) dX5_mixedRows_60 rfl (by first | exact nI_1 _ | rfl) (Nat.le_of_ble_eq_true rfl) rfl rfl ?_
              refine g_goto h 38 dX5_mixedRows_63 (by decide) ?_
              exact ih2 (i + 1) (by omega) (by omega)
        exact L38 (nn v + 1) 0 (by omega) (by omega)
  exact L5 (m + 1) 0 (by omega) (by omega)
abbrev rm_X5_gapsHeard : Room := { frames := 2, cells := 0, slots := 0, locals := 42 }
set_option maxRecDepth 100000 in
set_option maxHeartbeats 4000000 in
theorem c_X5_gapsHeard (lau : Launch) (E : EnvD) (σ : Sto) {z : Nat} {S : PSt} (hI : Inv S) (hR : RepC E z S σ) : CC lau yX5_gapsHeard cX5_gapsHeard 5 (some .int) rm_X5_gapsHeard E [.ref z] σ (fun o s => o = some (.int (nI (sumN (fun p => gapN (sPh S p) (sPn S p)) 4))) ∧ s = σ) := by
  refine cc_of (vs := [_, _, _, _, _]) (by decide) (Nat.le_of_ble_eq_true rfl) rfl ?_
  intro X h hr hn
  obtain ⟨r0, ⟨fV, rV, eV⟩, ⟨fP, rP, eP⟩, ⟨fC, rC, eC⟩, ⟨fR, rR, eR⟩, ⟨fM, rM, eM⟩, rCh, rT, rO, ⟨nE, gE, hE, rE⟩, rows, prows⟩ := id hR
  refine g_iconst h (nI 0) dX5_gapsHeard_0 (by decide) ?_
  refine g_istore_n (vs' := [_, _, _, _, _]) h 1 dX5_gapsHeard_1 rfl (Nat.le_of_ble_eq_true rfl) rfl rfl ?_
  refine g_iconst h (nI 0) dX5_gapsHeard_2 (by decide) ?_
  refine g_istore_n (vs' := [_, _, _, _, _]) h 2 dX5_gapsHeard_3 rfl (Nat.le_of_ble_eq_true rfl) rfl rfl ?_
  refine g_few (vs' := [some (.ref z), some (.int (nI 0)), some (.int (nI 0)), none, none]) ⟨Or.inr rfl, Or.inr rfl, Or.inr rfl, Or.inl rfl, Or.inl rfl, trivial⟩ ?_
  have L4 : ∀ (m0 : Nat) (v : Nat), (v ≤ 4) → (4 - v) < m0 → G X E 5 (AD σ) (QF X E σ (fun o s => o = some (.int (nI (sumN (fun p => gapN (sPh S p) (sPn S p)) 4))) ∧ s = σ) rm_X5_gapsHeard) 0 0 4 [some (.ref z), some (.int (nI (sumN (fun p => gapN (sPh S p) (sPn S p)) v))), some (.int (nI v)), none, none] [] σ := by
    intro m0
    induction m0 with
    | zero => intro v _ hm0; exact absurd hm0 (Nat.not_lt_zero _)
    | succ m0 ih =>
      intro v hv hm0
      refine g_iload_n h 2 dX5_gapsHeard_4 rfl rfl ?_
      refine g_iconst h (nI 4) dX5_gapsHeard_5 (by decide) ?_
      refine g_icmp_geN h 59 dX5_gapsHeard_6 (by decide) (by omega) (by decide) (fun c6_1 => ?_) (fun c6_1 => ?_)
      · skip
        obtain rfl : v = 4 := by omega
        refine g_iload_n h 1 dX5_gapsHeard_59 rfl rfl ?_
        exact g_iret h hr dX5_gapsHeard_60 (⟨rfl, rfl⟩) (Nat.le_of_ble_eq_true rfl) (Nat.le_of_ble_eq_true rfl)
      · skip
        have hv4 : v < 4 := by omega
        have hnv := (hI.2.1 v hv4).1
        refine g_aload_n h 0 dX5_gapsHeard_9 rfl rfl ?_
        refine g_get h 1 fa_X5_15 dX5_gapsHeard_10 r0 rfl ?_
        refine g_iload_n h 2 dX5_gapsHeard_13 rfl rfl ?_
        refine g_callS h [] (c_X5_rowOf_in (xL X) E _ rP (by omega) (i := v) (by omega) (eP v (by omega))) cf_X5_60 cs_X5_rowOf dX5_gapsHeard_14 rfl rfl (Nat.le_of_ble_eq_true rfl) ⟨(Nat.le_of_ble_eq_true rfl), (Nat.le_of_ble_eq_true rfl)⟩ ⟨(Nat.le_of_ble_eq_true rfl), (Nat.le_of_ble_eq_true rfl)⟩ ?_
        refine kk_det ?_
        refine g_astore_n (vs' := [_, _, _, _, _]) h 3 dX5_gapsHeard_17 rfl (Nat.le_of_ble_eq_true rfl) rfl rfl ?_
        refine g_iconst h (nI 0) dX5_gapsHeard_18 (by decide) ?_
        refine g_istore (vs' := [_, _, _, _, _]) h dX5_gapsHeard_19 (Nat.le_of_ble_eq_true rfl) rfl rfl ?_
        have L21 : ∀ (m0 : Nat) (i : Nat), (i ≤ sPn S v) → (sPn S v - i) < m0 → G X E 5 (AD σ) (QF X E σ (fun o s => o = some (.int (nI (sumN (fun p => gapN (sPh S p) (sPn S p)) 4))) ∧ s = σ) rm_X5_gapsHeard) 0 0 21 [some (.ref z), some (.int (nI (sumN (fun p => gapN (sPh S p) (sPn S p)) v + gapN (sPh S v) i))), some (.int (nI v)), some (.ref (z + 80 + 2 * v)), some (.int (nI i))] [] σ := by
          intro m0
          induction m0 with
          | zero => intro i _ hm0; exact absurd hm0 (Nat.not_lt_zero _)
          | succ m0 ih2 =>
            intro i hi hm0
            refine g_aload_n h 3 dX5_gapsHeard_21 rfl rfl ?_
            refine g_ifnull h dX5_gapsHeard_22 ?_
            refine g_iload h dX5_gapsHeard_25 rfl ?_
            refine g_aload_n h 3 dX5_gapsHeard_27 rfl rfl ?_
            refine g_get h 1 fa_X5_64 dX5_gapsHeard_28 (prows v (by omega)).1 rfl ?_
            refine g_icmp_geN h 53 dX5_gapsHeard_31 (by decide) (by omega) (by omega) (fun c31_2 => ?_) (fun c31_2 => ?_)
            · skip
              obtain rfl : i = sPn S v := by omega
              refine g_iinc (vs' := [_, _, _, _, _]) h (nI (v + 1)) dX5_gapsHeard_53 rfl (by first | exact nI_1 _ | rfl) (Nat.le_of_ble_eq_true rfl) rfl rfl ?_
              refine g_goto h 4 dX5_gapsHeard_56 (by decide) ?_
              refine g_few (vs' := [some (.ref z), some (.int (nI (sumN (fun p => gapN (sPh S p) (sPn S p)) v + gapN (sPh S v) (sPn S v)))), some (.int (nI (v + 1))), none, none]) ⟨Or.inr rfl, Or.inr rfl, Or.inr rfl, Or.inl rfl, Or.inl rfl, trivial⟩ ?_
              exact ih (v + 1) (by omega) (by omega)
            · skip
              refine g_aload_n h 3 dX5_gapsHeard_34 rfl rfl ?_
              refine g_iload h dX5_gapsHeard_35 rfl ?_
              refine g_callV h [] (r_at (xL X) (prows v hv4) hnv (nI i)) cf_X5_82 cv_X2_at dX5_gapsHeard_37 rfl (prows v (by omega)).1 rfl rfl (Nat.le_of_ble_eq_true rfl) ⟨(Nat.le_of_ble_eq_true rfl), (Nat.le_of_ble_eq_true rfl)⟩ ⟨(Nat.le_of_ble_eq_true rfl), (Nat.le_of_ble_eq_true rfl)⟩ ?_
              refine kk_det ?_
              refine g_top (atV_in (by omega) (by omega)) ?_
              refine g_iconst h (-1) dX5_gapsHeard_40 (by decide) ?_
              refine g_icmp_ne h 47 dX5_gapsHeard_41 (by decide) (fun c41_3 => ?_) (fun c41_3 => ?_)
              · skip
                refine g_iinc (vs' := [_, _, _, _, _]) h (nI (i + 1)) dX5_gapsHeard_47 rfl (by first | exact nI_1 _ | rfl) (Nat.le_of_ble_eq_true rfl) rfl rfl ?_
                refine g_goto h 21 dX5_gapsHeard_50 (by decide) ?_
                rw [show gapN (sPh S v) i = gapN (sPh S v) (i + 1) from by rw [gapN, if_neg c41_3, Nat.add_zero]]
                exact ih2 (i + 1) (by omega) (by omega)
              · skip
                refine g_iinc (vs' := [_, _, _, _, _]) h (nI ((sumN (fun p => gapN (sPh S p) (sPn S p)) v + gapN (sPh S v) i) + 1)) dX5_gapsHeard_44 rfl (by first | exact nI_1 _ | rfl) (Nat.le_of_ble_eq_true rfl) rfl rfl ?_
                refine g_iinc (vs' := [_, _, _, _, _]) h (nI (i + 1)) dX5_gapsHeard_47 rfl (by first | exact nI_1 _ | rfl) (Nat.le_of_ble_eq_true rfl) rfl rfl ?_
                refine g_goto h 21 dX5_gapsHeard_50 (by decide) ?_
                rw [show (sumN (fun p => gapN (sPh S p) (sPn S p)) v + gapN (sPh S v) i) + 1 = sumN (fun p => gapN (sPh S p) (sPn S p)) v + gapN (sPh S v) (i + 1) from by rw [gapN, if_pos c41_3, Nat.add_assoc]]
                exact ih2 (i + 1) (by omega) (by omega)
        exact L21 (sPn S v + 1) 0 (by omega) (by omega)
  exact L4 5 0 (by omega) (by omega)
abbrev rm_X5_count : Room := { frames := 3, cells := 0, slots := 0, locals := 66 }
set_option maxRecDepth 100000 in
set_option maxHeartbeats 4000000 in
theorem c_X5_count (lau : Launch) (E : EnvD) (σ : Sto) {z : Nat} {S : PSt} (hI : Inv S) (hR : RepC E z S σ) (a1 : Int32) : CC lau yX5_count cX5_count 2 (some .int) rm_X5_count E [.ref z, .int a1] σ (fun o s => o = some (.int (opCount S a1).1) ∧ s = σ) := by
  refine cc_of (vs := [_, _]) (by decide) (Nat.le_of_ble_eq_true rfl) rfl ?_
  intro X h hr hn
  obtain ⟨r0, ⟨fV, rV, eV⟩, ⟨fP, rP, eP⟩, ⟨fC, rC, eC⟩, ⟨fR, rR, eR⟩, ⟨fM, rM, eM⟩, rCh, rT, rO, ⟨nE, gE, hE, rE⟩, rows, prows⟩ := id hR
  by_cases ha1 : inR a1 5
  · obtain ⟨w, hw, rfl⟩ := ha1
    have ew : cl (nI w) = w := cl_nI (by omega)
    rcases (show w = 0 ∨ w = 1 ∨ w = 2 ∨ w = 3 ∨ w = 4 by omega) with rfl | rfl | rfl | rfl | rfl
    · skip
      refine g_iload_n h 1 dX5_count_0 rfl rfl ?_
      refine g_tabIn (off := 35) h 36 dX5_count_1 (by decide) (by decide) rfl (by decide) ?_
      refine g_aload_n h 0 dX5_count_36 rfl rfl ?_
      refine g_get h 0 fa_X5_11 dX5_count_37 r0 rfl ?_
      refine g_callS h [] (c_X5_thingsIn (xL X) E _ rV eV (fun v hv => rows v hv) (fun v hv => (hI.1 v hv).1) (by omega)) cf_X5_185 cs_X5_thingsIn dX5_count_40 rfl rfl (Nat.le_of_ble_eq_true rfl) ⟨(Nat.le_of_ble_eq_true rfl), (Nat.le_of_ble_eq_true rfl)⟩ ⟨(Nat.le_of_ble_eq_true rfl), (Nat.le_of_ble_eq_true rfl)⟩ ?_
      refine kk_det ?_
      exact g_iret h hr dX5_count_43 ((fun e => ⟨by rw [e]; rfl, rfl⟩) (show opCount S (nI 0) = (cntS S 0, S) from by unfold opCount; rw [cif_t ⟨0, hw, rfl⟩, ew])) (Nat.le_of_ble_eq_true rfl) (Nat.le_of_ble_eq_true rfl)
    · skip
      refine g_iload_n h 1 dX5_count_0 rfl rfl ?_
      refine g_tabIn (off := 43) h 44 dX5_count_1 (by decide) (by decide) rfl (by decide) ?_
      refine g_aload_n h 0 dX5_count_44 rfl rfl ?_
      refine g_get h 8 fa_X5_53 dX5_count_45 r0 rfl ?_
      exact g_iret h hr dX5_count_48 ((fun e => ⟨by rw [e]; rfl, rfl⟩) (show opCount S (nI 1) = (cntS S 1, S) from by unfold opCount; rw [cif_t ⟨1, hw, rfl⟩, ew])) (Nat.le_of_ble_eq_true rfl) (Nat.le_of_ble_eq_true rfl)
    · skip
      refine g_iload_n h 1 dX5_count_0 rfl rfl ?_
      refine g_tabIn (off := 48) h 49 dX5_count_1 (by decide) (by decide) rfl (by decide) ?_
      refine g_aload_n h 0 dX5_count_49 rfl rfl ?_
      refine g_get h 1 fa_X5_15 dX5_count_50 r0 rfl ?_
      refine g_callS h [] (c_X5_thingsIn (xL X) E _ rP eP (fun v hv => prows v hv) (fun v hv => (hI.2.1 v hv).1) (by omega)) cf_X5_185 cs_X5_thingsIn dX5_count_53 rfl rfl (Nat.le_of_ble_eq_true rfl) ⟨(Nat.le_of_ble_eq_true rfl), (Nat.le_of_ble_eq_true rfl)⟩ ⟨(Nat.le_of_ble_eq_true rfl), (Nat.le_of_ble_eq_true rfl)⟩ ?_
      refine kk_det ?_
      exact g_iret h hr dX5_count_56 ((fun e => ⟨by rw [e]; rfl, rfl⟩) (show opCount S (nI 2) = (cntS S 2, S) from by unfold opCount; rw [cif_t ⟨2, hw, rfl⟩, ew])) (Nat.le_of_ble_eq_true rfl) (Nat.le_of_ble_eq_true rfl)
    · skip
      refine g_iload_n h 1 dX5_count_0 rfl rfl ?_
      refine g_tabIn (off := 56) h 57 dX5_count_1 (by decide) (by decide) rfl (by decide) ?_
      refine g_aload_n h 0 dX5_count_57 rfl rfl ?_
      refine g_callV h [] (c_X5_gapsHeard (xL X) E _ hI hR) cf_X5_189 cv_X5_gapsHeard dX5_count_58 rfl r0 rfl rfl (Nat.le_of_ble_eq_true rfl) ⟨(Nat.le_of_ble_eq_true rfl), (Nat.le_of_ble_eq_true rfl)⟩ ⟨(Nat.le_of_ble_eq_true rfl), (Nat.le_of_ble_eq_true rfl)⟩ ?_
      refine kk_det ?_
      exact g_iret h hr dX5_count_61 ((fun e => ⟨by rw [e]; rfl, rfl⟩) (show opCount S (nI 3) = (cntS S 3, S) from by unfold opCount; rw [cif_t ⟨3, hw, rfl⟩, ew])) (Nat.le_of_ble_eq_true rfl) (Nat.le_of_ble_eq_true rfl)
    · skip
      refine g_iload_n h 1 dX5_count_0 rfl rfl ?_
      refine g_tabIn (off := 61) h 62 dX5_count_1 (by decide) (by decide) rfl (by decide) ?_
      refine g_aload_n h 0 dX5_count_62 rfl rfl ?_
      refine g_get h 9 fa_X5_57 dX5_count_63 r0 rfl ?_
      exact g_iret h hr dX5_count_66 ((fun e => ⟨by rw [e]; rfl, rfl⟩) (show opCount S (nI 4) = (cntS S 4, S) from by unfold opCount; rw [cif_t ⟨4, hw, rfl⟩, ew])) (Nat.le_of_ble_eq_true rfl) (Nat.le_of_ble_eq_true rfl)
  · skip
    refine g_iload_n h 1 dX5_count_0 rfl rfl ?_
    refine g_tabOut h 67 dX5_count_1 (inR5 ha1) (by decide) ?_
    refine g_bipush h (-2) dX5_count_67 (by decide) ?_
    exact g_iret h hr dX5_count_69 ((fun e => ⟨by rw [e], rfl⟩) (show opCount S a1 = (-2, S) from by unfold opCount; rw [cif_f ha1])) (Nat.le_of_ble_eq_true rfl) (Nat.le_of_ble_eq_true rfl)
abbrev rm_X5_mixedRules : Room := { frames := 1, cells := 0, slots := 0, locals := 22 }
set_option maxRecDepth 100000 in
set_option maxHeartbeats 4000000 in
theorem c_X5_mixedRules (lau : Launch) (E : EnvD) (σ : Sto) {z : Nat} {S : PSt} (hI : Inv S) (hR : RepC E z S σ) (h0 : Int64) : CC lau yX5_mixedRules cX5_mixedRules 7 (some .long) rm_X5_mixedRules E [.ref z, .long h0] σ (fun o s => o = some (.long (dgU S h0 (sRn S))) ∧ s = σ) := by
  refine cc_of (vs := [_, _, _, _, _, _, _]) (by decide) (Nat.le_of_ble_eq_true rfl) rfl ?_
  intro X h hr hn
  obtain ⟨r0, ⟨fV, rV, eV⟩, ⟨fP, rP, eP⟩, ⟨fC, rC, eC⟩, ⟨fR, rR, eR⟩, ⟨fM, rM, eM⟩, rCh, rT, rO, ⟨nE, gE, hE, rE⟩, rows, prows⟩ := id hR
  have hc20 := hI.2.2.2.2.1.1
  refine g_lload_n h 1 dX5_mixedRules_0 rfl rfl ?_
  refine g_lstore_n (vs' := [_, _, _, _, _, _, _]) h 3 dX5_mixedRules_1 rfl (Nat.le_of_ble_eq_true rfl) rfl rfl ?_
  refine g_iconst h (nI 0) dX5_mixedRules_2 (by decide) ?_
  refine g_istore (vs' := [_, _, _, _, _, _, _]) h dX5_mixedRules_3 (Nat.le_of_ble_eq_true rfl) rfl rfl ?_
  refine g_few (vs' := [some (.ref z), some (.long h0), none, some (.long h0), none, some (.int (nI 0)), none]) ⟨Or.inr rfl, Or.inr rfl, Or.inr rfl, Or.inr rfl, Or.inr rfl, Or.inr rfl, Or.inl rfl, trivial⟩ ?_
  have L5 : ∀ (m0 : Nat) (i : Nat), (i ≤ sRn S) → (sRn S - i) < m0 → G X E 7 (AD σ) (QF X E σ (fun o s => o = some (.long (dgU S h0 (sRn S))) ∧ s = σ) rm_X5_mixedRules) 0 0 5 [some (.ref z), some (.long h0), none, some (.long (dgU S h0 i)), none, some (.int (nI i)), none] [] σ := by
    intro m0
    induction m0 with
    | zero => intro i _ hm0; exact absurd hm0 (Nat.not_lt_zero _)
    | succ m0 ih =>
      intro i hi hm0
      refine g_iload h dX5_mixedRules_5 rfl ?_
      refine g_aload_n h 0 dX5_mixedRules_7 rfl rfl ?_
      refine g_get h 9 fa_X5_57 dX5_mixedRules_8 r0 rfl ?_
      refine g_icmp_geN h 73 dX5_mixedRules_11 (by decide) (by omega) (by omega) (fun c11_1 => ?_) (fun c11_1 => ?_)
      · skip
        obtain rfl : i = sRn S := by omega
        refine g_lload_n h 3 dX5_mixedRules_73 rfl rfl ?_
        exact g_lret h hr dX5_mixedRules_74 (⟨rfl, rfl⟩) (Nat.le_of_ble_eq_true rfl) (Nat.le_of_ble_eq_true rfl)
      · skip
        obtain ⟨rb, q1, q2⟩ := eR i (by omega)
        refine g_aload_n h 0 dX5_mixedRules_14 rfl rfl ?_
        refine g_iload h dX5_mixedRules_15 rfl ?_
        refine g_callV h [] (c_X5_ruleOf_in (xL X) E _ r0 rR hc20 (i := i) (by omega) q1) cf_X5_223 cv_X5_ruleOf dX5_mixedRules_17 rfl r0 rfl rfl (Nat.le_of_ble_eq_true rfl) ⟨(Nat.le_of_ble_eq_true rfl), (Nat.le_of_ble_eq_true rfl)⟩ ⟨(Nat.le_of_ble_eq_true rfl), (Nat.le_of_ble_eq_true rfl)⟩ ?_
        refine kk_det ?_
        refine g_astore (vs' := [_, _, _, _, _, _, _]) h dX5_mixedRules_20 (Nat.le_of_ble_eq_true rfl) rfl rfl ?_
        refine g_aload h dX5_mixedRules_22 rfl ?_
        refine g_ifnull h dX5_mixedRules_24 ?_
        refine g_lload_n h 3 dX5_mixedRules_27 rfl rfl ?_
        refine g_aload h dX5_mixedRules_28 rfl ?_
        refine g_get h 0 fa_X5_237 dX5_mixedRules_30 q2 rfl ?_
        refine g_callS h [] (c_X5_mixed (xL X) E _ (dgU S h0 i) (nI (sRt S i))) cf_X5_197 cs_X5_mixed dX5_mixedRules_33 rfl rfl (Nat.le_of_ble_eq_true rfl) ⟨(Nat.le_of_ble_eq_true rfl), (Nat.le_of_ble_eq_true rfl)⟩ ⟨(Nat.le_of_ble_eq_true rfl), (Nat.le_of_ble_eq_true rfl)⟩ ?_
        refine kk_det ?_
        refine g_lstore_n (vs' := [_, _, _, _, _, _, _]) h 3 dX5_mixedRules_36 rfl (Nat.le_of_ble_eq_true rfl) rfl rfl ?_
        refine g_lload_n h 3 dX5_mixedRules_37 rfl rfl ?_
        refine g_aload h dX5_mixedRules_38 rfl ?_
        refine g_get h 1 fa_X5_230 dX5_mixedRules_40 q2 rfl ?_
        refine g_callS h [] (c_X5_mixed (xL X) E _ (31 * (dgU S h0 i) + (nI (sRt S i)).toInt64) (nI (sRm S i))) cf_X5_197 cs_X5_mixed dX5_mixedRules_43 rfl rfl (Nat.le_of_ble_eq_true rfl) ⟨(Nat.le_of_ble_eq_true rfl), (Nat.le_of_ble_eq_true rfl)⟩ ⟨(Nat.le_of_ble_eq_true rfl), (Nat.le_of_ble_eq_true rfl)⟩ ?_
        refine kk_det ?_
        refine g_lstore_n (vs' := [_, _, _, _, _, _, _]) h 3 dX5_mixedRules_46 rfl (Nat.le_of_ble_eq_true rfl) rfl rfl ?_
        refine g_lload_n h 3 dX5_mixedRules_47 rfl rfl ?_
        refine g_aload h dX5_mixedRules_48 rfl ?_
        refine g_get h 2 fa_X5_240 dX5_mixedRules_50 q2 rfl ?_
        refine g_callS h [] (c_X5_mixed (xL X) E _ (31 * (31 * (dgU S h0 i) + (nI (sRt S i)).toInt64) + (nI (sRm S i)).toInt64) (nI (sRf S i))) cf_X5_197 cs_X5_mixed dX5_mixedRules_53 rfl rfl (Nat.le_of_ble_eq_true rfl) ⟨(Nat.le_of_ble_eq_true rfl), (Nat.le_of_ble_eq_true rfl)⟩ ⟨(Nat.le_of_ble_eq_true rfl), (Nat.le_of_ble_eq_true rfl)⟩ ?_
        refine kk_det ?_
        refine g_lstore_n (vs' := [_, _, _, _, _, _, _]) h 3 dX5_mixedRules_56 rfl (Nat.le_of_ble_eq_true rfl) rfl rfl ?_
        refine g_lload_n h 3 dX5_mixedRules_57 rfl rfl ?_
        refine g_aload h dX5_mixedRules_58 rfl ?_
        refine g_get h 3 fa_X5_232 dX5_mixedRules_60 q2 rfl ?_
        refine g_callS h [] (c_X5_mixed (xL X) E _ (31 * (31 * (31 * (dgU S h0 i) + (nI (sRt S i)).toInt64) + (nI (sRm S i)).toInt64) + (nI (sRf S i)).toInt64) (nI (sRo S i))) cf_X5_197 cs_X5_mixed dX5_mixedRules_63 rfl rfl (Nat.le_of_ble_eq_true rfl) ⟨(Nat.le_of_ble_eq_true rfl), (Nat.le_of_ble_eq_true rfl)⟩ ⟨(Nat.le_of_ble_eq_true rfl), (Nat.le_of_ble_eq_true rfl)⟩ ?_
        refine kk_det ?_
        refine g_lstore_n (vs' := [_, _, _, _, _, _, _]) h 3 dX5_mixedRules_66 rfl (Nat.le_of_ble_eq_true rfl) rfl rfl ?_
        refine g_iinc (vs' := [_, _, _, _, _, _, _]) h (nI (i + 1)) dX5_mixedRules_67 rfl (by first | exact nI_1 _ | rfl) (Nat.le_of_ble_eq_true rfl) rfl rfl ?_
        refine g_goto h 5 dX5_mixedRules_70 (by decide) ?_
        refine g_few (vs' := [some (.ref z), some (.long h0), none, some (.long (31 * (31 * (31 * (31 * (dgU S h0 i) + (nI (sRt S i)).toInt64) + (nI (sRm S i)).toInt64) + (nI (sRf S i)).toInt64) + (nI (sRo S i)).toInt64)), none, some (.int (nI (i + 1))), none]) ⟨Or.inr rfl, Or.inr rfl, Or.inr rfl, Or.inr rfl, Or.inr rfl, Or.inr rfl, Or.inl rfl, trivial⟩ ?_
        exact ih (i + 1) (by omega) (by omega)
  exact L5 (sRn S + 1) 0 (by omega) (by omega)
abbrev rm_X5_mixedConditions : Room := { frames := 1, cells := 0, slots := 0, locals := 22 }
set_option maxRecDepth 100000 in
set_option maxHeartbeats 4000000 in
theorem c_X5_mixedConditions (lau : Launch) (E : EnvD) (σ : Sto) {z : Nat} {S : PSt} (hI : Inv S) (hR : RepC E z S σ) (h0 : Int64) : CC lau yX5_mixedConditions cX5_mixedConditions 7 (some .long) rm_X5_mixedConditions E [.ref z, .long h0] σ (fun o s => o = some (.long (dgC S h0 (sCn S))) ∧ s = σ) := by
  refine cc_of (vs := [_, _, _, _, _, _, _]) (by decide) (Nat.le_of_ble_eq_true rfl) rfl ?_
  intro X h hr hn
  obtain ⟨r0, ⟨fV, rV, eV⟩, ⟨fP, rP, eP⟩, ⟨fC, rC, eC⟩, ⟨fR, rR, eR⟩, ⟨fM, rM, eM⟩, rCh, rT, rO, ⟨nE, gE, hE, rE⟩, rows, prows⟩ := id hR
  have hc20 := hI.2.2.1.1
  refine g_lload_n h 1 dX5_mixedConditions_0 rfl rfl ?_
  refine g_lstore_n (vs' := [_, _, _, _, _, _, _]) h 3 dX5_mixedConditions_1 rfl (Nat.le_of_ble_eq_true rfl) rfl rfl ?_
  refine g_iconst h (nI 0) dX5_mixedConditions_2 (by decide) ?_
  refine g_istore (vs' := [_, _, _, _, _, _, _]) h dX5_mixedConditions_3 (Nat.le_of_ble_eq_true rfl) rfl rfl ?_
  refine g_few (vs' := [some (.ref z), some (.long h0), none, some (.long h0), none, some (.int (nI 0)), none]) ⟨Or.inr rfl, Or.inr rfl, Or.inr rfl, Or.inr rfl, Or.inr rfl, Or.inr rfl, Or.inl rfl, trivial⟩ ?_
  have L5 : ∀ (m0 : Nat) (i : Nat), (i ≤ sCn S) → (sCn S - i) < m0 → G X E 7 (AD σ) (QF X E σ (fun o s => o = some (.long (dgC S h0 (sCn S))) ∧ s = σ) rm_X5_mixedConditions) 0 0 5 [some (.ref z), some (.long h0), none, some (.long (dgC S h0 i)), none, some (.int (nI i)), none] [] σ := by
    intro m0
    induction m0 with
    | zero => intro i _ hm0; exact absurd hm0 (Nat.not_lt_zero _)
    | succ m0 ih =>
      intro i hi hm0
      refine g_iload h dX5_mixedConditions_5 rfl ?_
      refine g_aload_n h 0 dX5_mixedConditions_7 rfl rfl ?_
      refine g_get h 8 fa_X5_53 dX5_mixedConditions_8 r0 rfl ?_
      refine g_icmp_geN h 63 dX5_mixedConditions_11 (by decide) (by omega) (by omega) (fun c11_1 => ?_) (fun c11_1 => ?_)
      · skip
        obtain rfl : i = sCn S := by omega
        refine g_lload_n h 3 dX5_mixedConditions_63 rfl rfl ?_
        exact g_lret h hr dX5_mixedConditions_64 (⟨rfl, rfl⟩) (Nat.le_of_ble_eq_true rfl) (Nat.le_of_ble_eq_true rfl)
      · skip
        obtain ⟨rb, q1, q2⟩ := eC i (by omega)
        refine g_aload_n h 0 dX5_mixedConditions_14 rfl rfl ?_
        refine g_iload h dX5_mixedConditions_15 rfl ?_
        refine g_callV h [] (c_X5_conditionOf_in (xL X) E _ r0 rC hc20 (i := i) (by omega) q1) cf_X5_109 cv_X5_conditionOf dX5_mixedConditions_17 rfl r0 rfl rfl (Nat.le_of_ble_eq_true rfl) ⟨(Nat.le_of_ble_eq_true rfl), (Nat.le_of_ble_eq_true rfl)⟩ ⟨(Nat.le_of_ble_eq_true rfl), (Nat.le_of_ble_eq_true rfl)⟩ ?_
        refine kk_det ?_
        refine g_astore (vs' := [_, _, _, _, _, _, _]) h dX5_mixedConditions_20 (Nat.le_of_ble_eq_true rfl) rfl rfl ?_
        refine g_aload h dX5_mixedConditions_22 rfl ?_
        refine g_ifnull h dX5_mixedConditions_24 ?_
        refine g_lload_n h 3 dX5_mixedConditions_27 rfl rfl ?_
        refine g_aload h dX5_mixedConditions_28 rfl ?_
        refine g_get h 0 fa_X5_243 dX5_mixedConditions_30 q2 rfl ?_
        refine g_callS h [] (c_X5_mixed (xL X) E _ (dgC S h0 i) (nI (sCs S i))) cf_X5_197 cs_X5_mixed dX5_mixedConditions_33 rfl rfl (Nat.le_of_ble_eq_true rfl) ⟨(Nat.le_of_ble_eq_true rfl), (Nat.le_of_ble_eq_true rfl)⟩ ⟨(Nat.le_of_ble_eq_true rfl), (Nat.le_of_ble_eq_true rfl)⟩ ?_
        refine kk_det ?_
        refine g_lstore_n (vs' := [_, _, _, _, _, _, _]) h 3 dX5_mixedConditions_36 rfl (Nat.le_of_ble_eq_true rfl) rfl rfl ?_
        refine g_lload_n h 3 dX5_mixedConditions_37 rfl rfl ?_
        refine g_aload h dX5_mixedConditions_38 rfl ?_
        refine g_get h 1 fa_X5_246 dX5_mixedConditions_40 q2 rfl ?_
        refine g_callS h [] (c_X5_mixed (xL X) E _ (31 * (dgC S h0 i) + (nI (sCs S i)).toInt64) (nI (sCx S i))) cf_X5_197 cs_X5_mixed dX5_mixedConditions_43 rfl rfl (Nat.le_of_ble_eq_true rfl) ⟨(Nat.le_of_ble_eq_true rfl), (Nat.le_of_ble_eq_true rfl)⟩ ⟨(Nat.le_of_ble_eq_true rfl), (Nat.le_of_ble_eq_true rfl)⟩ ?_
        refine kk_det ?_
        refine g_lstore_n (vs' := [_, _, _, _, _, _, _]) h 3 dX5_mixedConditions_46 rfl (Nat.le_of_ble_eq_true rfl) rfl rfl ?_
        refine g_lload_n h 3 dX5_mixedConditions_47 rfl rfl ?_
        refine g_aload h dX5_mixedConditions_48 rfl ?_
        refine g_get h 2 fa_X5_249 dX5_mixedConditions_50 q2 rfl ?_
        refine g_callS h [] (c_X5_mixed (xL X) E _ (31 * (31 * (dgC S h0 i) + (nI (sCs S i)).toInt64) + (nI (sCx S i)).toInt64) (nI (sCy S i))) cf_X5_197 cs_X5_mixed dX5_mixedConditions_53 rfl rfl (Nat.le_of_ble_eq_true rfl) ⟨(Nat.le_of_ble_eq_true rfl), (Nat.le_of_ble_eq_true rfl)⟩ ⟨(Nat.le_of_ble_eq_true rfl), (Nat.le_of_ble_eq_true rfl)⟩ ?_
        refine kk_det ?_
        refine g_lstore_n (vs' := [_, _, _, _, _, _, _]) h 3 dX5_mixedConditions_56 rfl (Nat.le_of_ble_eq_true rfl) rfl rfl ?_
        refine g_iinc (vs' := [_, _, _, _, _, _, _]) h (nI (i + 1)) dX5_mixedConditions_57 rfl (by first | exact nI_1 _ | rfl) (Nat.le_of_ble_eq_true rfl) rfl rfl ?_
        refine g_goto h 5 dX5_mixedConditions_60 (by decide) ?_
        refine g_few (vs' := [some (.ref z), some (.long h0), none, some (.long (31 * (31 * (31 * (dgC S h0 i) + (nI (sCs S i)).toInt64) + (nI (sCx S i)).toInt64) + (nI (sCy S i)).toInt64)), none, some (.int (nI (i + 1))), none]) ⟨Or.inr rfl, Or.inr rfl, Or.inr rfl, Or.inr rfl, Or.inr rfl, Or.inr rfl, Or.inl rfl, trivial⟩ ?_
        exact ih (i + 1) (by omega) (by omega)
  exact L5 (sCn S + 1) 0 (by omega) (by omega)
abbrev rm_X5_digest : Room := { frames := 4, cells := 0, slots := 0, locals := 87 }
set_option maxRecDepth 100000 in
set_option maxHeartbeats 4000000 in
theorem c_X5_digest (lau : Launch) (E : EnvD) (σ : Sto) {z : Nat} {S : PSt} (hI : Inv S) (hR : RepC E z S σ) : CC lau yX5_digest cX5_digest 4 (some .long) rm_X5_digest E [.ref z] σ (fun o s => o = some (.long (opDigest S)) ∧ s = σ) := by
  refine cc_of (vs := [_, _, _, _]) (by decide) (Nat.le_of_ble_eq_true rfl) rfl ?_
  intro X h hr hn
  obtain ⟨r0, ⟨fV, rV, eV⟩, ⟨fP, rP, eP⟩, ⟨fC, rC, eC⟩, ⟨fR, rR, eR⟩, ⟨fM, rM, eM⟩, rCh, rT, rO, ⟨nE, gE, hE, rE⟩, rows, prows⟩ := id hR
  refine g_ldc2 h 181 lc_X5_192 dX5_digest_0 ?_
  refine g_lstore_n (vs' := [_, _, _, _]) h 1 dX5_digest_3 rfl (Nat.le_of_ble_eq_true rfl) rfl rfl ?_
  refine g_iconst h (nI 0) dX5_digest_4 (by decide) ?_
  refine g_istore_n (vs' := [_, _, _, _]) h 3 dX5_digest_5 rfl (Nat.le_of_ble_eq_true rfl) rfl rfl ?_
  have L6 : ∀ (m0 : Nat) (w : Nat), (w ≤ 5) → (5 - w) < m0 → G X E 4 (AD σ) (QF X E σ (fun o s => o = some (.long (opDigest S)) ∧ s = σ) rm_X5_digest) 0 0 6 [some (.ref z), some (.long (dgF (cntS S) 181 w)), none, some (.int (nI w))] [] σ := by
    intro m0
    induction m0 with
    | zero => intro w _ hm0; exact absurd hm0 (Nat.not_lt_zero _)
    | succ m0 ih =>
      intro w hw hm0
      refine g_iload_n h 3 dX5_digest_6 rfl rfl ?_
      refine g_iconst h (nI 4) dX5_digest_7 (by decide) ?_
      refine g_icmp_gtN h 27 dX5_digest_8 (by decide) (by omega) (by decide) (fun c8_1 => ?_) (fun c8_1 => ?_)
      · skip
        obtain rfl : w = 5 := by omega
        refine g_lload_n h 1 dX5_digest_27 rfl rfl ?_
        refine g_aload_n h 0 dX5_digest_28 rfl rfl ?_
        refine g_get h 0 fa_X5_11 dX5_digest_29 r0 rfl ?_
        refine g_callS h [] (c_X5_mixedRows (xL X) E _ rV eV (fun v hv => rows v hv) (fun v hv => (hI.1 v hv).1) (by omega) (dgF (cntS S) 181 5)) cf_X5_201 cs_X5_mixedRows dX5_digest_32 rfl rfl (Nat.le_of_ble_eq_true rfl) ⟨(Nat.le_of_ble_eq_true rfl), (Nat.le_of_ble_eq_true rfl)⟩ ⟨(Nat.le_of_ble_eq_true rfl), (Nat.le_of_ble_eq_true rfl)⟩ ?_
        refine kk_det ?_
        refine g_lstore_n (vs' := [_, _, _, _]) h 1 dX5_digest_35 rfl (Nat.le_of_ble_eq_true rfl) rfl rfl ?_
        refine g_lload_n h 1 dX5_digest_36 rfl rfl ?_
        refine g_aload_n h 0 dX5_digest_37 rfl rfl ?_
        refine g_get h 1 fa_X5_15 dX5_digest_38 r0 rfl ?_
        refine g_callS h [] (c_X5_mixedRows (xL X) E _ rP eP (fun v hv => prows v hv) (fun v hv => (hI.2.1 v hv).1) (by omega) (dgR (sVn S) (rwV S) (dgF (cntS S) 181 5) 8)) cf_X5_201 cs_X5_mixedRows dX5_digest_41 rfl rfl (Nat.le_of_ble_eq_true rfl) ⟨(Nat.le_of_ble_eq_true rfl), (Nat.le_of_ble_eq_true rfl)⟩ ⟨(Nat.le_of_ble_eq_true rfl), (Nat.le_of_ble_eq_true rfl)⟩ ?_
        refine kk_det ?_
        refine g_lstore_n (vs' := [_, _, _, _]) h 1 dX5_digest_44 rfl (Nat.le_of_ble_eq_true rfl) rfl rfl ?_
        refine g_iconst h (nI 0) dX5_digest_45 (by decide) ?_
        refine g_istore_n (vs' := [_, _, _, _]) h 3 dX5_digest_46 rfl (Nat.le_of_ble_eq_true rfl) rfl rfl ?_
        have L47 : ∀ (m0 : Nat) (x : Nat), (x ≤ 100) → (100 - x) < m0 → G X E 4 (AD σ) (QF X E σ (fun o s => o = some (.long (opDigest S)) ∧ s = σ) rm_X5_digest) 0 0 47 [some (.ref z), some (.long (dgF (fun x => nI (sMk S x)) (dgR (sPn S) (sPh S) (dgR (sVn S) (rwV S) (dgF (cntS S) 181 5) 8) 4) x)), none, some (.int (nI x))] [] σ := by
          intro m0
          induction m0 with
          | zero => intro x _ hm0; exact absurd hm0 (Nat.not_lt_zero _)
          | succ m0 ih2 =>
            intro x hx hm0
            refine g_iload_n h 3 dX5_digest_47 rfl rfl ?_
            refine g_bipush h (nI 100) dX5_digest_48 (by decide) ?_
            refine g_icmp_geN h 69 dX5_digest_50 (by decide) (by omega) (by decide) (fun c50_2 => ?_) (fun c50_2 => ?_)
            · skip
              obtain rfl : x = 100 := by omega
              refine g_aload_n h 0 dX5_digest_69 rfl rfl ?_
              refine g_lload_n h 1 dX5_digest_70 rfl rfl ?_
              refine g_callV h [] (c_X5_mixedRules (xL X) E _ hI hR (dgF (fun x => nI (sMk S x)) (dgR (sPn S) (sPh S) (dgR (sVn S) (rwV S) (dgF (cntS S) 181 5) 8) 4) 100)) cf_X5_205 cv_X5_mixedRules dX5_digest_71 rfl r0 rfl rfl (Nat.le_of_ble_eq_true rfl) ⟨(Nat.le_of_ble_eq_true rfl), (Nat.le_of_ble_eq_true rfl)⟩ ⟨(Nat.le_of_ble_eq_true rfl), (Nat.le_of_ble_eq_true rfl)⟩ ?_
              refine kk_det ?_
              refine g_lstore_n (vs' := [_, _, _, _]) h 1 dX5_digest_74 rfl (Nat.le_of_ble_eq_true rfl) rfl rfl ?_
              refine g_aload_n h 0 dX5_digest_75 rfl rfl ?_
              refine g_lload_n h 1 dX5_digest_76 rfl rfl ?_
              refine g_callV h [] (c_X5_mixedConditions (xL X) E _ hI hR (dgU S (dgF (fun x => nI (sMk S x)) (dgR (sPn S) (sPh S) (dgR (sVn S) (rwV S) (dgF (cntS S) 181 5) 8) 4) 100) (sRn S))) cf_X5_209 cv_X5_mixedConditions dX5_digest_77 rfl r0 rfl rfl (Nat.le_of_ble_eq_true rfl) ⟨(Nat.le_of_ble_eq_true rfl), (Nat.le_of_ble_eq_true rfl)⟩ ⟨(Nat.le_of_ble_eq_true rfl), (Nat.le_of_ble_eq_true rfl)⟩ ?_
              refine kk_det ?_
              exact g_lret h hr dX5_digest_80 (⟨rfl, rfl⟩) (Nat.le_of_ble_eq_true rfl) (Nat.le_of_ble_eq_true rfl)
            · skip
              refine g_lload_n h 1 dX5_digest_53 rfl rfl ?_
              refine g_aload_n h 0 dX5_digest_54 rfl rfl ?_
              refine g_iload_n h 3 dX5_digest_55 rfl rfl ?_
              refine g_callV h [_] (c_X5_marksOf (xL X) E _ r0 hR.2.2.2.2.2.1 (x := x) (by omega)) cf_X5_160 cv_X5_marksOf dX5_digest_56 rfl r0 rfl rfl (Nat.le_of_ble_eq_true rfl) ⟨(Nat.le_of_ble_eq_true rfl), (Nat.le_of_ble_eq_true rfl)⟩ ⟨(Nat.le_of_ble_eq_true rfl), (Nat.le_of_ble_eq_true rfl)⟩ ?_
              refine kk_det ?_
              refine g_callS h [] (c_X5_mixed (xL X) E _ (dgF (fun x => nI (sMk S x)) (dgR (sPn S) (sPh S) (dgR (sVn S) (rwV S) (dgF (cntS S) 181 5) 8) 4) x) (nI (sMk S x))) cf_X5_197 cs_X5_mixed dX5_digest_59 rfl rfl (Nat.le_of_ble_eq_true rfl) ⟨(Nat.le_of_ble_eq_true rfl), (Nat.le_of_ble_eq_true rfl)⟩ ⟨(Nat.le_of_ble_eq_true rfl), (Nat.le_of_ble_eq_true rfl)⟩ ?_
              refine kk_det ?_
              refine g_lstore_n (vs' := [_, _, _, _]) h 1 dX5_digest_62 rfl (Nat.le_of_ble_eq_true rfl) rfl rfl ?_
              refine g_iinc (vs' := [_, _, _, _]) h (nI (x + 1)) dX5_digest_63 rfl (by first | exact nI_1 _ | rfl) (Nat.le_of_ble_eq_true rfl) rfl rfl ?_
              refine g_goto h 47 dX5_digest_66 (by decide) ?_
              exact ih2 (x + 1) (by omega) (by omega)
        exact L47 101 0 (by omega) (by omega)
      · skip
        refine g_lload_n h 1 dX5_digest_11 rfl rfl ?_
        refine g_aload_n h 0 dX5_digest_12 rfl rfl ?_
        refine g_iload_n h 3 dX5_digest_13 rfl rfl ?_
        refine g_callV h [_] (c_X5_count (xL X) E _ hI hR (nI w)) cf_X5_194 cv_X5_count dX5_digest_14 rfl r0 rfl rfl (Nat.le_of_ble_eq_true rfl) ⟨(Nat.le_of_ble_eq_true rfl), (Nat.le_of_ble_eq_true rfl)⟩ ⟨(Nat.le_of_ble_eq_true rfl), (Nat.le_of_ble_eq_true rfl)⟩ ?_
        refine kk_det ?_
        refine g_top (y := cntS S w) (by unfold opCount; rw [cif_t ⟨w, by omega, rfl⟩, cl_nI (by omega)]) ?_
        refine g_callS h [] (c_X5_mixed (xL X) E _ (dgF (cntS S) 181 w) (cntS S w)) cf_X5_197 cs_X5_mixed dX5_digest_17 rfl rfl (Nat.le_of_ble_eq_true rfl) ⟨(Nat.le_of_ble_eq_true rfl), (Nat.le_of_ble_eq_true rfl)⟩ ⟨(Nat.le_of_ble_eq_true rfl), (Nat.le_of_ble_eq_true rfl)⟩ ?_
        refine kk_det ?_
        refine g_lstore_n (vs' := [_, _, _, _]) h 1 dX5_digest_20 rfl (Nat.le_of_ble_eq_true rfl) rfl rfl ?_
        refine g_iinc (vs' := [_, _, _, _]) h (nI (w + 1)) dX5_digest_21 rfl (by first | exact nI_1 _ | rfl) (Nat.le_of_ble_eq_true rfl) rfl rfl ?_
        refine g_goto h 6 dX5_digest_24 (by decide) ?_
        exact ih (w + 1) (by omega) (by omega)
  exact L6 6 0 (by omega) (by omega)
theorem C_count (lau : Launch) (E : EnvD) (σ : Sto) {z : Nat} {S : PSt} (hI : Inv S) (hR : RepC E z S σ) (a1 : Int32) : CC lau yX5_count cX5_count 2 (some .int) rm_X5_count E [.ref z, .int a1] σ (fun o s => o = some (.int (opCount S a1).1) ∧ RepC E z (opCount S a1).2 s) :=
  (c_X5_count lau E σ hI hR a1).mono (fun r s q => ⟨q.1, by rw [q.2]; exact hR⟩)
theorem C_digest (lau : Launch) (E : EnvD) (σ : Sto) {z : Nat} {S : PSt} (hI : Inv S) (hR : RepC E z S σ) : CC lau yX5_digest cX5_digest 4 (some .long) rm_X5_digest E [.ref z] σ (fun o s => o = some (.long (opDigest S)) ∧ RepC E z S s) :=
  (c_X5_digest lau E σ hI hR).mono (fun r s q => ⟨q.1, by rw [q.2]; exact hR⟩)
