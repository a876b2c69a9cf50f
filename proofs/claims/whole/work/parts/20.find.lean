/-! TourPlan.find (own work; walk by program) -/
theorem RowIs.cong {E : EnvD} {s : Sto} {r n : Nat} {g g' : Nat → Int32} (h : RowIs E s r n g) (e : ∀ i, i < n → g i = g' i) : RowIs E s r n g' := by
  obtain ⟨a, f, b, c⟩ := h
  exact ⟨a, f, b, fun i hi => (c i hi).trans (e i hi)⟩
theorem nxT_some {ct : Nat → Nat → Nat} {all f R : Nat} (hR : R < 256) (h0 : R ≠ 0) : ∃ b, nxT ct all f R = some b ∧ b < 8 ∧ R.testBit b = true := by
  cases h : nxT ct all f R with
  | none =>
    obtain ⟨t, h1, h2⟩ := any_bit R hR h0
    have := bestT_none h t h1
    rw [h2] at this
    cases this
  | some b => exact ⟨b, rfl, bestT_in h⟩
theorem trT_s {ct : Nat → Nat → Nat} {all f R b : Nat} (h : nxT ct all (f + 1) R = some b) : trT ct all (f + 1) R 0 = b ∧ ∀ i, trT ct all (f + 1) R (i + 1) = trT ct all f (R ^^^ 2 ^ b) i := by
  refine ⟨?_, fun i => ?_⟩
  · show (nxT ct all (f + 1) R).getD 0 = b
    rw [h]; rfl
  · show trT ct all f (R ^^^ 2 ^ ((nxT ct all (f + 1) R).getD 0)) i = _
    rw [h]; rfl
abbrev rm_X4_find : Room := { frames := 4, cells := 0, slots := 0, locals := 91 }
set_option maxRecDepth 100000 in
set_option maxHeartbeats 4000000 in
theorem c_X4_find (lau : Launch) (E : EnvD) (σ : Sto) {c : Nat} {fc : Nat → Option Nat} (h0 : σ.1 c = some (cO 4 [.ref (c + 1), .ref (c + 3), .ref (c + 12)])) (h1 : σ.1 (c + 3) = some (cQ E 5 8 fc)) (hf : ∀ i, i < 8 → fc i = some (c + 4 + i)) {tw n0 : Nat} {ct : Nat → Nat → Nat} {gf0 g0 : Nat → Int32} (hct : ∀ t, t < 8 → ∃ g, σ.1 (c + 4 + t) = some (cI E 8 g) ∧ ∀ k, k < pop tw → g k = nI (ct t k)) (h40 : ∀ t k, ct t k ≤ 40) (h4 : σ.1 (c + 12) = some (cI E 256 gf0)) (hro : RowIs E σ (c + 1) n0 g0) (htw : tw < 256) : CC lau yX4_find cX4_find 5 (some .int) rm_X4_find E [.ref c, .int (nI tw)] σ (fun o s => o = some (.int (nI (Fm ct (pop tw) (pop tw) tw))) ∧ s.2 = σ.2 ∧ (∀ a, a ≠ c + 1 → a ≠ c + 2 → a ≠ c + 12 → s.1 a = σ.1 a) ∧ (∃ g, s.1 (c + 12) = some (cI E 256 g)) ∧ RowIs E s (c + 1) (pop tw) (fun k => nI (trT ct (pop tw) (pop tw) tw k))) := by
  refine cc_of (vs := [_, _, _, _, _]) (by decide) (Nat.le_of_ble_eq_true rfl) rfl ?_
  intro X h hr hn
  refine g_sipush h (nI 255) dX4_find_0 (by decide) ?_
  refine g_istore_n (vs' := [_, _, _, _, _]) h 2 dX4_find_3 rfl (Nat.le_of_ble_eq_true rfl) rfl rfl ?_
  refine g_sto (sup_self (e := cI E 256 gf0) h4).symm ?_
  have L4 : ∀ (m0 : Nat) (e : Nat) (x2 : Int32) (gf : Nat → Int32), (e ≤ 256) → ((e = 0 ∧ x2 = -1) ∨ ∃ v, e = v + 1 ∧ x2 = nI v) → (∀ u, u < 256 → e ≤ u → sbs u tw → gf u = nI (Fm ct (pop tw) (pop (tw ^^^ u)) (tw ^^^ u))) → e < m0 → G X E 5 (AD σ) (QF X E σ (fun o s => o = some (.int (nI (Fm ct (pop tw) (pop tw) tw))) ∧ s.2 = σ.2 ∧ (∀ a, a ≠ c + 1 → a ≠ c + 2 → a ≠ c + 12 → s.1 a = σ.1 a) ∧ (∃ g, s.1 (c + 12) = some (cI E 256 g)) ∧ RowIs E s (c + 1) (pop tw) (fun k => nI (trT ct (pop tw) (pop tw) tw k))) rm_X4_find) 0 0 4 [some (.ref c), some (.int (nI tw)), some (.int x2), none, none] [] (sup σ (c + 12) (cI E 256 gf)) := by
    intro m0
    induction m0 with
    | zero => intro e x2 gf _ _ _ hm0; exact absurd hm0 (Nat.not_lt_zero _)
    | succ m0 ih =>
      intro e x2 gf he hx2 hG hm0
      refine g_iload_n h 2 dX4_find_4 rfl rfl ?_
      refine g_if_lt h 34 dX4_find_5 (by decide) (fun c5_1 => ?_) (fun c5_1 => ?_)
      · skip
        have he0 : e = 0 := by
          rcases hx2 with q | ⟨i, q1, q2⟩
          · exact q.1
          · subst q2; exact absurd c5_1 (nI_pos (by omega))
        subst he0
        refine g_few (vs' := [some (.ref c), some (.int (nI tw)), none, none, none]) ⟨Or.inr rfl, Or.inr rfl, Or.inl rfl, Or.inl rfl, Or.inl rfl, trivial⟩ ?_
        have hG0 : ∀ u, u < 256 → sbs u tw → gf u = nI (Fm ct (pop tw) (pop (tw ^^^ u)) (tw ^^^ u)) := fun u hu hs => hG u hu (Nat.zero_le _) hs
        have hro1 : RowIs E (sup σ (c + 12) (cI E 256 gf)) (c + 1) n0 g0 := hro.fr (sup_ne (by omega)) (sup_ne (by omega))
        refine g_aload_n h 0 dX4_find_34 rfl rfl ?_
        refine g_get h 0 fa_X4_12 dX4_find_35 (sup_k h0 h4 (by simp)) rfl ?_
        refine g_callV h [] (r_empty (xL X) hro1 (fun _ => 0)) cf_X4_35 cv_X2_empty dX4_find_38 rfl (sup_k hro.1 h4 (by simp)) rfl rfl (Nat.le_of_ble_eq_true rfl) ⟨(Nat.le_of_ble_eq_true rfl), (Nat.le_of_ble_eq_true rfl)⟩ ⟨(Nat.le_of_ble_eq_true rfl), (Nat.le_of_ble_eq_true rfl)⟩ ?_
        rintro _ s2 ⟨rfl, hch, hri⟩
        have hz : s2.2 = σ.2 := hch.1
        have hA : ∀ a, a ≠ c + 1 → a ≠ c + 2 → a ≠ c + 12 → s2.1 a = σ.1 a := fun a q1 q2 q3 => (hch.2 a q1 (by omega)).trans (sup_ne q3)
        have hg : s2.1 (c + 12) = some (cI E 256 gf) := (hch.2 _ (by omega) (by omega)).trans sup_eq
        have k0 := (hA c (by omega) (by omega) (by omega)).trans h0
        refine g_iconst h (nI 0) dX4_find_41 (by decide) ?_
        refine g_istore_n (vs' := [_, _, _, _, _]) h 2 dX4_find_42 rfl (Nat.le_of_ble_eq_true rfl) rfl rfl ?_
        refine g_iconst h (nI 0) dX4_find_43 (by decide) ?_
        refine g_istore_n (vs' := [_, _, _, _, _]) h 3 dX4_find_44 rfl (Nat.le_of_ble_eq_true rfl) rfl rfl ?_
        clear hx2 he hm0 ih hro1 hch
        have hex := xor_lt (a := tw) (b := 0) htw (by omega)
        have L45 : ∀ (m0 : Nat) (q : Nat) (v : Nat) (gk : Nat → Int32) (s2 : Sto), (v < 256) → (sbs v tw) → (q = pop v) → (s2.2 = σ.2) → (∀ a, a ≠ c + 1 → a ≠ c + 2 → a ≠ c + 12 → s2.1 a = σ.1 a) → (s2.1 (c + 12) = some (cI E 256 gf)) → (RowIs E s2 (c + 1) q gk) → (∀ i, i < q → gk i = nI (trT ct (pop tw) (pop tw) tw i)) → (∀ i, trT ct (pop tw) (pop tw) tw (q + i) = trT ct (pop tw) (pop tw - q) (tw ^^^ v) i) → (9 - q) < m0 → G X E 5 (AD σ) (QF X E σ (fun o s => o = some (.int (nI (Fm ct (pop tw) (pop tw) tw))) ∧ s.2 = σ.2 ∧ (∀ a, a ≠ c + 1 → a ≠ c + 2 → a ≠ c + 12 → s.1 a = σ.1 a) ∧ (∃ g, s.1 (c + 12) = some (cI E 256 g)) ∧ RowIs E s (c + 1) (pop tw) (fun k => nI (trT ct (pop tw) (pop tw) tw k))) rm_X4_find) 0 0 45 [some (.ref c), some (.int (nI tw)), some (.int (nI v)), some (.int (nI q)), none] [] s2 := by
          intro m0
          induction m0 with
          | zero => intro q v gk s2 _ _ _ _ _ _ _ _ _ hm0; exact absurd hm0 (Nat.not_lt_zero _)
          | succ m0 ih =>
            intro q v gk s2 hv hs hq hz hA hg hri hk hsh hm0
            have k0 := (hA c (by omega) (by omega) (by omega)).trans h0
            have pp := pop_xor hs
            have pl8 := pop_le tw htw
            refine g_iload_n h 3 dX4_find_45 rfl rfl ?_
            refine g_bipush h (nI 8) dX4_find_46 (by decide) ?_
            refine g_icmp_geN h 87 dX4_find_48 (by decide) (by omega) (by decide) (fun c48_2 => ?_) (fun c48_2 => ?_)
            · skip
              obtain rfl : v = tw := sbs_eq hs ((pop_0 _ (xor_lt htw hv)).mp (by omega))
              have gz := hG0 0 (by omega) sbs_0
              rw [Nat.xor_zero] at gz
              refine g_aload_n h 0 dX4_find_87 rfl rfl ?_
              refine g_get h 2 fa_X4_23 dX4_find_88 k0 rfl ?_
              refine g_iconst h (nI 0) dX4_find_91 (by decide) ?_
              refine g_iald h dX4_find_92 hg (by omega) (by omega) ?_
              refine g_top (y := nI (Fm ct (pop v) (pop v) v)) (gz) ?_
              exact g_iret h hr dX4_find_93 (⟨rfl, hz, hA, ⟨gf, hg⟩, by subst hq; exact hri.cong hk⟩) (Nat.le_of_ble_eq_true rfl) (Nat.le_of_ble_eq_true rfl)
            · skip
              refine g_iload_n h 2 dX4_find_51 rfl rfl ?_
              refine g_iload_n h 1 dX4_find_52 rfl rfl ?_
              refine g_icmp_eqN h 87 dX4_find_53 (by decide) (by omega) (by omega) (fun c53_3 => ?_) (fun c53_3 => ?_)
              · skip
                obtain rfl : v = tw := c53_3
                have gz := hG0 0 (by omega) sbs_0
                rw [Nat.xor_zero] at gz
                refine g_aload_n h 0 dX4_find_87 rfl rfl ?_
                refine g_get h 2 fa_X4_23 dX4_find_88 k0 rfl ?_
                refine g_iconst h (nI 0) dX4_find_91 (by decide) ?_
                refine g_iald h dX4_find_92 hg (by omega) (by omega) ?_
                refine g_top (y := nI (Fm ct (pop v) (pop v) v)) (gz) ?_
                exact g_iret h hr dX4_find_93 (⟨rfl, hz, hA, ⟨gf, hg⟩, by subst hq; exact hri.cong hk⟩) (Nat.le_of_ble_eq_true rfl) (Nat.le_of_ble_eq_true rfl)
              · skip
                obtain ⟨b, hnb, hb8, hbb⟩ := nxT_some (ct := ct) (all := pop tw) (f := pop (tw ^^^ v)) (xor_lt htw hv) (fun z => c53_3 (sbs_eq hs z))
                obtain ⟨x1, x2, x3⟩ := xor_sub hs hbb
                obtain ⟨p1, p2, p3, p4⟩ := pop_or v hv b hb8 x1
                obtain ⟨r1, r2, r3⟩ := pop_rm _ (xor_lt htw hv) b hb8 hbb
                obtain ⟨f, hf9⟩ : ∃ f, pop (tw ^^^ v) = f + 1 := ⟨pop (tw ^^^ v) - 1, by omega⟩
                rw [hf9] at hnb
                have tr := trT_s hnb
                have hpf : pop tw - q = f + 1 := by omega
                rw [hpf] at hsh
                refine g_aload_n h 0 dX4_find_56 rfl rfl ?_
                refine g_iload_n h 1 dX4_find_57 rfl rfl ?_
                refine g_iload_n h 2 dX4_find_58 rfl rfl ?_
                refine g_callV h [] (c_X4_nextTown (xL X) E _ k0 ((hA _ (by omega) (by omega) (by omega)).trans h1) hf (v := v) (fun t ht => by obtain ⟨g, q1, q2⟩ := hct t ht; exact ⟨g, (hA _ (by omega) (by omega) (by omega)).trans q1, q2⟩) h40 hg (hW_of h40 (fun u hu _ hsu => hG0 u hu hsu) htw hv hs) htw hv hs) cf_X4_38 cv_X4_nextTown dX4_find_59 rfl k0 rfl rfl (Nat.le_of_ble_eq_true rfl) ⟨(Nat.le_of_ble_eq_true rfl), (Nat.le_of_ble_eq_true rfl)⟩ ⟨(Nat.le_of_ble_eq_true rfl), (Nat.le_of_ble_eq_true rfl)⟩ ?_
                refine kk_det ?_
                rw [nx_eq hs, hf9, hnb]
                refine g_top (y := nI b) rfl ?_
                refine g_istore (vs' := [_, _, _, _, _]) h dX4_find_62 (Nat.le_of_ble_eq_true rfl) rfl rfl ?_
                refine g_aload_n h 0 dX4_find_64 rfl rfl ?_
                refine g_get h 0 fa_X4_12 dX4_find_65 k0 rfl ?_
                refine g_iload_n h 3 dX4_find_68 rfl rfl ?_
                refine g_iload h dX4_find_69 rfl ?_
                refine g_callV h [] (r_insert (xL X) hri (i := q) (nI b) (Nat.le_refl _) (by omega)) cf_X4_41 cv_X2_insert dX4_find_71 rfl hri.1 rfl rfl (Nat.le_of_ble_eq_true rfl) ⟨(Nat.le_of_ble_eq_true rfl), (Nat.le_of_ble_eq_true rfl)⟩ ⟨(Nat.le_of_ble_eq_true rfl), (Nat.le_of_ble_eq_true rfl)⟩ ?_
                rintro _ s3 ⟨rfl, hch, hri3⟩
                refine g_iload_n h 2 dX4_find_74 rfl rfl ?_
                refine g_iconst h (nI 1) dX4_find_75 (by decide) ?_
                refine g_iload h dX4_find_76 rfl ?_
                refine g_ishl h dX4_find_78 ?_
                refine g_top (shl_N b hb8) ?_
                refine g_ior h dX4_find_79 ?_
                refine g_top (nI_or _ _) ?_
                refine g_istore_n (vs' := [_, _, _, _, _]) h 2 dX4_find_80 rfl (Nat.le_of_ble_eq_true rfl) rfl rfl ?_
                refine g_iinc (vs' := [_, _, _, _, _]) h (nI (q + 1)) dX4_find_81 rfl (by first | exact nI_1 _ | rfl) (Nat.le_of_ble_eq_true rfl) rfl rfl ?_
                refine g_goto h 45 dX4_find_84 (by decide) ?_
                refine g_few (vs' := [some (.ref c), some (.int (nI tw)), some (.int (nI (v ||| 2 ^ b))), some (.int (nI (q + 1))), none]) ⟨Or.inr rfl, Or.inr rfl, Or.inr rfl, Or.inr rfl, Or.inl rfl, trivial⟩ ?_
                refine ih (q + 1) (v ||| 2 ^ b) _ s3 p2 x2 (by omega) (hch.1.trans hz) (fun a q1 q2 q3 => (hch.2 a q1 (by omega)).trans (hA a q1 q2 q3)) ((hch.2 _ (by omega) (by omega)).trans hg) hri3 ?_ ?_ (by omega)
                · intro i hi
                  unfold insF
                  by_cases e1 : i < q
                  · rw [if_pos e1]; exact hk i e1
                  · obtain rfl : i = q := by omega
                    rw [if_neg e1, if_pos rfl, ← (tr.1), ← hsh 0, Nat.add_zero]
                · intro i
                  rw [x3, show q + 1 + i = q + (i + 1) by omega, hsh (i + 1), tr.2 i, show pop tw - (q + 1) = f by omega]
        exact L45 10 0 0 (fun _ => 0) s2 (by omega) sbs_0 (by decide) hz hA hg hri (fun i hi => absurd hi (Nat.not_lt_zero _)) (fun i => by rw [Nat.zero_add, Nat.xor_zero, Nat.sub_zero]) (by omega)
      · skip
        obtain ⟨v, rfl, rfl⟩ : ∃ v, e = v + 1 ∧ x2 = nI v := by
          rcases hx2 with q | q
          · rw [q.2] at c5_1; exact absurd (by decide) c5_1
          · exact q
        refine g_iload_n h 2 dX4_find_8 rfl rfl ?_
        refine g_iload_n h 1 dX4_find_9 rfl rfl ?_
        refine g_iconst h (-1) dX4_find_10 (by decide) ?_
        refine g_ixor h dX4_find_11 ?_
        refine g_iand h dX4_find_12 ?_
        refine g_if_ne h 28 dX4_find_13 (by decide) (fun c13_4 => ?_) (fun c13_4 => ?_)
        · skip
          refine g_iinc (vs' := [_, _, _, _, _]) h (nI v + -1) dX4_find_28 rfl rfl (Nat.le_of_ble_eq_true rfl) rfl rfl ?_
          refine g_goto h 4 dX4_find_31 (by decide) ?_
          refine ih v _ gf (by omega) (by rcases Nat.eq_zero_or_pos v with e | e; (· subst e; exact Or.inl ⟨rfl, by decide⟩); (· exact Or.inr ⟨v - 1, by omega, nI_dec e⟩)) (fun u hu hvu hsu => ?_) (by omega)
          rcases Nat.lt_or_ge v u with e | e
          · exact hG u hu e hsu
          · exact absurd ((nI_andnot0 htw (by omega)).mpr ((show u = v by omega) ▸ hsu)) c13_4
        · skip
          have hsb := (nI_andnot0 htw (by omega)).mp c13_4
          refine g_aload_n h 0 dX4_find_16 rfl rfl ?_
          refine g_get h 2 fa_X4_23 dX4_find_17 (sup_k h0 h4 (by simp)) rfl ?_
          refine g_iload_n h 2 dX4_find_20 rfl rfl ?_
          refine g_aload_n h 0 dX4_find_21 rfl rfl ?_
          refine g_iload_n h 1 dX4_find_22 rfl rfl ?_
          refine g_iload_n h 2 dX4_find_23 rfl rfl ?_
          refine g_callV h [_, _] (c_X4_fewestBehind (xL X) E _ ((sup_ne (by omega)).trans h0) ((sup_ne (by omega)).trans h1) hf (v := v) (fun t ht => by obtain ⟨g, q1, q2⟩ := hct t ht; exact ⟨g, (sup_ne (by omega)).trans q1, q2⟩) h40 sup_eq (fun u hu hvu hsu => hG u hu (by omega) hsu) htw (by omega) hsb) cf_X4_31 cv_X4_fewestBehind dX4_find_24 rfl (sup_k h0 h4 (by simp)) rfl rfl (Nat.le_of_ble_eq_true rfl) ⟨(Nat.le_of_ble_eq_true rfl), (Nat.le_of_ble_eq_true rfl)⟩ ⟨(Nat.le_of_ble_eq_true rfl), (Nat.le_of_ble_eq_true rfl)⟩ ?_
          refine kk_det ?_
          refine g_iast h dX4_find_27 sup_eq (by omega) (by omega) ?_
          refine g_sto sup_sup ?_
          refine g_iinc (vs' := [_, _, _, _, _]) h (nI v + -1) dX4_find_28 rfl rfl (Nat.le_of_ble_eq_true rfl) rfl rfl ?_
          refine g_goto h 4 dX4_find_31 (by decide) ?_
          refine ih v _ _ (by omega) (by rcases Nat.eq_zero_or_pos v with e | e; (· subst e; exact Or.inl ⟨rfl, by decide⟩); (· exact Or.inr ⟨v - 1, by omega, nI_dec e⟩)) (fun u hu hvu hsu => ?_) (by omega)
          unfold upd
          by_cases e : u = v
          · subst e; rw [if_pos rfl]
          · rw [if_neg e]; exact hG u hu (by omega) hsu
  exact L4 257 256 (nI 255) gf0 (by omega) (Or.inr ⟨255, rfl, rfl⟩) (fun u h1 h2 _ => by omega) (by omega)
