abbrev rm_X6_count : Room := { frames := 0, cells := 0, slots := 0, locals := 0 }
set_option maxRecDepth 100000 in
set_option maxHeartbeats 4000000 in
theorem c_X6_count (lau : Launch) (E : EnvD) (σ : Sto) {b : Nat} {S : PSt} (hI : Inv S) (hM : RepM E b S σ) (a1 : Int32) : CC lau yX6_count cX6_count 5 (some .int) rm_X6_count E [.ref b, .int a1] σ (fun o s => o = some (.int (opCount S a1).1) ∧ s = σ) := by
  refine cc_of (vs := [_, _, _, _, _]) (by decide) (Nat.le_of_ble_eq_true rfl) rfl ?_
  intro X h hr hn
  obtain ⟨r0, ⟨f1, r1, e1⟩, ⟨f2, r2, e2⟩, ⟨f3, r3, e3⟩, ⟨f4, r4, e4⟩, ⟨f5, r5, e5⟩, ⟨f6, r6, e6⟩, ⟨f7, r7, e7⟩, ⟨f8, r8, e8⟩, ⟨f9, r9, e9⟩, ⟨f10, r10, e10⟩, ⟨f11, r11, e11⟩, ⟨f12, r12, e12⟩, ⟨f13, r13⟩, ⟨f14, r14⟩, ⟨f15, r15⟩, ⟨f16, r16, e16⟩, ⟨f17, r17⟩⟩ := id hM
  by_cases ha1 : inR a1 5
  · obtain ⟨w, hw, rfl⟩ := ha1
    have ew : cl (nI w) = w := cl_nI (by omega)
    rcases (show w = 0 ∨ w = 1 ∨ w = 2 ∨ w = 3 ∨ w = 4 by omega) with rfl | rfl | rfl | rfl | rfl
    · skip
      have e0 : opCount S (nI 0) = (cntS S 0, S) := by unfold opCount; rw [cif_t ⟨0, hw, rfl⟩, ew]
      refine g_iconst h (nI 0) dX6_count_0 (by decide) ?_
      refine g_istore_n (vs' := [_, _, _, _, _]) h 2 dX6_count_1 rfl (Nat.le_of_ble_eq_true rfl) rfl rfl ?_
      refine g_iload_n h 1 dX6_count_2 rfl rfl ?_
      refine g_tabIn (off := 33) h 36 dX6_count_3 (by decide) (by decide) rfl (by decide) ?_
      refine g_iconst h (nI 0) dX6_count_36 (by decide) ?_
      refine g_istore_n (vs' := [_, _, _, _, _]) h 3 dX6_count_37 rfl (Nat.le_of_ble_eq_true rfl) rfl rfl ?_
      have L38 : ∀ (m0 : Nat) (v : Nat), (v ≤ 8) → (8 - v) < m0 → G X E 5 (AD σ) (QF X E σ (fun o s => o = some (.int (opCount S (nI 0)).1) ∧ s = σ) rm_X6_count) 0 0 38 [some (.ref b), some (.int (nI 0)), some (.int (nI (sumN (sVn S) v))), some (.int (nI v)), none] [] σ := by
        intro m0
        induction m0 with
        | zero => intro v _ hm0; exact absurd hm0 (Nat.not_lt_zero _)
        | succ m0 ih =>
          intro v hv hm0
          refine g_iload_n h 3 dX6_count_38 rfl rfl ?_
          refine g_bipush h (nI 8) dX6_count_39 (by decide) ?_
          refine g_icmp_geN h 59 dX6_count_41 (by decide) (by omega) (by decide) (fun c41_1 => ?_) (fun c41_1 => ?_)
          · skip
            obtain rfl : v = 8 := by omega
            refine g_iload_n h 2 dX6_count_59 rfl rfl ?_
            exact g_iret h hr dX6_count_60 (⟨by rw [e0]; rfl, rfl⟩) (Nat.le_of_ble_eq_true rfl) (Nat.le_of_ble_eq_true rfl)
          · skip
            refine g_iload_n h 2 dX6_count_44 rfl rfl ?_
            refine g_aload_n h 0 dX6_count_45 rfl rfl ?_
            refine g_get h 1 fa_X6_13 dX6_count_46 r0 rfl ?_
            refine g_iload_n h 3 dX6_count_49 rfl rfl ?_
            refine g_iald h dX6_count_50 r2 (by omega) (by omega) ?_
            refine g_top (y := nI (sVn S v)) (e2 v (by omega)) ?_
            refine g_iaddN h dX6_count_51 ?_
            refine g_istore_n (vs' := [_, _, _, _, _]) h 2 dX6_count_52 rfl (Nat.le_of_ble_eq_true rfl) rfl rfl ?_
            refine g_iinc (vs' := [_, _, _, _, _]) h (nI (v + 1)) dX6_count_53 rfl (by first | exact nI_1 _ | rfl) (Nat.le_of_ble_eq_true rfl) rfl rfl ?_
            refine g_goto h 38 dX6_count_56 (by decide) ?_
            exact ih (v + 1) (by omega) (by omega)
      exact L38 9 0 (by omega) (by omega)
    · skip
      have e0 : opCount S (nI 1) = (cntS S 1, S) := by unfold opCount; rw [cif_t ⟨1, hw, rfl⟩, ew]
      refine g_iconst h (nI 0) dX6_count_0 (by decide) ?_
      refine g_istore_n (vs' := [_, _, _, _, _]) h 2 dX6_count_1 rfl (Nat.le_of_ble_eq_true rfl) rfl rfl ?_
      refine g_iload_n h 1 dX6_count_2 rfl rfl ?_
      refine g_tabIn (off := 58) h 61 dX6_count_3 (by decide) (by decide) rfl (by decide) ?_
      refine g_aload_n h 0 dX6_count_61 rfl rfl ?_
      refine g_get h 4 fa_X6_81 dX6_count_62 r0 rfl ?_
      exact g_iret h hr dX6_count_65 (⟨by rw [e0]; rfl, rfl⟩) (Nat.le_of_ble_eq_true rfl) (Nat.le_of_ble_eq_true rfl)
    · skip
      have e0 : opCount S (nI 2) = (cntS S 2, S) := by unfold opCount; rw [cif_t ⟨2, hw, rfl⟩, ew]
      refine g_iconst h (nI 0) dX6_count_0 (by decide) ?_
      refine g_istore_n (vs' := [_, _, _, _, _]) h 2 dX6_count_1 rfl (Nat.le_of_ble_eq_true rfl) rfl rfl ?_
      refine g_iload_n h 1 dX6_count_2 rfl rfl ?_
      refine g_tabIn (off := 63) h 66 dX6_count_3 (by decide) (by decide) rfl (by decide) ?_
      refine g_iconst h (nI 0) dX6_count_66 (by decide) ?_
      refine g_istore_n (vs' := [_, _, _, _, _]) h 3 dX6_count_67 rfl (Nat.le_of_ble_eq_true rfl) rfl rfl ?_
      have L68 : ∀ (m0 : Nat) (v : Nat), (v ≤ 4) → (4 - v) < m0 → G X E 5 (AD σ) (QF X E σ (fun o s => o = some (.int (opCount S (nI 2)).1) ∧ s = σ) rm_X6_count) 0 0 68 [some (.ref b), some (.int (nI 2)), some (.int (nI (sumN (sPn S) v))), some (.int (nI v)), none] [] σ := by
        intro m0
        induction m0 with
        | zero => intro v _ hm0; exact absurd hm0 (Nat.not_lt_zero _)
        | succ m0 ih =>
          intro v hv hm0
          refine g_iload_n h 3 dX6_count_68 rfl rfl ?_
          refine g_iconst h (nI 4) dX6_count_69 (by decide) ?_
          refine g_icmp_geN h 88 dX6_count_70 (by decide) (by omega) (by decide) (fun c70_2 => ?_) (fun c70_2 => ?_)
          · skip
            obtain rfl : v = 4 := by omega
            refine g_iload_n h 2 dX6_count_88 rfl rfl ?_
            exact g_iret h hr dX6_count_89 (⟨by rw [e0]; rfl, rfl⟩) (Nat.le_of_ble_eq_true rfl) (Nat.le_of_ble_eq_true rfl)
          · skip
            refine g_iload_n h 2 dX6_count_73 rfl rfl ?_
            refine g_aload_n h 0 dX6_count_74 rfl rfl ?_
            refine g_get h 3 fa_X6_19 dX6_count_75 r0 rfl ?_
            refine g_iload_n h 3 dX6_count_78 rfl rfl ?_
            refine g_iald h dX6_count_79 r4 (by omega) (by omega) ?_
            refine g_top (y := nI (sPn S v)) (e4 v (by omega)) ?_
            refine g_iaddN h dX6_count_80 ?_
            refine g_istore_n (vs' := [_, _, _, _, _]) h 2 dX6_count_81 rfl (Nat.le_of_ble_eq_true rfl) rfl rfl ?_
            refine g_iinc (vs' := [_, _, _, _, _]) h (nI (v + 1)) dX6_count_82 rfl (by first | exact nI_1 _ | rfl) (Nat.le_of_ble_eq_true rfl) rfl rfl ?_
            refine g_goto h 68 dX6_count_85 (by decide) ?_
            exact ih (v + 1) (by omega) (by omega)
      exact L68 5 0 (by omega) (by omega)
    · skip
      have e0 : opCount S (nI 3) = (cntS S 3, S) := by unfold opCount; rw [cif_t ⟨3, hw, rfl⟩, ew]
      refine g_iconst h (nI 0) dX6_count_0 (by decide) ?_
      refine g_istore_n (vs' := [_, _, _, _, _]) h 2 dX6_count_1 rfl (Nat.le_of_ble_eq_true rfl) rfl rfl ?_
      refine g_iload_n h 1 dX6_count_2 rfl rfl ?_
      refine g_tabIn (off := 87) h 90 dX6_count_3 (by decide) (by decide) rfl (by decide) ?_
      refine g_iconst h (nI 0) dX6_count_90 (by decide) ?_
      refine g_istore_n (vs' := [_, _, _, _, _]) h 3 dX6_count_91 rfl (Nat.le_of_ble_eq_true rfl) rfl rfl ?_
      refine g_few (vs' := [some (.ref b), some (.int (nI 3)), some (.int (nI 0)), some (.int (nI 0)), none]) ⟨Or.inr rfl, Or.inr rfl, Or.inr rfl, Or.inr rfl, Or.inl rfl, trivial⟩ ?_
      have L92 : ∀ (m0 : Nat) (v : Nat), (v ≤ 4) → (4 - v) < m0 → G X E 5 (AD σ) (QF X E σ (fun o s => o = some (.int (opCount S (nI 3)).1) ∧ s = σ) rm_X6_count) 0 0 92 [some (.ref b), some (.int (nI 3)), some (.int (nI (sumN (fun p => gapN (sPh S p) (sPn S p)) v))), some (.int (nI v)), none] [] σ := by
        intro m0
        induction m0 with
        | zero => intro v _ hm0; exact absurd hm0 (Nat.not_lt_zero _)
        | succ m0 ih =>
          intro v hv hm0
          refine g_iload_n h 3 dX6_count_92 rfl rfl ?_
          refine g_iconst h (nI 4) dX6_count_93 (by decide) ?_
          refine g_icmp_geN h 147 dX6_count_94 (by decide) (by omega) (by decide) (fun c94_3 => ?_) (fun c94_3 => ?_)
          · skip
            obtain rfl : v = 4 := by omega
            refine g_iload_n h 2 dX6_count_147 rfl rfl ?_
            exact g_iret h hr dX6_count_148 (⟨by rw [e0]; rfl, rfl⟩) (Nat.le_of_ble_eq_true rfl) (Nat.le_of_ble_eq_true rfl)
          · skip
            have hnv := (hI.2.1 v (by omega)).1
            refine g_iconst h (nI 0) dX6_count_97 (by decide) ?_
            refine g_istore (vs' := [_, _, _, _, _]) h dX6_count_98 (Nat.le_of_ble_eq_true rfl) rfl rfl ?_
            have L100 : ∀ (m0 : Nat) (i : Nat) (q : Nat), (i ≤ sPn S v) → (q = sumN (fun p => gapN (sPh S p) (sPn S p)) v + gapN (sPh S v) i) → (sPn S v - i) < m0 → G X E 5 (AD σ) (QF X E σ (fun o s => o = some (.int (opCount S (nI 3)).1) ∧ s = σ) rm_X6_count) 0 0 100 [some (.ref b), some (.int (nI 3)), some (.int (nI q)), some (.int (nI v)), some (.int (nI i))] [] σ := by
              intro m0
              induction m0 with
              | zero => intro i q _ _ hm0; exact absurd hm0 (Nat.not_lt_zero _)
              | succ m0 ih2 =>
                intro i q hi hq hm0
                refine g_iload h dX6_count_100 rfl ?_
                refine g_aload_n h 0 dX6_count_102 rfl rfl ?_
                refine g_get h 3 fa_X6_19 dX6_count_103 r0 rfl ?_
                refine g_iload_n h 3 dX6_count_106 rfl rfl ?_
                refine g_iald h dX6_count_107 r4 (by omega) (by omega) ?_
                refine g_top (y := nI (sPn S v)) (e4 v (by omega)) ?_
                refine g_icmp_geN h 141 dX6_count_108 (by decide) (by omega) (by omega) (fun c108_4 => ?_) (fun c108_4 => ?_)
                · skip
                  obtain rfl : i = sPn S v := by omega
                  refine g_iinc (vs' := [_, _, _, _, _]) h (nI (v + 1)) dX6_count_141 rfl (by first | exact nI_1 _ | rfl) (Nat.le_of_ble_eq_true rfl) rfl rfl ?_
                  refine g_goto h 92 dX6_count_144 (by decide) ?_
                  refine g_few (vs' := [some (.ref b), some (.int (nI 3)), some (.int (nI q)), some (.int (nI (v + 1))), none]) ⟨Or.inr rfl, Or.inr rfl, Or.inr rfl, Or.inr rfl, Or.inl rfl, trivial⟩ ?_
                  rw [hq]
                  exact ih (v + 1) (by omega) (by omega)
                · skip
                  refine g_iload_n h 2 dX6_count_111 rfl rfl ?_
                  refine g_aload_n h 0 dX6_count_112 rfl rfl ?_
                  refine g_get h 2 fa_X6_16 dX6_count_113 r0 rfl ?_
                  refine g_bipush h (nI 40) dX6_count_116 (by decide) ?_
                  refine g_iload_n h 3 dX6_count_118 rfl rfl ?_
                  refine g_imulN h dX6_count_119 ?_
                  refine g_iload h dX6_count_120 rfl ?_
                  refine g_iaddN h dX6_count_122 ?_
                  refine g_iald h dX6_count_123 r3 (by omega) (by omega) ?_
                  refine g_top (y := (sPh S v i)) (e3 v (by omega) i (by omega)) ?_
                  refine g_iconst h (-1) dX6_count_124 (by decide) ?_
                  refine g_icmp_ne h 132 dX6_count_125 (by decide) (fun c125_5 => ?_) (fun c125_5 => ?_)
                  · skip
                    refine g_iconst h (nI 0) dX6_count_132 (by decide) ?_
                    refine g_iaddN h dX6_count_133 ?_
                    refine g_istore_n (vs' := [_, _, _, _, _]) h 2 dX6_count_134 rfl (Nat.le_of_ble_eq_true rfl) rfl rfl ?_
                    refine g_iinc (vs' := [_, _, _, _, _]) h (nI (i + 1)) dX6_count_135 rfl (by first | exact nI_1 _ | rfl) (Nat.le_of_ble_eq_true rfl) rfl rfl ?_
                    refine g_goto h 100 dX6_count_138 (by decide) ?_
                    exact ih2 (i + 1) _ (by omega) (by rw [hq, gapN, if_neg c125_5, Nat.add_assoc]) (by omega)
                  · skip
                    refine g_iconst h (nI 1) dX6_count_128 (by decide) ?_
                    refine g_goto h 133 dX6_count_129 (by decide) ?_
                    refine g_iaddN h dX6_count_133 ?_
                    refine g_istore_n (vs' := [_, _, _, _, _]) h 2 dX6_count_134 rfl (Nat.le_of_ble_eq_true rfl) rfl rfl ?_
                    refine g_iinc (vs' := [_, _, _, _, _]) h (nI (i + 1)) dX6_count_135 rfl (by first | exact nI_1 _ | rfl) (Nat.le_of_ble_eq_true rfl) rfl rfl ?_
                    refine g_goto h 100 dX6_count_138 (by decide) ?_
                    exact ih2 (i + 1) _ (by omega) (by rw [hq, gapN, if_pos c125_5, Nat.add_assoc]) (by omega)
            exact L100 (sPn S v + 1) 0 _ (by omega) rfl (by omega)
      exact L92 5 0 (by omega) (by omega)
    · skip
      have e0 : opCount S (nI 4) = (cntS S 4, S) := by unfold opCount; rw [cif_t ⟨4, hw, rfl⟩, ew]
      refine g_iconst h (nI 0) dX6_count_0 (by decide) ?_
      refine g_istore_n (vs' := [_, _, _, _, _]) h 2 dX6_count_1 rfl (Nat.le_of_ble_eq_true rfl) rfl rfl ?_
      refine g_iload_n h 1 dX6_count_2 rfl rfl ?_
      refine g_tabIn (off := 146) h 149 dX6_count_3 (by decide) (by decide) rfl (by decide) ?_
      refine g_aload_n h 0 dX6_count_149 rfl rfl ?_
      refine g_get h 9 fa_X6_101 dX6_count_150 r0 rfl ?_
      exact g_iret h hr dX6_count_153 (⟨by rw [e0]; rfl, rfl⟩) (Nat.le_of_ble_eq_true rfl) (Nat.le_of_ble_eq_true rfl)
  · skip
    refine g_iconst h (nI 0) dX6_count_0 (by decide) ?_
    refine g_istore_n (vs' := [_, _, _, _, _]) h 2 dX6_count_1 rfl (Nat.le_of_ble_eq_true rfl) rfl rfl ?_
    refine g_iload_n h 1 dX6_count_2 rfl rfl ?_
    refine g_tabOut h 154 dX6_count_3 (inR5 ha1) (by decide) ?_
    refine g_bipush h (-2) dX6_count_154 (by decide) ?_
    exact g_iret h hr dX6_count_156 ((fun e => ⟨by rw [e], rfl⟩) (show opCount S a1 = (-2, S) from by unfold opCount; rw [cif_f ha1])) (Nat.le_of_ble_eq_true rfl) (Nat.le_of_ble_eq_true rfl)
abbrev rm_X6_digest : Room := { frames := 1, cells := 0, slots := 0, locals := 24 }
set_option maxRecDepth 100000 in
set_option maxHeartbeats 4000000 in
theorem c_X6_digest (lau : Launch) (E : EnvD) (σ : Sto) {b : Nat} {S : PSt} (hI : Inv S) (hM : RepM E b S σ) : CC lau yX6_digest cX6_digest 5 (some .long) rm_X6_digest E [.ref b] σ (fun o s => o = some (.long (opDigest S)) ∧ s = σ) := by
  refine cc_of (vs := [_, _, _, _, _]) (by decide) (Nat.le_of_ble_eq_true rfl) rfl ?_
  intro X h hr hn
  obtain ⟨r0, ⟨f1, r1, e1⟩, ⟨f2, r2, e2⟩, ⟨f3, r3, e3⟩, ⟨f4, r4, e4⟩, ⟨f5, r5, e5⟩, ⟨f6, r6, e6⟩, ⟨f7, r7, e7⟩, ⟨f8, r8, e8⟩, ⟨f9, r9, e9⟩, ⟨f10, r10, e10⟩, ⟨f11, r11, e11⟩, ⟨f12, r12, e12⟩, ⟨f13, r13⟩, ⟨f14, r14⟩, ⟨f15, r15⟩, ⟨f16, r16, e16⟩, ⟨f17, r17⟩⟩ := id hM
  have hc20 := hI.2.2.2.2.1.1
  have hc12 := hI.2.2.1.1
  refine g_ldc2 h 181 lc_X6_119 dX6_digest_0 ?_
  refine g_lstore_n (vs' := [_, _, _, _, _]) h 1 dX6_digest_3 rfl (Nat.le_of_ble_eq_true rfl) rfl rfl ?_
  refine g_iconst h (nI 0) dX6_digest_4 (by decide) ?_
  refine g_istore_n (vs' := [_, _, _, _, _]) h 3 dX6_digest_5 rfl (Nat.le_of_ble_eq_true rfl) rfl rfl ?_
  refine g_few (vs' := [some (.ref b), some (.long 181), none, some (.int (nI 0)), none]) ⟨Or.inr rfl, Or.inr rfl, Or.inl rfl, Or.inr rfl, Or.inl rfl, trivial⟩ ?_
  have L6 : ∀ (m0 : Nat) (w : Nat), (w ≤ 5) → (5 - w) < m0 → G X E 5 (AD σ) (QF X E σ (fun o s => o = some (.long (opDigest S)) ∧ s = σ) rm_X6_digest) 0 0 6 [some (.ref b), some (.long (dgF (cntS S) 181 w)), none, some (.int (nI w)), none] [] σ := by
    intro m0
    induction m0 with
    | zero => intro w _ hm0; exact absurd hm0 (Nat.not_lt_zero _)
    | succ m0 ih1 =>
      intro w hw hm0
      refine g_iload_n h 3 dX6_digest_6 rfl rfl ?_
      refine g_iconst h (nI 5) dX6_digest_7 (by decide) ?_
      refine g_icmp_geN h 30 dX6_digest_8 (by decide) (by omega) (by decide) (fun c8_1 => ?_) (fun c8_1 => ?_)
      · skip
        obtain rfl : w = 5 := by omega
        refine g_iconst h (nI 0) dX6_digest_30 (by decide) ?_
        refine g_istore_n (vs' := [_, _, _, _, _]) h 3 dX6_digest_31 rfl (Nat.le_of_ble_eq_true rfl) rfl rfl ?_
        refine g_few (vs' := [some (.ref b), some (.long (dgF (cntS S) 181 5)), none, some (.int (nI 0)), none]) ⟨Or.inr rfl, Or.inr rfl, Or.inl rfl, Or.inr rfl, Or.inl rfl, trivial⟩ ?_
        have L32 : ∀ (m0 : Nat) (v : Nat), (v ≤ 8) → (8 - v) < m0 → G X E 5 (AD σ) (QF X E σ (fun o s => o = some (.long (opDigest S)) ∧ s = σ) rm_X6_digest) 0 0 32 [some (.ref b), some (.long (dgR (sVn S) (rwV S) (dgF (cntS S) 181 5) v)), none, some (.int (nI v)), none] [] σ := by
          intro m0
          induction m0 with
          | zero => intro v _ hm0; exact absurd hm0 (Nat.not_lt_zero _)
          | succ m0 ih2 =>
            intro v hv hm0
            refine g_iload_n h 3 dX6_digest_32 rfl rfl ?_
            refine g_bipush h (nI 8) dX6_digest_33 (by decide) ?_
            refine g_icmp_geN h 98 dX6_digest_35 (by decide) (by omega) (by decide) (fun c35_2 => ?_) (fun c35_2 => ?_)
            · skip
              obtain rfl : v = 8 := by omega
              refine g_iconst h (nI 0) dX6_digest_98 (by decide) ?_
              refine g_istore_n (vs' := [_, _, _, _, _]) h 3 dX6_digest_99 rfl (Nat.le_of_ble_eq_true rfl) rfl rfl ?_
              refine g_few (vs' := [some (.ref b), some (.long (dgR (sVn S) (rwV S) (dgF (cntS S) 181 5) 8)), none, some (.int (nI 0)), none]) ⟨Or.inr rfl, Or.inr rfl, Or.inl rfl, Or.inr rfl, Or.inl rfl, trivial⟩ ?_
              have L100 : ∀ (m0 : Nat) (p : Nat), (p ≤ 4) → (4 - p) < m0 → G X E 5 (AD σ) (QF X E σ (fun o s => o = some (.long (opDigest S)) ∧ s = σ) rm_X6_digest) 0 0 100 [some (.ref b), some (.long (dgR (sPn S) (sPh S) (dgR (sVn S) (rwV S) (dgF (cntS S) 181 5) 8) p)), none, some (.int (nI p)), none] [] σ := by
                intro m0
                induction m0 with
                | zero => intro p _ hm0; exact absurd hm0 (Nat.not_lt_zero _)
                | succ m0 ih4 =>
                  intro p hp hm0
                  refine g_iload_n h 3 dX6_digest_100 rfl rfl ?_
                  refine g_iconst h (nI 4) dX6_digest_101 (by decide) ?_
                  refine g_icmp_geN h 165 dX6_digest_102 (by decide) (by omega) (by decide) (fun c102_3 => ?_) (fun c102_3 => ?_)
                  · skip
                    obtain rfl : p = 4 := by omega
                    refine g_iconst h (nI 0) dX6_digest_165 (by decide) ?_
                    refine g_istore_n (vs' := [_, _, _, _, _]) h 3 dX6_digest_166 rfl (Nat.le_of_ble_eq_true rfl) rfl rfl ?_
                    refine g_few (vs' := [some (.ref b), some (.long (dgR (sPn S) (sPh S) (dgR (sVn S) (rwV S) (dgF (cntS S) 181 5) 8) 4)), none, some (.int (nI 0)), none]) ⟨Or.inr rfl, Or.inr rfl, Or.inl rfl, Or.inr rfl, Or.inl rfl, trivial⟩ ?_
                    have L167 : ∀ (m0 : Nat) (x : Nat), (x ≤ 100) → (100 - x) < m0 → G X E 5 (AD σ) (QF X E σ (fun o s => o = some (.long (opDigest S)) ∧ s = σ) rm_X6_digest) 0 0 167 [some (.ref b), some (.long (dgF (fun x => nI (sMk S x)) (dgR (sPn S) (sPh S) (dgR (sVn S) (rwV S) (dgF (cntS S) 181 5) 8) 4) x)), none, some (.int (nI x)), none] [] σ := by
                      intro m0
                      induction m0 with
                      | zero => intro x _ hm0; exact absurd hm0 (Nat.not_lt_zero _)
                      | succ m0 ih6 =>
                        intro x hx hm0
                        refine g_iload_n h 3 dX6_digest_167 rfl rfl ?_
                        refine g_bipush h (nI 100) dX6_digest_168 (by decide) ?_
                        refine g_icmp_geN h 193 dX6_digest_170 (by decide) (by omega) (by decide) (fun c170_4 => ?_) (fun c170_4 => ?_)
                        · skip
                          obtain rfl : x = 100 := by omega
                          refine g_iconst h (nI 0) dX6_digest_193 (by decide) ?_
                          refine g_istore_n (vs' := [_, _, _, _, _]) h 3 dX6_digest_194 rfl (Nat.le_of_ble_eq_true rfl) rfl rfl ?_
                          refine g_few (vs' := [some (.ref b), some (.long (dgF (fun x => nI (sMk S x)) (dgR (sPn S) (sPh S) (dgR (sVn S) (rwV S) (dgF (cntS S) 181 5) 8) 4) 100)), none, some (.int (nI 0)), none]) ⟨Or.inr rfl, Or.inr rfl, Or.inl rfl, Or.inr rfl, Or.inl rfl, trivial⟩ ?_
                          have L195 : ∀ (m0 : Nat) (k : Nat), (k ≤ sRn S) → (sRn S - k) < m0 → G X E 5 (AD σ) (QF X E σ (fun o s => o = some (.long (opDigest S)) ∧ s = σ) rm_X6_digest) 0 0 195 [some (.ref b), some (.long (dgU S (dgF (fun x => nI (sMk S x)) (dgR (sPn S) (sPh S) (dgR (sVn S) (rwV S) (dgF (cntS S) 181 5) 8) 4) 100) k)), none, some (.int (nI k)), none] [] σ := by
                            intro m0
                            induction m0 with
                            | zero => intro k _ hm0; exact absurd hm0 (Nat.not_lt_zero _)
                            | succ m0 ih7 =>
                              intro k hk hm0
                              refine g_iload_n h 3 dX6_digest_195 rfl rfl ?_
                              refine g_aload_n h 0 dX6_digest_196 rfl rfl ?_
                              refine g_get h 9 fa_X6_101 dX6_digest_197 r0 rfl ?_
                              refine g_icmp_geN h 259 dX6_digest_200 (by decide) (by omega) (by omega) (fun c200_5 => ?_) (fun c200_5 => ?_)
                              · skip
                                obtain rfl : k = sRn S := by omega
                                refine g_iconst h (nI 0) dX6_digest_259 (by decide) ?_
                                refine g_istore_n (vs' := [_, _, _, _, _]) h 3 dX6_digest_260 rfl (Nat.le_of_ble_eq_true rfl) rfl rfl ?_
                                refine g_few (vs' := [some (.ref b), some (.long (dgU S (dgF (fun x => nI (sMk S x)) (dgR (sPn S) (sPh S) (dgR (sVn S) (rwV S) (dgF (cntS S) 181 5) 8) 4) 100) (sRn S))), none, some (.int (nI 0)), none]) ⟨Or.inr rfl, Or.inr rfl, Or.inl rfl, Or.inr rfl, Or.inl rfl, trivial⟩ ?_
                                have L261 : ∀ (m0 : Nat) (c : Nat), (c ≤ sCn S) → (sCn S - c) < m0 → G X E 5 (AD σ) (QF X E σ (fun o s => o = some (.long (opDigest S)) ∧ s = σ) rm_X6_digest) 0 0 261 [some (.ref b), some (.long (dgC S (dgU S (dgF (fun x => nI (sMk S x)) (dgR (sPn S) (sPh S) (dgR (sVn S) (rwV S) (dgF (cntS S) 181 5) 8) 4) 100) (sRn S)) c)), none, some (.int (nI c)), none] [] σ := by
                                  intro m0
                                  induction m0 with
                                  | zero => intro c _ hm0; exact absurd hm0 (Nat.not_lt_zero _)
                                  | succ m0 ih8 =>
                                    intro c hc hm0
                                    refine g_iload_n h 3 dX6_digest_261 rfl rfl ?_
                                    refine g_aload_n h 0 dX6_digest_262 rfl rfl ?_
                                    refine g_get h 4 fa_X6_81 dX6_digest_263 r0 rfl ?_
                                    refine g_icmp_geN h 313 dX6_digest_266 (by decide) (by omega) (by omega) (fun c266_6 => ?_) (fun c266_6 => ?_)
                                    · skip
                                      obtain rfl : c = sCn S := by omega
                                      refine g_lload_n h 1 dX6_digest_313 rfl rfl ?_
                                      exact g_lret h hr dX6_digest_314 (⟨rfl, rfl⟩) (Nat.le_of_ble_eq_true rfl) (Nat.le_of_ble_eq_true rfl)
                                    · skip
                                      refine g_ldc2 h 31 lc_X6_121 dX6_digest_269 ?_
                                      refine g_ldc2 h 31 lc_X6_121 dX6_digest_272 ?_
                                      refine g_ldc2 h 31 lc_X6_121 dX6_digest_275 ?_
                                      refine g_lload_n h 1 dX6_digest_278 rfl rfl ?_
                                      refine g_lmul h dX6_digest_279 ?_
                                      refine g_aload_n h 0 dX6_digest_280 rfl rfl ?_
                                      refine g_get h 5 fa_X6_22 dX6_digest_281 r0 rfl ?_
                                      refine g_iload_n h 3 dX6_digest_284 rfl rfl ?_
                                      refine g_iald h dX6_digest_285 r5 (by omega) (by omega) ?_
                                      refine g_top (y := nI (sCs S c)) (e5 c (by omega)) ?_
                                      refine g_i2l h dX6_digest_286 ?_
                                      refine g_ladd h dX6_digest_287 ?_
                                      refine g_lmul h dX6_digest_288 ?_
                                      refine g_aload_n h 0 dX6_digest_289 rfl rfl ?_
                                      refine g_get h 6 fa_X6_25 dX6_digest_290 r0 rfl ?_
                                      refine g_iload_n h 3 dX6_digest_293 rfl rfl ?_
                                      refine g_iald h dX6_digest_294 r6 (by omega) (by omega) ?_
                                      refine g_top (y := nI (sCx S c)) (e6 c (by omega)) ?_
                                      refine g_i2l h dX6_digest_295 ?_
                                      refine g_ladd h dX6_digest_296 ?_
                                      refine g_lmul h dX6_digest_297 ?_
                                      refine g_aload_n h 0 dX6_digest_298 rfl rfl ?_
                                      refine g_get h 7 fa_X6_28 dX6_digest_299 r0 rfl ?_
                                      refine g_iload_n h 3 dX6_digest_302 rfl rfl ?_
                                      refine g_iald h dX6_digest_303 r7 (by omega) (by omega) ?_
                                      refine g_top (y := nI (sCy S c)) (e7 c (by omega)) ?_
                                      refine g_i2l h dX6_digest_304 ?_
                                      refine g_ladd h dX6_digest_305 ?_
                                      refine g_lstore_n (vs' := [_, _, _, _, _]) h 1 dX6_digest_306 rfl (Nat.le_of_ble_eq_true rfl) rfl rfl ?_
                                      refine g_iinc (vs' := [_, _, _, _, _]) h (nI (c + 1)) dX6_digest_307 rfl (by first | exact nI_1 _ | rfl) (Nat.le_of_ble_eq_true rfl) rfl rfl ?_
                                      refine g_goto h 261 dX6_digest_310 (by decide) ?_
                                      refine g_few (vs' := [some (.ref b), some (.long ((31 * ((31 * ((31 * (dgC S (dgU S (dgF (fun x => nI (sMk S x)) (dgR (sPn S) (sPh S) (dgR (sVn S) (rwV S) (dgF (cntS S) 181 5) 8) 4) 100) (sRn S)) c)) + (nI (sCs S c)).toInt64)) + (nI (sCx S c)).toInt64)) + (nI (sCy S c)).toInt64)), none, some (.int (nI (c + 1))), none]) ⟨Or.inr rfl, Or.inr rfl, Or.inl rfl, Or.inr rfl, Or.inl rfl, trivial⟩ ?_
                                      exact ih8 (c + 1) (by omega) (by omega)
                                exact L261 (sCn S + 1) 0 (by omega) (by omega)
                              · skip
                                refine g_ldc2 h 31 lc_X6_121 dX6_digest_203 ?_
                                refine g_ldc2 h 31 lc_X6_121 dX6_digest_206 ?_
                                refine g_ldc2 h 31 lc_X6_121 dX6_digest_209 ?_
                                refine g_ldc2 h 31 lc_X6_121 dX6_digest_212 ?_
                                refine g_lload_n h 1 dX6_digest_215 rfl rfl ?_
                                refine g_lmul h dX6_digest_216 ?_
                                refine g_aload_n h 0 dX6_digest_217 rfl rfl ?_
                                refine g_get h 10 fa_X6_34 dX6_digest_218 r0 rfl ?_
                                refine g_iload_n h 3 dX6_digest_221 rfl rfl ?_
                                refine g_iald h dX6_digest_222 r9 (by omega) (by omega) ?_
                                refine g_top (y := nI (sRt S k)) (e9 k (by omega)) ?_
                                refine g_i2l h dX6_digest_223 ?_
                                refine g_ladd h dX6_digest_224 ?_
                                refine g_lmul h dX6_digest_225 ?_
                                refine g_aload_n h 0 dX6_digest_226 rfl rfl ?_
                                refine g_get h 11 fa_X6_37 dX6_digest_227 r0 rfl ?_
                                refine g_iload_n h 3 dX6_digest_230 rfl rfl ?_
                                refine g_iald h dX6_digest_231 r10 (by omega) (by omega) ?_
                                refine g_top (y := nI (sRm S k)) (e10 k (by omega)) ?_
                                refine g_i2l h dX6_digest_232 ?_
                                refine g_ladd h dX6_digest_233 ?_
                                refine g_lmul h dX6_digest_234 ?_
                                refine g_aload_n h 0 dX6_digest_235 rfl rfl ?_
                                refine g_get h 12 fa_X6_40 dX6_digest_236 r0 rfl ?_
                                refine g_iload_n h 3 dX6_digest_239 rfl rfl ?_
                                refine g_iald h dX6_digest_240 r11 (by omega) (by omega) ?_
                                refine g_top (y := nI (sRf S k)) (e11 k (by omega)) ?_
                                refine g_i2l h dX6_digest_241 ?_
                                refine g_ladd h dX6_digest_242 ?_
                                refine g_lmul h dX6_digest_243 ?_
                                refine g_aload_n h 0 dX6_digest_244 rfl rfl ?_
                                refine g_get h 13 fa_X6_43 dX6_digest_245 r0 rfl ?_
                                refine g_iload_n h 3 dX6_digest_248 rfl rfl ?_
                                refine g_iald h dX6_digest_249 r12 (by omega) (by omega) ?_
                                refine g_top (y := nI (sRo S k)) (e12 k (by omega)) ?_
                                refine g_i2l h dX6_digest_250 ?_
                                refine g_ladd h dX6_digest_251 ?_
                                refine g_lstore_n (vs' := [_, _, _, _, _]) h 1 dX6_digest_252 rfl (Nat.le_of_ble_eq_true rfl) rfl rfl ?_
                                refine g_iinc (vs' := [_, _, _, _, _]) h (nI (k + 1)) dX6_digest_253 rfl (by first | exact nI_1 _ | rfl) (Nat.le_of_ble_eq_true rfl) rfl rfl ?_
                                refine g_goto h 195 dX6_digest_256 (by decide) ?_
                                refine g_few (vs' := [some (.ref b), some (.long ((31 * ((31 * ((31 * ((31 * (dgU S (dgF (fun x => nI (sMk S x)) (dgR (sPn S) (sPh S) (dgR (sVn S) (rwV S) (dgF (cntS S) 181 5) 8) 4) 100) k)) + (nI (sRt S k)).toInt64)) + (nI (sRm S k)).toInt64)) + (nI (sRf S k)).toInt64)) + (nI (sRo S k)).toInt64)), none, some (.int (nI (k + 1))), none]) ⟨Or.inr rfl, Or.inr rfl, Or.inl rfl, Or.inr rfl, Or.inl rfl, trivial⟩ ?_
                                exact ih7 (k + 1) (by omega) (by omega)
                          exact L195 (sRn S + 1) 0 (by omega) (by omega)
                        · skip
                          refine g_ldc2 h 31 lc_X6_121 dX6_digest_173 ?_
                          refine g_lload_n h 1 dX6_digest_176 rfl rfl ?_
                          refine g_lmul h dX6_digest_177 ?_
                          refine g_aload_n h 0 dX6_digest_178 rfl rfl ?_
                          refine g_get h 8 fa_X6_31 dX6_digest_179 r0 rfl ?_
                          refine g_iload_n h 3 dX6_digest_182 rfl rfl ?_
                          refine g_iald h dX6_digest_183 r8 (by omega) (by omega) ?_
                          refine g_top (y := nI (sMk S x)) (e8 x (by omega)) ?_
                          refine g_i2l h dX6_digest_184 ?_
                          refine g_ladd h dX6_digest_185 ?_
                          refine g_lstore_n (vs' := [_, _, _, _, _]) h 1 dX6_digest_186 rfl (Nat.le_of_ble_eq_true rfl) rfl rfl ?_
                          refine g_iinc (vs' := [_, _, _, _, _]) h (nI (x + 1)) dX6_digest_187 rfl (by first | exact nI_1 _ | rfl) (Nat.le_of_ble_eq_true rfl) rfl rfl ?_
                          refine g_goto h 167 dX6_digest_190 (by decide) ?_
                          refine g_few (vs' := [some (.ref b), some (.long ((31 * (dgF (fun x => nI (sMk S x)) (dgR (sPn S) (sPh S) (dgR (sVn S) (rwV S) (dgF (cntS S) 181 5) 8) 4) x)) + (nI (sMk S x)).toInt64)), none, some (.int (nI (x + 1))), none]) ⟨Or.inr rfl, Or.inr rfl, Or.inl rfl, Or.inr rfl, Or.inl rfl, trivial⟩ ?_
                          exact ih6 (x + 1) (by omega) (by omega)
                    exact L167 (100 + 1) 0 (by omega) (by omega)
                  · skip
                    have hnp := (hI.2.1 p (by omega)).1
                    refine g_ldc2 h 31 lc_X6_121 dX6_digest_105 ?_
                    refine g_lload_n h 1 dX6_digest_108 rfl rfl ?_
                    refine g_lmul h dX6_digest_109 ?_
                    refine g_aload_n h 0 dX6_digest_110 rfl rfl ?_
                    refine g_get h 3 fa_X6_19 dX6_digest_111 r0 rfl ?_
                    refine g_iload_n h 3 dX6_digest_114 rfl rfl ?_
                    refine g_iald h dX6_digest_115 r4 (by omega) (by omega) ?_
                    refine g_top (y := nI (sPn S p)) (e4 p (by omega)) ?_
                    refine g_i2l h dX6_digest_116 ?_
                    refine g_ladd h dX6_digest_117 ?_
                    refine g_lstore_n (vs' := [_, _, _, _, _]) h 1 dX6_digest_118 rfl (Nat.le_of_ble_eq_true rfl) rfl rfl ?_
                    refine g_iconst h (nI 0) dX6_digest_119 (by decide) ?_
                    refine g_istore (vs' := [_, _, _, _, _]) h dX6_digest_120 (Nat.le_of_ble_eq_true rfl) rfl rfl ?_
                    refine g_few (vs' := [some (.ref b), some (.long ((31 * (dgR (sPn S) (sPh S) (dgR (sVn S) (rwV S) (dgF (cntS S) 181 5) 8) p)) + (nI (sPn S p)).toInt64)), none, some (.int (nI p)), some (.int (nI 0))]) ⟨Or.inr rfl, Or.inr rfl, Or.inl rfl, Or.inr rfl, Or.inr rfl, trivial⟩ ?_
                    have L122 : ∀ (m0 : Nat) (j : Nat), (j ≤ sPn S p) → (sPn S p - j) < m0 → G X E 5 (AD σ) (QF X E σ (fun o s => o = some (.long (opDigest S)) ∧ s = σ) rm_X6_digest) 0 0 122 [some (.ref b), some (.long (dgF (sPh S p) (31 * (dgR (sPn S) (sPh S) (dgR (sVn S) (rwV S) (dgF (cntS S) 181 5) 8) p) + (nI (sPn S p)).toInt64) j)), none, some (.int (nI p)), some (.int (nI j))] [] σ := by
                      intro m0
                      induction m0 with
                      | zero => intro j _ hm0; exact absurd hm0 (Nat.not_lt_zero _)
                      | succ m0 ih5 =>
                        intro j hj hm0
                        refine g_iload h dX6_digest_122 rfl ?_
                        refine g_aload_n h 0 dX6_digest_124 rfl rfl ?_
                        refine g_get h 3 fa_X6_19 dX6_digest_125 r0 rfl ?_
                        refine g_iload_n h 3 dX6_digest_128 rfl rfl ?_
                        refine g_iald h dX6_digest_129 r4 (by omega) (by omega) ?_
                        refine g_top (y := nI (sPn S p)) (e4 p (by omega)) ?_
                        refine g_icmp_geN h 159 dX6_digest_130 (by decide) (by omega) (by omega) (fun c130_7 => ?_) (fun c130_7 => ?_)
                        · skip
                          obtain rfl : j = sPn S p := by omega
                          refine g_iinc (vs' := [_, _, _, _, _]) h (nI (p + 1)) dX6_digest_159 rfl (by first | exact nI_1 _ | rfl) (Nat.le_of_ble_eq_true rfl) rfl rfl ?_
                          refine g_goto h 100 dX6_digest_162 (by decide) ?_
                          refine g_few (vs' := [some (.ref b), some (.long (dgF (sPh S p) (31 * (dgR (sPn S) (sPh S) (dgR (sVn S) (rwV S) (dgF (cntS S) 181 5) 8) p) + (nI (sPn S p)).toInt64) (sPn S p))), none, some (.int (nI (p + 1))), none]) ⟨Or.inr rfl, Or.inr rfl, Or.inl rfl, Or.inr rfl, Or.inl rfl, trivial⟩ ?_
                          exact ih4 (p + 1) (by omega) (by omega)
                        · skip
                          refine g_ldc2 h 31 lc_X6_121 dX6_digest_133 ?_
                          refine g_lload_n h 1 dX6_digest_136 rfl rfl ?_
                          refine g_lmul h dX6_digest_137 ?_
                          refine g_aload_n h 0 dX6_digest_138 rfl rfl ?_
                          refine g_get h 2 fa_X6_16 dX6_digest_139 r0 rfl ?_
                          refine g_bipush h (nI 40) dX6_digest_142 (by decide) ?_
                          refine g_iload_n h 3 dX6_digest_144 rfl rfl ?_
                          refine g_imulN h dX6_digest_145 ?_
                          refine g_iload h dX6_digest_146 rfl ?_
                          refine g_iaddN h dX6_digest_148 ?_
                          refine g_iald h dX6_digest_149 r3 (by omega) (by omega) ?_
                          refine g_top (y := (sPh S p j)) (e3 p (by omega) j (by omega)) ?_
                          refine g_i2l h dX6_digest_150 ?_
                          refine g_ladd h dX6_digest_151 ?_
                          refine g_lstore_n (vs' := [_, _, _, _, _]) h 1 dX6_digest_152 rfl (Nat.le_of_ble_eq_true rfl) rfl rfl ?_
                          refine g_iinc (vs' := [_, _, _, _, _]) h (nI (j + 1)) dX6_digest_153 rfl (by first | exact nI_1 _ | rfl) (Nat.le_of_ble_eq_true rfl) rfl rfl ?_
                          refine g_goto h 122 dX6_digest_156 (by decide) ?_
                          refine g_few (vs' := [some (.ref b), some (.long ((31 * (dgF (sPh S p) (31 * (dgR (sPn S) (sPh S) (dgR (sVn S) (rwV S) (dgF (cntS S) 181 5) 8) p) + (nI (sPn S p)).toInt64) j)) + ((sPh S p j)).toInt64)), none, some (.int (nI p)), some (.int (nI (j + 1)))]) ⟨Or.inr rfl, Or.inr rfl, Or.inl rfl, Or.inr rfl, Or.inr rfl, trivial⟩ ?_
                          exact ih5 (j + 1) (by omega) (by omega)
                    exact L122 (sPn S p + 1) 0 (by omega) (by omega)
              exact L100 (4 + 1) 0 (by omega) (by omega)
            · skip
              have hnv := (hI.1 v (by omega)).1
              refine g_ldc2 h 31 lc_X6_121 dX6_digest_38 ?_
              refine g_lload_n h 1 dX6_digest_41 rfl rfl ?_
              refine g_lmul h dX6_digest_42 ?_
              refine g_aload_n h 0 dX6_digest_43 rfl rfl ?_
              refine g_get h 1 fa_X6_13 dX6_digest_44 r0 rfl ?_
              refine g_iload_n h 3 dX6_digest_47 rfl rfl ?_
              refine g_iald h dX6_digest_48 r2 (by omega) (by omega) ?_
              refine g_top (y := nI (sVn S v)) (e2 v (by omega)) ?_
              refine g_i2l h dX6_digest_49 ?_
              refine g_ladd h dX6_digest_50 ?_
              refine g_lstore_n (vs' := [_, _, _, _, _]) h 1 dX6_digest_51 rfl (Nat.le_of_ble_eq_true rfl) rfl rfl ?_
              refine g_iconst h (nI 0) dX6_digest_52 (by decide) ?_
              refine g_istore (vs' := [_, _, _, _, _]) h dX6_digest_53 (Nat.le_of_ble_eq_true rfl) rfl rfl ?_
              refine g_few (vs' := [some (.ref b), some (.long ((31 * (dgR (sVn S) (rwV S) (dgF (cntS S) 181 5) v)) + (nI (sVn S v)).toInt64)), none, some (.int (nI v)), some (.int (nI 0))]) ⟨Or.inr rfl, Or.inr rfl, Or.inl rfl, Or.inr rfl, Or.inr rfl, trivial⟩ ?_
              have L55 : ∀ (m0 : Nat) (i : Nat), (i ≤ sVn S v) → (sVn S v - i) < m0 → G X E 5 (AD σ) (QF X E σ (fun o s => o = some (.long (opDigest S)) ∧ s = σ) rm_X6_digest) 0 0 55 [some (.ref b), some (.long (dgF (rwV S v) (31 * (dgR (sVn S) (rwV S) (dgF (cntS S) 181 5) v) + (nI (sVn S v)).toInt64) i)), none, some (.int (nI v)), some (.int (nI i))] [] σ := by
                intro m0
                induction m0 with
                | zero => intro i _ hm0; exact absurd hm0 (Nat.not_lt_zero _)
                | succ m0 ih3 =>
                  intro i hi hm0
                  refine g_iload h dX6_digest_55 rfl ?_
                  refine g_aload_n h 0 dX6_digest_57 rfl rfl ?_
                  refine g_get h 1 fa_X6_13 dX6_digest_58 r0 rfl ?_
                  refine g_iload_n h 3 dX6_digest_61 rfl rfl ?_
                  refine g_iald h dX6_digest_62 r2 (by omega) (by omega) ?_
                  refine g_top (y := nI (sVn S v)) (e2 v (by omega)) ?_
                  refine g_icmp_geN h 92 dX6_digest_63 (by decide) (by omega) (by omega) (fun c63_8 => ?_) (fun c63_8 => ?_)
                  · skip
                    obtain rfl : i = sVn S v := by omega
                    refine g_iinc (vs' := [_, _, _, _, _]) h (nI (v + 1)) dX6_digest_92 rfl (by first | exact nI_1 _ | rfl) (Nat.le_of_ble_eq_true rfl) rfl rfl ?_
                    refine g_goto h 32 dX6_digest_95 (by decide) ?_
                    refine g_few (vs' := [some (.ref b), some (.long (dgF (rwV S v) (31 * (dgR (sVn S) (rwV S) (dgF (cntS S) 181 5) v) + (nI (sVn S v)).toInt64) (sVn S v))), none, some (.int (nI (v + 1))), none]) ⟨Or.inr rfl, Or.inr rfl, Or.inl rfl, Or.inr rfl, Or.inl rfl, trivial⟩ ?_
                    exact ih2 (v + 1) (by omega) (by omega)
                  · skip
                    refine g_ldc2 h 31 lc_X6_121 dX6_digest_66 ?_
                    refine g_lload_n h 1 dX6_digest_69 rfl rfl ?_
                    refine g_lmul h dX6_digest_70 ?_
                    refine g_aload_n h 0 dX6_digest_71 rfl rfl ?_
                    refine g_get h 0 fa_X6_7 dX6_digest_72 r0 rfl ?_
                    refine g_bipush h (nI 40) dX6_digest_75 (by decide) ?_
                    refine g_iload_n h 3 dX6_digest_77 rfl rfl ?_
                    refine g_imulN h dX6_digest_78 ?_
                    refine g_iload h dX6_digest_79 rfl ?_
                    refine g_iaddN h dX6_digest_81 ?_
                    refine g_iald h dX6_digest_82 r1 (by omega) (by omega) ?_
                    refine g_top (y := nI (sVl S v i)) (e1 v (by omega) i (by omega)) ?_
                    refine g_i2l h dX6_digest_83 ?_
                    refine g_ladd h dX6_digest_84 ?_
                    refine g_lstore_n (vs' := [_, _, _, _, _]) h 1 dX6_digest_85 rfl (Nat.le_of_ble_eq_true rfl) rfl rfl ?_
                    refine g_iinc (vs' := [_, _, _, _, _]) h (nI (i + 1)) dX6_digest_86 rfl (by first | exact nI_1 _ | rfl) (Nat.le_of_ble_eq_true rfl) rfl rfl ?_
                    refine g_goto h 55 dX6_digest_89 (by decide) ?_
                    refine g_few (vs' := [some (.ref b), some (.long ((31 * (dgF (rwV S v) (31 * (dgR (sVn S) (rwV S) (dgF (cntS S) 181 5) v) + (nI (sVn S v)).toInt64) i)) + (nI (sVl S v i)).toInt64)), none, some (.int (nI v)), some (.int (nI (i + 1)))]) ⟨Or.inr rfl, Or.inr rfl, Or.inl rfl, Or.inr rfl, Or.inr rfl, trivial⟩ ?_
                    exact ih3 (i + 1) (by omega) (by omega)
              exact L55 (sVn S v + 1) 0 (by omega) (by omega)
        exact L32 (8 + 1) 0 (by omega) (by omega)
      · skip
        refine g_ldc2 h 31 lc_X6_121 dX6_digest_11 ?_
        refine g_lload_n h 1 dX6_digest_14 rfl rfl ?_
        refine g_lmul h dX6_digest_15 ?_
        refine g_aload_n h 0 dX6_digest_16 rfl rfl ?_
        refine g_iload_n h 3 dX6_digest_17 rfl rfl ?_
        refine g_callV h [_] (c_X6_count (xL X) E _ hI hM (nI w)) cf_X6_123 cv_X6_count dX6_digest_18 rfl r0 rfl rfl (Nat.le_of_ble_eq_true rfl) ⟨(Nat.le_of_ble_eq_true rfl), (Nat.le_of_ble_eq_true rfl)⟩ ⟨(Nat.le_of_ble_eq_true rfl), (Nat.le_of_ble_eq_true rfl)⟩ ?_
        refine kk_det ?_
        refine g_top (y := cntS S w) (by unfold opCount; rw [cif_t ⟨w, by omega, rfl⟩, cl_nI (by omega)]) ?_
        refine g_i2l h dX6_digest_21 ?_
        refine g_ladd h dX6_digest_22 ?_
        refine g_lstore_n (vs' := [_, _, _, _, _]) h 1 dX6_digest_23 rfl (Nat.le_of_ble_eq_true rfl) rfl rfl ?_
        refine g_iinc (vs' := [_, _, _, _, _]) h (nI (w + 1)) dX6_digest_24 rfl (by first | exact nI_1 _ | rfl) (Nat.le_of_ble_eq_true rfl) rfl rfl ?_
        refine g_goto h 6 dX6_digest_27 (by decide) ?_
        refine g_few (vs' := [some (.ref b), some (.long ((31 * (dgF (cntS S) 181 w)) + ((cntS S w)).toInt64)), none, some (.int (nI (w + 1))), none]) ⟨Or.inr rfl, Or.inr rfl, Or.inl rfl, Or.inr rfl, Or.inl rfl, trivial⟩ ?_
        exact ih1 (w + 1) (by omega) (by omega)
  exact L6 (5 + 1) 0 (by omega) (by omega)
theorem D_count (lau : Launch) (E : EnvD) (σ : Sto) {b : Nat} {S : PSt} (hI : Inv S) (hM : RepM E b S σ) (a1 : Int32) : CC lau yX6_count cX6_count 5 (some .int) rm_X6_count E [.ref b, .int a1] σ (fun o s => o = some (.int (opCount S a1).1) ∧ RepM E b (opCount S a1).2 s) :=
  (c_X6_count lau E σ hI hM a1).mono (fun r s q => ⟨q.1, by rw [q.2]; exact hM⟩)
theorem D_digest (lau : Launch) (E : EnvD) (σ : Sto) {b : Nat} {S : PSt} (hI : Inv S) (hM : RepM E b S σ) : CC lau yX6_digest cX6_digest 5 (some .long) rm_X6_digest E [.ref b] σ (fun o s => o = some (.long (opDigest S)) ∧ RepM E b S s) :=
  (c_X6_digest lau E σ hI hM).mono (fun r s q => ⟨q.1, by rw [q.2]; exact hM⟩)
