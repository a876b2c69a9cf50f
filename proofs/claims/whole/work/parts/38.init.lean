/-! the constructors (own work; walks by program) -/
theorem z0 : (0 : Int32) = nI 0 := by decide
abbrev rm_X2_init : Room := { frames := 1, cells := 1, slots := 40, locals := 16 }
set_option maxRecDepth 100000 in
set_option maxHeartbeats 4000000 in
theorem c_X2_init (lau : Launch) (E : EnvD) (σ : Sto) {r : Nat} {i0 : Int32} (h1 : σ.1 r = some (cO 2 [.null, .int i0])) (hz : σ.2 = r + 1) : CC lau yX2_init cX2_init 1 none rm_X2_init E [.ref r] σ (fun o s => o = none ∧ s.2 = r + 2 ∧ (∀ a, a < r → s.1 a = σ.1 a) ∧ ∀ g, RowIs E s r 0 g) := by
  refine cc_of (vs := [_]) (by decide) (Nat.le_of_ble_eq_true rfl) rfl ?_
  intro X h hr hn
  refine g_aload_n h 0 dX2_init_0 rfl rfl ?_
  refine g_objInit h oi_X2_3 dX2_init_1 ⟨(Nat.le_of_ble_eq_true rfl), (Nat.le_of_ble_eq_true rfl)⟩ ?_
  refine g_aload_n h 0 dX2_init_4 rfl rfl ?_
  refine g_bipush h (nI 40) dX2_init_5 (by decide) ?_
  refine g_newiA h dX2_init_7 (by decide) (Nat.le_of_ble_eq_true rfl) (Nat.le_of_ble_eq_true rfl) (a := r + 1) hz (fun s1 hz1 hc1 ho1 => ?_)
  refine g_putF (fs' := [_, _]) h hn 0 fp_X2_9 dX2_init_9 ((ho1 _ (by omega)).trans h1) (Nat.le_of_ble_eq_true rfl) rfl rfl rfl ?_
  refine g_aload_n h 0 dX2_init_12 rfl rfl ?_
  refine g_iconst h (nI 0) dX2_init_13 (by decide) ?_
  refine g_put (fs' := [_, _]) h 1 fp_X2_15 dX2_init_14 sup_eq (Nat.le_of_ble_eq_true rfl) rfl rfl rfl ?_
  refine g_sto sup_sup ?_
  exact g_vret h hr dX2_init_17 (⟨rfl, hz1, fun q hq => ((sup_ne (by omega)).trans ((ho1 _ (by omega)).trans rfl)), fun g => ⟨sup_eq, _, ((sup_ne (by omega)).trans hc1), fun i hi => absurd hi (Nat.not_lt_zero _)⟩⟩) (Nat.le_of_ble_eq_true rfl) (Nat.le_of_ble_eq_true rfl)
abbrev rm_X0_init : Room := { frames := 1, cells := 42, slots := 1722, locals := 16 }
set_option maxRecDepth 100000 in
set_option maxHeartbeats 4000000 in
theorem c_X0_init (lau : Launch) (E : EnvD) (σ : Sto) {c : Nat} (h1 : σ.1 c = some (cO 0 [.null])) (hz : σ.2 = c + 1) : CC lau yX0_init cX0_init 1 none rm_X0_init E [.ref c] σ (fun o s => o = none ∧ s.2 = c + 43 ∧ (∀ a, a < c → s.1 a = σ.1 a) ∧ ChIs E s c) := by
  refine cc_of (vs := [_]) (by decide) (Nat.le_of_ble_eq_true rfl) rfl ?_
  intro X h hr hn
  refine g_aload_n h 0 dX0_init_0 rfl rfl ?_
  refine g_objInit h oi_X0_3 dX0_init_1 ⟨(Nat.le_of_ble_eq_true rfl), (Nat.le_of_ble_eq_true rfl)⟩ ?_
  refine g_aload_n h 0 dX0_init_4 rfl rfl ?_
  refine g_bipush h (nI 41) dX0_init_5 (by decide) ?_
  refine g_bipush h (nI 41) dX0_init_7 (by decide) ?_
  refine g_mnaA h cl_X0_9 dX0_init_9 (by decide) (by decide) (Nat.le_of_ble_eq_true rfl) (Nat.le_of_ble_eq_true rfl) (a := c + 1) hz (fun s1 hz1 hc1 hr1 ho1 => ?_)
  refine g_putF (fs' := [_]) h hn 0 fp_X0_11 dX0_init_13 ((ho1 _ (by omega)).trans h1) (Nat.le_of_ble_eq_true rfl) rfl rfl rfl ?_
  exact g_vret h hr dX0_init_16 (⟨rfl, hz1, fun q hq => ((sup_ne (by omega)).trans ((ho1 _ (by omega)).trans rfl)), ⟨sup_eq, ⟨_, ((sup_ne (by omega)).trans hc1), fun i hi => by show (if i < 41 then some (c + 1 + 1 + i) else none) = _; rw [if_pos hi]⟩, fun i hi => ⟨_, (sup_ne (by omega)).trans (hr1 i hi)⟩⟩⟩) (Nat.le_of_ble_eq_true rfl) (Nat.le_of_ble_eq_true rfl)
abbrev rm_X4_init : Room := { frames := 2, cells := 12, slots := 370, locals := 36 }
set_option maxRecDepth 100000 in
set_option maxHeartbeats 4000000 in
theorem c_X4_init (lau : Launch) (E : EnvD) (σ : Sto) {c : Nat} (h1 : σ.1 c = some (cO 4 [.null, .null, .null])) (hz : σ.2 = c + 1) : CC lau yX4_init cX4_init 1 none rm_X4_init E [.ref c] σ (fun o s => o = none ∧ s.2 = c + 13 ∧ (∀ a, a < c → s.1 a = σ.1 a) ∧ TpIs E s c ∧ ∀ g, RowIs E s (c + 1) 0 g) := by
  refine cc_of (vs := [_]) (by decide) (Nat.le_of_ble_eq_true rfl) rfl ?_
  intro X h hr hn
  refine g_aload_n h 0 dX4_init_0 rfl rfl ?_
  refine g_objInit h oi_X4_3 dX4_init_1 ⟨(Nat.le_of_ble_eq_true rfl), (Nat.le_of_ble_eq_true rfl)⟩ ?_
  refine g_aload_n h 0 dX4_init_4 rfl rfl ?_
  refine g_newA h 2 (ty := tyX2) [.null, .int 0] rfl tyX2_ok nw_X4_9 dX4_init_5 (fun j hj => by rcases (show j = 0 ∨ j = 1 by omega) with rfl | rfl <;> rfl) (Nat.le_of_ble_eq_true rfl) (Nat.le_of_ble_eq_true rfl) (a := c + 1) hz (fun s1 hz1 hc1 ho1 => ?_)
  refine g_dup h dX4_init_8 rfl ?_
  refine g_callIN h [_, _] (c_X2_init (xL X) E _ (hc1) hz1) cf_X4_11 h.2.2.2.2.1.2.2.2.1.2.2.1 ci_X2_init dX4_init_9 rfl rfl (Nat.le_of_ble_eq_true rfl) ⟨(Nat.le_of_ble_eq_true rfl), (Nat.le_of_ble_eq_true rfl)⟩ ⟨(Nat.le_of_ble_eq_true rfl), (Nat.le_of_ble_eq_true rfl)⟩ ?_
  rintro _ s2 ⟨rfl, hz2, ho2, hk2⟩
  refine g_putF (fs' := [_, _, _]) h hn 0 fp_X4_12 dX4_init_12 ((ho2 _ (by omega)).trans ((ho1 _ (by omega)).trans h1)) (Nat.le_of_ble_eq_true rfl) rfl rfl rfl ?_
  refine g_aload_n h 0 dX4_init_15 rfl rfl ?_
  refine g_bipush h (nI 8) dX4_init_16 (by decide) ?_
  refine g_bipush h (nI 8) dX4_init_18 (by decide) ?_
  refine g_mnaA h cl_X4_18 dX4_init_20 (by decide) (by decide) (Nat.le_of_ble_eq_true rfl) (Nat.le_of_ble_eq_true rfl) (a := c + 3) hz2 (fun s3 hz3 hc3 hr3 ho3 => ?_)
  refine g_putF (fs' := [_, _, _]) h hn 1 fp_X4_20 dX4_init_24 ((ho3 _ (by omega)).trans sup_eq) (Nat.le_of_ble_eq_true rfl) rfl rfl rfl ?_
  refine g_aload_n h 0 dX4_init_27 rfl rfl ?_
  refine g_sipush h (nI 256) dX4_init_28 (by decide) ?_
  refine g_newiA h dX4_init_31 (by decide) (Nat.le_of_ble_eq_true rfl) (Nat.le_of_ble_eq_true rfl) (a := c + 12) hz3 (fun s4 hz4 hc4 ho4 => ?_)
  refine g_putF (fs' := [_, _, _]) h hn 2 fp_X4_23 dX4_init_33 ((ho4 _ (by omega)).trans sup_eq) (Nat.le_of_ble_eq_true rfl) rfl rfl rfl ?_
  exact g_vret h hr dX4_init_36 (⟨rfl, hz4, fun q hq => ((sup_ne (by omega)).trans ((ho4 _ (by omega)).trans ((sup_ne (by omega)).trans ((ho3 _ (by omega)).trans ((sup_ne (by omega)).trans ((ho2 _ (by omega)).trans ((ho1 _ (by omega)).trans rfl))))))), ⟨sup_eq, ⟨_, ((sup_ne (by omega)).trans ((ho4 _ (by omega)).trans ((sup_ne (by omega)).trans hc3))), fun i hi => by show (if i < 8 then some (c + 3 + 1 + i) else none) = _; rw [if_pos hi]⟩, fun i hi => ⟨_, (sup_ne (by omega)).trans ((ho4 _ (by omega)).trans ((sup_ne (by omega)).trans (hr3 i hi)))⟩, ⟨_, ((sup_ne (by omega)).trans hc4)⟩⟩, fun g => RowIs.fr (hk2 g) (((sup_ne (by omega)).trans ((ho4 _ (by omega)).trans ((sup_ne (by omega)).trans ((ho3 _ (by omega)).trans ((sup_ne (by omega)).trans rfl)))))) (((sup_ne (by omega)).trans ((ho4 _ (by omega)).trans ((sup_ne (by omega)).trans ((ho3 _ (by omega)).trans ((sup_ne (by omega)).trans rfl))))))⟩) (Nat.le_of_ble_eq_true rfl) (Nat.le_of_ble_eq_true rfl)
abbrev rm_X6_init : Room := { frames := 1, cells := 17, slots := 4398, locals := 16 }
set_option maxRecDepth 100000 in
set_option maxHeartbeats 4000000 in
theorem c_X6_init (lau : Launch) (E : EnvD) (σ : Sto) {b : Nat} (h1 : σ.1 b = some (cO 6 [.null, .null, .null, .null, .int 0, .null, .null, .null, .null, .int 0, .null, .null, .null, .null, .null, .null, .null, .int 0, .null, .null])) (hz : σ.2 = b + 1) : CC lau yX6_init cX6_init 1 none rm_X6_init E [.ref b] σ (fun o s => o = none ∧ s.2 = b + 18 ∧ (∀ a, a < b → s.1 a = σ.1 a) ∧ RepM E b PSt0 s) := by
  refine cc_of (vs := [_]) (by decide) (Nat.le_of_ble_eq_true rfl) rfl ?_
  intro X h hr hn
  refine g_aload_n h 0 dX6_init_0 rfl rfl ?_
  refine g_objInit h oi_X6_1 dX6_init_1 ⟨(Nat.le_of_ble_eq_true rfl), (Nat.le_of_ble_eq_true rfl)⟩ ?_
  refine g_aload_n h 0 dX6_init_4 rfl rfl ?_
  refine g_sipush h (nI 320) dX6_init_5 (by decide) ?_
  refine g_newiA h dX6_init_8 (by decide) (Nat.le_of_ble_eq_true rfl) (Nat.le_of_ble_eq_true rfl) (a := b + 1) hz (fun s1 hz1 hc1 ho1 => ?_)
  refine g_putF (fs' := [_, _, _, _, _, _, _, _, _, _, _, _, _, _, _, _, _, _, _, _]) h hn 0 fp_X6_7 dX6_init_10 ((ho1 _ (by omega)).trans h1) (Nat.le_of_ble_eq_true rfl) rfl rfl rfl ?_
  refine g_aload_n h 0 dX6_init_13 rfl rfl ?_
  refine g_bipush h (nI 8) dX6_init_14 (by decide) ?_
  refine g_newiA h dX6_init_16 (by decide) (Nat.le_of_ble_eq_true rfl) (Nat.le_of_ble_eq_true rfl) (a := b + 2) hz1 (fun s2 hz2 hc2 ho2 => ?_)
  refine g_putF (fs' := [_, _, _, _, _, _, _, _, _, _, _, _, _, _, _, _, _, _, _, _]) h hn 1 fp_X6_13 dX6_init_18 ((ho2 _ (by omega)).trans sup_eq) (Nat.le_of_ble_eq_true rfl) rfl rfl rfl ?_
  refine g_aload_n h 0 dX6_init_21 rfl rfl ?_
  refine g_sipush h (nI 160) dX6_init_22 (by decide) ?_
  refine g_newiA h dX6_init_25 (by decide) (Nat.le_of_ble_eq_true rfl) (Nat.le_of_ble_eq_true rfl) (a := b + 3) hz2 (fun s3 hz3 hc3 ho3 => ?_)
  refine g_putF (fs' := [_, _, _, _, _, _, _, _, _, _, _, _, _, _, _, _, _, _, _, _]) h hn 2 fp_X6_16 dX6_init_27 ((ho3 _ (by omega)).trans sup_eq) (Nat.le_of_ble_eq_true rfl) rfl rfl rfl ?_
  refine g_aload_n h 0 dX6_init_30 rfl rfl ?_
  refine g_iconst h (nI 4) dX6_init_31 (by decide) ?_
  refine g_newiA h dX6_init_32 (by decide) (Nat.le_of_ble_eq_true rfl) (Nat.le_of_ble_eq_true rfl) (a := b + 4) hz3 (fun s4 hz4 hc4 ho4 => ?_)
  refine g_putF (fs' := [_, _, _, _, _, _, _, _, _, _, _, _, _, _, _, _, _, _, _, _]) h hn 3 fp_X6_19 dX6_init_34 ((ho4 _ (by omega)).trans sup_eq) (Nat.le_of_ble_eq_true rfl) rfl rfl rfl ?_
  refine g_aload_n h 0 dX6_init_37 rfl rfl ?_
  refine g_bipush h (nI 12) dX6_init_38 (by decide) ?_
  refine g_newiA h dX6_init_40 (by decide) (Nat.le_of_ble_eq_true rfl) (Nat.le_of_ble_eq_true rfl) (a := b + 5) hz4 (fun s5 hz5 hc5 ho5 => ?_)
  refine g_putF (fs' := [_, _, _, _, _, _, _, _, _, _, _, _, _, _, _, _, _, _, _, _]) h hn 5 fp_X6_22 dX6_init_42 ((ho5 _ (by omega)).trans sup_eq) (Nat.le_of_ble_eq_true rfl) rfl rfl rfl ?_
  refine g_aload_n h 0 dX6_init_45 rfl rfl ?_
  refine g_bipush h (nI 12) dX6_init_46 (by decide) ?_
  refine g_newiA h dX6_init_48 (by decide) (Nat.le_of_ble_eq_true rfl) (Nat.le_of_ble_eq_true rfl) (a := b + 6) hz5 (fun s6 hz6 hc6 ho6 => ?_)
  refine g_putF (fs' := [_, _, _, _, _, _, _, _, _, _, _, _, _, _, _, _, _, _, _, _]) h hn 6 fp_X6_25 dX6_init_50 ((ho6 _ (by omega)).trans sup_eq) (Nat.le_of_ble_eq_true rfl) rfl rfl rfl ?_
  refine g_aload_n h 0 dX6_init_53 rfl rfl ?_
  refine g_bipush h (nI 12) dX6_init_54 (by decide) ?_
  refine g_newiA h dX6_init_56 (by decide) (Nat.le_of_ble_eq_true rfl) (Nat.le_of_ble_eq_true rfl) (a := b + 7) hz6 (fun s7 hz7 hc7 ho7 => ?_)
  refine g_putF (fs' := [_, _, _, _, _, _, _, _, _, _, _, _, _, _, _, _, _, _, _, _]) h hn 7 fp_X6_28 dX6_init_58 ((ho7 _ (by omega)).trans sup_eq) (Nat.le_of_ble_eq_true rfl) rfl rfl rfl ?_
  refine g_aload_n h 0 dX6_init_61 rfl rfl ?_
  refine g_bipush h (nI 100) dX6_init_62 (by decide) ?_
  refine g_newiA h dX6_init_64 (by decide) (Nat.le_of_ble_eq_true rfl) (Nat.le_of_ble_eq_true rfl) (a := b + 8) hz7 (fun s8 hz8 hc8 ho8 => ?_)
  refine g_putF (fs' := [_, _, _, _, _, _, _, _, _, _, _, _, _, _, _, _, _, _, _, _]) h hn 8 fp_X6_31 dX6_init_66 ((ho8 _ (by omega)).trans sup_eq) (Nat.le_of_ble_eq_true rfl) rfl rfl rfl ?_
  refine g_aload_n h 0 dX6_init_69 rfl rfl ?_
  refine g_bipush h (nI 20) dX6_init_70 (by decide) ?_
  refine g_newiA h dX6_init_72 (by decide) (Nat.le_of_ble_eq_true rfl) (Nat.le_of_ble_eq_true rfl) (a := b + 9) hz8 (fun s9 hz9 hc9 ho9 => ?_)
  refine g_putF (fs' := [_, _, _, _, _, _, _, _, _, _, _, _, _, _, _, _, _, _, _, _]) h hn 10 fp_X6_34 dX6_init_74 ((ho9 _ (by omega)).trans sup_eq) (Nat.le_of_ble_eq_true rfl) rfl rfl rfl ?_
  refine g_aload_n h 0 dX6_init_77 rfl rfl ?_
  refine g_bipush h (nI 20) dX6_init_78 (by decide) ?_
  refine g_newiA h dX6_init_80 (by decide) (Nat.le_of_ble_eq_true rfl) (Nat.le_of_ble_eq_true rfl) (a := b + 10) hz9 (fun s10 hz10 hc10 ho10 => ?_)
  refine g_putF (fs' := [_, _, _, _, _, _, _, _, _, _, _, _, _, _, _, _, _, _, _, _]) h hn 11 fp_X6_37 dX6_init_82 ((ho10 _ (by omega)).trans sup_eq) (Nat.le_of_ble_eq_true rfl) rfl rfl rfl ?_
  refine g_aload_n h 0 dX6_init_85 rfl rfl ?_
  refine g_bipush h (nI 20) dX6_init_86 (by decide) ?_
  refine g_newiA h dX6_init_88 (by decide) (Nat.le_of_ble_eq_true rfl) (Nat.le_of_ble_eq_true rfl) (a := b + 11) hz10 (fun s11 hz11 hc11 ho11 => ?_)
  refine g_putF (fs' := [_, _, _, _, _, _, _, _, _, _, _, _, _, _, _, _, _, _, _, _]) h hn 12 fp_X6_40 dX6_init_90 ((ho11 _ (by omega)).trans sup_eq) (Nat.le_of_ble_eq_true rfl) rfl rfl rfl ?_
  refine g_aload_n h 0 dX6_init_93 rfl rfl ?_
  refine g_bipush h (nI 20) dX6_init_94 (by decide) ?_
  refine g_newiA h dX6_init_96 (by decide) (Nat.le_of_ble_eq_true rfl) (Nat.le_of_ble_eq_true rfl) (a := b + 12) hz11 (fun s12 hz12 hc12 ho12 => ?_)
  refine g_putF (fs' := [_, _, _, _, _, _, _, _, _, _, _, _, _, _, _, _, _, _, _, _]) h hn 13 fp_X6_43 dX6_init_98 ((ho12 _ (by omega)).trans sup_eq) (Nat.le_of_ble_eq_true rfl) rfl rfl rfl ?_
  refine g_aload_n h 0 dX6_init_101 rfl rfl ?_
  refine g_sipush h (nI 1681) dX6_init_102 (by decide) ?_
  refine g_newiA h dX6_init_105 (by decide) (Nat.le_of_ble_eq_true rfl) (Nat.le_of_ble_eq_true rfl) (a := b + 13) hz12 (fun s13 hz13 hc13 ho13 => ?_)
  refine g_putF (fs' := [_, _, _, _, _, _, _, _, _, _, _, _, _, _, _, _, _, _, _, _]) h hn 14 fp_X6_46 dX6_init_107 ((ho13 _ (by omega)).trans sup_eq) (Nat.le_of_ble_eq_true rfl) rfl rfl rfl ?_
  refine g_aload_n h 0 dX6_init_110 rfl rfl ?_
  refine g_sipush h (nI 256) dX6_init_111 (by decide) ?_
  refine g_newiA h dX6_init_114 (by decide) (Nat.le_of_ble_eq_true rfl) (Nat.le_of_ble_eq_true rfl) (a := b + 14) hz13 (fun s14 hz14 hc14 ho14 => ?_)
  refine g_putF (fs' := [_, _, _, _, _, _, _, _, _, _, _, _, _, _, _, _, _, _, _, _]) h hn 15 fp_X6_49 dX6_init_116 ((ho14 _ (by omega)).trans sup_eq) (Nat.le_of_ble_eq_true rfl) rfl rfl rfl ?_
  refine g_aload_n h 0 dX6_init_119 rfl rfl ?_
  refine g_bipush h (nI 64) dX6_init_120 (by decide) ?_
  refine g_newiA h dX6_init_122 (by decide) (Nat.le_of_ble_eq_true rfl) (Nat.le_of_ble_eq_true rfl) (a := b + 15) hz14 (fun s15 hz15 hc15 ho15 => ?_)
  refine g_putF (fs' := [_, _, _, _, _, _, _, _, _, _, _, _, _, _, _, _, _, _, _, _]) h hn 16 fp_X6_52 dX6_init_124 ((ho15 _ (by omega)).trans sup_eq) (Nat.le_of_ble_eq_true rfl) rfl rfl rfl ?_
  refine g_aload_n h 0 dX6_init_127 rfl rfl ?_
  refine g_bipush h (nI 8) dX6_init_128 (by decide) ?_
  refine g_newiA h dX6_init_130 (by decide) (Nat.le_of_ble_eq_true rfl) (Nat.le_of_ble_eq_true rfl) (a := b + 16) hz15 (fun s16 hz16 hc16 ho16 => ?_)
  refine g_putF (fs' := [_, _, _, _, _, _, _, _, _, _, _, _, _, _, _, _, _, _, _, _]) h hn 18 fp_X6_55 dX6_init_132 ((ho16 _ (by omega)).trans sup_eq) (Nat.le_of_ble_eq_true rfl) rfl rfl rfl ?_
  refine g_aload_n h 0 dX6_init_135 rfl rfl ?_
  refine g_sipush h (nI 1681) dX6_init_136 (by decide) ?_
  refine g_newzA h dX6_init_139 (by decide) (Nat.le_of_ble_eq_true rfl) (Nat.le_of_ble_eq_true rfl) (a := b + 17) hz16 (fun s17 hz17 hc17 ho17 => ?_)
  refine g_putF (fs' := [_, _, _, _, _, _, _, _, _, _, _, _, _, _, _, _, _, _, _, _]) h hn 19 fp_X6_58 dX6_init_141 ((ho17 _ (by omega)).trans sup_eq) (Nat.le_of_ble_eq_true rfl) rfl rfl rfl ?_
  exact g_vret h hr dX6_init_144 (⟨rfl, hz17, fun q hq => ((sup_ne (by omega)).trans ((ho17 _ (by omega)).trans ((sup_ne (by omega)).trans ((ho16 _ (by omega)).trans ((sup_ne (by omega)).trans ((ho15 _ (by omega)).trans ((sup_ne (by omega)).trans ((ho14 _ (by omega)).trans ((sup_ne (by omega)).trans ((ho13 _ (by omega)).trans ((sup_ne (by omega)).trans ((ho12 _ (by omega)).trans ((sup_ne (by omega)).trans ((ho11 _ (by omega)).trans ((sup_ne (by omega)).trans ((ho10 _ (by omega)).trans ((sup_ne (by omega)).trans ((ho9 _ (by omega)).trans ((sup_ne (by omega)).trans ((ho8 _ (by omega)).trans ((sup_ne (by omega)).trans ((ho7 _ (by omega)).trans ((sup_ne (by omega)).trans ((ho6 _ (by omega)).trans ((sup_ne (by omega)).trans ((ho5 _ (by omega)).trans ((sup_ne (by omega)).trans ((ho4 _ (by omega)).trans ((sup_ne (by omega)).trans ((ho3 _ (by omega)).trans ((sup_ne (by omega)).trans ((ho2 _ (by omega)).trans ((sup_ne (by omega)).trans ((ho1 _ (by omega)).trans rfl)))))))))))))))))))))))))))))))))), ⟨sup_eq, ⟨_, ((sup_ne (by omega)).trans ((ho17 _ (by omega)).trans ((sup_ne (by omega)).trans ((ho16 _ (by omega)).trans ((sup_ne (by omega)).trans ((ho15 _ (by omega)).trans ((sup_ne (by omega)).trans ((ho14 _ (by omega)).trans ((sup_ne (by omega)).trans ((ho13 _ (by omega)).trans ((sup_ne (by omega)).trans ((ho12 _ (by omega)).trans ((sup_ne (by omega)).trans ((ho11 _ (by omega)).trans ((sup_ne (by omega)).trans ((ho10 _ (by omega)).trans ((sup_ne (by omega)).trans ((ho9 _ (by omega)).trans ((sup_ne (by omega)).trans ((ho8 _ (by omega)).trans ((sup_ne (by omega)).trans ((ho7 _ (by omega)).trans ((sup_ne (by omega)).trans ((ho6 _ (by omega)).trans ((sup_ne (by omega)).trans ((ho5 _ (by omega)).trans ((sup_ne (by omega)).trans ((ho4 _ (by omega)).trans ((sup_ne (by omega)).trans ((ho3 _ (by omega)).trans ((sup_ne (by omega)).trans ((ho2 _ (by omega)).trans ((sup_ne (by omega)).trans hc1))))))))))))))))))))))))))))))))), fun v hv i hi => absurd hi (Nat.not_lt_zero _)⟩, ⟨_, ((sup_ne (by omega)).trans ((ho17 _ (by omega)).trans ((sup_ne (by omega)).trans ((ho16 _ (by omega)).trans ((sup_ne (by omega)).trans ((ho15 _ (by omega)).trans ((sup_ne (by omega)).trans ((ho14 _ (by omega)).trans ((sup_ne (by omega)).trans ((ho13 _ (by omega)).trans ((sup_ne (by omega)).trans ((ho12 _ (by omega)).trans ((sup_ne (by omega)).trans ((ho11 _ (by omega)).trans ((sup_ne (by omega)).trans ((ho10 _ (by omega)).trans ((sup_ne (by omega)).trans ((ho9 _ (by omega)).trans ((sup_ne (by omega)).trans ((ho8 _ (by omega)).trans ((sup_ne (by omega)).trans ((ho7 _ (by omega)).trans ((sup_ne (by omega)).trans ((ho6 _ (by omega)).trans ((sup_ne (by omega)).trans ((ho5 _ (by omega)).trans ((sup_ne (by omega)).trans ((ho4 _ (by omega)).trans ((sup_ne (by omega)).trans ((ho3 _ (by omega)).trans ((sup_ne (by omega)).trans hc2))))))))))))))))))))))))))))))), fun v hv => z0⟩, ⟨_, ((sup_ne (by omega)).trans ((ho17 _ (by omega)).trans ((sup_ne (by omega)).trans ((ho16 _ (by omega)).trans ((sup_ne (by omega)).trans ((ho15 _ (by omega)).trans ((sup_ne (by omega)).trans ((ho14 _ (by omega)).trans ((sup_ne (by omega)).trans ((ho13 _ (by omega)).trans ((sup_ne (by omega)).trans ((ho12 _ (by omega)).trans ((sup_ne (by omega)).trans ((ho11 _ (by omega)).trans ((sup_ne (by omega)).trans ((ho10 _ (by omega)).trans ((sup_ne (by omega)).trans ((ho9 _ (by omega)).trans ((sup_ne (by omega)).trans ((ho8 _ (by omega)).trans ((sup_ne (by omega)).trans ((ho7 _ (by omega)).trans ((sup_ne (by omega)).trans ((ho6 _ (by omega)).trans ((sup_ne (by omega)).trans ((ho5 _ (by omega)).trans ((sup_ne (by omega)).trans ((ho4 _ (by omega)).trans ((sup_ne (by omega)).trans hc3))))))))))))))))))))))))))))), fun v hv i hi => absurd hi (Nat.not_lt_zero _)⟩, ⟨_, ((sup_ne (by omega)).trans ((ho17 _ (by omega)).trans ((sup_ne (by omega)).trans ((ho16 _ (by omega)).trans ((sup_ne (by omega)).trans ((ho15 _ (by omega)).trans ((sup_ne (by omega)).trans ((ho14 _ (by omega)).trans ((sup_ne (by omega)).trans ((ho13 _ (by omega)).trans ((sup_ne (by omega)).trans ((ho12 _ (by omega)).trans ((sup_ne (by omega)).trans ((ho11 _ (by omega)).trans ((sup_ne (by omega)).trans ((ho10 _ (by omega)).trans ((sup_ne (by omega)).trans ((ho9 _ (by omega)).trans ((sup_ne (by omega)).trans ((ho8 _ (by omega)).trans ((sup_ne (by omega)).trans ((ho7 _ (by omega)).trans ((sup_ne (by omega)).trans ((ho6 _ (by omega)).trans ((sup_ne (by omega)).trans ((ho5 _ (by omega)).trans ((sup_ne (by omega)).trans hc4))))))))))))))))))))))))))), fun v hv => z0⟩, ⟨_, ((sup_ne (by omega)).trans ((ho17 _ (by omega)).trans ((sup_ne (by omega)).trans ((ho16 _ (by omega)).trans ((sup_ne (by omega)).trans ((ho15 _ (by omega)).trans ((sup_ne (by omega)).trans ((ho14 _ (by omega)).trans ((sup_ne (by omega)).trans ((ho13 _ (by omega)).trans ((sup_ne (by omega)).trans ((ho12 _ (by omega)).trans ((sup_ne (by omega)).trans ((ho11 _ (by omega)).trans ((sup_ne (by omega)).trans ((ho10 _ (by omega)).trans ((sup_ne (by omega)).trans ((ho9 _ (by omega)).trans ((sup_ne (by omega)).trans ((ho8 _ (by omega)).trans ((sup_ne (by omega)).trans ((ho7 _ (by omega)).trans ((sup_ne (by omega)).trans ((ho6 _ (by omega)).trans ((sup_ne (by omega)).trans hc5))))))))))))))))))))))))), fun i hi => absurd hi (Nat.not_lt_zero _)⟩, ⟨_, ((sup_ne (by omega)).trans ((ho17 _ (by omega)).trans ((sup_ne (by omega)).trans ((ho16 _ (by omega)).trans ((sup_ne (by omega)).trans ((ho15 _ (by omega)).trans ((sup_ne (by omega)).trans ((ho14 _ (by omega)).trans ((sup_ne (by omega)).trans ((ho13 _ (by omega)).trans ((sup_ne (by omega)).trans ((ho12 _ (by omega)).trans ((sup_ne (by omega)).trans ((ho11 _ (by omega)).trans ((sup_ne (by omega)).trans ((ho10 _ (by omega)).trans ((sup_ne (by omega)).trans ((ho9 _ (by omega)).trans ((sup_ne (by omega)).trans ((ho8 _ (by omega)).trans ((sup_ne (by omega)).trans ((ho7 _ (by omega)).trans ((sup_ne (by omega)).trans hc6))))))))))))))))))))))), fun i hi => absurd hi (Nat.not_lt_zero _)⟩, ⟨_, ((sup_ne (by omega)).trans ((ho17 _ (by omega)).trans ((sup_ne (by omega)).trans ((ho16 _ (by omega)).trans ((sup_ne (by omega)).trans ((ho15 _ (by omega)).trans ((sup_ne (by omega)).trans ((ho14 _ (by omega)).trans ((sup_ne (by omega)).trans ((ho13 _ (by omega)).trans ((sup_ne (by omega)).trans ((ho12 _ (by omega)).trans ((sup_ne (by omega)).trans ((ho11 _ (by omega)).trans ((sup_ne (by omega)).trans ((ho10 _ (by omega)).trans ((sup_ne (by omega)).trans ((ho9 _ (by omega)).trans ((sup_ne (by omega)).trans ((ho8 _ (by omega)).trans ((sup_ne (by omega)).trans hc7))))))))))))))))))))), fun i hi => absurd hi (Nat.not_lt_zero _)⟩, ⟨_, ((sup_ne (by omega)).trans ((ho17 _ (by omega)).trans ((sup_ne (by omega)).trans ((ho16 _ (by omega)).trans ((sup_ne (by omega)).trans ((ho15 _ (by omega)).trans ((sup_ne (by omega)).trans ((ho14 _ (by omega)).trans ((sup_ne (by omega)).trans ((ho13 _ (by omega)).trans ((sup_ne (by omega)).trans ((ho12 _ (by omega)).trans ((sup_ne (by omega)).trans ((ho11 _ (by omega)).trans ((sup_ne (by omega)).trans ((ho10 _ (by omega)).trans ((sup_ne (by omega)).trans ((ho9 _ (by omega)).trans ((sup_ne (by omega)).trans hc8))))))))))))))))))), fun v hv => z0⟩, ⟨_, ((sup_ne (by omega)).trans ((ho17 _ (by omega)).trans ((sup_ne (by omega)).trans ((ho16 _ (by omega)).trans ((sup_ne (by omega)).trans ((ho15 _ (by omega)).trans ((sup_ne (by omega)).trans ((ho14 _ (by omega)).trans ((sup_ne (by omega)).trans ((ho13 _ (by omega)).trans ((sup_ne (by omega)).trans ((ho12 _ (by omega)).trans ((sup_ne (by omega)).trans ((ho11 _ (by omega)).trans ((sup_ne (by omega)).trans ((ho10 _ (by omega)).trans ((sup_ne (by omega)).trans hc9))))))))))))))))), fun i hi => absurd hi (Nat.not_lt_zero _)⟩, ⟨_, ((sup_ne (by omega)).trans ((ho17 _ (by omega)).trans ((sup_ne (by omega)).trans ((ho16 _ (by omega)).trans ((sup_ne (by omega)).trans ((ho15 _ (by omega)).trans ((sup_ne (by omega)).trans ((ho14 _ (by omega)).trans ((sup_ne (by omega)).trans ((ho13 _ (by omega)).trans ((sup_ne (by omega)).trans ((ho12 _ (by omega)).trans ((sup_ne (by omega)).trans ((ho11 _ (by omega)).trans ((sup_ne (by omega)).trans hc10))))))))))))))), fun i hi => absurd hi (Nat.not_lt_zero _)⟩, ⟨_, ((sup_ne (by omega)).trans ((ho17 _ (by omega)).trans ((sup_ne (by omega)).trans ((ho16 _ (by omega)).trans ((sup_ne (by omega)).trans ((ho15 _ (by omega)).trans ((sup_ne (by omega)).trans ((ho14 _ (by omega)).trans ((sup_ne (by omega)).trans ((ho13 _ (by omega)).trans ((sup_ne (by omega)).trans ((ho12 _ (by omega)).trans ((sup_ne (by omega)).trans hc11))))))))))))), fun i hi => absurd hi (Nat.not_lt_zero _)⟩, ⟨_, ((sup_ne (by omega)).trans ((ho17 _ (by omega)).trans ((sup_ne (by omega)).trans ((ho16 _ (by omega)).trans ((sup_ne (by omega)).trans ((ho15 _ (by omega)).trans ((sup_ne (by omega)).trans ((ho14 _ (by omega)).trans ((sup_ne (by omega)).trans ((ho13 _ (by omega)).trans ((sup_ne (by omega)).trans hc12))))))))))), fun i hi => absurd hi (Nat.not_lt_zero _)⟩, ⟨_, ((sup_ne (by omega)).trans ((ho17 _ (by omega)).trans ((sup_ne (by omega)).trans ((ho16 _ (by omega)).trans ((sup_ne (by omega)).trans ((ho15 _ (by omega)).trans ((sup_ne (by omega)).trans ((ho14 _ (by omega)).trans ((sup_ne (by omega)).trans hc13)))))))))⟩, ⟨_, ((sup_ne (by omega)).trans ((ho17 _ (by omega)).trans ((sup_ne (by omega)).trans ((ho16 _ (by omega)).trans ((sup_ne (by omega)).trans ((ho15 _ (by omega)).trans ((sup_ne (by omega)).trans hc14)))))))⟩, ⟨_, ((sup_ne (by omega)).trans ((ho17 _ (by omega)).trans ((sup_ne (by omega)).trans ((ho16 _ (by omega)).trans ((sup_ne (by omega)).trans hc15)))))⟩, ⟨_, ((sup_ne (by omega)).trans ((ho17 _ (by omega)).trans ((sup_ne (by omega)).trans hc16))), fun i hi => absurd hi (Nat.not_lt_zero _)⟩, ⟨_, ((sup_ne (by omega)).trans hc17)⟩⟩⟩) (Nat.le_of_ble_eq_true rfl) (Nat.le_of_ble_eq_true rfl)
