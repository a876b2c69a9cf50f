/-! the constructors (own work; walks by program) -/
theorem z0 : (0 : Int32) = nI 0 := by decide
abbrev rm_X2_init : Room := { frames := 1, cells := 1, slots := 40, locals := 16 }
set_option maxRecDepth 100000 in
set_option maxHeartbeats 4000000 in
theorem c_X2_init (lau : Launch) (E : EnvD) (σ : Sto) {r : Nat} {i0 : Int32} (h1 : σ.1 r = some (cO 2 [.null, .int i0])) (hz : σ.2 = r + 1) : CC lau yX2_init cX2_init 1 none rm_X2_init E [.ref r] σ (fun o s => o = none ∧ s.2 = r + 2 ∧ (∀ a, a < r → s.1 a = σ.1 a) ∧ ∀ g, RowIs E s r 0 g) := by
  refine cc_of (vs := [_]) (by decide) (Nat.le_of_ble_eq_true rfl) rfl ?_
  intro X h hr hn
  refine g_aload_n h 0 dX2_init_0 rfl rfl ?_
  refine g_objInit h oi_X2_3 dX2_init_1 ⟨(Nat.le_of_ble_eq_true rfl), (Nat.le_of_ble_eq_true rfl)⟩ ?_
  refine g_aload_n h 0 dX2_init_4 rfl rfl ?_
  refine g_bipush h (nI 40) dX2_init_5 (by decide) ?_
  refine g_newiA h dX2_init_7 (by decide) (Nat.le_of_ble_eq_true rfl) (Nat.le_of_ble_eq_true rfl) (a := r + 1) hz (fun s1 hz1 hc1 ho1 => ?_)
  refine g_putF (fs' := [_, _]) h hn 0 fp_X2_9 dX2_init_9 ((ho1 _ (by omega)).trans h1) (Nat.le_of_ble_eq_true rfl) rfl rfl rfl ?_
  refine g_aload_n h 0 dX2_init_12 rfl rfl ?_
  refine g_iconst h (nI 0) dX2_init_13 (by decide) ?_
  refine g_put (fs' := [_, _]) h 1 fp_X2_15 dX2_init_14 sup_eq (Nat.le_of_ble_eq_true rfl) rfl rfl rfl ?_
  refine g_sto sup_sup ?_
  exact g_vret h hr dX2_init_17 (⟨rfl, hz1, fun q hq => ((sup_ne (by omega)).trans ((ho1 _ (by omega)).trans rfl)), fun g => ⟨sup_eq, _, ((sup_ne (by omega)).trans hc1), fun i hi => absurd hi (Nat.not_lt_zero _)⟩⟩) (Nat.le_of_ble_eq_true rfl) (Nat.le_of_ble_eq_true rfl)
abbrev rm_X0_init : Room := { frames := 1, cells := 42, slots := 1722, locals := 16 }
set_option maxRecDepth 100000 in
set_option maxHeartbeats 4000000 in
theorem c_X0_init (lau : Launch) (E : EnvD) (σ : Sto) {c : Nat} (h1 : σ.1 c = some (cO 0 [.null])) (hz : σ.2 = c + 1) : CC lau yX0_init cX0_init 1 none rm_X0_init E [.ref c] σ (fun o s => o = none ∧ s.2 = c + 43 ∧ (∀ a, a < c → s.1 a = σ.1 a) ∧ ChIs E s c) := by
  refine cc_of (vs := [_]) (by decide) (Nat.le_of_ble_eq_true rfl) rfl ?_
  intro X h hr hn
  refine g_aload_n h 0 dX0_init_0 rfl rfl ?_
  refine g_objInit h oi_X0_3 dX0_init_1 ⟨(Nat.le_of_ble_eq_true rfl), (Nat.le_of_ble_eq_true rfl)⟩ ?_
  refine g_aload_n h 0 dX0_init_4 rfl rfl ?_
  refine g_bipush h (nI 41) dX0_init_5 (by decide) ?_
  refine g_bipush h (nI 41) dX0_init_7 (by decide) ?_
  refine g_mnaA h cl_X0_9 dX0_init_9 (by decide) (by decide) (Nat.le_of_ble_eq_true rfl) (Nat.le_of_ble_eq_true rfl) (a := c + 1) hz (fun s1 hz1 hc1 hr1 ho1 => ?_)
  refine g_putF (fs' := [_]) h hn 0 fp_X0_11 dX0_init_13 ((ho1 _ (by omega)).trans h1) (Nat.le_of_ble_eq_true rfl) rfl rfl rfl ?_
  exact g_vret h hr dX0_init_16 (⟨rfl, hz1, fun q hq => ((sup_ne (by omega)).trans ((ho1 _ (by omega)).trans rfl)), ⟨sup_eq, ⟨_, ((sup_ne (by omega)).trans hc1), fun i hi => by show (if i < 41 then some (c + 1 + 1 + i) else none) = _; rw [if_pos hi]⟩, fun i hi => ⟨_, (sup_ne (by omega)).trans (hr1 i hi)⟩⟩⟩) (Nat.le_of_ble_eq_true rfl) (Nat.le_of_ble_eq_true rfl)
abbrev rm_X4_init : Room := { frames := 2, cells := 12, slots := 370, locals := 36 }
set_option maxRecDepth 100000 in
set_option maxHeartbeats 4000000 in
theorem c_X4_init (lau : Launch) (E : EnvD) (σ : Sto) {c : Nat} (h1 : σ.1 c = some (cO 4 [.null, .null, .null])) (hz : σ.2 = c + 1) : CC lau yX4_init cX4_init 1 none rm_X4_init E [.ref c] σ (fun o s => o = none ∧ s.2 = c + 13 ∧ (∀ a, a < c → s.1 a = σ.1 a) ∧ TpIs E s c ∧ ∀ g, RowIs E s (c + 1) 0 g) := by
  refine cc_of (vs := [_]) (by decide) (Nat.le_of_ble_eq_true rfl) rfl ?_
  intro X h hr hn
  refine g_aload_n h 0 dX4_init_0 rfl rfl ?_
  refine g_objInit h oi_X4_3 dX4_init_1 ⟨(Nat.le_of_ble_eq_true rfl), (Nat.le_of_ble_eq_true rfl)⟩ ?_
  refine g_aload_n h 0 dX4_init_4 rfl rfl ?_
  refine g_newA h 2 (ty := tyX2) [.null, .int 0] rfl tyX2_ok nw_X4_9 dX4_init_5 (fun j hj => by rcases (show j = 0 ∨ j = 1 by omega) with rfl | rfl <;> rfl) (Nat.le_of_ble_eq_true rfl) (Nat.le_of_ble_eq_true rfl) (a := c + 1) hz (fun s1 hz1 hc1 ho1 => ?_)
  refine g_dup h dX4_init_8 rfl ?_
  refine g_callIN h [_, _] (c_X2_init (xL X) E _ (hc1) hz1) cf_X4_11 h.2.2.2.2.1.2.2.2.1.2.2.1 ci_X2_init dX4_init_9 rfl rfl (Nat.le_of_ble_eq_true rfl) ⟨(Nat.le_of_ble_eq_true rfl), (Nat.le_of_ble_eq_true rfl)⟩ ⟨(Nat.le_of_ble_eq_true rfl), (Nat.le_of_ble_eq_true rfl)⟩ ?_
  rintro _ s2 ⟨rfl, hz2, ho2, hk2⟩
  refine g_putF (fs' := [_, _, _]) h hn 0 fp_X4_12 dX4_init_12 ((ho2 _ (by omega)).trans ((ho1 _ (by omega)).trans h1)) (Nat.le_of_ble_eq_true rfl) rfl rfl rfl ?_
  refine g_aload_n h 0 dX4_init_15 rfl rfl ?_
  refine g_bipush h (nI 8) dX4_init_16 (by decide) ?_
  refine g_bipush h (nI 8) dX4_init_18 (by decide) ?_
  refine g_mnaA h cl_X4_18 dX4_init_20 (by decide) (by decide) (Nat.le_of_ble_eq_true rfl) (Nat.le_of_ble_eq_true rfl) (a := c + 3) hz2 (fun s3 hz3 hc3 hr3 ho3 => ?_)
  refine g_putF (fs' := [_, _, _]) h hn 1 fp_X4_20 dX4_init_24 ((ho3 _ (by omega)).trans sup_eq) (Nat.le_of_ble_eq_true rfl) rfl rfl rfl ?_
  refine g_aload_n h 0 dX4_init_27 rfl rfl ?_
  refine g_sipush h (nI 256) dX4_init_28 (by decide) ?_
  refine g_newiA h dX4_init_31 (by decide) (Nat.le_of_ble_eq_true rfl) (Nat.le_of_ble_eq_true rfl) (a := c + 12) hz3 (fun s4 hz4 hc4 ho4 => ?_)
  refine g_putF (fs' := [_, _, _]) h hn 2 fp_X4_23 dX4_init_33 ((ho4 _ (by omega)).trans sup_eq) (Nat.le_of_ble_eq_true rfl) rfl rfl rfl ?_
  exact g_vret h hr dX4_init_36 (⟨rfl, hz4, fun q hq => ((sup_ne (by omega)).trans ((ho4 _ (by omega)).trans ((sup_ne (by omega)).trans ((ho3 _ (by omega)).trans ((sup_ne (by omega)).trans ((ho2 _ (by omega)).trans ((ho1 _ (by omega)).trans rfl))))))), ⟨sup_eq, ⟨_, ((sup_ne (by omega)).trans ((ho4 _ (by omega)).trans ((sup_ne (by omega)).trans hc3))), fun i hi => by show (if i < 8 then some (c + 3 + 1 + i) else none) = _; rw [if_pos hi]⟩, fun i hi => ⟨_, (sup_ne (by omega)).trans ((ho4 _ (by omega)).trans ((sup_ne (by omega)).trans (hr3 i hi)))⟩, ⟨_, ((sup_ne (by omega)).trans hc4)⟩⟩, fun g => RowIs.fr (hk2 g) (((sup_ne (by omega)).trans ((ho4 _ (by omega)).trans ((sup_ne (by omega)).trans ((ho3 _ (by omega)).trans ((sup_ne (by omega)).trans rfl)))))) (((sup_ne (by omega)).trans ((ho4 _ (by omega)).trans ((sup_ne (by omega)).trans ((ho3 _ (by omega)).trans ((sup_ne (by omega)).trans rfl))))))⟩) (Nat.le_of_ble_eq_true rfl) (Nat.le_of_ble_eq_true rfl)
