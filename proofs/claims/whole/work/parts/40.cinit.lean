/-! the class's constructor (own work; walk by program) -/
theorem leb {b i k j : Nat} (h : Nat.ble (i + k) j = true) : b + i + k ≤ b + j := by
  rw [Nat.add_assoc]
  exact Nat.add_le_add_left (Nat.le_of_ble_eq_true h) b
/-- the class's cells while its rows are made: v versions, p performances -/
def MkP (E : EnvD) (z v p : Nat) (s : Sto) : Prop :=
  s.2 = z + 64 + 2 * v + 2 * p ∧ s.1 z = some (cO 5 [.ref (z + 1), .ref (z + 2), .ref (z + 3), .ref (z + 4), .ref (z + 5), .ref (z + 6), .ref (z + 49), .ref (z + 62), .int (nI 0), .int (nI 0)]) ∧
  (∃ f, s.1 (z + 1) = some (cQ E 2 8 f) ∧ ∀ i, i < v → f i = some (z + 64 + 2 * i)) ∧ (∃ f, s.1 (z + 2) = some (cQ E 2 4 f) ∧ ∀ i, i < p → f i = some (z + 80 + 2 * i)) ∧
  (∃ f, s.1 (z + 3) = some (cQ E 3 12 f)) ∧ (∃ f, s.1 (z + 4) = some (cQ E 4 20 f)) ∧ s.1 (z + 5) = some (cI E 100 (fun _ => 0)) ∧ ChIs E s (z + 6) ∧ TpIs E s (z + 49) ∧ (∀ g, RowIs E s (z + 50) 0 g) ∧ (∀ g, RowIs E s (z + 62) 0 g) ∧
  (∀ i, i < v → ∀ g, RowIs E s (z + 64 + 2 * i) 0 g) ∧ ∀ i, i < p → ∀ g, RowIs E s (z + 80 + 2 * i) 0 g
theorem MkP.ver {E : EnvD} {z v : Nat} {s s2 : Sto} {f : Nat → Option Nat} (h : MkP E z v 0 s) (hz : s2.2 = z + 64 + 2 * v + 2) (ag : ∀ a, a < z + 64 + 2 * v → s2.1 a = s.1 a) (hr : ∀ g, RowIs E s2 (z + 64 + 2 * v) 0 g) (hf : ∀ i, i < v → f i = some (z + 64 + 2 * i)) : MkP E z (v + 1) 0 (sup s2 (z + 1) (cQ E 2 8 (va_up f v (some (z + 64 + 2 * v))))) := by
  obtain ⟨h0, h1, -, ⟨f2, h3, h4⟩, ⟨f3, h5⟩, ⟨f4, h6⟩, h7, h8, h9, h10, h11, h12, -⟩ := h
  have ac : ∀ a, a ≠ z + 1 → a < z + 64 + 2 * v → (sup s2 (z + 1) (cQ E 2 8 (va_up f v (some (z + 64 + 2 * v))))).1 a = s.1 a := fun a e1 e2 => (sup_ne e1).trans (ag a e2)
  refine ⟨by show s2.2 = _; omega, (ac _ (by omega) (by omega)).trans h1, ⟨_, sup_eq, fun i hi => ?_⟩, ⟨f2, (ac _ (by omega) (by omega)).trans h3, h4⟩, ⟨f3, (ac _ (by omega) (by omega)).trans h5⟩, ⟨f4, (ac _ (by omega) (by omega)).trans h6⟩, (ac _ (by omega) (by omega)).trans h7, h8.fr (fun a e1 e2 => ac a (by omega) (by omega)), h9.fr (fun a e1 e2 _ _ => ac a (by omega) (by omega)), fun g => (h10 g).fr (ac _ (by omega) (by omega)) (ac _ (by omega) (by omega)), fun g => (h11 g).fr (ac _ (by omega) (by omega)) (ac _ (by omega) (by omega)), fun i hi g => ?_, fun i hi => absurd hi (Nat.not_lt_zero _)⟩
  · unfold va_up
    by_cases c : i = v
    · subst c; simp
    · rw [if_neg c]; exact hf i (by omega)
  · by_cases c : i = v
    · subst c; exact (hr g).fr (sup_ne (by omega)) (sup_ne (by omega))
    · exact (h12 i (by omega) g).fr (ac _ (by omega) (by omega)) (ac _ (by omega) (by omega))
theorem MkP.perf {E : EnvD} {z v : Nat} {s s2 : Sto} {f : Nat → Option Nat} (h : MkP E z 8 v s) (hz : s2.2 = z + 80 + 2 * v + 2) (ag : ∀ a, a < z + 80 + 2 * v → s2.1 a = s.1 a) (hr : ∀ g, RowIs E s2 (z + 80 + 2 * v) 0 g) (hf : ∀ i, i < v → f i = some (z + 80 + 2 * i)) : MkP E z 8 (v + 1) (sup s2 (z + 2) (cQ E 2 4 (va_up f v (some (z + 80 + 2 * v))))) := by
  obtain ⟨h0, h1, ⟨f2, h3, h4⟩, -, ⟨f3, h5⟩, ⟨f4, h6⟩, h7, h8, h9, h10, h11, h12, h13⟩ := h
  have ac : ∀ a, a ≠ z + 2 → a < z + 80 + 2 * v → (sup s2 (z + 2) (cQ E 2 4 (va_up f v (some (z + 80 + 2 * v))))).1 a = s.1 a := fun a e1 e2 => (sup_ne e1).trans (ag a e2)
  refine ⟨by show s2.2 = _; omega, (ac _ (by omega) (by omega)).trans h1, ⟨f2, (ac _ (by omega) (by omega)).trans h3, h4⟩, ⟨_, sup_eq, fun i hi => ?_⟩, ⟨f3, (ac _ (by omega) (by omega)).trans h5⟩, ⟨f4, (ac _ (by omega) (by omega)).trans h6⟩, (ac _ (by omega) (by omega)).trans h7, h8.fr (fun a e1 e2 => ac a (by omega) (by omega)), h9.fr (fun a e1 e2 _ _ => ac a (by omega) (by omega)), fun g => (h10 g).fr (ac _ (by omega) (by omega)) (ac _ (by omega) (by omega)), fun g => (h11 g).fr (ac _ (by omega) (by omega)) (ac _ (by omega) (by omega)), fun i hi g => (h12 i hi g).fr (ac _ (by omega) (by omega)) (ac _ (by omega) (by omega)), fun i hi g => ?_⟩
  · unfold va_up
    by_cases c : i = v
    · subst c; simp
    · rw [if_neg c]; exact hf i (by omega)
  · by_cases c : i = v
    · subst c; exact (hr g).fr (sup_ne (by omega)) (sup_ne (by omega))
    · exact (h13 i (by omega) g).fr (ac _ (by omega) (by omega)) (ac _ (by omega) (by omega))
theorem MkP.start {E : EnvD} {z : Nat} {t : Sto} (h0 : t.2 = z + 64) (k1 : t.1 (z + 1) = some (cQ E 2 8 (fun _ => none))) (k2 : t.1 (z + 2) = some (cQ E 2 4 (fun _ => none))) (k3 : t.1 (z + 3) = some (cQ E 3 12 (fun _ => none))) (k4 : t.1 (z + 4) = some (cQ E 4 20 (fun _ => none))) (k5 : t.1 (z + 5) = some (cI E 100 (fun _ => 0))) (kch : ChIs E t (z + 6)) (ktp : TpIs E t (z + 49)) (ktr : ∀ g, RowIs E t (z + 50) 0 g) (kea : ∀ g, RowIs E t (z + 62) 0 g) : MkP E z 0 0 (sup t z (cO 5 [.ref (z + 1), .ref (z + 2), .ref (z + 3), .ref (z + 4), .ref (z + 5), .ref (z + 6), .ref (z + 49), .ref (z + 62), .int (nI 0), .int (nI 0)])) := by
  have ac : ∀ (e : va_E) a, a ≠ z → (sup t z e).1 a = t.1 a := fun e a h => sup_ne h
  exact ⟨h0, sup_eq, ⟨_, (ac _ _ (by omega)).trans k1, fun i hi => absurd hi (Nat.not_lt_zero _)⟩, ⟨_, (ac _ _ (by omega)).trans k2, fun i hi => absurd hi (Nat.not_lt_zero _)⟩, ⟨_, (ac _ _ (by omega)).trans k3⟩, ⟨_, (ac _ _ (by omega)).trans k4⟩, (ac _ _ (by omega)).trans k5, kch.fr (fun a e1 e2 => ac _ a (by omega)), ktp.fr (fun a e1 e2 _ _ => ac _ a (by omega)), fun g => (ktr g).fr (ac _ _ (by omega)) (ac _ _ (by omega)), fun g => (kea g).fr (ac _ _ (by omega)) (ac _ _ (by omega)), fun i hi => absurd hi (Nat.not_lt_zero _), fun i hi => absurd hi (Nat.not_lt_zero _)⟩
theorem MkP.fin {E : EnvD} {z : Nat} {s : Sto} (h : MkP E z 8 4 s) : RepC E z PSt0 s := by
  obtain ⟨h0, h1, ⟨f2, h3, h4⟩, ⟨f5, h13, h14⟩, ⟨f3, h5⟩, ⟨f4, h6⟩, h7, h8, h9, h10, h11, h12, h15⟩ := h
  exact ⟨h1, ⟨f2, h3, h4⟩, ⟨f5, h13, h14⟩, ⟨f3, h5, fun i hi => absurd hi (Nat.not_lt_zero _)⟩, ⟨f4, h6, fun i hi => absurd hi (Nat.not_lt_zero _)⟩, ⟨_, h7, fun i hi => z0⟩, h8, h9, h10 _, ⟨0, fun _ => 0, Nat.zero_le _, h11 _⟩, fun v hv => h12 v hv _, fun p hp => h15 p hp _⟩
abbrev rm_X5_init : Room := { frames := 3, cells := 87, slots := 2786, locals := 56 }
set_option maxRecDepth 100000 in
set_option maxHeartbeats 4000000 in
theorem c_X5_init (lau : Launch) (E : EnvD) (σ : Sto) {z : Nat} (h1 : σ.1 z = some (cO 5 [.null, .null, .null, .null, .null, .null, .null, .null, .int 0, .int 0])) (hz : σ.2 = z + 1) : CC lau yX5_init cX5_init 2 none rm_X5_init E [.ref z] σ (fun o s => o = none ∧ s.2 = z + 88 ∧ (∀ a, a < z → s.1 a = σ.1 a) ∧ RepC E z PSt0 s) := by
  refine cc_of (vs := [_, _]) (by decide) (Nat.le_of_ble_eq_true rfl) rfl ?_
  intro X h hr hn
  refine g_aload_n h 0 dX5_init_0 rfl rfl ?_
  refine g_objInit h oi_X5_1 dX5_init_1 ⟨(Nat.le_of_ble_eq_true rfl), (Nat.le_of_ble_eq_true rfl)⟩ ?_
  refine g_aload_n h 0 dX5_init_4 rfl rfl ?_
  refine g_bipush h (nI 8) dX5_init_5 (by decide) ?_
  refine g_newqA h 2 nw_X5_9.1 h.2.2.2.2.1.2.2.2.2.1.1 dX5_init_7 rfl (by decide) (Nat.le_of_ble_eq_true rfl) (Nat.le_of_ble_eq_true rfl) (a := z + 1) hz (fun s1 hz1 hc1 ho1 => ?_)
  refine g_putF (fs := [.null, .null, .null, .null, .null, .null, .null, .null, .int 0, .int 0]) (fs' := [_, _, _, _, _, _, _, _, _, _]) h hn 0 fp_X5_11 dX5_init_10 ((ho1 _ (by omega)).trans h1) (Nat.le_of_ble_eq_true rfl) rfl rfl rfl ?_
  refine g_gen (fun s' => s'.2 = z + 2 ∧ s'.1 z = some (cO 5 [.ref (z + 1), .null, .null, .null, .null, .null, .null, .null, .int 0, .int 0]) ∧ s'.1 (z + 1) = some (cQ E 2 8 (fun _ => none)) ∧ ∀ a, a ≠ z → a < z + 1 → s'.1 a = σ.1 a) ⟨hz1, sup_eq, (sup_ne (neb rfl)).trans hc1, fun a e1 e2 => (sup_ne e1).trans (ho1 _ e2)⟩ ?_
  rintro t2 ⟨hzt2, ht2, kz_1, agt2⟩
  have hfr : ∀ q, q < z → t2.1 q = σ.1 q := fun q hq => agt2 q (Nat.ne_of_lt hq) (Nat.lt_of_lt_of_le hq (Nat.le_add_right _ _))
  clear agt2 hz1
  refine g_aload_n h 0 dX5_init_13 rfl rfl ?_
  refine g_iconst h (nI 4) dX5_init_14 (by decide) ?_
  refine g_newqA h 2 nw_X5_9.1 h.2.2.2.2.1.2.2.2.2.1.1 dX5_init_15 rfl (by decide) (Nat.le_of_ble_eq_true rfl) (Nat.le_of_ble_eq_true rfl) (a := z + 2) hzt2 (fun s3 hz3 hc3 ho3 => ?_)
  refine g_putF (fs := [.ref (z + 1), .null, .null, .null, .null, .null, .null, .null, .int 0, .int 0]) (fs' := [_, _, _, _, _, _, _, _, _, _]) h hn 1 fp_X5_15 dX5_init_18 ((ho3 _ (by omega)).trans ht2) (Nat.le_of_ble_eq_true rfl) rfl rfl rfl ?_
  refine g_gen (fun s' => s'.2 = z + 3 ∧ s'.1 z = some (cO 5 [.ref (z + 1), .ref (z + 2), .null, .null, .null, .null, .null, .null, .int 0, .int 0]) ∧ s'.1 (z + 2) = some (cQ E 2 4 (fun _ => none)) ∧ ∀ a, a ≠ z → a < z + 2 → s'.1 a = t2.1 a) ⟨hz3, sup_eq, (sup_ne (neb rfl)).trans hc3, fun a e1 e2 => (sup_ne e1).trans (ho3 _ e2)⟩ ?_
  rintro t4 ⟨hzt4, ht4, kz_2, agt4⟩
  replace kz_1 : t4.1 (z + 1) = some (cQ E 2 8 (fun _ => none)) := (agt4 _ (neb rfl) (ltb rfl)).trans kz_1
  replace hfr : ∀ q, q < z → t4.1 q = σ.1 q := fun q hq => (agt4 q (Nat.ne_of_lt hq) (Nat.lt_of_lt_of_le hq (Nat.le_add_right _ _))).trans (hfr q hq)
  clear agt4 hzt2 hz3
  refine g_aload_n h 0 dX5_init_21 rfl rfl ?_
  refine g_bipush h (nI 12) dX5_init_22 (by decide) ?_
  refine g_newqA h 3 nw_X5_18.1 h.2.2.2.2.1.2.2.2.2.1.2.1 dX5_init_24 rfl (by decide) (Nat.le_of_ble_eq_true rfl) (Nat.le_of_ble_eq_true rfl) (a := z + 3) hzt4 (fun s5 hz5 hc5 ho5 => ?_)
  refine g_putF (fs := [.ref (z + 1), .ref (z + 2), .null, .null, .null, .null, .null, .null, .int 0, .int 0]) (fs' := [_, _, _, _, _, _, _, _, _, _]) h hn 2 fp_X5_20 dX5_init_27 ((ho5 _ (by omega)).trans ht4) (Nat.le_of_ble_eq_true rfl) rfl rfl rfl ?_
  refine g_gen (fun s' => s'.2 = z + 4 ∧ s'.1 z = some (cO 5 [.ref (z + 1), .ref (z + 2), .ref (z + 3), .null, .null, .null, .null, .null, .int 0, .int 0]) ∧ s'.1 (z + 3) = some (cQ E 3 12 (fun _ => none)) ∧ ∀ a, a ≠ z → a < z + 3 → s'.1 a = t4.1 a) ⟨hz5, sup_eq, (sup_ne (neb rfl)).trans hc5, fun a e1 e2 => (sup_ne e1).trans (ho5 _ e2)⟩ ?_
  rintro t6 ⟨hzt6, ht6, kz_3, agt6⟩
  replace kz_1 : t6.1 (z + 1) = some (cQ E 2 8 (fun _ => none)) := (agt6 _ (neb rfl) (ltb rfl)).trans kz_1
  replace kz_2 : t6.1 (z + 2) = some (cQ E 2 4 (fun _ => none)) := (agt6 _ (neb rfl) (ltb rfl)).trans kz_2
  replace hfr : ∀ q, q < z → t6.1 q = σ.1 q := fun q hq => (agt6 q (Nat.ne_of_lt hq) (Nat.lt_of_lt_of_le hq (Nat.le_add_right _ _))).trans (hfr q hq)
  clear agt6 hzt4 hz5
  refine g_aload_n h 0 dX5_init_30 rfl rfl ?_
  refine g_bipush h (nI 20) dX5_init_31 (by decide) ?_
  refine g_newqA h 4 nw_X5_24.1 h.2.2.2.2.1.2.2.2.2.1.2.2 dX5_init_33 rfl (by decide) (Nat.le_of_ble_eq_true rfl) (Nat.le_of_ble_eq_true rfl) (a := z + 4) hzt6 (fun s7 hz7 hc7 ho7 => ?_)
  refine g_putF (fs := [.ref (z + 1), .ref (z + 2), .ref (z + 3), .null, .null, .null, .null, .null, .int 0, .int 0]) (fs' := [_, _, _, _, _, _, _, _, _, _]) h hn 3 fp_X5_26 dX5_init_36 ((ho7 _ (by omega)).trans ht6) (Nat.le_of_ble_eq_true rfl) rfl rfl rfl ?_
  refine g_gen (fun s' => s'.2 = z + 5 ∧ s'.1 z = some (cO 5 [.ref (z + 1), .ref (z + 2), .ref (z + 3), .ref (z + 4), .null, .null, .null, .null, .int 0, .int 0]) ∧ s'.1 (z + 4) = some (cQ E 4 20 (fun _ => none)) ∧ ∀ a, a ≠ z → a < z + 4 → s'.1 a = t6.1 a) ⟨hz7, sup_eq, (sup_ne (neb rfl)).trans hc7, fun a e1 e2 => (sup_ne e1).trans (ho7 _ e2)⟩ ?_
  rintro t8 ⟨hzt8, ht8, kz_4, agt8⟩
  replace kz_1 : t8.1 (z + 1) = some (cQ E 2 8 (fun _ => none)) := (agt8 _ (neb rfl) (ltb rfl)).trans kz_1
  replace kz_2 : t8.1 (z + 2) = some (cQ E 2 4 (fun _ => none)) := (agt8 _ (neb rfl) (ltb rfl)).trans kz_2
  replace kz_3 : t8.1 (z + 3) = some (cQ E 3 12 (fun _ => none)) := (agt8 _ (neb rfl) (ltb rfl)).trans kz_3
  replace hfr : ∀ q, q < z → t8.1 q = σ.1 q := fun q hq => (agt8 q (Nat.ne_of_lt hq) (Nat.lt_of_lt_of_le hq (Nat.le_add_right _ _))).trans (hfr q hq)
  clear agt8 hzt6 hz7
  refine g_aload_n h 0 dX5_init_39 rfl rfl ?_
  refine g_bipush h (nI 100) dX5_init_40 (by decide) ?_
  refine g_newiA h dX5_init_42 (by decide) (Nat.le_of_ble_eq_true rfl) (Nat.le_of_ble_eq_true rfl) (a := z + 5) hzt8 (fun s9 hz9 hc9 ho9 => ?_)
  refine g_putF (fs := [.ref (z + 1), .ref (z + 2), .ref (z + 3), .ref (z + 4), .null, .null, .null, .null, .int 0, .int 0]) (fs' := [_, _, _, _, _, _, _, _, _, _]) h hn 4 fp_X5_30 dX5_init_44 ((ho9 _ (by omega)).trans ht8) (Nat.le_of_ble_eq_true rfl) rfl rfl rfl ?_
  refine g_gen (fun s' => s'.2 = z + 6 ∧ s'.1 z = some (cO 5 [.ref (z + 1), .ref (z + 2), .ref (z + 3), .ref (z + 4), .ref (z + 5), .null, .null, .null, .int 0, .int 0]) ∧ s'.1 (z + 5) = some (cI E 100 (fun _ => 0)) ∧ ∀ a, a ≠ z → a < z + 5 → s'.1 a = t8.1 a) ⟨hz9, sup_eq, (sup_ne (neb rfl)).trans hc9, fun a e1 e2 => (sup_ne e1).trans (ho9 _ e2)⟩ ?_
  rintro t10 ⟨hzt10, ht10, kz_5, agt10⟩
  replace kz_1 : t10.1 (z + 1) = some (cQ E 2 8 (fun _ => none)) := (agt10 _ (neb rfl) (ltb rfl)).trans kz_1
  replace kz_2 : t10.1 (z + 2) = some (cQ E 2 4 (fun _ => none)) := (agt10 _ (neb rfl) (ltb rfl)).trans kz_2
  replace kz_3 : t10.1 (z + 3) = some (cQ E 3 12 (fun _ => none)) := (agt10 _ (neb rfl) (ltb rfl)).trans kz_3
  replace kz_4 : t10.1 (z + 4) = some (cQ E 4 20 (fun _ => none)) := (agt10 _ (neb rfl) (ltb rfl)).trans kz_4
  replace hfr : ∀ q, q < z → t10.1 q = σ.1 q := fun q hq => (agt10 q (Nat.ne_of_lt hq) (Nat.lt_of_lt_of_le hq (Nat.le_add_right _ _))).trans (hfr q hq)
  clear agt10 hzt8 hz9
  refine g_aload_n h 0 dX5_init_47 rfl rfl ?_
  refine g_newA h 0 (ty := tyX0) [.null] rfl tyX0_ok nw_X5_34 dX5_init_48 (fun j hj => by rcases (show j = 0 by omega) with rfl <;> rfl) (Nat.le_of_ble_eq_true rfl) (Nat.le_of_ble_eq_true rfl) (a := z + 6) hzt10 (fun s11 hz11 hc11 ho11 => ?_)
  refine g_dup h dX5_init_51 rfl ?_
  refine g_callIN h [_, _] (c_X0_init (xL X) E _ (hc11) hz11) cf_X5_36 h.2.2.2.2.1.2.2.2.1.1 ci_X0_init dX5_init_52 rfl rfl (Nat.le_of_ble_eq_true rfl) ⟨(Nat.le_of_ble_eq_true rfl), (Nat.le_of_ble_eq_true rfl)⟩ ⟨(Nat.le_of_ble_eq_true rfl), (Nat.le_of_ble_eq_true rfl)⟩ ?_
  rintro _ s12 ⟨rfl, hz12, ho12, hk12⟩
  refine g_putF (fs := [.ref (z + 1), .ref (z + 2), .ref (z + 3), .ref (z + 4), .ref (z + 5), .null, .null, .null, .int 0, .int 0]) (fs' := [_, _, _, _, _, _, _, _, _, _]) h hn 5 fp_X5_37 dX5_init_55 ((ho12 _ (by omega)).trans ((ho11 _ (by omega)).trans ht10)) (Nat.le_of_ble_eq_true rfl) rfl rfl rfl ?_
  refine g_gen (fun s' => s'.2 = z + 49 ∧ s'.1 z = some (cO 5 [.ref (z + 1), .ref (z + 2), .ref (z + 3), .ref (z + 4), .ref (z + 5), .ref (z + 6), .null, .null, .int 0, .int 0]) ∧ ChIs E s' (z + 6) ∧ ∀ a, a ≠ z → a < z + 6 → s'.1 a = t10.1 a) ⟨hz12, sup_eq, (hk12.fr (fun a e1 e2 => sup_ne (Nat.ne_of_gt (Nat.lt_of_lt_of_le (lt0 rfl) e1)))), fun a e1 e2 => (sup_ne e1).trans ((ho12 _ e2).trans (ho11 _ e2))⟩ ?_
  rintro t13 ⟨hzt13, ht13, kch, agt13⟩
  replace kz_1 : t13.1 (z + 1) = some (cQ E 2 8 (fun _ => none)) := (agt13 _ (neb rfl) (ltb rfl)).trans kz_1
  replace kz_2 : t13.1 (z + 2) = some (cQ E 2 4 (fun _ => none)) := (agt13 _ (neb rfl) (ltb rfl)).trans kz_2
  replace kz_3 : t13.1 (z + 3) = some (cQ E 3 12 (fun _ => none)) := (agt13 _ (neb rfl) (ltb rfl)).trans kz_3
  replace kz_4 : t13.1 (z + 4) = some (cQ E 4 20 (fun _ => none)) := (agt13 _ (neb rfl) (ltb rfl)).trans kz_4
  replace kz_5 : t13.1 (z + 5) = some (cI E 100 (fun _ => 0)) := (agt13 _ (neb rfl) (ltb rfl)).trans kz_5
  replace hfr : ∀ q, q < z → t13.1 q = σ.1 q := fun q hq => (agt13 q (Nat.ne_of_lt hq) (Nat.lt_of_lt_of_le hq (Nat.le_add_right _ _))).trans (hfr q hq)
  clear agt13 hzt10 hz11 hz12
  refine g_aload_n h 0 dX5_init_58 rfl rfl ?_
  refine g_newA h 4 (ty := tyX4) [.null, .null, .null] rfl tyX4_ok nw_X5_41 dX5_init_59 (fun j hj => by rcases (show j = 0 ∨ j = 1 ∨ j = 2 by omega) with rfl | rfl | rfl <;> rfl) (Nat.le_of_ble_eq_true rfl) (Nat.le_of_ble_eq_true rfl) (a := z + 49) hzt13 (fun s14 hz14 hc14 ho14 => ?_)
  refine g_dup h dX5_init_62 rfl ?_
  refine g_callIN h [_, _] (c_X4_init (xL X) E _ (hc14) hz14) cf_X5_43 h.2.2.2.2.1.2.2.2.1.2.1 ci_X4_init dX5_init_63 rfl rfl (Nat.le_of_ble_eq_true rfl) ⟨(Nat.le_of_ble_eq_true rfl), (Nat.le_of_ble_eq_true rfl)⟩ ⟨(Nat.le_of_ble_eq_true rfl), (Nat.le_of_ble_eq_true rfl)⟩ ?_
  rintro _ s15 ⟨rfl, hz15, ho15, hk15, hl15⟩
  refine g_putF (fs := [.ref (z + 1), .ref (z + 2), .ref (z + 3), .ref (z + 4), .ref (z + 5), .ref (z + 6), .null, .null, .int 0, .int 0]) (fs' := [_, _, _, _, _, _, _, _, _, _]) h hn 6 fp_X5_44 dX5_init_66 ((ho15 _ (by omega)).trans ((ho14 _ (by omega)).trans ht13)) (Nat.le_of_ble_eq_true rfl) rfl rfl rfl ?_
  refine g_gen (fun s' => s'.2 = z + 62 ∧ s'.1 z = some (cO 5 [.ref (z + 1), .ref (z + 2), .ref (z + 3), .ref (z + 4), .ref (z + 5), .ref (z + 6), .ref (z + 49), .null, .int 0, .int 0]) ∧ TpIs E s' (z + 49) ∧ (∀ g, RowIs E s' (z + 50) 0 g) ∧ ∀ a, a ≠ z → a < z + 49 → s'.1 a = t13.1 a) ⟨hz15, sup_eq, (hk15.fr (fun a e1 e2 _ _ => sup_ne (Nat.ne_of_gt (Nat.lt_of_lt_of_le (lt0 rfl) e1)))), fun g => (hl15 g).fr (sup_ne (by omega)) (sup_ne (by omega)), fun a e1 e2 => (sup_ne e1).trans ((ho15 _ e2).trans (ho14 _ e2))⟩ ?_
  rintro t16 ⟨hzt16, ht16, ktp, ktr, agt16⟩
  replace kz_1 : t16.1 (z + 1) = some (cQ E 2 8 (fun _ => none)) := (agt16 _ (neb rfl) (ltb rfl)).trans kz_1
  replace kz_2 : t16.1 (z + 2) = some (cQ E 2 4 (fun _ => none)) := (agt16 _ (neb rfl) (ltb rfl)).trans kz_2
  replace kz_3 : t16.1 (z + 3) = some (cQ E 3 12 (fun _ => none)) := (agt16 _ (neb rfl) (ltb rfl)).trans kz_3
  replace kz_4 : t16.1 (z + 4) = some (cQ E 4 20 (fun _ => none)) := (agt16 _ (neb rfl) (ltb rfl)).trans kz_4
  replace kz_5 : t16.1 (z + 5) = some (cI E 100 (fun _ => 0)) := (agt16 _ (neb rfl) (ltb rfl)).trans kz_5
  replace kch : ChIs E t16 (z + 6) := (kch.fr (fun a e1 e2 => agt16 a (Nat.ne_of_gt (Nat.lt_of_lt_of_le (lt0 rfl) e1)) (Nat.lt_of_lt_of_le e2 (leb rfl))))
  replace hfr : ∀ q, q < z → t16.1 q = σ.1 q := fun q hq => (agt16 q (Nat.ne_of_lt hq) (Nat.lt_of_lt_of_le hq (Nat.le_add_right _ _))).trans (hfr q hq)
  clear agt16 hzt13 hz14 hz15
  refine g_aload_n h 0 dX5_init_69 rfl rfl ?_
  refine g_newA h 2 (ty := tyX2) [.null, .int 0] rfl tyX2_ok nw_X5_9 dX5_init_70 (fun j hj => by rcases (show j = 0 ∨ j = 1 by omega) with rfl | rfl <;> rfl) (Nat.le_of_ble_eq_true rfl) (Nat.le_of_ble_eq_true rfl) (a := z + 62) hzt16 (fun s17 hz17 hc17 ho17 => ?_)
  refine g_dup h dX5_init_73 rfl ?_
  refine g_callIN h [_, _] (c_X2_init (xL X) E _ (hc17) hz17) cf_X5_48 h.2.2.2.2.1.2.2.2.1.2.2.2.1 ci_X2_init dX5_init_74 rfl rfl (Nat.le_of_ble_eq_true rfl) ⟨(Nat.le_of_ble_eq_true rfl), (Nat.le_of_ble_eq_true rfl)⟩ ⟨(Nat.le_of_ble_eq_true rfl), (Nat.le_of_ble_eq_true rfl)⟩ ?_
  rintro _ s18 ⟨rfl, hz18, ho18, hk18⟩
  refine g_putF (fs := [.ref (z + 1), .ref (z + 2), .ref (z + 3), .ref (z + 4), .ref (z + 5), .ref (z + 6), .ref (z + 49), .null, .int 0, .int 0]) (fs' := [_, _, _, _, _, _, _, _, _, _]) h hn 7 fp_X5_49 dX5_init_77 ((ho18 _ (by omega)).trans ((ho17 _ (by omega)).trans ht16)) (Nat.le_of_ble_eq_true rfl) rfl rfl rfl ?_
  refine g_gen (fun s' => s'.2 = z + 64 ∧ s'.1 z = some (cO 5 [.ref (z + 1), .ref (z + 2), .ref (z + 3), .ref (z + 4), .ref (z + 5), .ref (z + 6), .ref (z + 49), .ref (z + 62), .int 0, .int 0]) ∧ (∀ g, RowIs E s' (z + 62) 0 g) ∧ ∀ a, a ≠ z → a < z + 62 → s'.1 a = t16.1 a) ⟨hz18, sup_eq, fun g => (hk18 g).fr (sup_ne (by omega)) (sup_ne (by omega)), fun a e1 e2 => (sup_ne e1).trans ((ho18 _ e2).trans (ho17 _ e2))⟩ ?_
  rintro t19 ⟨hzt19, ht19, kea, agt19⟩
  replace kz_1 : t19.1 (z + 1) = some (cQ E 2 8 (fun _ => none)) := (agt19 _ (neb rfl) (ltb rfl)).trans kz_1
  replace kz_2 : t19.1 (z + 2) = some (cQ E 2 4 (fun _ => none)) := (agt19 _ (neb rfl) (ltb rfl)).trans kz_2
  replace kz_3 : t19.1 (z + 3) = some (cQ E 3 12 (fun _ => none)) := (agt19 _ (neb rfl) (ltb rfl)).trans kz_3
  replace kz_4 : t19.1 (z + 4) = some (cQ E 4 20 (fun _ => none)) := (agt19 _ (neb rfl) (ltb rfl)).trans kz_4
  replace kz_5 : t19.1 (z + 5) = some (cI E 100 (fun _ => 0)) := (agt19 _ (neb rfl) (ltb rfl)).trans kz_5
  replace kch : ChIs E t19 (z + 6) := (kch.fr (fun a e1 e2 => agt19 a (Nat.ne_of_gt (Nat.lt_of_lt_of_le (lt0 rfl) e1)) (Nat.lt_of_lt_of_le e2 (leb rfl))))
  replace ktp : TpIs E t19 (z + 49) := (ktp.fr (fun a e1 e2 _ _ => agt19 a (Nat.ne_of_gt (Nat.lt_of_lt_of_le (lt0 rfl) e1)) (Nat.lt_of_lt_of_le e2 (leb rfl))))
  replace ktr : (∀ g, RowIs E t19 (z + 50) 0 g) := fun g => (ktr g).fr (agt19 _ (by omega) (by omega)) (agt19 _ (by omega) (by omega))
  replace hfr : ∀ q, q < z → t19.1 q = σ.1 q := fun q hq => (agt19 q (Nat.ne_of_lt hq) (Nat.lt_of_lt_of_le hq (Nat.le_add_right _ _))).trans (hfr q hq)
  clear agt19 hzt16 hz17 hz18
  refine g_aload_n h 0 dX5_init_80 rfl rfl ?_
  refine g_iconst h (nI 0) dX5_init_81 (by decide) ?_
  refine g_put (fs := [.ref (z + 1), .ref (z + 2), .ref (z + 3), .ref (z + 4), .ref (z + 5), .ref (z + 6), .ref (z + 49), .ref (z + 62), .int 0, .int 0]) (fs' := [_, _, _, _, _, _, _, _, _, _]) h 8 fp_X5_53 dX5_init_82 ht19 (Nat.le_of_ble_eq_true rfl) rfl rfl rfl ?_
  refine g_aload_n h 0 dX5_init_85 rfl rfl ?_
  refine g_iconst h (nI 0) dX5_init_86 (by decide) ?_
  refine g_put (fs := [.ref (z + 1), .ref (z + 2), .ref (z + 3), .ref (z + 4), .ref (z + 5), .ref (z + 6), .ref (z + 49), .ref (z + 62), .int (nI 0), .int 0]) (fs' := [_, _, _, _, _, _, _, _, _, _]) h 9 fp_X5_57 dX5_init_87 sup_eq (Nat.le_of_ble_eq_true rfl) rfl rfl rfl ?_
  refine g_sto sup_sup ?_
  refine g_iconst h (nI 0) dX5_init_90 (by decide) ?_
  refine g_istore_n (vs' := [_, _]) h 1 dX5_init_91 rfl (Nat.le_of_ble_eq_true rfl) rfl rfl ?_
  refine g_gen (fun s' => MkP E z 0 0 s' ∧ ∀ q, q < z → s'.1 q = σ.1 q) ⟨MkP.start hzt19 kz_1 kz_2 kz_3 kz_4 kz_5 kch ktp ktr kea, fun q hq => (sup_ne (Nat.ne_of_lt hq)).trans (hfr q hq)⟩ ?_
  rintro sv ⟨hsv, hqv⟩
  clear kz_1 kz_2 kz_3 kz_4 kz_5 kch ktp ktr kea hfr hzt19
  have LV : ∀ (m0 : Nat) (v : Nat) (s0 : Sto), (v ≤ 8) → (MkP E z v 0 s0) → (∀ q, q < z → s0.1 q = σ.1 q) → (8 - v) < m0 → G X E 2 (AD σ) (QF X E σ (fun o s => o = none ∧ s.2 = z + 88 ∧ (∀ a, a < z → s.1 a = σ.1 a) ∧ RepC E z PSt0 s) rm_X5_init) (63 + 2 * v) (2282 + 42 * v) 92 [some (.ref z), some (.int (nI v))] [] s0 := by
    intro m0
    induction m0 with
    | zero => intro v s0 _ _ _ hm0; exact absurd hm0 (Nat.not_lt_zero _)
    | succ m0 ih =>
      intro v s0 hv hs hq0 hm0
      obtain ⟨mn0, mz, ⟨fx, mf, me⟩, -⟩ := id hs
      have mn : s0.2 = z + 64 + 2 * v := by omega
      refine g_iload_n h 1 dX5_init_92 rfl rfl ?_
      refine g_bipush h (nI 8) dX5_init_93 (by decide) ?_
      refine g_icmp_geN h 117 dX5_init_95 (by decide) (by omega) (by decide) (fun c95_20 => ?_) (fun c95_20 => ?_)
      · skip
        refine g_iconst h (nI 0) dX5_init_117 (by decide) ?_
        refine g_istore_n (vs' := [_, _]) h 1 dX5_init_118 rfl (Nat.le_of_ble_eq_true rfl) rfl rfl ?_
        have e8 : v = 8 := by omega
        subst e8
        refine g_widen (k' := 79 + 2 * 0) (n' := 2618 + 42 * 0) (by omega) (by omega) ?_
        have LP : ∀ (m0 : Nat) (p : Nat) (s0 : Sto), (p ≤ 4) → (MkP E z 8 p s0) → (∀ q, q < z → s0.1 q = σ.1 q) → (4 - p) < m0 → G X E 2 (AD σ) (QF X E σ (fun o s => o = none ∧ s.2 = z + 88 ∧ (∀ a, a < z → s.1 a = σ.1 a) ∧ RepC E z PSt0 s) rm_X5_init) (79 + 2 * p) (2618 + 42 * p) 119 [some (.ref z), some (.int (nI p))] [] s0 := by
          intro m0
          induction m0 with
          | zero => intro p s0 _ _ _ hm0; exact absurd hm0 (Nat.not_lt_zero _)
          | succ m0 ih =>
            intro p s0 hv hs hq0 hm0
            obtain ⟨mn0, mz, -, ⟨fx, mf, me⟩, -⟩ := id hs
            have mn : s0.2 = z + 80 + 2 * p := by omega
            have mz2 := mn0
            refine g_iload_n h 1 dX5_init_119 rfl rfl ?_
            refine g_iconst h (nI 4) dX5_init_120 (by decide) ?_
            refine g_icmp_geN h 143 dX5_init_121 (by decide) (by omega) (by decide) (fun c121_21 => ?_) (fun c121_21 => ?_)
            · skip
              have e4 : p = 4 := by omega
              subst e4
              exact g_vret h hr dX5_init_143 (⟨rfl, by rw [mz2], hq0, hs.fin⟩) (Nat.le_of_ble_eq_true rfl) (Nat.le_of_ble_eq_true rfl)
            · skip
              refine g_aload_n h 0 dX5_init_124 rfl rfl ?_
              refine g_get h 1 fa_X5_15 dX5_init_125 mz rfl ?_
              refine g_iload_n h 1 dX5_init_128 rfl rfl ?_
              refine g_newA h 2 (ty := tyX2) [.null, .int 0] rfl tyX2_ok nw_X5_9 dX5_init_129 (fun j hj => by rcases (show j = 0 ∨ j = 1 by omega) with rfl | rfl <;> rfl) (by show 79 + 2 * p + 1 ≤ 87; omega) (by show 2618 + 42 * p + 2 ≤ 2786; omega) (a := z + 80 + 2 * p) mn (fun s22 hz22 hc22 ho22 => ?_)
              refine g_dup h dX5_init_132 rfl ?_
              refine g_callIN h [_, _, _] (c_X2_init (xL X) E _ (hc22) hz22) cf_X5_48 h.2.2.2.2.1.2.2.2.1.2.2.2.1 ci_X2_init dX5_init_133 rfl rfl (Nat.le_of_ble_eq_true rfl) ⟨(Nat.le_of_ble_eq_true rfl), (Nat.le_of_ble_eq_true rfl)⟩ ⟨(by show 79 + 2 * p + 1 + 1 ≤ 87; omega), (by show 2618 + 42 * p + 2 + 40 ≤ 2786; omega)⟩ ?_
              rintro _ s23 ⟨rfl, hz23, ho23, hk23⟩
              refine g_aast h 2 2 dX5_init_136 rfl rfl ((ho23 _ (by omega)).trans ((ho22 _ (by omega)).trans mf)) (hk23 (fun _ => 0)).1 (by omega) (by omega) ?_
              refine g_iinc (vs' := [_, _]) h (nI (p + 1)) dX5_init_137 rfl (by first | exact nI_1 _ | rfl) (Nat.le_of_ble_eq_true rfl) rfl rfl ?_
              refine g_goto h 119 dX5_init_140 (by decide) ?_
              refine g_widen (k' := 79 + 2 * (p + 1)) (n' := 2618 + 42 * (p + 1)) (by show 79 + 2 * p + 1 + 1 ≤ _; omega) (by show 2618 + 42 * p + 2 + 40 ≤ _; omega) ?_
              exact ih _ _ (by omega) (hs.perf hz23 (fun a e2 => (ho23 a e2).trans (ho22 a e2)) hk23 me) (fun q hq => (sup_ne (by omega)).trans ((ho23 q (by omega)).trans ((ho22 q (by omega)).trans (hq0 q hq)))) (by omega)
        exact LP 5 0 s0 (by omega) hs hq0 (by omega)
      · skip
        refine g_aload_n h 0 dX5_init_98 rfl rfl ?_
        refine g_get h 0 fa_X5_11 dX5_init_99 mz rfl ?_
        refine g_iload_n h 1 dX5_init_102 rfl rfl ?_
        refine g_newA h 2 (ty := tyX2) [.null, .int 0] rfl tyX2_ok nw_X5_9 dX5_init_103 (fun j hj => by rcases (show j = 0 ∨ j = 1 by omega) with rfl | rfl <;> rfl) (by show 63 + 2 * v + 1 ≤ 87; omega) (by show 2282 + 42 * v + 2 ≤ 2786; omega) (a := z + 64 + 2 * v) mn (fun s24 hz24 hc24 ho24 => ?_)
        refine g_dup h dX5_init_106 rfl ?_
        refine g_callIN h [_, _, _] (c_X2_init (xL X) E _ (hc24) hz24) cf_X5_48 h.2.2.2.2.1.2.2.2.1.2.2.2.1 ci_X2_init dX5_init_107 rfl rfl (Nat.le_of_ble_eq_true rfl) ⟨(Nat.le_of_ble_eq_true rfl), (Nat.le_of_ble_eq_true rfl)⟩ ⟨(by show 63 + 2 * v + 1 + 1 ≤ 87; omega), (by show 2282 + 42 * v + 2 + 40 ≤ 2786; omega)⟩ ?_
        rintro _ s25 ⟨rfl, hz25, ho25, hk25⟩
        refine g_aast h 2 2 dX5_init_110 rfl rfl ((ho25 _ (by omega)).trans ((ho24 _ (by omega)).trans mf)) (hk25 (fun _ => 0)).1 (by omega) (by omega) ?_
        refine g_iinc (vs' := [_, _]) h (nI (v + 1)) dX5_init_111 rfl (by first | exact nI_1 _ | rfl) (Nat.le_of_ble_eq_true rfl) rfl rfl ?_
        refine g_goto h 92 dX5_init_114 (by decide) ?_
        refine g_widen (k' := 63 + 2 * (v + 1)) (n' := 2282 + 42 * (v + 1)) (by show 63 + 2 * v + 1 + 1 ≤ _; omega) (by show 2282 + 42 * v + 2 + 40 ≤ _; omega) ?_
        exact ih _ _ (by omega) (hs.ver hz25 (fun a e2 => (ho25 a e2).trans (ho24 a e2)) hk25 me) (fun q hq => (sup_ne (by omega)).trans ((ho25 q (by omega)).trans ((ho24 q (by omega)).trans (hq0 q hq)))) (by omega)
  refine g_widen (k' := 63 + 2 * 0) (n' := 2282 + 42 * 0) (Nat.le_of_ble_eq_true rfl) (Nat.le_of_ble_eq_true rfl) ?_
  exact LV 9 0 sv (by omega) hsv hqv (by omega)
