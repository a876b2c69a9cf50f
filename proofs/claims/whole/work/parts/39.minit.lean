/-! the constructors of the reference and of the class (own work; walks by program) -/
theorem g_gen {X : CX} {E : EnvD} {nL : Nat} {A : Nat → Prop} {Q : State → Prop} {k n pc : Nat} {vs : List (Option Value)} {st : List Value} {σ : Sto} (P : Sto → Prop) (hp : P σ) (kk : ∀ s', P s' → G X E nL A Q k n pc vs st s') : G X E nL A Q k n pc vs st σ := kk _ hp
theorem ltb {b i j : Nat} (h : Nat.ble (i + 1) j = true) : b + i < b + j := Nat.add_lt_add_left (Nat.le_of_ble_eq_true h) b
theorem lt0 {b j : Nat} (h : Nat.ble 1 j = true) : b < b + j := Nat.lt_add_of_pos_right (Nat.le_of_ble_eq_true h)
theorem neb {b j : Nat} (h : Nat.ble 1 j = true) : b + j ≠ b := Nat.ne_of_gt (lt0 h)
abbrev rm_X6_init : Room := { frames := 1, cells := 17, slots := 4398, locals := 16 }
set_option maxRecDepth 100000 in
set_option maxHeartbeats 4000000 in
theorem c_X6_init (lau : Launch) (E : EnvD) (σ : Sto) {b : Nat} (h1 : σ.1 b = some (cO 6 [.null, .null, .null, .null, .int 0, .null, .null, .null, .null, .int 0, .null, .null, .null, .null, .null, .null, .null, .int 0, .null, .null])) (hz : σ.2 = b + 1) : CC lau yX6_init cX6_init 1 none rm_X6_init E [.ref b] σ (fun o s => o = none ∧ s.2 = b + 18 ∧ (∀ a, a < b → s.1 a = σ.1 a) ∧ RepM E b PSt0 s) := by
  refine cc_of (vs := [_]) (by decide) (Nat.le_of_ble_eq_true rfl) rfl ?_
  intro X h hr hn
  refine g_aload_n h 0 dX6_init_0 rfl rfl ?_
  refine g_objInit h oi_X6_1 dX6_init_1 ⟨(Nat.le_of_ble_eq_true rfl), (Nat.le_of_ble_eq_true rfl)⟩ ?_
  refine g_aload_n h 0 dX6_init_4 rfl rfl ?_
  refine g_sipush h (nI 320) dX6_init_5 (by decide) ?_
  refine g_newiA h dX6_init_8 (by decide) (Nat.le_of_ble_eq_true rfl) (Nat.le_of_ble_eq_true rfl) (a := b + 1) hz (fun s1 hz1 hc1 ho1 => ?_)
  refine g_putF (fs := [.null, .null, .null, .null, .int 0, .null, .null, .null, .null, .int 0, .null, .null, .null, .null, .null, .null, .null, .int 0, .null, .null]) (fs' := [_, _, _, _, _, _, _, _, _, _, _, _, _, _, _, _, _, _, _, _]) h hn 0 fp_X6_7 dX6_init_10 ((ho1 _ (by omega)).trans h1) (Nat.le_of_ble_eq_true rfl) rfl rfl rfl ?_
  refine g_gen (fun s' => s'.2 = b + 2 ∧ s'.1 b = some (cO 6 [.ref (b + 1), .null, .null, .null, .int 0, .null, .null, .null, .null, .int 0, .null, .null, .null, .null, .null, .null, .null, .int 0, .null, .null]) ∧ s'.1 (b + 1) = some (cI E 320 (fun _ => 0)) ∧ ∀ a, a ≠ b → a < b + 1 → s'.1 a = σ.1 a) ⟨hz1, sup_eq, (sup_ne (neb rfl)).trans hc1, fun a e1 e2 => (sup_ne e1).trans (ho1 _ e2)⟩ ?_
  rintro t2 ⟨hzt2, ht2, kb_1, agt2⟩
  have hfr : ∀ q, q < b → t2.1 q = σ.1 q := fun q hq => agt2 q (Nat.ne_of_lt hq) (Nat.lt_of_lt_of_le hq (Nat.le_add_right _ _))
  clear agt2 hz1
  refine g_aload_n h 0 dX6_init_13 rfl rfl ?_
  refine g_bipush h (nI 8) dX6_init_14 (by decide) ?_
  refine g_newiA h dX6_init_16 (by decide) (Nat.le_of_ble_eq_true rfl) (Nat.le_of_ble_eq_true rfl) (a := b + 2) hzt2 (fun s3 hz3 hc3 ho3 => ?_)
  refine g_putF (fs := [.ref (b + 1), .null, .null, .null, .int 0, .null, .null, .null, .null, .int 0, .null, .null, .null, .null, .null, .null, .null, .int 0, .null, .null]) (fs' := [_, _, _, _, _, _, _, _, _, _, _, _, _, _, _, _, _, _, _, _]) h hn 1 fp_X6_13 dX6_init_18 ((ho3 _ (by omega)).trans ht2) (Nat.le_of_ble_eq_true rfl) rfl rfl rfl ?_
  refine g_gen (fun s' => s'.2 = b + 3 ∧ s'.1 b = some (cO 6 [.ref (b + 1), .ref (b + 2), .null, .null, .int 0, .null, .null, .null, .null, .int 0, .null, .null, .null, .null, .null, .null, .null, .int 0, .null, .null]) ∧ s'.1 (b + 2) = some (cI E 8 (fun _ => 0)) ∧ ∀ a, a ≠ b → a < b + 2 → s'.1 a = t2.1 a) ⟨hz3, sup_eq, (sup_ne (neb rfl)).trans hc3, fun a e1 e2 => (sup_ne e1).trans (ho3 _ e2)⟩ ?_
  rintro t4 ⟨hzt4, ht4, kb_2, agt4⟩
  replace kb_1 : t4.1 (b + 1) = some (cI E 320 (fun _ => 0)) := (agt4 _ (neb rfl) (ltb rfl)).trans kb_1
  replace hfr : ∀ q, q < b → t4.1 q = σ.1 q := fun q hq => (agt4 q (Nat.ne_of_lt hq) (Nat.lt_of_lt_of_le hq (Nat.le_add_right _ _))).trans (hfr q hq)
  clear agt4 hzt2 hz3
  refine g_aload_n h 0 dX6_init_21 rfl rfl ?_
  refine g_sipush h (nI 160) dX6_init_22 (by decide) ?_
  refine g_newiA h dX6_init_25 (by decide) (Nat.le_of_ble_eq_true rfl) (Nat.le_of_ble_eq_true rfl) (a := b + 3) hzt4 (fun s5 hz5 hc5 ho5 => ?_)
  refine g_putF (fs := [.ref (b + 1), .ref (b + 2), .null, .null, .int 0, .null, .null, .null, .null, .int 0, .null, .null, .null, .null, .null, .null, .null, .int 0, .null, .null]) (fs' := [_, _, _, _, _, _, _, _, _, _, _, _, _, _, _, _, _, _, _, _]) h hn 2 fp_X6_16 dX6_init_27 ((ho5 _ (by omega)).trans ht4) (Nat.le_of_ble_eq_true rfl) rfl rfl rfl ?_
  refine g_gen (fun s' => s'.2 = b + 4 ∧ s'.1 b = some (cO 6 [.ref (b + 1), .ref (b + 2), .ref (b + 3), .null, .int 0, .null, .null, .null, .null, .int 0, .null, .null, .null, .null, .null, .null, .null, .int 0, .null, .null]) ∧ s'.1 (b + 3) = some (cI E 160 (fun _ => 0)) ∧ ∀ a, a ≠ b → a < b + 3 → s'.1 a = t4.1 a) ⟨hz5, sup_eq, (sup_ne (neb rfl)).trans hc5, fun a e1 e2 => (sup_ne e1).trans (ho5 _ e2)⟩ ?_
  rintro t6 ⟨hzt6, ht6, kb_3, agt6⟩
  replace kb_1 : t6.1 (b + 1) = some (cI E 320 (fun _ => 0)) := (agt6 _ (neb rfl) (ltb rfl)).trans kb_1
  replace kb_2 : t6.1 (b + 2) = some (cI E 8 (fun _ => 0)) := (agt6 _ (neb rfl) (ltb rfl)).trans kb_2
  replace hfr : ∀ q, q < b → t6.1 q = σ.1 q := fun q hq => (agt6 q (Nat.ne_of_lt hq) (Nat.lt_of_lt_of_le hq (Nat.le_add_right _ _))).trans (hfr q hq)
  clear agt6 hzt4 hz5
  refine g_aload_n h 0 dX6_init_30 rfl rfl ?_
  refine g_iconst h (nI 4) dX6_init_31 (by decide) ?_
  refine g_newiA h dX6_init_32 (by decide) (Nat.le_of_ble_eq_true rfl) (Nat.le_of_ble_eq_true rfl) (a := b + 4) hzt6 (fun s7 hz7 hc7 ho7 => ?_)
  refine g_putF (fs := [.ref (b + 1), .ref (b + 2), .ref (b + 3), .null, .int 0, .null, .null, .null, .null, .int 0, .null, .null, .null, .null, .null, .null, .null, .int 0, .null, .null]) (fs' := [_, _, _, _, _, _, _, _, _, _, _, _, _, _, _, _, _, _, _, _]) h hn 3 fp_X6_19 dX6_init_34 ((ho7 _ (by omega)).trans ht6) (Nat.le_of_ble_eq_true rfl) rfl rfl rfl ?_
  refine g_gen (fun s' => s'.2 = b + 5 ∧ s'.1 b = some (cO 6 [.ref (b + 1), .ref (b + 2), .ref (b + 3), .ref (b + 4), .int 0, .null, .null, .null, .null, .int 0, .null, .null, .null, .null, .null, .null, .null, .int 0, .null, .null]) ∧ s'.1 (b + 4) = some (cI E 4 (fun _ => 0)) ∧ ∀ a, a ≠ b → a < b + 4 → s'.1 a = t6.1 a) ⟨hz7, sup_eq, (sup_ne (neb rfl)).trans hc7, fun a e1 e2 => (sup_ne e1).trans (ho7 _ e2)⟩ ?_
  rintro t8 ⟨hzt8, ht8, kb_4, agt8⟩
  replace kb_1 : t8.1 (b + 1) = some (cI E 320 (fun _ => 0)) := (agt8 _ (neb rfl) (ltb rfl)).trans kb_1
  replace kb_2 : t8.1 (b + 2) = some (cI E 8 (fun _ => 0)) := (agt8 _ (neb rfl) (ltb rfl)).trans kb_2
  replace kb_3 : t8.1 (b + 3) = some (cI E 160 (fun _ => 0)) := (agt8 _ (neb rfl) (ltb rfl)).trans kb_3
  replace hfr : ∀ q, q < b → t8.1 q = σ.1 q := fun q hq => (agt8 q (Nat.ne_of_lt hq) (Nat.lt_of_lt_of_le hq (Nat.le_add_right _ _))).trans (hfr q hq)
  clear agt8 hzt6 hz7
  refine g_aload_n h 0 dX6_init_37 rfl rfl ?_
  refine g_bipush h (nI 12) dX6_init_38 (by decide) ?_
  refine g_newiA h dX6_init_40 (by decide) (Nat.le_of_ble_eq_true rfl) (Nat.le_of_ble_eq_true rfl) (a := b + 5) hzt8 (fun s9 hz9 hc9 ho9 => ?_)
  refine g_putF (fs := [.ref (b + 1), .ref (b + 2), .ref (b + 3), .ref (b + 4), .int 0, .null, .null, .null, .null, .int 0, .null, .null, .null, .null, .null, .null, .null, .int 0, .null, .null]) (fs' := [_, _, _, _, _, _, _, _, _, _, _, _, _, _, _, _, _, _, _, _]) h hn 5 fp_X6_22 dX6_init_42 ((ho9 _ (by omega)).trans ht8) (Nat.le_of_ble_eq_true rfl) rfl rfl rfl ?_
  refine g_gen (fun s' => s'.2 = b + 6 ∧ s'.1 b = some (cO 6 [.ref (b + 1), .ref (b + 2), .ref (b + 3), .ref (b + 4), .int 0, .ref (b + 5), .null, .null, .null, .int 0, .null, .null, .null, .null, .null, .null, .null, .int 0, .null, .null]) ∧ s'.1 (b + 5) = some (cI E 12 (fun _ => 0)) ∧ ∀ a, a ≠ b → a < b + 5 → s'.1 a = t8.1 a) ⟨hz9, sup_eq, (sup_ne (neb rfl)).trans hc9, fun a e1 e2 => (sup_ne e1).trans (ho9 _ e2)⟩ ?_
  rintro t10 ⟨hzt10, ht10, kb_5, agt10⟩
  replace kb_1 : t10.1 (b + 1) = some (cI E 320 (fun _ => 0)) := (agt10 _ (neb rfl) (ltb rfl)).trans kb_1
  replace kb_2 : t10.1 (b + 2) = some (cI E 8 (fun _ => 0)) := (agt10 _ (neb rfl) (ltb rfl)).trans kb_2
  replace kb_3 : t10.1 (b + 3) = some (cI E 160 (fun _ => 0)) := (agt10 _ (neb rfl) (ltb rfl)).trans kb_3
  replace kb_4 : t10.1 (b + 4) = some (cI E 4 (fun _ => 0)) := (agt10 _ (neb rfl) (ltb rfl)).trans kb_4
  replace hfr : ∀ q, q < b → t10.1 q = σ.1 q := fun q hq => (agt10 q (Nat.ne_of_lt hq) (Nat.lt_of_lt_of_le hq (Nat.le_add_right _ _))).trans (hfr q hq)
  clear agt10 hzt8 hz9
  refine g_aload_n h 0 dX6_init_45 rfl rfl ?_
  refine g_bipush h (nI 12) dX6_init_46 (by decide) ?_
  refine g_newiA h dX6_init_48 (by decide) (Nat.le_of_ble_eq_true rfl) (Nat.le_of_ble_eq_true rfl) (a := b + 6) hzt10 (fun s11 hz11 hc11 ho11 => ?_)
  refine g_putF (fs := [.ref (b + 1), .ref (b + 2), .ref (b + 3), .ref (b + 4), .int 0, .ref (b + 5), .null, .null, .null, .int 0, .null, .null, .null, .null, .null, .null, .null, .int 0, .null, .null]) (fs' := [_, _, _, _, _, _, _, _, _, _, _, _, _, _, _, _, _, _, _, _]) h hn 6 fp_X6_25 dX6_init_50 ((ho11 _ (by omega)).trans ht10) (Nat.le_of_ble_eq_true rfl) rfl rfl rfl ?_
  refine g_gen (fun s' => s'.2 = b + 7 ∧ s'.1 b = some (cO 6 [.ref (b + 1), .ref (b + 2), .ref (b + 3), .ref (b + 4), .int 0, .ref (b + 5), .ref (b + 6), .null, .null, .int 0, .null, .null, .null, .null, .null, .null, .null, .int 0, .null, .null]) ∧ s'.1 (b + 6) = some (cI E 12 (fun _ => 0)) ∧ ∀ a, a ≠ b → a < b + 6 → s'.1 a = t10.1 a) ⟨hz11, sup_eq, (sup_ne (neb rfl)).trans hc11, fun a e1 e2 => (sup_ne e1).trans (ho11 _ e2)⟩ ?_
  rintro t12 ⟨hzt12, ht12, kb_6, agt12⟩
  replace kb_1 : t12.1 (b + 1) = some (cI E 320 (fun _ => 0)) := (agt12 _ (neb rfl) (ltb rfl)).trans kb_1
  replace kb_2 : t12.1 (b + 2) = some (cI E 8 (fun _ => 0)) := (agt12 _ (neb rfl) (ltb rfl)).trans kb_2
  replace kb_3 : t12.1 (b + 3) = some (cI E 160 (fun _ => 0)) := (agt12 _ (neb rfl) (ltb rfl)).trans kb_3
  replace kb_4 : t12.1 (b + 4) = some (cI E 4 (fun _ => 0)) := (agt12 _ (neb rfl) (ltb rfl)).trans kb_4
  replace kb_5 : t12.1 (b + 5) = some (cI E 12 (fun _ => 0)) := (agt12 _ (neb rfl) (ltb rfl)).trans kb_5
  replace hfr : ∀ q, q < b → t12.1 q = σ.1 q := fun q hq => (agt12 q (Nat.ne_of_lt hq) (Nat.lt_of_lt_of_le hq (Nat.le_add_right _ _))).trans (hfr q hq)
  clear agt12 hzt10 hz11
  refine g_aload_n h 0 dX6_init_53 rfl rfl ?_
  refine g_bipush h (nI 12) dX6_init_54 (by decide) ?_
  refine g_newiA h dX6_init_56 (by decide) (Nat.le_of_ble_eq_true rfl) (Nat.le_of_ble_eq_true rfl) (a := b + 7) hzt12 (fun s13 hz13 hc13 ho13 => ?_)
  refine g_putF (fs := [.ref (b + 1), .ref (b + 2), .ref (b + 3), .ref (b + 4), .int 0, .ref (b + 5), .ref (b + 6), .null, .null, .int 0, .null, .null, .null, .null, .null, .null, .null, .int 0, .null, .null]) (fs' := [_, _, _, _, _, _, _, _, _, _, _, _, _, _, _, _, _, _, _, _]) h hn 7 fp_X6_28 dX6_init_58 ((ho13 _ (by omega)).trans ht12) (Nat.le_of_ble_eq_true rfl) rfl rfl rfl ?_
  refine g_gen (fun s' => s'.2 = b + 8 ∧ s'.1 b = some (cO 6 [.ref (b + 1), .ref (b + 2), .ref (b + 3), .ref (b + 4), .int 0, .ref (b + 5), .ref (b + 6), .ref (b + 7), .null, .int 0, .null, .null, .null, .null, .null, .null, .null, .int 0, .null, .null]) ∧ s'.1 (b + 7) = some (cI E 12 (fun _ => 0)) ∧ ∀ a, a ≠ b → a < b + 7 → s'.1 a = t12.1 a) ⟨hz13, sup_eq, (sup_ne (neb rfl)).trans hc13, fun a e1 e2 => (sup_ne e1).trans (ho13 _ e2)⟩ ?_
  rintro t14 ⟨hzt14, ht14, kb_7, agt14⟩
  replace kb_1 : t14.1 (b + 1) = some (cI E 320 (fun _ => 0)) := (agt14 _ (neb rfl) (ltb rfl)).trans kb_1
  replace kb_2 : t14.1 (b + 2) = some (cI E 8 (fun _ => 0)) := (agt14 _ (neb rfl) (ltb rfl)).trans kb_2
  replace kb_3 : t14.1 (b + 3) = some (cI E 160 (fun _ => 0)) := (agt14 _ (neb rfl) (ltb rfl)).trans kb_3
  replace kb_4 : t14.1 (b + 4) = some (cI E 4 (fun _ => 0)) := (agt14 _ (neb rfl) (ltb rfl)).trans kb_4
  replace kb_5 : t14.1 (b + 5) = some (cI E 12 (fun _ => 0)) := (agt14 _ (neb rfl) (ltb rfl)).trans kb_5
  replace kb_6 : t14.1 (b + 6) = some (cI E 12 (fun _ => 0)) := (agt14 _ (neb rfl) (ltb rfl)).trans kb_6
  replace hfr : ∀ q, q < b → t14.1 q = σ.1 q := fun q hq => (agt14 q (Nat.ne_of_lt hq) (Nat.lt_of_lt_of_le hq (Nat.le_add_right _ _))).trans (hfr q hq)
  clear agt14 hzt12 hz13
  refine g_aload_n h 0 dX6_init_61 rfl rfl ?_
  refine g_bipush h (nI 100) dX6_init_62 (by decide) ?_
  refine g_newiA h dX6_init_64 (by decide) (Nat.le_of_ble_eq_true rfl) (Nat.le_of_ble_eq_true rfl) (a := b + 8) hzt14 (fun s15 hz15 hc15 ho15 => ?_)
  refine g_putF (fs := [.ref (b + 1), .ref (b + 2), .ref (b + 3), .ref (b + 4), .int 0, .ref (b + 5), .ref (b + 6), .ref (b + 7), .null, .int 0, .null, .null, .null, .null, .null, .null, .null, .int 0, .null, .null]) (fs' := [_, _, _, _, _, _, _, _, _, _, _, _, _, _, _, _, _, _, _, _]) h hn 8 fp_X6_31 dX6_init_66 ((ho15 _ (by omega)).trans ht14) (Nat.le_of_ble_eq_true rfl) rfl rfl rfl ?_
  refine g_gen (fun s' => s'.2 = b + 9 ∧ s'.1 b = some (cO 6 [.ref (b + 1), .ref (b + 2), .ref (b + 3), .ref (b + 4), .int 0, .ref (b + 5), .ref (b + 6), .ref (b + 7), .ref (b + 8), .int 0, .null, .null, .null, .null, .null, .null, .null, .int 0, .null, .null]) ∧ s'.1 (b + 8) = some (cI E 100 (fun _ => 0)) ∧ ∀ a, a ≠ b → a < b + 8 → s'.1 a = t14.1 a) ⟨hz15, sup_eq, (sup_ne (neb rfl)).trans hc15, fun a e1 e2 => (sup_ne e1).trans (ho15 _ e2)⟩ ?_
  rintro t16 ⟨hzt16, ht16, kb_8, agt16⟩
  replace kb_1 : t16.1 (b + 1) = some (cI E 320 (fun _ => 0)) := (agt16 _ (neb rfl) (ltb rfl)).trans kb_1
  replace kb_2 : t16.1 (b + 2) = some (cI E 8 (fun _ => 0)) := (agt16 _ (neb rfl) (ltb rfl)).trans kb_2
  replace kb_3 : t16.1 (b + 3) = some (cI E 160 (fun _ => 0)) := (agt16 _ (neb rfl) (ltb rfl)).trans kb_3
  replace kb_4 : t16.1 (b + 4) = some (cI E 4 (fun _ => 0)) := (agt16 _ (neb rfl) (ltb rfl)).trans kb_4
  replace kb_5 : t16.1 (b + 5) = some (cI E 12 (fun _ => 0)) := (agt16 _ (neb rfl) (ltb rfl)).trans kb_5
  replace kb_6 : t16.1 (b + 6) = some (cI E 12 (fun _ => 0)) := (agt16 _ (neb rfl) (ltb rfl)).trans kb_6
  replace kb_7 : t16.1 (b + 7) = some (cI E 12 (fun _ => 0)) := (agt16 _ (neb rfl) (ltb rfl)).trans kb_7
  replace hfr : ∀ q, q < b → t16.1 q = σ.1 q := fun q hq => (agt16 q (Nat.ne_of_lt hq) (Nat.lt_of_lt_of_le hq (Nat.le_add_right _ _))).trans (hfr q hq)
  clear agt16 hzt14 hz15
  refine g_aload_n h 0 dX6_init_69 rfl rfl ?_
  refine g_bipush h (nI 20) dX6_init_70 (by decide) ?_
  refine g_newiA h dX6_init_72 (by decide) (Nat.le_of_ble_eq_true rfl) (Nat.le_of_ble_eq_true rfl) (a := b + 9) hzt16 (fun s17 hz17 hc17 ho17 => ?_)
  refine g_putF (fs := [.ref (b + 1), .ref (b + 2), .ref (b + 3), .ref (b + 4), .int 0, .ref (b + 5), .ref (b + 6), .ref (b + 7), .ref (b + 8), .int 0, .null, .null, .null, .null, .null, .null, .null, .int 0, .null, .null]) (fs' := [_, _, _, _, _, _, _, _, _, _, _, _, _, _, _, _, _, _, _, _]) h hn 10 fp_X6_34 dX6_init_74 ((ho17 _ (by omega)).trans ht16) (Nat.le_of_ble_eq_true rfl) rfl rfl rfl ?_
  refine g_gen (fun s' => s'.2 = b + 10 ∧ s'.1 b = some (cO 6 [.ref (b + 1), .ref (b + 2), .ref (b + 3), .ref (b + 4), .int 0, .ref (b + 5), .ref (b + 6), .ref (b + 7), .ref (b + 8), .int 0, .ref (b + 9), .null, .null, .null, .null, .null, .null, .int 0, .null, .null]) ∧ s'.1 (b + 9) = some (cI E 20 (fun _ => 0)) ∧ ∀ a, a ≠ b → a < b + 9 → s'.1 a = t16.1 a) ⟨hz17, sup_eq, (sup_ne (neb rfl)).trans hc17, fun a e1 e2 => (sup_ne e1).trans (ho17 _ e2)⟩ ?_
  rintro t18 ⟨hzt18, ht18, kb_9, agt18⟩
  replace kb_1 : t18.1 (b + 1) = some (cI E 320 (fun _ => 0)) := (agt18 _ (neb rfl) (ltb rfl)).trans kb_1
  replace kb_2 : t18.1 (b + 2) = some (cI E 8 (fun _ => 0)) := (agt18 _ (neb rfl) (ltb rfl)).trans kb_2
  replace kb_3 : t18.1 (b + 3) = some (cI E 160 (fun _ => 0)) := (agt18 _ (neb rfl) (ltb rfl)).trans kb_3
  replace kb_4 : t18.1 (b + 4) = some (cI E 4 (fun _ => 0)) := (agt18 _ (neb rfl) (ltb rfl)).trans kb_4
  replace kb_5 : t18.1 (b + 5) = some (cI E 12 (fun _ => 0)) := (agt18 _ (neb rfl) (ltb rfl)).trans kb_5
  replace kb_6 : t18.1 (b + 6) = some (cI E 12 (fun _ => 0)) := (agt18 _ (neb rfl) (ltb rfl)).trans kb_6
  replace kb_7 : t18.1 (b + 7) = some (cI E 12 (fun _ => 0)) := (agt18 _ (neb rfl) (ltb rfl)).trans kb_7
  replace kb_8 : t18.1 (b + 8) = some (cI E 100 (fun _ => 0)) := (agt18 _ (neb rfl) (ltb rfl)).trans kb_8
  replace hfr : ∀ q, q < b → t18.1 q = σ.1 q := fun q hq => (agt18 q (Nat.ne_of_lt hq) (Nat.lt_of_lt_of_le hq (Nat.le_add_right _ _))).trans (hfr q hq)
  clear agt18 hzt16 hz17
  refine g_aload_n h 0 dX6_init_77 rfl rfl ?_
  refine g_bipush h (nI 20) dX6_init_78 (by decide) ?_
  refine g_newiA h dX6_init_80 (by decide) (Nat.le_of_ble_eq_true rfl) (Nat.le_of_ble_eq_true rfl) (a := b + 10) hzt18 (fun s19 hz19 hc19 ho19 => ?_)
  refine g_putF (fs := [.ref (b + 1), .ref (b + 2), .ref (b + 3), .ref (b + 4), .int 0, .ref (b + 5), .ref (b + 6), .ref (b + 7), .ref (b + 8), .int 0, .ref (b + 9), .null, .null, .null, .null, .null, .null, .int 0, .null, .null]) (fs' := [_, _, _, _, _, _, _, _, _, _, _, _, _, _, _, _, _, _, _, _]) h hn 11 fp_X6_37 dX6_init_82 ((ho19 _ (by omega)).trans ht18) (Nat.le_of_ble_eq_true rfl) rfl rfl rfl ?_
  refine g_gen (fun s' => s'.2 = b + 11 ∧ s'.1 b = some (cO 6 [.ref (b + 1), .ref (b + 2), .ref (b + 3), .ref (b + 4), .int 0, .ref (b + 5), .ref (b + 6), .ref (b + 7), .ref (b + 8), .int 0, .ref (b + 9), .ref (b + 10), .null, .null, .null, .null, .null, .int 0, .null, .null]) ∧ s'.1 (b + 10) = some (cI E 20 (fun _ => 0)) ∧ ∀ a, a ≠ b → a < b + 10 → s'.1 a = t18.1 a) ⟨hz19, sup_eq, (sup_ne (neb rfl)).trans hc19, fun a e1 e2 => (sup_ne e1).trans (ho19 _ e2)⟩ ?_
  rintro t20 ⟨hzt20, ht20, kb_10, agt20⟩
  replace kb_1 : t20.1 (b + 1) = some (cI E 320 (fun _ => 0)) := (agt20 _ (neb rfl) (ltb rfl)).trans kb_1
  replace kb_2 : t20.1 (b + 2) = some (cI E 8 (fun _ => 0)) := (agt20 _ (neb rfl) (ltb rfl)).trans kb_2
  replace kb_3 : t20.1 (b + 3) = some (cI E 160 (fun _ => 0)) := (agt20 _ (neb rfl) (ltb rfl)).trans kb_3
  replace kb_4 : t20.1 (b + 4) = some (cI E 4 (fun _ => 0)) := (agt20 _ (neb rfl) (ltb rfl)).trans kb_4
  replace kb_5 : t20.1 (b + 5) = some (cI E 12 (fun _ => 0)) := (agt20 _ (neb rfl) (ltb rfl)).trans kb_5
  replace kb_6 : t20.1 (b + 6) = some (cI E 12 (fun _ => 0)) := (agt20 _ (neb rfl) (ltb rfl)).trans kb_6
  replace kb_7 : t20.1 (b + 7) = some (cI E 12 (fun _ => 0)) := (agt20 _ (neb rfl) (ltb rfl)).trans kb_7
  replace kb_8 : t20.1 (b + 8) = some (cI E 100 (fun _ => 0)) := (agt20 _ (neb rfl) (ltb rfl)).trans kb_8
  replace kb_9 : t20.1 (b + 9) = some (cI E 20 (fun _ => 0)) := (agt20 _ (neb rfl) (ltb rfl)).trans kb_9
  replace hfr : ∀ q, q < b → t20.1 q = σ.1 q := fun q hq => (agt20 q (Nat.ne_of_lt hq) (Nat.lt_of_lt_of_le hq (Nat.le_add_right _ _))).trans (hfr q hq)
  clear agt20 hzt18 hz19
  refine g_aload_n h 0 dX6_init_85 rfl rfl ?_
  refine g_bipush h (nI 20) dX6_init_86 (by decide) ?_
  refine g_newiA h dX6_init_88 (by decide) (Nat.le_of_ble_eq_true rfl) (Nat.le_of_ble_eq_true rfl) (a := b + 11) hzt20 (fun s21 hz21 hc21 ho21 => ?_)
  refine g_putF (fs := [.ref (b + 1), .ref (b + 2), .ref (b + 3), .ref (b + 4), .int 0, .ref (b + 5), .ref (b + 6), .ref (b + 7), .ref (b + 8), .int 0, .ref (b + 9), .ref (b + 10), .null, .null, .null, .null, .null, .int 0, .null, .null]) (fs' := [_, _, _, _, _, _, _, _, _, _, _, _, _, _, _, _, _, _, _, _]) h hn 12 fp_X6_40 dX6_init_90 ((ho21 _ (by omega)).trans ht20) (Nat.le_of_ble_eq_true rfl) rfl rfl rfl ?_
  refine g_gen (fun s' => s'.2 = b + 12 ∧ s'.1 b = some (cO 6 [.ref (b + 1), .ref (b + 2), .ref (b + 3), .ref (b + 4), .int 0, .ref (b + 5), .ref (b + 6), .ref (b + 7), .ref (b + 8), .int 0, .ref (b + 9), .ref (b + 10), .ref (b + 11), .null, .null, .null, .null, .int 0, .null, .null]) ∧ s'.1 (b + 11) = some (cI E 20 (fun _ => 0)) ∧ ∀ a, a ≠ b → a < b + 11 → s'.1 a = t20.1 a) ⟨hz21, sup_eq, (sup_ne (neb rfl)).trans hc21, fun a e1 e2 => (sup_ne e1).trans (ho21 _ e2)⟩ ?_
  rintro t22 ⟨hzt22, ht22, kb_11, agt22⟩
  replace kb_1 : t22.1 (b + 1) = some (cI E 320 (fun _ => 0)) := (agt22 _ (neb rfl) (ltb rfl)).trans kb_1
  replace kb_2 : t22.1 (b + 2) = some (cI E 8 (fun _ => 0)) := (agt22 _ (neb rfl) (ltb rfl)).trans kb_2
  replace kb_3 : t22.1 (b + 3) = some (cI E 160 (fun _ => 0)) := (agt22 _ (neb rfl) (ltb rfl)).trans kb_3
  replace kb_4 : t22.1 (b + 4) = some (cI E 4 (fun _ => 0)) := (agt22 _ (neb rfl) (ltb rfl)).trans kb_4
  replace kb_5 : t22.1 (b + 5) = some (cI E 12 (fun _ => 0)) := (agt22 _ (neb rfl) (ltb rfl)).trans kb_5
  replace kb_6 : t22.1 (b + 6) = some (cI E 12 (fun _ => 0)) := (agt22 _ (neb rfl) (ltb rfl)).trans kb_6
  replace kb_7 : t22.1 (b + 7) = some (cI E 12 (fun _ => 0)) := (agt22 _ (neb rfl) (ltb rfl)).trans kb_7
  replace kb_8 : t22.1 (b + 8) = some (cI E 100 (fun _ => 0)) := (agt22 _ (neb rfl) (ltb rfl)).trans kb_8
  replace kb_9 : t22.1 (b + 9) = some (cI E 20 (fun _ => 0)) := (agt22 _ (neb rfl) (ltb rfl)).trans kb_9
  replace kb_10 : t22.1 (b + 10) = some (cI E 20 (fun _ => 0)) := (agt22 _ (neb rfl) (ltb rfl)).trans kb_10
  replace hfr : ∀ q, q < b → t22.1 q = σ.1 q := fun q hq => (agt22 q (Nat.ne_of_lt hq) (Nat.lt_of_lt_of_le hq (Nat.le_add_right _ _))).trans (hfr q hq)
  clear agt22 hzt20 hz21
  refine g_aload_n h 0 dX6_init_93 rfl rfl ?_
  refine g_bipush h (nI 20) dX6_init_94 (by decide) ?_
  refine g_newiA h dX6_init_96 (by decide) (Nat.le_of_ble_eq_true rfl) (Nat.le_of_ble_eq_true rfl) (a := b + 12) hzt22 (fun s23 hz23 hc23 ho23 => ?_)
  refine g_putF (fs := [.ref (b + 1), .ref (b + 2), .ref (b + 3), .ref (b + 4), .int 0, .ref (b + 5), .ref (b + 6), .ref (b + 7), .ref (b + 8), .int 0, .ref (b + 9), .ref (b + 10), .ref (b + 11), .null, .null, .null, .null, .int 0, .null, .null]) (fs' := [_, _, _, _, _, _, _, _, _, _, _, _, _, _, _, _, _, _, _, _]) h hn 13 fp_X6_43 dX6_init_98 ((ho23 _ (by omega)).trans ht22) (Nat.le_of_ble_eq_true rfl) rfl rfl rfl ?_
  refine g_gen (fun s' => s'.2 = b + 13 ∧ s'.1 b = some (cO 6 [.ref (b + 1), .ref (b + 2), .ref (b + 3), .ref (b + 4), .int 0, .ref (b + 5), .ref (b + 6), .ref (b + 7), .ref (b + 8), .int 0, .ref (b + 9), .ref (b + 10), .ref (b + 11), .ref (b + 12), .null, .null, .null, .int 0, .null, .null]) ∧ s'.1 (b + 12) = some (cI E 20 (fun _ => 0)) ∧ ∀ a, a ≠ b → a < b + 12 → s'.1 a = t22.1 a) ⟨hz23, sup_eq, (sup_ne (neb rfl)).trans hc23, fun a e1 e2 => (sup_ne e1).trans (ho23 _ e2)⟩ ?_
  rintro t24 ⟨hzt24, ht24, kb_12, agt24⟩
  replace kb_1 : t24.1 (b + 1) = some (cI E 320 (fun _ => 0)) := (agt24 _ (neb rfl) (ltb rfl)).trans kb_1
  replace kb_2 : t24.1 (b + 2) = some (cI E 8 (fun _ => 0)) := (agt24 _ (neb rfl) (ltb rfl)).trans kb_2
  replace kb_3 : t24.1 (b + 3) = some (cI E 160 (fun _ => 0)) := (agt24 _ (neb rfl) (ltb rfl)).trans kb_3
  replace kb_4 : t24.1 (b + 4) = some (cI E 4 (fun _ => 0)) := (agt24 _ (neb rfl) (ltb rfl)).trans kb_4
  replace kb_5 : t24.1 (b + 5) = some (cI E 12 (fun _ => 0)) := (agt24 _ (neb rfl) (ltb rfl)).trans kb_5
  replace kb_6 : t24.1 (b + 6) = some (cI E 12 (fun _ => 0)) := (agt24 _ (neb rfl) (ltb rfl)).trans kb_6
  replace kb_7 : t24.1 (b + 7) = some (cI E 12 (fun _ => 0)) := (agt24 _ (neb rfl) (ltb rfl)).trans kb_7
  replace kb_8 : t24.1 (b + 8) = some (cI E 100 (fun _ => 0)) := (agt24 _ (neb rfl) (ltb rfl)).trans kb_8
  replace kb_9 : t24.1 (b + 9) = some (cI E 20 (fun _ => 0)) := (agt24 _ (neb rfl) (ltb rfl)).trans kb_9
  replace kb_10 : t24.1 (b + 10) = some (cI E 20 (fun _ => 0)) := (agt24 _ (neb rfl) (ltb rfl)).trans kb_10
  replace kb_11 : t24.1 (b + 11) = some (cI E 20 (fun _ => 0)) := (agt24 _ (neb rfl) (ltb rfl)).trans kb_11
  replace hfr : ∀ q, q < b → t24.1 q = σ.1 q := fun q hq => (agt24 q (Nat.ne_of_lt hq) (Nat.lt_of_lt_of_le hq (Nat.le_add_right _ _))).trans (hfr q hq)
  clear agt24 hzt22 hz23
  refine g_aload_n h 0 dX6_init_101 rfl rfl ?_
  refine g_sipush h (nI 1681) dX6_init_102 (by decide) ?_
  refine g_newiA h dX6_init_105 (by decide) (Nat.le_of_ble_eq_true rfl) (Nat.le_of_ble_eq_true rfl) (a := b + 13) hzt24 (fun s25 hz25 hc25 ho25 => ?_)
  refine g_putF (fs := [.ref (b + 1), .ref (b + 2), .ref (b + 3), .ref (b + 4), .int 0, .ref (b + 5), .ref (b + 6), .ref (b + 7), .ref (b + 8), .int 0, .ref (b + 9), .ref (b + 10), .ref (b + 11), .ref (b + 12), .null, .null, .null, .int 0, .null, .null]) (fs' := [_, _, _, _, _, _, _, _, _, _, _, _, _, _, _, _, _, _, _, _]) h hn 14 fp_X6_46 dX6_init_107 ((ho25 _ (by omega)).trans ht24) (Nat.le_of_ble_eq_true rfl) rfl rfl rfl ?_
  refine g_gen (fun s' => s'.2 = b + 14 ∧ s'.1 b = some (cO 6 [.ref (b + 1), .ref (b + 2), .ref (b + 3), .ref (b + 4), .int 0, .ref (b + 5), .ref (b + 6), .ref (b + 7), .ref (b + 8), .int 0, .ref (b + 9), .ref (b + 10), .ref (b + 11), .ref (b + 12), .ref (b + 13), .null, .null, .int 0, .null, .null]) ∧ s'.1 (b + 13) = some (cI E 1681 (fun _ => 0)) ∧ ∀ a, a ≠ b → a < b + 13 → s'.1 a = t24.1 a) ⟨hz25, sup_eq, (sup_ne (neb rfl)).trans hc25, fun a e1 e2 => (sup_ne e1).trans (ho25 _ e2)⟩ ?_
  rintro t26 ⟨hzt26, ht26, kb_13, agt26⟩
  replace kb_1 : t26.1 (b + 1) = some (cI E 320 (fun _ => 0)) := (agt26 _ (neb rfl) (ltb rfl)).trans kb_1
  replace kb_2 : t26.1 (b + 2) = some (cI E 8 (fun _ => 0)) := (agt26 _ (neb rfl) (ltb rfl)).trans kb_2
  replace kb_3 : t26.1 (b + 3) = some (cI E 160 (fun _ => 0)) := (agt26 _ (neb rfl) (ltb rfl)).trans kb_3
  replace kb_4 : t26.1 (b + 4) = some (cI E 4 (fun _ => 0)) := (agt26 _ (neb rfl) (ltb rfl)).trans kb_4
  replace kb_5 : t26.1 (b + 5) = some (cI E 12 (fun _ => 0)) := (agt26 _ (neb rfl) (ltb rfl)).trans kb_5
  replace kb_6 : t26.1 (b + 6) = some (cI E 12 (fun _ => 0)) := (agt26 _ (neb rfl) (ltb rfl)).trans kb_6
  replace kb_7 : t26.1 (b + 7) = some (cI E 12 (fun _ => 0)) := (agt26 _ (neb rfl) (ltb rfl)).trans kb_7
  replace kb_8 : t26.1 (b + 8) = some (cI E 100 (fun _ => 0)) := (agt26 _ (neb rfl) (ltb rfl)).trans kb_8
  replace kb_9 : t26.1 (b + 9) = some (cI E 20 (fun _ => 0)) := (agt26 _ (neb rfl) (ltb rfl)).trans kb_9
  replace kb_10 : t26.1 (b + 10) = some (cI E 20 (fun _ => 0)) := (agt26 _ (neb rfl) (ltb rfl)).trans kb_10
  replace kb_11 : t26.1 (b + 11) = some (cI E 20 (fun _ => 0)) := (agt26 _ (neb rfl) (ltb rfl)).trans kb_11
  replace kb_12 : t26.1 (b + 12) = some (cI E 20 (fun _ => 0)) := (agt26 _ (neb rfl) (ltb rfl)).trans kb_12
  replace hfr : ∀ q, q < b → t26.1 q = σ.1 q := fun q hq => (agt26 q (Nat.ne_of_lt hq) (Nat.lt_of_lt_of_le hq (Nat.le_add_right _ _))).trans (hfr q hq)
  clear agt26 hzt24 hz25
  refine g_aload_n h 0 dX6_init_110 rfl rfl ?_
  refine g_sipush h (nI 256) dX6_init_111 (by decide) ?_
  refine g_newiA h dX6_init_114 (by decide) (Nat.le_of_ble_eq_true rfl) (Nat.le_of_ble_eq_true rfl) (a := b + 14) hzt26 (fun s27 hz27 hc27 ho27 => ?_)
  refine g_putF (fs := [.ref (b + 1), .ref (b + 2), .ref (b + 3), .ref (b + 4), .int 0, .ref (b + 5), .ref (b + 6), .ref (b + 7), .ref (b + 8), .int 0, .ref (b + 9), .ref (b + 10), .ref (b + 11), .ref (b + 12), .ref (b + 13), .null, .null, .int 0, .null, .null]) (fs' := [_, _, _, _, _, _, _, _, _, _, _, _, _, _, _, _, _, _, _, _]) h hn 15 fp_X6_49 dX6_init_116 ((ho27 _ (by omega)).trans ht26) (Nat.le_of_ble_eq_true rfl) rfl rfl rfl ?_
  refine g_gen (fun s' => s'.2 = b + 15 ∧ s'.1 b = some (cO 6 [.ref (b + 1), .ref (b + 2), .ref (b + 3), .ref (b + 4), .int 0, .ref (b + 5), .ref (b + 6), .ref (b + 7), .ref (b + 8), .int 0, .ref (b + 9), .ref (b + 10), .ref (b + 11), .ref (b + 12), .ref (b + 13), .ref (b + 14), .null, .int 0, .null, .null]) ∧ s'.1 (b + 14) = some (cI E 256 (fun _ => 0)) ∧ ∀ a, a ≠ b → a < b + 14 → s'.1 a = t26.1 a) ⟨hz27, sup_eq, (sup_ne (neb rfl)).trans hc27, fun a e1 e2 => (sup_ne e1).trans (ho27 _ e2)⟩ ?_
  rintro t28 ⟨hzt28, ht28, kb_14, agt28⟩
  replace kb_1 : t28.1 (b + 1) = some (cI E 320 (fun _ => 0)) := (agt28 _ (neb rfl) (ltb rfl)).trans kb_1
  replace kb_2 : t28.1 (b + 2) = some (cI E 8 (fun _ => 0)) := (agt28 _ (neb rfl) (ltb rfl)).trans kb_2
  replace kb_3 : t28.1 (b + 3) = some (cI E 160 (fun _ => 0)) := (agt28 _ (neb rfl) (ltb rfl)).trans kb_3
  replace kb_4 : t28.1 (b + 4) = some (cI E 4 (fun _ => 0)) := (agt28 _ (neb rfl) (ltb rfl)).trans kb_4
  replace kb_5 : t28.1 (b + 5) = some (cI E 12 (fun _ => 0)) := (agt28 _ (neb rfl) (ltb rfl)).trans kb_5
  replace kb_6 : t28.1 (b + 6) = some (cI E 12 (fun _ => 0)) := (agt28 _ (neb rfl) (ltb rfl)).trans kb_6
  replace kb_7 : t28.1 (b + 7) = some (cI E 12 (fun _ => 0)) := (agt28 _ (neb rfl) (ltb rfl)).trans kb_7
  replace kb_8 : t28.1 (b + 8) = some (cI E 100 (fun _ => 0)) := (agt28 _ (neb rfl) (ltb rfl)).trans kb_8
  replace kb_9 : t28.1 (b + 9) = some (cI E 20 (fun _ => 0)) := (agt28 _ (neb rfl) (ltb rfl)).trans kb_9
  replace kb_10 : t28.1 (b + 10) = some (cI E 20 (fun _ => 0)) := (agt28 _ (neb rfl) (ltb rfl)).trans kb_10
  replace kb_11 : t28.1 (b + 11) = some (cI E 20 (fun _ => 0)) := (agt28 _ (neb rfl) (ltb rfl)).trans kb_11
  replace kb_12 : t28.1 (b + 12) = some (cI E 20 (fun _ => 0)) := (agt28 _ (neb rfl) (ltb rfl)).trans kb_12
  replace kb_13 : t28.1 (b + 13) = some (cI E 1681 (fun _ => 0)) := (agt28 _ (neb rfl) (ltb rfl)).trans kb_13
  replace hfr : ∀ q, q < b → t28.1 q = σ.1 q := fun q hq => (agt28 q (Nat.ne_of_lt hq) (Nat.lt_of_lt_of_le hq (Nat.le_add_right _ _))).trans (hfr q hq)
  clear agt28 hzt26 hz27
  refine g_aload_n h 0 dX6_init_119 rfl rfl ?_
  refine g_bipush h (nI 64) dX6_init_120 (by decide) ?_
  refine g_newiA h dX6_init_122 (by decide) (Nat.le_of_ble_eq_true rfl) (Nat.le_of_ble_eq_true rfl) (a := b + 15) hzt28 (fun s29 hz29 hc29 ho29 => ?_)
  refine g_putF (fs := [.ref (b + 1), .ref (b + 2), .ref (b + 3), .ref (b + 4), .int 0, .ref (b + 5), .ref (b + 6), .ref (b + 7), .ref (b + 8), .int 0, .ref (b + 9), .ref (b + 10), .ref (b + 11), .ref (b + 12), .ref (b + 13), .ref (b + 14), .null, .int 0, .null, .null]) (fs' := [_, _, _, _, _, _, _, _, _, _, _, _, _, _, _, _, _, _, _, _]) h hn 16 fp_X6_52 dX6_init_124 ((ho29 _ (by omega)).trans ht28) (Nat.le_of_ble_eq_true rfl) rfl rfl rfl ?_
  refine g_gen (fun s' => s'.2 = b + 16 ∧ s'.1 b = some (cO 6 [.ref (b + 1), .ref (b + 2), .ref (b + 3), .ref (b + 4), .int 0, .ref (b + 5), .ref (b + 6), .ref (b + 7), .ref (b + 8), .int 0, .ref (b + 9), .ref (b + 10), .ref (b + 11), .ref (b + 12), .ref (b + 13), .ref (b + 14), .ref (b + 15), .int 0, .null, .null]) ∧ s'.1 (b + 15) = some (cI E 64 (fun _ => 0)) ∧ ∀ a, a ≠ b → a < b + 15 → s'.1 a = t28.1 a) ⟨hz29, sup_eq, (sup_ne (neb rfl)).trans hc29, fun a e1 e2 => (sup_ne e1).trans (ho29 _ e2)⟩ ?_
  rintro t30 ⟨hzt30, ht30, kb_15, agt30⟩
  replace kb_1 : t30.1 (b + 1) = some (cI E 320 (fun _ => 0)) := (agt30 _ (neb rfl) (ltb rfl)).trans kb_1
  replace kb_2 : t30.1 (b + 2) = some (cI E 8 (fun _ => 0)) := (agt30 _ (neb rfl) (ltb rfl)).trans kb_2
  replace kb_3 : t30.1 (b + 3) = some (cI E 160 (fun _ => 0)) := (agt30 _ (neb rfl) (ltb rfl)).trans kb_3
  replace kb_4 : t30.1 (b + 4) = some (cI E 4 (fun _ => 0)) := (agt30 _ (neb rfl) (ltb rfl)).trans kb_4
  replace kb_5 : t30.1 (b + 5) = some (cI E 12 (fun _ => 0)) := (agt30 _ (neb rfl) (ltb rfl)).trans kb_5
  replace kb_6 : t30.1 (b + 6) = some (cI E 12 (fun _ => 0)) := (agt30 _ (neb rfl) (ltb rfl)).trans kb_6
  replace kb_7 : t30.1 (b + 7) = some (cI E 12 (fun _ => 0)) := (agt30 _ (neb rfl) (ltb rfl)).trans kb_7
  replace kb_8 : t30.1 (b + 8) = some (cI E 100 (fun _ => 0)) := (agt30 _ (neb rfl) (ltb rfl)).trans kb_8
  replace kb_9 : t30.1 (b + 9) = some (cI E 20 (fun _ => 0)) := (agt30 _ (neb rfl) (ltb rfl)).trans kb_9
  replace kb_10 : t30.1 (b + 10) = some (cI E 20 (fun _ => 0)) := (agt30 _ (neb rfl) (ltb rfl)).trans kb_10
  replace kb_11 : t30.1 (b + 11) = some (cI E 20 (fun _ => 0)) := (agt30 _ (neb rfl) (ltb rfl)).trans kb_11
  replace kb_12 : t30.1 (b + 12) = some (cI E 20 (fun _ => 0)) := (agt30 _ (neb rfl) (ltb rfl)).trans kb_12
  replace kb_13 : t30.1 (b + 13) = some (cI E 1681 (fun _ => 0)) := (agt30 _ (neb rfl) (ltb rfl)).trans kb_13
  replace kb_14 : t30.1 (b + 14) = some (cI E 256 (fun _ => 0)) := (agt30 _ (neb rfl) (ltb rfl)).trans kb_14
  replace hfr : ∀ q, q < b → t30.1 q = σ.1 q := fun q hq => (agt30 q (Nat.ne_of_lt hq) (Nat.lt_of_lt_of_le hq (Nat.le_add_right _ _))).trans (hfr q hq)
  clear agt30 hzt28 hz29
  refine g_aload_n h 0 dX6_init_127 rfl rfl ?_
  refine g_bipush h (nI 8) dX6_init_128 (by decide) ?_
  refine g_newiA h dX6_init_130 (by decide) (Nat.le_of_ble_eq_true rfl) (Nat.le_of_ble_eq_true rfl) (a := b + 16) hzt30 (fun s31 hz31 hc31 ho31 => ?_)
  refine g_putF (fs := [.ref (b + 1), .ref (b + 2), .ref (b + 3), .ref (b + 4), .int 0, .ref (b + 5), .ref (b + 6), .ref (b + 7), .ref (b + 8), .int 0, .ref (b + 9), .ref (b + 10), .ref (b + 11), .ref (b + 12), .ref (b + 13), .ref (b + 14), .ref (b + 15), .int 0, .null, .null]) (fs' := [_, _, _, _, _, _, _, _, _, _, _, _, _, _, _, _, _, _, _, _]) h hn 18 fp_X6_55 dX6_init_132 ((ho31 _ (by omega)).trans ht30) (Nat.le_of_ble_eq_true rfl) rfl rfl rfl ?_
  refine g_gen (fun s' => s'.2 = b + 17 ∧ s'.1 b = some (cO 6 [.ref (b + 1), .ref (b + 2), .ref (b + 3), .ref (b + 4), .int 0, .ref (b + 5), .ref (b + 6), .ref (b + 7), .ref (b + 8), .int 0, .ref (b + 9), .ref (b + 10), .ref (b + 11), .ref (b + 12), .ref (b + 13), .ref (b + 14), .ref (b + 15), .int 0, .ref (b + 16), .null]) ∧ s'.1 (b + 16) = some (cI E 8 (fun _ => 0)) ∧ ∀ a, a ≠ b → a < b + 16 → s'.1 a = t30.1 a) ⟨hz31, sup_eq, (sup_ne (neb rfl)).trans hc31, fun a e1 e2 => (sup_ne e1).trans (ho31 _ e2)⟩ ?_
  rintro t32 ⟨hzt32, ht32, kb_16, agt32⟩
  replace kb_1 : t32.1 (b + 1) = some (cI E 320 (fun _ => 0)) := (agt32 _ (neb rfl) (ltb rfl)).trans kb_1
  replace kb_2 : t32.1 (b + 2) = some (cI E 8 (fun _ => 0)) := (agt32 _ (neb rfl) (ltb rfl)).trans kb_2
  replace kb_3 : t32.1 (b + 3) = some (cI E 160 (fun _ => 0)) := (agt32 _ (neb rfl) (ltb rfl)).trans kb_3
  replace kb_4 : t32.1 (b + 4) = some (cI E 4 (fun _ => 0)) := (agt32 _ (neb rfl) (ltb rfl)).trans kb_4
  replace kb_5 : t32.1 (b + 5) = some (cI E 12 (fun _ => 0)) := (agt32 _ (neb rfl) (ltb rfl)).trans kb_5
  replace kb_6 : t32.1 (b + 6) = some (cI E 12 (fun _ => 0)) := (agt32 _ (neb rfl) (ltb rfl)).trans kb_6
  replace kb_7 : t32.1 (b + 7) = some (cI E 12 (fun _ => 0)) := (agt32 _ (neb rfl) (ltb rfl)).trans kb_7
  replace kb_8 : t32.1 (b + 8) = some (cI E 100 (fun _ => 0)) := (agt32 _ (neb rfl) (ltb rfl)).trans kb_8
  replace kb_9 : t32.1 (b + 9) = some (cI E 20 (fun _ => 0)) := (agt32 _ (neb rfl) (ltb rfl)).trans kb_9
  replace kb_10 : t32.1 (b + 10) = some (cI E 20 (fun _ => 0)) := (agt32 _ (neb rfl) (ltb rfl)).trans kb_10
  replace kb_11 : t32.1 (b + 11) = some (cI E 20 (fun _ => 0)) := (agt32 _ (neb rfl) (ltb rfl)).trans kb_11
  replace kb_12 : t32.1 (b + 12) = some (cI E 20 (fun _ => 0)) := (agt32 _ (neb rfl) (ltb rfl)).trans kb_12
  replace kb_13 : t32.1 (b + 13) = some (cI E 1681 (fun _ => 0)) := (agt32 _ (neb rfl) (ltb rfl)).trans kb_13
  replace kb_14 : t32.1 (b + 14) = some (cI E 256 (fun _ => 0)) := (agt32 _ (neb rfl) (ltb rfl)).trans kb_14
  replace kb_15 : t32.1 (b + 15) = some (cI E 64 (fun _ => 0)) := (agt32 _ (neb rfl) (ltb rfl)).trans kb_15
  replace hfr : ∀ q, q < b → t32.1 q = σ.1 q := fun q hq => (agt32 q (Nat.ne_of_lt hq) (Nat.lt_of_lt_of_le hq (Nat.le_add_right _ _))).trans (hfr q hq)
  clear agt32 hzt30 hz31
  refine g_aload_n h 0 dX6_init_135 rfl rfl ?_
  refine g_sipush h (nI 1681) dX6_init_136 (by decide) ?_
  refine g_newzA h dX6_init_139 (by decide) (Nat.le_of_ble_eq_true rfl) (Nat.le_of_ble_eq_true rfl) (a := b + 17) hzt32 (fun s33 hz33 hc33 ho33 => ?_)
  refine g_putF (fs := [.ref (b + 1), .ref (b + 2), .ref (b + 3), .ref (b + 4), .int 0, .ref (b + 5), .ref (b + 6), .ref (b + 7), .ref (b + 8), .int 0, .ref (b + 9), .ref (b + 10), .ref (b + 11), .ref (b + 12), .ref (b + 13), .ref (b + 14), .ref (b + 15), .int 0, .ref (b + 16), .null]) (fs' := [_, _, _, _, _, _, _, _, _, _, _, _, _, _, _, _, _, _, _, _]) h hn 19 fp_X6_58 dX6_init_141 ((ho33 _ (by omega)).trans ht32) (Nat.le_of_ble_eq_true rfl) rfl rfl rfl ?_
  refine g_gen (fun s' => s'.2 = b + 18 ∧ s'.1 b = some (cO 6 [.ref (b + 1), .ref (b + 2), .ref (b + 3), .ref (b + 4), .int 0, .ref (b + 5), .ref (b + 6), .ref (b + 7), .ref (b + 8), .int 0, .ref (b + 9), .ref (b + 10), .ref (b + 11), .ref (b + 12), .ref (b + 13), .ref (b + 14), .ref (b + 15), .int 0, .ref (b + 16), .ref (b + 17)]) ∧ s'.1 (b + 17) = some (cZ E 1681 (fun _ => 0)) ∧ ∀ a, a ≠ b → a < b + 17 → s'.1 a = t32.1 a) ⟨hz33, sup_eq, (sup_ne (neb rfl)).trans hc33, fun a e1 e2 => (sup_ne e1).trans (ho33 _ e2)⟩ ?_
  rintro t34 ⟨hzt34, ht34, kb_17, agt34⟩
  replace kb_1 : t34.1 (b + 1) = some (cI E 320 (fun _ => 0)) := (agt34 _ (neb rfl) (ltb rfl)).trans kb_1
  replace kb_2 : t34.1 (b + 2) = some (cI E 8 (fun _ => 0)) := (agt34 _ (neb rfl) (ltb rfl)).trans kb_2
  replace kb_3 : t34.1 (b + 3) = some (cI E 160 (fun _ => 0)) := (agt34 _ (neb rfl) (ltb rfl)).trans kb_3
  replace kb_4 : t34.1 (b + 4) = some (cI E 4 (fun _ => 0)) := (agt34 _ (neb rfl) (ltb rfl)).trans kb_4
  replace kb_5 : t34.1 (b + 5) = some (cI E 12 (fun _ => 0)) := (agt34 _ (neb rfl) (ltb rfl)).trans kb_5
  replace kb_6 : t34.1 (b + 6) = some (cI E 12 (fun _ => 0)) := (agt34 _ (neb rfl) (ltb rfl)).trans kb_6
  replace kb_7 : t34.1 (b + 7) = some (cI E 12 (fun _ => 0)) := (agt34 _ (neb rfl) (ltb rfl)).trans kb_7
  replace kb_8 : t34.1 (b + 8) = some (cI E 100 (fun _ => 0)) := (agt34 _ (neb rfl) (ltb rfl)).trans kb_8
  replace kb_9 : t34.1 (b + 9) = some (cI E 20 (fun _ => 0)) := (agt34 _ (neb rfl) (ltb rfl)).trans kb_9
  replace kb_10 : t34.1 (b + 10) = some (cI E 20 (fun _ => 0)) := (agt34 _ (neb rfl) (ltb rfl)).trans kb_10
  replace kb_11 : t34.1 (b + 11) = some (cI E 20 (fun _ => 0)) := (agt34 _ (neb rfl) (ltb rfl)).trans kb_11
  replace kb_12 : t34.1 (b + 12) = some (cI E 20 (fun _ => 0)) := (agt34 _ (neb rfl) (ltb rfl)).trans kb_12
  replace kb_13 : t34.1 (b + 13) = some (cI E 1681 (fun _ => 0)) := (agt34 _ (neb rfl) (ltb rfl)).trans kb_13
  replace kb_14 : t34.1 (b + 14) = some (cI E 256 (fun _ => 0)) := (agt34 _ (neb rfl) (ltb rfl)).trans kb_14
  replace kb_15 : t34.1 (b + 15) = some (cI E 64 (fun _ => 0)) := (agt34 _ (neb rfl) (ltb rfl)).trans kb_15
  replace kb_16 : t34.1 (b + 16) = some (cI E 8 (fun _ => 0)) := (agt34 _ (neb rfl) (ltb rfl)).trans kb_16
  replace hfr : ∀ q, q < b → t34.1 q = σ.1 q := fun q hq => (agt34 q (Nat.ne_of_lt hq) (Nat.lt_of_lt_of_le hq (Nat.le_add_right _ _))).trans (hfr q hq)
  clear agt34 hzt32 hz33
  exact g_vret h hr dX6_init_144 (⟨rfl, hzt34, hfr, ht34, ⟨_, kb_1, fun v hv i hi => absurd hi (Nat.not_lt_zero _)⟩, ⟨_, kb_2, fun v hv => z0⟩, ⟨_, kb_3, fun v hv i hi => absurd hi (Nat.not_lt_zero _)⟩, ⟨_, kb_4, fun v hv => z0⟩, ⟨_, kb_5, fun i hi => absurd hi (Nat.not_lt_zero _)⟩, ⟨_, kb_6, fun i hi => absurd hi (Nat.not_lt_zero _)⟩, ⟨_, kb_7, fun i hi => absurd hi (Nat.not_lt_zero _)⟩, ⟨_, kb_8, fun v hv => z0⟩, ⟨_, kb_9, fun i hi => absurd hi (Nat.not_lt_zero _)⟩, ⟨_, kb_10, fun i hi => absurd hi (Nat.not_lt_zero _)⟩, ⟨_, kb_11, fun i hi => absurd hi (Nat.not_lt_zero _)⟩, ⟨_, kb_12, fun i hi => absurd hi (Nat.not_lt_zero _)⟩, ⟨_, kb_13⟩, ⟨_, kb_14⟩, ⟨_, kb_15⟩, ⟨_, kb_16, fun i hi => absurd hi (Nat.not_lt_zero _)⟩, ⟨_, kb_17⟩⟩) (Nat.le_of_ble_eq_true rfl) (Nat.le_of_ble_eq_true rfl)
