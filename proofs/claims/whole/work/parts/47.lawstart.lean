/-! the law from its entry (own work) -/
theorem RepC.lo {E : EnvD} {z : Nat} {σ σ' : Sto} (h : RepC E z PSt0 σ) (ag : ∀ q, q < z + 88 → σ'.1 q = σ.1 q) : RepC E z PSt0 σ' := by
  obtain ⟨h0, h1, h2, ⟨f3, h3, -⟩, ⟨f4, h4, -⟩, h5, h6, h7, h8, ⟨n, g, hn, h9⟩, h10, h11⟩ := h
  exact ⟨h0.fr (ag _ (by omega)) rfl rfl, h1.fr (ag _ (by omega)), h2.fr (ag _ (by omega)), ⟨f3, (ag _ (by omega)).trans h3, fun i hi => absurd hi (Nat.not_lt_zero _)⟩, ⟨f4, (ag _ (by omega)).trans h4, fun i hi => absurd hi (Nat.not_lt_zero _)⟩, h5.fr (ag _ (by omega)) rfl, h6.fr (fun a _ _ => ag a (by omega)), h7.fr (fun a _ _ _ _ => ag a (by omega)), h8.fr (ag _ (by omega)) (ag _ (by omega)), ⟨n, g, hn, h9.fr (ag _ (by omega)) (ag _ (by omega))⟩, fun v hv => (h10 v hv).fr (ag _ (by omega)) (ag _ (by omega)), fun v hv => (h11 v hv).fr (ag _ (by omega)) (ag _ (by omega))⟩
set_option maxRecDepth 100000 in
set_option maxHeartbeats 4000000 in
theorem law_start {X : CX} {E : EnvD} {A : Nat → Prop} {Q : State → Prop} {b0 L z : Nat} {xs : Nat → Int32} (h : OK X E cL_law RL 4 room_1) (hX : va_X b0 L xs (xS X) (xS X).heap) (hbl : b0 < (xS X).heap.size) (hbA : ¬ A b0) (hL : L ≤ 2560) (hfin : ∀ (k n : Nat) (vs : List (Option Value)) (σ : Sto), k ≤ 600000 → n ≤ 7302250 → G X E 4 A Q k n 1011 vs [.int (nI 1)] σ) : G X E 4 A Q 0 0 0 [some (.ref b0), none, none, none] [] (fun _ => none, z) := by
  refine g_newA h 5 (ty := tyX5) [.null, .null, .null, .null, .null, .null, .null, .null, .int 0, .int 0] rfl tyX5_ok nw_L_7 dL_law_0 (fun j hj => by rcases (show j = 0 ∨ j = 1 ∨ j = 2 ∨ j = 3 ∨ j = 4 ∨ j = 5 ∨ j = 6 ∨ j = 7 ∨ j = 8 ∨ j = 9 by omega) with rfl | rfl | rfl | rfl | rfl | rfl | rfl | rfl | rfl | rfl <;> rfl) (Nat.le_of_ble_eq_true rfl) (Nat.le_of_ble_eq_true rfl) (a := z) rfl (fun s1 hz1 hc1 ho1 => ?_)
  refine g_dup h dL_law_3 rfl ?_
  refine g_callI h [_] (c_X5_init (xL X) E _ hc1 hz1) cf_L_9 ci_X5_init dL_law_4 rfl rfl (Nat.le_of_ble_eq_true rfl) ⟨(Nat.le_of_ble_eq_true rfl), (Nat.le_of_ble_eq_true rfl)⟩ ⟨(Nat.le_of_ble_eq_true rfl), (Nat.le_of_ble_eq_true rfl)⟩ ?_
  rintro _ s2 ⟨rfl, hz2, ho2, hR2⟩
  refine g_astore_n (vs' := [_, _, _, _]) h 1 dL_law_7 rfl (Nat.le_of_ble_eq_true rfl) rfl rfl ?_
  refine g_newA h 6 (ty := tyX6) [.null, .null, .null, .null, .int 0, .null, .null, .null, .null, .int 0, .null, .null, .null, .null, .null, .null, .null, .int 0, .null, .null] rfl tyX6_ok nw_L_10 dL_law_8 (fun j hj => by rcases (show j = 0 ∨ j = 1 ∨ j = 2 ∨ j = 3 ∨ j = 4 ∨ j = 5 ∨ j = 6 ∨ j = 7 ∨ j = 8 ∨ j = 9 ∨ j = 10 ∨ j = 11 ∨ j = 12 ∨ j = 13 ∨ j = 14 ∨ j = 15 ∨ j = 16 ∨ j = 17 ∨ j = 18 ∨ j = 19 by omega) with rfl | rfl | rfl | rfl | rfl | rfl | rfl | rfl | rfl | rfl | rfl | rfl | rfl | rfl | rfl | rfl | rfl | rfl | rfl | rfl <;> rfl) (Nat.le_of_ble_eq_true rfl) (Nat.le_of_ble_eq_true rfl) (a := z + 88) hz2 (fun s3 hz3 hc3 ho3 => ?_)
  refine g_dup h dL_law_11 rfl ?_
  refine g_callI h [_] (c_X6_init (xL X) E _ hc3 hz3) cf_L_12 ci_X6_init dL_law_12 rfl rfl (Nat.le_of_ble_eq_true rfl) ⟨(Nat.le_of_ble_eq_true rfl), (Nat.le_of_ble_eq_true rfl)⟩ ⟨(Nat.le_of_ble_eq_true rfl), (Nat.le_of_ble_eq_true rfl)⟩ ?_
  rintro _ s4 ⟨rfl, hz4, ho4, hR4⟩
  refine g_astore_n (vs' := [_, _, _, _]) h 2 dL_law_15 rfl (Nat.le_of_ble_eq_true rfl) rfl rfl ?_
  refine g_iconst h (nI 0) dL_law_16 (by decide) ?_
  refine g_istore_n (vs' := [_, _, _, _]) h 3 dL_law_17 rfl (Nat.le_of_ble_eq_true rfl) rfl rfl ?_
  refine law_loop h hX hbl hbA hL hfin 3000 0 _ _ PSt0 s4 inv_0 ⟨hR2.lo (fun q hq => ?_), hR4.cg (fun q h1 h2 => rst_t (dM_t.mpr ⟨h1, h2⟩)), Nat.le_of_eq hz4.symm⟩ (Nat.zero_le _) (Nat.le_of_ble_eq_true rfl) (Nat.le_of_ble_eq_true rfl) (by omega)
  rw [rst_t (dC_t.mpr (by omega)), ho4 q hq, ho3 q hq]
/-- what is known of the machine's tables holds at the law's entry -/
theorem kk_arr {s : State} {args : Array Value} {t : FieldType} (h : (Cond.arrayClass t).before args s = true) : ∃ c, ArrOfT s c t ∧ s.vm.findClass ("[" ++ t.toString) = some c := by
  obtain ⟨c, k, comp, h1, h2, h3⟩ := Cond.arrayClass_spec h
  exact ⟨c, fun N z => ⟨(fun k h => by cases h), k, h2, comp, h3⟩, h1⟩
theorem kk_arrO {s : State} {args : Array Value} {C : String} (h : (Cond.arrayOver (.object C)).before args s = true) : ∃ c, ArrOfT s c (.object C) ∧ va_RA s c (.object C) := by
  obtain ⟨comp, c, k, h0, -, h2, h3, h4⟩ := Cond.arrayOver_spec h
  exact ⟨c, fun N z => ⟨(fun k h => by cases h), k, h2, comp, h3⟩, k, comp, h2, h3, h0, h4⟩
theorem kk_arrA {s : State} {args : Array Value} {t : FieldType} (h : (Cond.arrayOver (.array t)).before args s = true) : ∃ c, ArrOfT s c (.array t) ∧ s.vm.findClass ("[" ++ (FieldType.array t).toString) = some c := by
  obtain ⟨comp, c, k, h0, -, h2, h3, h4⟩ := arrayOverA_spec h
  exact ⟨c, fun N z => ⟨(fun k h => by cases h), k, h2, comp, h3⟩, h4⟩
theorem kk_start {b : Nat} {s : State} (hts : ∀ w ∈ lw_tbl, w.before #[Value.ref b] s = true) : ∃ E : EnvD, KK E s := by
  obtain ⟨c0, i0, k0⟩ := u_known (C := RX0) (T := TX0) (N := 1) (n := 1) hts (fun w hw => (layw_X0 w hw).1) (hts _ ins_X0)
  obtain ⟨c1, i1, k1⟩ := u_known (C := RX1) (T := TX1) (N := 3) (n := 3) hts (fun w hw => (layw_X1 w hw).1) (hts _ ins_X1)
  obtain ⟨c2, i2, k2⟩ := u_known (C := RX2) (T := TX2) (N := 2) (n := 2) hts (fun w hw => (layw_X2 w hw).1) (hts _ ins_X2)
  obtain ⟨c3, i3, k3⟩ := u_known (C := RX3) (T := TX3) (N := 4) (n := 4) hts (fun w hw => (layw_X3 w hw).1) (hts _ ins_X3)
  obtain ⟨c4, i4, k4⟩ := u_known (C := RX4) (T := TX4) (N := 3) (n := 3) hts (fun w hw => (layw_X4 w hw).1) (hts _ ins_X4)
  obtain ⟨c5, i5, k5⟩ := u_known (C := RX5) (T := TX5) (N := 10) (n := 10) hts (fun w hw => (layw_X5 w hw).1) (hts _ ins_X5)
  obtain ⟨c6, i6, k6⟩ := u_known (C := RX6) (T := TX6) (N := 20) (n := 20) hts (fun w hw => (layw_X6 w hw).1) (hts _ ins_X6)
  obtain ⟨a0, A0, B0⟩ := kk_arr (hts _ li_36.1)
  obtain ⟨a1, A1, B1⟩ := kk_arr (hts _ li_526.1)
  obtain ⟨a2, A2, B2⟩ := kk_arrO (hts _ aov_X2)
  obtain ⟨a3, A3, B3⟩ := kk_arrO (hts _ aov_X1)
  obtain ⟨a4, A4, B4⟩ := kk_arrO (hts _ aov_X3)
  obtain ⟨a5, A5, B5⟩ := kk_arrA (hts _ aov_I)
  refine ⟨((fun k => [c0, c1, c2, c3, c4, c5, c6].getD k c0, fun k => [i0, i1, i2, i3, i4, i5, i6].getD k i0), fun k => [a0, a1, a2, a3, a4, a5].getD k a0), ⟨fun c q hq => ?_, fun k q hq => ?_⟩, fun w hw hg => word_at (State.WarmedH.refl s) (good_of_word hg) (hts w hw), lay_all, ⟨va_Nw.of rfl (hts _ nst_0), va_Nw.of rfl (hts _ nst_1), va_Nw.of rfl (hts _ nst_2), va_Nw.of rfl (hts _ nst_3), va_Nw.of rfl (hts _ nst_4), va_Nw.of rfl (hts _ nst_5), va_Nw.of rfl (hts _ nst_6)⟩, ⟨va_AO.of (hts _ aov_X2), va_AO.of (hts _ aov_X1), va_AO.of (hts _ aov_X3)⟩, hts _ aov_I⟩
  · match c, hq with
    | 0, hq => cases hq; exact k0
    | 1, hq => cases hq; exact k1
    | 2, hq => cases hq; exact k2
    | 3, hq => cases hq; exact k3
    | 4, hq => cases hq; exact k4
    | 5, hq => cases hq; exact k5
    | 6, hq => cases hq; exact k6
    | k + 7, hq => simp [vwCl] at hq
  · match k, hq with
    | 0, hq => cases hq; exact ⟨A0, B0⟩
    | 1, hq => cases hq; exact ⟨A1, B1⟩
    | 2, hq => cases hq; exact ⟨A2, B2⟩
    | 3, hq => cases hq; exact ⟨A3, B3⟩
    | 4, hq => cases hq; exact ⟨A4, B4⟩
    | 5, hq => cases hq; exact ⟨A5, B5⟩
    | k + 6, hq => simp [tysE] at hq
theorem lv_start {As : List Value} {maxL : Nat} {vs : List (Option Value)} (hlen : (lg_sl As).length ≤ maxL) (hvs : entl As ++ List.replicate (maxL - (entl As).length) none = vs) : LV (lg_sl As ++ List.replicate (maxL - (lg_sl As).length) Slot.unset).toArray maxL vs := by
  have hl := lv_entry As (n := maxL) hlen
  refine ⟨hl.1, hl.2.1, ?_, fun i v hi => ?_⟩
  · rw [← hvs, List.length_append, List.length_replicate, entl_len]
    omega
  · rw [← hvs] at hi
    have h1 := entl_args As 0 i v (lk_app_rep _ _ _ _ hi)
    rw [Nat.zero_add] at h1
    exact hl.2.2 _ h1
