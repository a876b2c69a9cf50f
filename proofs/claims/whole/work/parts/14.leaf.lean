/-! leaves: walked by program -/
/-- a condition's machine: the state behind a line -/
def nx (so x y st : Nat) (ln : Int32) : Nat :=
  if so = 1 then (if ln = nI x ∧ st ≤ y then st + 1 else st)
  else if so = 2 then (if st ≠ 0 then st else if ln = nI x then 2 else if ln = nI y then 1 else 0)
  else if so = 3 then ((st ||| (if ln = nI x then 1 else 0)) ||| (if ln = nI y then 2 else 0))
  else if so = 5 then (if st = 2 ∨ (st = 0 ∧ ln = nI x) then 2 else if ln = nI y then 1 else 0)
  else if so = 6 then (if st = 0 then (if ln = nI x then 1 else 0) else if ln = nI y then 2 else st)
  else (if ln = nI x then 1 else st)
/-- broken states -/
def brk (so y st : Nat) : Prop := (so = 0 ∧ st = 1) ∨ (so = 1 ∧ y < st) ∨ (so = 3 ∧ st = 3) ∨ (so = 4 ∧ st = 0) ∨ ((so = 2 ∨ so = 5 ∨ so = 6) ∧ st = 2)
def lastS (so y : Nat) : Nat := if so = 1 then y + 1 else 3
noncomputable def hb2 (l r : Int32) : Int32 := if l = r then l else if r = -1 then l else if l = -1 then r else -1
theorem nI_or (a b : Nat) : nI a ||| nI b = nI (a ||| b) := by
  apply Int32.toBitVec_inj.mp
  apply BitVec.eq_of_toNat_eq
  rw [Int32.toBitVec_or, BitVec.toNat_or]
  simp [nI, Int32.ofNat, Int32.toBitVec]
theorem lc_ne {x : Int64} (h : x = 1) : (if (0 : Int64) < x then (1 : Int32) else if x = 0 then 0 else -1) = nI 1 := by subst h; decide
theorem lc_eq {x : Int64} (h : x = 0) : (if (0 : Int64) < x then (1 : Int32) else if x = 0 then 0 else -1) = nI 0 := by subst h; decide
abbrev rm_X5_hasBit : Room := { frames := 0, cells := 0, slots := 0, locals := 0 }
set_option maxRecDepth 100000 in
set_option maxHeartbeats 4000000 in
theorem c_X5_hasBit (l : Launch) (E : EnvD) (σ : Sto) (x : Int64) {b : Nat} (hb : b < 64) : CC l yX5_hasBit cX5_hasBit 3 (some .boolean) rm_X5_hasBit E [.long x, .int (nI b)] σ (fun o s => o = some (.int (bI (bt x b = true))) ∧ s = σ) := by
  refine cc_of (vs := [_, _, _]) (by decide) (Nat.le_of_ble_eq_true rfl) rfl ?_
  intro X h hr hn
  by_cases hq : bt x b = true
  · skip
    refine g_lload_n h 0 dX5_hasBit_0 rfl rfl ?_
    refine g_iload_n h 2 dX5_hasBit_1 rfl rfl ?_
    refine g_lshr h dX5_hasBit_2 ?_
    refine g_lconst h 1 dX5_hasBit_3 (by decide) ?_
    refine g_land h dX5_hasBit_4 ?_
    refine g_lconst h 0 dX5_hasBit_5 (by decide) ?_
    refine g_lcmp h (nI 1) dX5_hasBit_6 (lc_ne (by rw [has_val x hb, if_pos hq])) ?_
    refine g_if_eqN h 14 dX5_hasBit_7 (by decide) (by decide) (fun c7_1 => absurd c7_1 (by decide)) (fun c7_1 => ?_)
    refine g_iconst h (nI 1) dX5_hasBit_10 (by decide) ?_
    refine g_goto h 15 dX5_hasBit_11 (by decide) ?_
    exact g_zret h hr rfl dX5_hasBit_15 (ret1 hq) (Nat.le_of_ble_eq_true rfl) (Nat.le_of_ble_eq_true rfl)
  · skip
    refine g_lload_n h 0 dX5_hasBit_0 rfl rfl ?_
    refine g_iload_n h 2 dX5_hasBit_1 rfl rfl ?_
    refine g_lshr h dX5_hasBit_2 ?_
    refine g_lconst h 1 dX5_hasBit_3 (by decide) ?_
    refine g_land h dX5_hasBit_4 ?_
    refine g_lconst h 0 dX5_hasBit_5 (by decide) ?_
    refine g_lcmp h (nI 0) dX5_hasBit_6 (lc_eq (by rw [has_val x hb, if_neg hq])) ?_
    refine g_if_eqN h 14 dX5_hasBit_7 (by decide) (by decide) (fun c7_2 => ?_) (fun c7_2 => absurd c7_2 (by decide))
    refine g_iconst h (nI 0) dX5_hasBit_14 (by decide) ?_
    exact g_zret h hr rfl dX5_hasBit_15 (ret0 hq) (Nat.le_of_ble_eq_true rfl) (Nat.le_of_ble_eq_true rfl)
abbrev rm_X5_mixed : Room := { frames := 0, cells := 0, slots := 0, locals := 0 }
set_option maxRecDepth 100000 in
set_option maxHeartbeats 4000000 in
theorem c_X5_mixed (l : Launch) (E : EnvD) (σ : Sto) (x : Int64) (v : Int32) : CC l yX5_mixed cX5_mixed 3 (some .long) rm_X5_mixed E [.long x, .int v] σ (fun o s => o = some (.long (31 * x + v.toInt64)) ∧ s = σ) := by
  refine cc_of (vs := [_, _, _]) (by decide) (Nat.le_of_ble_eq_true rfl) rfl ?_
  intro X h hr hn
  refine g_ldc2 h 31 lc_X5_235 dX5_mixed_0 ?_
  refine g_lload_n h 0 dX5_mixed_3 rfl rfl ?_
  refine g_lmul h dX5_mixed_4 ?_
  refine g_iload_n h 2 dX5_mixed_5 rfl rfl ?_
  refine g_i2l h dX5_mixed_6 ?_
  refine g_ladd h dX5_mixed_7 ?_
  exact g_lret h hr dX5_mixed_8 (⟨rfl, rfl⟩) (Nat.le_of_ble_eq_true rfl) (Nat.le_of_ble_eq_true rfl)
abbrev rm_X5_isQuarrel : Room := { frames := 0, cells := 0, slots := 0, locals := 0 }
set_option maxRecDepth 100000 in
set_option maxHeartbeats 4000000 in
theorem c_X5_isQuarrel (l : Launch) (E : EnvD) (σ : Sto) (x y : Int32) : CC l yX5_isQuarrel cX5_isQuarrel 2 (some .boolean) rm_X5_isQuarrel E [.int x, .int y] σ (fun o s => o = some (.int (bI (¬ x = y ∧ ¬ x = -1 ∧ ¬ y = -1))) ∧ s = σ) := by
  refine cc_of (vs := [_, _]) (by decide) (Nat.le_of_ble_eq_true rfl) rfl ?_
  intro X h hr hn
  refine g_iload_n h 0 dX5_isQuarrel_0 rfl rfl ?_
  refine g_iload_n h 1 dX5_isQuarrel_1 rfl rfl ?_
  refine g_icmp_eq h 19 dX5_isQuarrel_2 (by decide) (fun c2_1 => ?_) (fun c2_1 => ?_)
  · skip
    refine g_iconst h (nI 0) dX5_isQuarrel_19 (by decide) ?_
    exact g_zret h hr rfl dX5_isQuarrel_20 (ret0 (fun q => q.1 c2_1)) (Nat.le_of_ble_eq_true rfl) (Nat.le_of_ble_eq_true rfl)
  · skip
    refine g_iload_n h 0 dX5_isQuarrel_5 rfl rfl ?_
    refine g_iconst h (-1) dX5_isQuarrel_6 (by decide) ?_
    refine g_icmp_eq h 19 dX5_isQuarrel_7 (by decide) (fun c7_2 => ?_) (fun c7_2 => ?_)
    · skip
      refine g_iconst h (nI 0) dX5_isQuarrel_19 (by decide) ?_
      exact g_zret h hr rfl dX5_isQuarrel_20 (ret0 (fun q => q.2.1 c7_2)) (Nat.le_of_ble_eq_true rfl) (Nat.le_of_ble_eq_true rfl)
    · skip
      refine g_iload_n h 1 dX5_isQuarrel_10 rfl rfl ?_
      refine g_iconst h (-1) dX5_isQuarrel_11 (by decide) ?_
      refine g_icmp_eq h 19 dX5_isQuarrel_12 (by decide) (fun c12_3 => ?_) (fun c12_3 => ?_)
      · skip
        refine g_iconst h (nI 0) dX5_isQuarrel_19 (by decide) ?_
        exact g_zret h hr rfl dX5_isQuarrel_20 (ret0 (fun q => q.2.2 c12_3)) (Nat.le_of_ble_eq_true rfl) (Nat.le_of_ble_eq_true rfl)
      · skip
        refine g_iconst h (nI 1) dX5_isQuarrel_15 (by decide) ?_
        refine g_goto h 20 dX5_isQuarrel_16 (by decide) ?_
        exact g_zret h hr rfl dX5_isQuarrel_20 (ret1 ⟨c2_1, c7_2, c12_3⟩) (Nat.le_of_ble_eq_true rfl) (Nat.le_of_ble_eq_true rfl)
abbrev rm_X5_heardByTwo : Room := { frames := 0, cells := 0, slots := 0, locals := 0 }
set_option maxRecDepth 100000 in
set_option maxHeartbeats 4000000 in
theorem c_X5_heardByTwo (l : Launch) (E : EnvD) (σ : Sto) (x y : Int32) : CC l yX5_heardByTwo cX5_heardByTwo 2 (some .int) rm_X5_heardByTwo E [.int x, .int y] σ (fun o s => o = some (.int (hb2 x y)) ∧ s = σ) := by
  refine cc_of (vs := [_, _]) (by decide) (Nat.le_of_ble_eq_true rfl) rfl ?_
  intro X h hr hn
  refine g_iload_n h 0 dX5_heardByTwo_0 rfl rfl ?_
  refine g_iload_n h 1 dX5_heardByTwo_1 rfl rfl ?_
  refine g_icmp_eq h 10 dX5_heardByTwo_2 (by decide) (fun c2_1 => ?_) (fun c2_1 => ?_)
  · skip
    refine g_iload_n h 0 dX5_heardByTwo_10 rfl rfl ?_
    exact g_iret h hr dX5_heardByTwo_11 (retI (by unfold hb2; grind)) (Nat.le_of_ble_eq_true rfl) (Nat.le_of_ble_eq_true rfl)
  · skip
    refine g_iload_n h 1 dX5_heardByTwo_5 rfl rfl ?_
    refine g_iconst h (-1) dX5_heardByTwo_6 (by decide) ?_
    refine g_icmp_ne h 12 dX5_heardByTwo_7 (by decide) (fun c7_2 => ?_) (fun c7_2 => ?_)
    · skip
      refine g_iload_n h 0 dX5_heardByTwo_12 rfl rfl ?_
      refine g_iconst h (-1) dX5_heardByTwo_13 (by decide) ?_
      refine g_icmp_ne h 21 dX5_heardByTwo_14 (by decide) (fun c14_3 => ?_) (fun c14_3 => ?_)
      · skip
        refine g_iconst h (-1) dX5_heardByTwo_21 (by decide) ?_
        exact g_iret h hr dX5_heardByTwo_22 (retI (by unfold hb2; grind)) (Nat.le_of_ble_eq_true rfl) (Nat.le_of_ble_eq_true rfl)
      · skip
        refine g_iload_n h 1 dX5_heardByTwo_17 rfl rfl ?_
        refine g_goto h 22 dX5_heardByTwo_18 (by decide) ?_
        exact g_iret h hr dX5_heardByTwo_22 (retI (by unfold hb2; grind)) (Nat.le_of_ble_eq_true rfl) (Nat.le_of_ble_eq_true rfl)
    · skip
      refine g_iload_n h 0 dX5_heardByTwo_10 rfl rfl ?_
      exact g_iret h hr dX5_heardByTwo_11 (retI (by unfold hb2; grind)) (Nat.le_of_ble_eq_true rfl) (Nat.le_of_ble_eq_true rfl)
abbrev rm_X3_isInForce : Room := { frames := 0, cells := 0, slots := 0, locals := 0 }
set_option maxRecDepth 100000 in
set_option maxHeartbeats 4000000 in
theorem c_X3_isInForce (l : Launch) (E : EnvD) (σ : Sto) {a t m f u : Nat} (h1 : σ.1 a = some (cO 3 [.int (nI t), .int (nI m), .int (nI f), .int (nI u)])) {w d : Nat} (ht : t < 1000) (hf : f < 1000) (hu : u < 1000) (hw : w < 1000) (hd : d < 1000) : CC l yX3_isInForce cX3_isInForce 3 (some .boolean) rm_X3_isInForce E [.ref a, .int (nI w), .int (nI d)] σ (fun o s => o = some (.int (bI (w = t ∧ f ≤ d ∧ d ≤ u))) ∧ s = σ) := by
  refine cc_of (vs := [_, _, _]) (by decide) (Nat.le_of_ble_eq_true rfl) rfl ?_
  intro X h hr hn
  refine g_iload_n h 1 dX3_isInForce_0 rfl rfl ?_
  refine g_aload_n h 0 dX3_isInForce_1 rfl rfl ?_
  refine g_get h 0 fa_X3_7 dX3_isInForce_2 h1 rfl ?_
  refine g_icmp_neN h 28 dX3_isInForce_5 (by decide) (by omega) (by omega) (fun c5_1 => ?_) (fun c5_1 => ?_)
  · skip
    refine g_iconst h (nI 0) dX3_isInForce_28 (by decide) ?_
    exact g_zret h hr rfl dX3_isInForce_29 (ret0 (fun q => by have := c5_1; omega)) (Nat.le_of_ble_eq_true rfl) (Nat.le_of_ble_eq_true rfl)
  · skip
    refine g_iload_n h 2 dX3_isInForce_8 rfl rfl ?_
    refine g_aload_n h 0 dX3_isInForce_9 rfl rfl ?_
    refine g_get h 2 fa_X3_16 dX3_isInForce_10 h1 rfl ?_
    refine g_icmp_ltN h 28 dX3_isInForce_13 (by decide) (by omega) (by omega) (fun c13_2 => ?_) (fun c13_2 => ?_)
    · skip
      refine g_iconst h (nI 0) dX3_isInForce_28 (by decide) ?_
      exact g_zret h hr rfl dX3_isInForce_29 (ret0 (fun q => by have := c13_2; omega)) (Nat.le_of_ble_eq_true rfl) (Nat.le_of_ble_eq_true rfl)
    · skip
      refine g_iload_n h 2 dX3_isInForce_16 rfl rfl ?_
      refine g_aload_n h 0 dX3_isInForce_17 rfl rfl ?_
      refine g_get h 3 fa_X3_19 dX3_isInForce_18 h1 rfl ?_
      refine g_icmp_gtN h 28 dX3_isInForce_21 (by decide) (by omega) (by omega) (fun c21_3 => ?_) (fun c21_3 => ?_)
      · skip
        refine g_iconst h (nI 0) dX3_isInForce_28 (by decide) ?_
        exact g_zret h hr rfl dX3_isInForce_29 (ret0 (fun q => by have := c21_3; omega)) (Nat.le_of_ble_eq_true rfl) (Nat.le_of_ble_eq_true rfl)
      · skip
        refine g_iconst h (nI 1) dX3_isInForce_24 (by decide) ?_
        refine g_goto h 29 dX3_isInForce_25 (by decide) ?_
        exact g_zret h hr rfl dX3_isInForce_29 (ret1 ⟨c5_1, c13_2, c21_3⟩) (Nat.le_of_ble_eq_true rfl) (Nat.le_of_ble_eq_true rfl)
abbrev rm_X3_init : Room := { frames := 1, cells := 0, slots := 0, locals := 16 }
set_option maxRecDepth 100000 in
set_option maxHeartbeats 4000000 in
theorem c_X3_init (l : Launch) (E : EnvD) (σ : Sto) {a : Nat} {b0 b1 b2 b3 : Int32} (t m f u : Int32) (h1 : σ.1 a = some (cO 3 [.int b0, .int b1, .int b2, .int b3])) : CC l yX3_init cX3_init 5 none rm_X3_init E [.ref a, .int t, .int m, .int f, .int u] σ (fun o s => o = none ∧ s = sup σ a (cO 3 [.int t, .int m, .int f, .int u])) := by
  refine cc_of (vs := [_, _, _, _, _]) (by decide) (Nat.le_of_ble_eq_true rfl) rfl ?_
  intro X h hr hn
  refine g_aload_n h 0 dX3_init_0 rfl rfl ?_
  refine g_objInit h oi_X3_1 dX3_init_1 ⟨(Nat.le_of_ble_eq_true rfl), (Nat.le_of_ble_eq_true rfl)⟩ ?_
  refine g_aload_n h 0 dX3_init_4 rfl rfl ?_
  refine g_iload_n h 1 dX3_init_5 rfl rfl ?_
  refine g_putF (fs' := [_, _, _, _]) h hn 0 fp_X3_7 dX3_init_6 h1 (Nat.le_of_ble_eq_true rfl) rfl rfl rfl ?_
  refine g_aload_n h 0 dX3_init_9 rfl rfl ?_
  refine g_iload_n h 2 dX3_init_10 rfl rfl ?_
  refine g_putF (fs' := [_, _, _, _]) h hn 1 fp_X3_13 dX3_init_11 sup_eq (Nat.le_of_ble_eq_true rfl) rfl rfl rfl ?_
  refine g_sto sup_sup ?_
  refine g_aload_n h 0 dX3_init_14 rfl rfl ?_
  refine g_iload_n h 3 dX3_init_15 rfl rfl ?_
  refine g_putF (fs' := [_, _, _, _]) h hn 2 fp_X3_16 dX3_init_16 sup_eq (Nat.le_of_ble_eq_true rfl) rfl rfl rfl ?_
  refine g_sto sup_sup ?_
  refine g_aload_n h 0 dX3_init_19 rfl rfl ?_
  refine g_iload h dX3_init_20 rfl ?_
  refine g_putF (fs' := [_, _, _, _]) h hn 3 fp_X3_19 dX3_init_22 sup_eq (Nat.le_of_ble_eq_true rfl) rfl rfl rfl ?_
  refine g_sto sup_sup ?_
  exact g_vret h hr dX3_init_25 (⟨rfl, rfl⟩) (Nat.le_of_ble_eq_true rfl) (Nat.le_of_ble_eq_true rfl)
abbrev rm_X1_init : Room := { frames := 1, cells := 0, slots := 0, locals := 16 }
set_option maxRecDepth 100000 in
set_option maxHeartbeats 4000000 in
theorem c_X1_init (l : Launch) (E : EnvD) (σ : Sto) {a : Nat} {b0 b1 b2 : Int32} (t m f : Int32) (h1 : σ.1 a = some (cO 1 [.int b0, .int b1, .int b2])) : CC l yX1_init cX1_init 4 none rm_X1_init E [.ref a, .int t, .int m, .int f] σ (fun o s => o = none ∧ s = sup σ a (cO 1 [.int t, .int m, .int f])) := by
  refine cc_of (vs := [_, _, _, _]) (by decide) (Nat.le_of_ble_eq_true rfl) rfl ?_
  intro X h hr hn
  refine g_aload_n h 0 dX1_init_0 rfl rfl ?_
  refine g_objInit h oi_X1_3 dX1_init_1 ⟨(Nat.le_of_ble_eq_true rfl), (Nat.le_of_ble_eq_true rfl)⟩ ?_
  refine g_aload_n h 0 dX1_init_4 rfl rfl ?_
  refine g_iload_n h 1 dX1_init_5 rfl rfl ?_
  refine g_putF (fs' := [_, _, _]) h hn 0 fp_X1_9 dX1_init_6 h1 (Nat.le_of_ble_eq_true rfl) rfl rfl rfl ?_
  refine g_aload_n h 0 dX1_init_9 rfl rfl ?_
  refine g_iload_n h 2 dX1_init_10 rfl rfl ?_
  refine g_putF (fs' := [_, _, _]) h hn 1 fp_X1_15 dX1_init_11 sup_eq (Nat.le_of_ble_eq_true rfl) rfl rfl rfl ?_
  refine g_sto sup_sup ?_
  refine g_aload_n h 0 dX1_init_14 rfl rfl ?_
  refine g_iload_n h 3 dX1_init_15 rfl rfl ?_
  refine g_putF (fs' := [_, _, _]) h hn 2 fp_X1_18 dX1_init_16 sup_eq (Nat.le_of_ble_eq_true rfl) rfl rfl rfl ?_
  refine g_sto sup_sup ?_
  exact g_vret h hr dX1_init_19 (⟨rfl, rfl⟩) (Nat.le_of_ble_eq_true rfl) (Nat.le_of_ble_eq_true rfl)
abbrev rm_X1_lastState : Room := { frames := 0, cells := 0, slots := 0, locals := 0 }
set_option maxRecDepth 100000 in
set_option maxHeartbeats 4000000 in
theorem c_X1_lastState (l : Launch) (E : EnvD) (σ : Sto) {a so x y : Nat} (h1 : σ.1 a = some (cO 1 [.int (nI so), .int (nI x), .int (nI y)])) (hs : so < 7) (hx : x < 100) (hy : y < 100) : CC l yX1_lastState cX1_lastState 1 (some .int) rm_X1_lastState E [.ref a] σ (fun o s => o = some (.int (nI (lastS so y))) ∧ s = σ) := by
  refine cc_of (vs := [_]) (by decide) (Nat.le_of_ble_eq_true rfl) rfl ?_
  intro X h hr hn
  refine g_aload_n h 0 dX1_lastState_0 rfl rfl ?_
  refine g_get h 0 fa_X1_9 dX1_lastState_1 h1 rfl ?_
  refine g_iconst h (nI 1) dX1_lastState_4 (by decide) ?_
  refine g_icmp_neN h 17 dX1_lastState_5 (by decide) (by omega) (by decide) (fun c5_1 => ?_) (fun c5_1 => ?_)
  · skip
    refine g_iconst h (nI 3) dX1_lastState_17 (by decide) ?_
    exact g_iret h hr dX1_lastState_18 (retI (congrArg nI (by unfold lastS; rw [if_neg c5_1]))) (Nat.le_of_ble_eq_true rfl) (Nat.le_of_ble_eq_true rfl)
  · skip
    refine g_aload_n h 0 dX1_lastState_8 rfl rfl ?_
    refine g_get h 2 fa_X1_18 dX1_lastState_9 h1 rfl ?_
    refine g_iconst h (nI 1) dX1_lastState_12 (by decide) ?_
    refine g_iaddN h dX1_lastState_13 ?_
    refine g_goto h 18 dX1_lastState_14 (by decide) ?_
    exact g_iret h hr dX1_lastState_18 (retI (congrArg nI (by unfold lastS; rw [if_pos c5_1]))) (Nat.le_of_ble_eq_true rfl) (Nat.le_of_ble_eq_true rfl)
abbrev rm_X1_next : Room := { frames := 0, cells := 0, slots := 0, locals := 0 }
set_option maxRecDepth 100000 in
set_option maxHeartbeats 4000000 in
theorem c_X1_next (l : Launch) (E : EnvD) (σ : Sto) {a so x y : Nat} (h1 : σ.1 a = some (cO 1 [.int (nI so), .int (nI x), .int (nI y)])) (hs : so < 7) (hx : x < 100) (hy : y < 100) {st : Nat} (h2 : st ≤ 100) (ln : Int32) : CC l yX1_next cX1_next 3 (some .int) rm_X1_next E [.ref a, .int (nI st), .int ln] σ (fun o s => o = some (.int (nI (nx so x y st ln))) ∧ s = σ) := by
  refine cc_of (vs := [_, _, _]) (by decide) (Nat.le_of_ble_eq_true rfl) rfl ?_
  intro X h hr hn
  rcases (show so = 0 ∨ so = 1 ∨ so = 2 ∨ so = 3 ∨ so = 4 ∨ so = 5 ∨ so = 6 by omega) with rfl | rfl | rfl | rfl | rfl | rfl | rfl
  · skip
    refine g_aload_n h 0 dX1_next_0 rfl rfl ?_
    refine g_get h 0 fa_X1_9 dX1_next_1 h1 rfl ?_
    refine g_tabOut h 193 dX1_next_4 (by decide) (by decide) ?_
    refine g_iload_n h 2 dX1_next_193 rfl rfl ?_
    refine g_aload_n h 0 dX1_next_194 rfl rfl ?_
    refine g_get h 1 fa_X1_15 dX1_next_195 h1 rfl ?_
    refine g_icmp_ne h 205 dX1_next_198 (by decide) (fun c198_1 => ?_) (fun c198_1 => ?_)
    · skip
      refine g_iload_n h 1 dX1_next_205 rfl rfl ?_
      exact g_iret h hr dX1_next_206 (retI (congrArg nI (by have hx9 := hx; have hy9 := hy; unfold nx; grind))) (Nat.le_of_ble_eq_true rfl) (Nat.le_of_ble_eq_true rfl)
    · skip
      refine g_iconst h (nI 1) dX1_next_201 (by decide) ?_
      refine g_goto h 206 dX1_next_202 (by decide) ?_
      exact g_iret h hr dX1_next_206 (retI (congrArg nI (by have hx9 := hx; have hy9 := hy; unfold nx; grind))) (Nat.le_of_ble_eq_true rfl) (Nat.le_of_ble_eq_true rfl)
  · skip
    refine g_aload_n h 0 dX1_next_0 rfl rfl ?_
    refine g_get h 0 fa_X1_9 dX1_next_1 h1 rfl ?_
    refine g_tabIn (off := 40) h 44 dX1_next_4 (by decide) (by decide) rfl (by decide) ?_
    refine g_iload_n h 2 dX1_next_44 rfl rfl ?_
    refine g_aload_n h 0 dX1_next_45 rfl rfl ?_
    refine g_get h 1 fa_X1_15 dX1_next_46 h1 rfl ?_
    refine g_icmp_ne h 66 dX1_next_49 (by decide) (fun c49_2 => ?_) (fun c49_2 => ?_)
    · skip
      refine g_iload_n h 1 dX1_next_66 rfl rfl ?_
      exact g_iret h hr dX1_next_67 (retI (congrArg nI (by have hx9 := hx; have hy9 := hy; unfold nx; grind))) (Nat.le_of_ble_eq_true rfl) (Nat.le_of_ble_eq_true rfl)
    · skip
      refine g_iload_n h 1 dX1_next_52 rfl rfl ?_
      refine g_aload_n h 0 dX1_next_53 rfl rfl ?_
      refine g_get h 2 fa_X1_18 dX1_next_54 h1 rfl ?_
      refine g_icmp_gtN h 66 dX1_next_57 (by decide) (by omega) (by omega) (fun c57_3 => ?_) (fun c57_3 => ?_)
      · skip
        refine g_iload_n h 1 dX1_next_66 rfl rfl ?_
        exact g_iret h hr dX1_next_67 (retI (congrArg nI (by have hx9 := hx; have hy9 := hy; unfold nx; grind))) (Nat.le_of_ble_eq_true rfl) (Nat.le_of_ble_eq_true rfl)
      · skip
        refine g_iload_n h 1 dX1_next_60 rfl rfl ?_
        refine g_iconst h (nI 1) dX1_next_61 (by decide) ?_
        refine g_iaddN h dX1_next_62 ?_
        refine g_goto h 67 dX1_next_63 (by decide) ?_
        exact g_iret h hr dX1_next_67 (retI (congrArg nI (by have hx9 := hx; have hy9 := hy; unfold nx; grind))) (Nat.le_of_ble_eq_true rfl) (Nat.le_of_ble_eq_true rfl)
  · skip
    refine g_aload_n h 0 dX1_next_0 rfl rfl ?_
    refine g_get h 0 fa_X1_9 dX1_next_1 h1 rfl ?_
    refine g_tabIn (off := 64) h 68 dX1_next_4 (by decide) (by decide) rfl (by decide) ?_
    refine g_iload_n h 1 dX1_next_68 rfl rfl ?_
    refine g_if_eqN h 74 dX1_next_69 (by decide) (by omega) (fun c69_4 => ?_) (fun c69_4 => ?_)
    · skip
      refine g_iload_n h 2 dX1_next_74 rfl rfl ?_
      refine g_aload_n h 0 dX1_next_75 rfl rfl ?_
      refine g_get h 1 fa_X1_15 dX1_next_76 h1 rfl ?_
      refine g_icmp_ne h 84 dX1_next_79 (by decide) (fun c79_5 => ?_) (fun c79_5 => ?_)
      · skip
        refine g_iload_n h 2 dX1_next_84 rfl rfl ?_
        refine g_aload_n h 0 dX1_next_85 rfl rfl ?_
        refine g_get h 2 fa_X1_18 dX1_next_86 h1 rfl ?_
        refine g_icmp_ne h 96 dX1_next_89 (by decide) (fun c89_6 => ?_) (fun c89_6 => ?_)
        · skip
          refine g_iconst h (nI 0) dX1_next_96 (by decide) ?_
          exact g_iret h hr dX1_next_97 (retI (congrArg nI (by have hx9 := hx; have hy9 := hy; unfold nx; grind))) (Nat.le_of_ble_eq_true rfl) (Nat.le_of_ble_eq_true rfl)
        · skip
          refine g_iconst h (nI 1) dX1_next_92 (by decide) ?_
          refine g_goto h 97 dX1_next_93 (by decide) ?_
          exact g_iret h hr dX1_next_97 (retI (congrArg nI (by have hx9 := hx; have hy9 := hy; unfold nx; grind))) (Nat.le_of_ble_eq_true rfl) (Nat.le_of_ble_eq_true rfl)
      · skip
        refine g_iconst h (nI 2) dX1_next_82 (by decide) ?_
        exact g_iret h hr dX1_next_83 (retI (congrArg nI (by have hx9 := hx; have hy9 := hy; unfold nx; grind))) (Nat.le_of_ble_eq_true rfl) (Nat.le_of_ble_eq_true rfl)
    · skip
      refine g_iload_n h 1 dX1_next_72 rfl rfl ?_
      exact g_iret h hr dX1_next_73 (retI (congrArg nI (by have hx9 := hx; have hy9 := hy; unfold nx; grind))) (Nat.le_of_ble_eq_true rfl) (Nat.le_of_ble_eq_true rfl)
  · skip
    refine g_aload_n h 0 dX1_next_0 rfl rfl ?_
    refine g_get h 0 fa_X1_9 dX1_next_1 h1 rfl ?_
    refine g_tabIn (off := 94) h 98 dX1_next_4 (by decide) (by decide) rfl (by decide) ?_
    refine g_iload_n h 1 dX1_next_98 rfl rfl ?_
    refine g_iload_n h 2 dX1_next_99 rfl rfl ?_
    refine g_aload_n h 0 dX1_next_100 rfl rfl ?_
    refine g_get h 1 fa_X1_15 dX1_next_101 h1 rfl ?_
    refine g_icmp_ne h 111 dX1_next_104 (by decide) (fun c104_7 => ?_) (fun c104_7 => ?_)
    · skip
      refine g_iconst h (nI 0) dX1_next_111 (by decide) ?_
      refine g_ior h dX1_next_112 ?_
      refine g_top (nI_or _ _) ?_
      refine g_iload_n h 2 dX1_next_113 rfl rfl ?_
      refine g_aload_n h 0 dX1_next_114 rfl rfl ?_
      refine g_get h 2 fa_X1_18 dX1_next_115 h1 rfl ?_
      refine g_icmp_ne h 125 dX1_next_118 (by decide) (fun c118_8 => ?_) (fun c118_8 => ?_)
      · skip
        refine g_iconst h (nI 0) dX1_next_125 (by decide) ?_
        refine g_ior h dX1_next_126 ?_
        refine g_top (nI_or _ _) ?_
        exact g_iret h hr dX1_next_127 (retI (congrArg nI (by have hx9 := hx; have hy9 := hy; unfold nx; grind))) (Nat.le_of_ble_eq_true rfl) (Nat.le_of_ble_eq_true rfl)
      · skip
        refine g_iconst h (nI 2) dX1_next_121 (by decide) ?_
        refine g_goto h 126 dX1_next_122 (by decide) ?_
        refine g_ior h dX1_next_126 ?_
        refine g_top (nI_or _ _) ?_
        exact g_iret h hr dX1_next_127 (retI (congrArg nI (by have hx9 := hx; have hy9 := hy; unfold nx; grind))) (Nat.le_of_ble_eq_true rfl) (Nat.le_of_ble_eq_true rfl)
    · skip
      refine g_iconst h (nI 1) dX1_next_107 (by decide) ?_
      refine g_goto h 112 dX1_next_108 (by decide) ?_
      refine g_ior h dX1_next_112 ?_
      refine g_top (nI_or _ _) ?_
      refine g_iload_n h 2 dX1_next_113 rfl rfl ?_
      refine g_aload_n h 0 dX1_next_114 rfl rfl ?_
      refine g_get h 2 fa_X1_18 dX1_next_115 h1 rfl ?_
      refine g_icmp_ne h 125 dX1_next_118 (by decide) (fun c118_9 => ?_) (fun c118_9 => ?_)
      · skip
        refine g_iconst h (nI 0) dX1_next_125 (by decide) ?_
        refine g_ior h dX1_next_126 ?_
        refine g_top (nI_or _ _) ?_
        exact g_iret h hr dX1_next_127 (retI (congrArg nI (by have hx9 := hx; have hy9 := hy; unfold nx; grind))) (Nat.le_of_ble_eq_true rfl) (Nat.le_of_ble_eq_true rfl)
      · skip
        refine g_iconst h (nI 2) dX1_next_121 (by decide) ?_
        refine g_goto h 126 dX1_next_122 (by decide) ?_
        refine g_ior h dX1_next_126 ?_
        refine g_top (nI_or _ _) ?_
        exact g_iret h hr dX1_next_127 (retI (congrArg nI (by have hx9 := hx; have hy9 := hy; unfold nx; grind))) (Nat.le_of_ble_eq_true rfl) (Nat.le_of_ble_eq_true rfl)
  · skip
    refine g_aload_n h 0 dX1_next_0 rfl rfl ?_
    refine g_get h 0 fa_X1_9 dX1_next_1 h1 rfl ?_
    refine g_tabIn (off := 189) h 193 dX1_next_4 (by decide) (by decide) rfl (by decide) ?_
    refine g_iload_n h 2 dX1_next_193 rfl rfl ?_
    refine g_aload_n h 0 dX1_next_194 rfl rfl ?_
    refine g_get h 1 fa_X1_15 dX1_next_195 h1 rfl ?_
    refine g_icmp_ne h 205 dX1_next_198 (by decide) (fun c198_10 => ?_) (fun c198_10 => ?_)
    · skip
      refine g_iload_n h 1 dX1_next_205 rfl rfl ?_
      exact g_iret h hr dX1_next_206 (retI (congrArg nI (by have hx9 := hx; have hy9 := hy; unfold nx; grind))) (Nat.le_of_ble_eq_true rfl) (Nat.le_of_ble_eq_true rfl)
    · skip
      refine g_iconst h (nI 1) dX1_next_201 (by decide) ?_
      refine g_goto h 206 dX1_next_202 (by decide) ?_
      exact g_iret h hr dX1_next_206 (retI (congrArg nI (by have hx9 := hx; have hy9 := hy; unfold nx; grind))) (Nat.le_of_ble_eq_true rfl) (Nat.le_of_ble_eq_true rfl)
  · skip
    refine g_aload_n h 0 dX1_next_0 rfl rfl ?_
    refine g_get h 0 fa_X1_9 dX1_next_1 h1 rfl ?_
    refine g_tabIn (off := 124) h 128 dX1_next_4 (by decide) (by decide) rfl (by decide) ?_
    refine g_iload_n h 1 dX1_next_128 rfl rfl ?_
    refine g_iconst h (nI 2) dX1_next_129 (by decide) ?_
    refine g_icmp_eqN h 145 dX1_next_130 (by decide) (by omega) (by decide) (fun c130_11 => ?_) (fun c130_11 => ?_)
    · skip
      refine g_iconst h (nI 2) dX1_next_145 (by decide) ?_
      exact g_iret h hr dX1_next_146 (retI (congrArg nI (by have hx9 := hx; have hy9 := hy; unfold nx; grind))) (Nat.le_of_ble_eq_true rfl) (Nat.le_of_ble_eq_true rfl)
    · skip
      refine g_iload_n h 1 dX1_next_133 rfl rfl ?_
      refine g_if_neN h 147 dX1_next_134 (by decide) (by omega) (fun c134_12 => ?_) (fun c134_12 => ?_)
      · skip
        refine g_iload_n h 2 dX1_next_147 rfl rfl ?_
        refine g_aload_n h 0 dX1_next_148 rfl rfl ?_
        refine g_get h 2 fa_X1_18 dX1_next_149 h1 rfl ?_
        refine g_icmp_ne h 159 dX1_next_152 (by decide) (fun c152_13 => ?_) (fun c152_13 => ?_)
        · skip
          refine g_iconst h (nI 0) dX1_next_159 (by decide) ?_
          exact g_iret h hr dX1_next_160 (retI (congrArg nI (by have hx9 := hx; have hy9 := hy; unfold nx; grind))) (Nat.le_of_ble_eq_true rfl) (Nat.le_of_ble_eq_true rfl)
        · skip
          refine g_iconst h (nI 1) dX1_next_155 (by decide) ?_
          refine g_goto h 160 dX1_next_156 (by decide) ?_
          exact g_iret h hr dX1_next_160 (retI (congrArg nI (by have hx9 := hx; have hy9 := hy; unfold nx; grind))) (Nat.le_of_ble_eq_true rfl) (Nat.le_of_ble_eq_true rfl)
      · skip
        refine g_iload_n h 2 dX1_next_137 rfl rfl ?_
        refine g_aload_n h 0 dX1_next_138 rfl rfl ?_
        refine g_get h 1 fa_X1_15 dX1_next_139 h1 rfl ?_
        refine g_icmp_ne h 147 dX1_next_142 (by decide) (fun c142_14 => ?_) (fun c142_14 => ?_)
        · skip
          refine g_iload_n h 2 dX1_next_147 rfl rfl ?_
          refine g_aload_n h 0 dX1_next_148 rfl rfl ?_
          refine g_get h 2 fa_X1_18 dX1_next_149 h1 rfl ?_
          refine g_icmp_ne h 159 dX1_next_152 (by decide) (fun c152_15 => ?_) (fun c152_15 => ?_)
          · skip
            refine g_iconst h (nI 0) dX1_next_159 (by decide) ?_
            exact g_iret h hr dX1_next_160 (retI (congrArg nI (by have hx9 := hx; have hy9 := hy; unfold nx; grind))) (Nat.le_of_ble_eq_true rfl) (Nat.le_of_ble_eq_true rfl)
          · skip
            refine g_iconst h (nI 1) dX1_next_155 (by decide) ?_
            refine g_goto h 160 dX1_next_156 (by decide) ?_
            exact g_iret h hr dX1_next_160 (retI (congrArg nI (by have hx9 := hx; have hy9 := hy; unfold nx; grind))) (Nat.le_of_ble_eq_true rfl) (Nat.le_of_ble_eq_true rfl)
        · skip
          refine g_iconst h (nI 2) dX1_next_145 (by decide) ?_
          exact g_iret h hr dX1_next_146 (retI (congrArg nI (by have hx9 := hx; have hy9 := hy; unfold nx; grind))) (Nat.le_of_ble_eq_true rfl) (Nat.le_of_ble_eq_true rfl)
  · skip
    refine g_aload_n h 0 dX1_next_0 rfl rfl ?_
    refine g_get h 0 fa_X1_9 dX1_next_1 h1 rfl ?_
    refine g_tabIn (off := 157) h 161 dX1_next_4 (by decide) (by decide) rfl (by decide) ?_
    refine g_iload_n h 1 dX1_next_161 rfl rfl ?_
    refine g_if_neN h 179 dX1_next_162 (by decide) (by omega) (fun c162_16 => ?_) (fun c162_16 => ?_)
    · skip
      refine g_iload_n h 2 dX1_next_179 rfl rfl ?_
      refine g_aload_n h 0 dX1_next_180 rfl rfl ?_
      refine g_get h 2 fa_X1_18 dX1_next_181 h1 rfl ?_
      refine g_icmp_ne h 191 dX1_next_184 (by decide) (fun c184_17 => ?_) (fun c184_17 => ?_)
      · skip
        refine g_iload_n h 1 dX1_next_191 rfl rfl ?_
        exact g_iret h hr dX1_next_192 (retI (congrArg nI (by have hx9 := hx; have hy9 := hy; unfold nx; grind))) (Nat.le_of_ble_eq_true rfl) (Nat.le_of_ble_eq_true rfl)
      · skip
        refine g_iconst h (nI 2) dX1_next_187 (by decide) ?_
        refine g_goto h 192 dX1_next_188 (by decide) ?_
        exact g_iret h hr dX1_next_192 (retI (congrArg nI (by have hx9 := hx; have hy9 := hy; unfold nx; grind))) (Nat.le_of_ble_eq_true rfl) (Nat.le_of_ble_eq_true rfl)
    · skip
      refine g_iload_n h 2 dX1_next_165 rfl rfl ?_
      refine g_aload_n h 0 dX1_next_166 rfl rfl ?_
      refine g_get h 1 fa_X1_15 dX1_next_167 h1 rfl ?_
      refine g_icmp_ne h 177 dX1_next_170 (by decide) (fun c170_18 => ?_) (fun c170_18 => ?_)
      · skip
        refine g_iconst h (nI 0) dX1_next_177 (by decide) ?_
        exact g_iret h hr dX1_next_178 (retI (congrArg nI (by have hx9 := hx; have hy9 := hy; unfold nx; grind))) (Nat.le_of_ble_eq_true rfl) (Nat.le_of_ble_eq_true rfl)
      · skip
        refine g_iconst h (nI 1) dX1_next_173 (by decide) ?_
        refine g_goto h 178 dX1_next_174 (by decide) ?_
        exact g_iret h hr dX1_next_178 (retI (congrArg nI (by have hx9 := hx; have hy9 := hy; unfold nx; grind))) (Nat.le_of_ble_eq_true rfl) (Nat.le_of_ble_eq_true rfl)
abbrev rm_X1_isBroken : Room := { frames := 0, cells := 0, slots := 0, locals := 0 }
set_option maxRecDepth 100000 in
set_option maxHeartbeats 4000000 in
theorem c_X1_isBroken (l : Launch) (E : EnvD) (σ : Sto) {a so x y : Nat} (h1 : σ.1 a = some (cO 1 [.int (nI so), .int (nI x), .int (nI y)])) (hs : so < 7) (hx : x < 100) (hy : y < 100) {st : Nat} (h2 : st ≤ 100) : CC l yX1_isBroken cX1_isBroken 2 (some .boolean) rm_X1_isBroken E [.ref a, .int (nI st)] σ (fun o s => o = some (.int (bI (brk so y st))) ∧ s = σ) := by
  refine cc_of (vs := [_, _]) (by decide) (Nat.le_of_ble_eq_true rfl) rfl ?_
  intro X h hr hn
  rcases (show so = 0 ∨ so = 1 ∨ so = 2 ∨ so = 3 ∨ so = 4 ∨ so = 5 ∨ so = 6 by omega) with rfl | rfl | rfl | rfl | rfl | rfl | rfl
  · skip
    refine g_aload_n h 0 dX1_isBroken_0 rfl rfl ?_
    refine g_get h 0 fa_X1_9 dX1_isBroken_1 h1 rfl ?_
    refine g_tabIn (off := 36) h 40 dX1_isBroken_4 (by decide) (by decide) rfl (by decide) ?_
    refine g_iload_n h 1 dX1_isBroken_40 rfl rfl ?_
    refine g_iconst h (nI 1) dX1_isBroken_41 (by decide) ?_
    refine g_icmp_neN h 49 dX1_isBroken_42 (by decide) (by omega) (by decide) (fun c42_1 => ?_) (fun c42_1 => ?_)
    · skip
      refine g_iconst h (nI 0) dX1_isBroken_49 (by decide) ?_
      exact g_zret h hr rfl dX1_isBroken_50 (ret0 (by unfold brk; grind)) (Nat.le_of_ble_eq_true rfl) (Nat.le_of_ble_eq_true rfl)
    · skip
      refine g_iconst h (nI 1) dX1_isBroken_45 (by decide) ?_
      refine g_goto h 50 dX1_isBroken_46 (by decide) ?_
      exact g_zret h hr rfl dX1_isBroken_50 (ret1 (by unfold brk; grind)) (Nat.le_of_ble_eq_true rfl) (Nat.le_of_ble_eq_true rfl)
  · skip
    refine g_aload_n h 0 dX1_isBroken_0 rfl rfl ?_
    refine g_get h 0 fa_X1_9 dX1_isBroken_1 h1 rfl ?_
    refine g_tabIn (off := 47) h 51 dX1_isBroken_4 (by decide) (by decide) rfl (by decide) ?_
    refine g_iload_n h 1 dX1_isBroken_51 rfl rfl ?_
    refine g_aload_n h 0 dX1_isBroken_52 rfl rfl ?_
    refine g_get h 2 fa_X1_18 dX1_isBroken_53 h1 rfl ?_
    refine g_icmp_leN h 63 dX1_isBroken_56 (by decide) (by omega) (by omega) (fun c56_2 => ?_) (fun c56_2 => ?_)
    · skip
      refine g_iconst h (nI 0) dX1_isBroken_63 (by decide) ?_
      exact g_zret h hr rfl dX1_isBroken_64 (ret0 (by unfold brk; grind)) (Nat.le_of_ble_eq_true rfl) (Nat.le_of_ble_eq_true rfl)
    · skip
      refine g_iconst h (nI 1) dX1_isBroken_59 (by decide) ?_
      refine g_goto h 64 dX1_isBroken_60 (by decide) ?_
      exact g_zret h hr rfl dX1_isBroken_64 (ret1 (by unfold brk; grind)) (Nat.le_of_ble_eq_true rfl) (Nat.le_of_ble_eq_true rfl)
  · skip
    refine g_aload_n h 0 dX1_isBroken_0 rfl rfl ?_
    refine g_get h 0 fa_X1_9 dX1_isBroken_1 h1 rfl ?_
    refine g_tabIn (off := 82) h 86 dX1_isBroken_4 (by decide) (by decide) rfl (by decide) ?_
    refine g_iload_n h 1 dX1_isBroken_86 rfl rfl ?_
    refine g_iconst h (nI 2) dX1_isBroken_87 (by decide) ?_
    refine g_icmp_neN h 95 dX1_isBroken_88 (by decide) (by omega) (by decide) (fun c88_3 => ?_) (fun c88_3 => ?_)
    · skip
      refine g_iconst h (nI 0) dX1_isBroken_95 (by decide) ?_
      exact g_zret h hr rfl dX1_isBroken_96 (ret0 (by unfold brk; grind)) (Nat.le_of_ble_eq_true rfl) (Nat.le_of_ble_eq_true rfl)
    · skip
      refine g_iconst h (nI 1) dX1_isBroken_91 (by decide) ?_
      refine g_goto h 96 dX1_isBroken_92 (by decide) ?_
      exact g_zret h hr rfl dX1_isBroken_96 (ret1 (by unfold brk; grind)) (Nat.le_of_ble_eq_true rfl) (Nat.le_of_ble_eq_true rfl)
  · skip
    refine g_aload_n h 0 dX1_isBroken_0 rfl rfl ?_
    refine g_get h 0 fa_X1_9 dX1_isBroken_1 h1 rfl ?_
    refine g_tabIn (off := 61) h 65 dX1_isBroken_4 (by decide) (by decide) rfl (by decide) ?_
    refine g_iload_n h 1 dX1_isBroken_65 rfl rfl ?_
    refine g_iconst h (nI 3) dX1_isBroken_66 (by decide) ?_
    refine g_icmp_neN h 74 dX1_isBroken_67 (by decide) (by omega) (by decide) (fun c67_4 => ?_) (fun c67_4 => ?_)
    · skip
      refine g_iconst h (nI 0) dX1_isBroken_74 (by decide) ?_
      exact g_zret h hr rfl dX1_isBroken_75 (ret0 (by unfold brk; grind)) (Nat.le_of_ble_eq_true rfl) (Nat.le_of_ble_eq_true rfl)
    · skip
      refine g_iconst h (nI 1) dX1_isBroken_70 (by decide) ?_
      refine g_goto h 75 dX1_isBroken_71 (by decide) ?_
      exact g_zret h hr rfl dX1_isBroken_75 (ret1 (by unfold brk; grind)) (Nat.le_of_ble_eq_true rfl) (Nat.le_of_ble_eq_true rfl)
  · skip
    refine g_aload_n h 0 dX1_isBroken_0 rfl rfl ?_
    refine g_get h 0 fa_X1_9 dX1_isBroken_1 h1 rfl ?_
    refine g_tabIn (off := 72) h 76 dX1_isBroken_4 (by decide) (by decide) rfl (by decide) ?_
    refine g_iload_n h 1 dX1_isBroken_76 rfl rfl ?_
    refine g_if_neN h 84 dX1_isBroken_77 (by decide) (by omega) (fun c77_5 => ?_) (fun c77_5 => ?_)
    · skip
      refine g_iconst h (nI 0) dX1_isBroken_84 (by decide) ?_
      exact g_zret h hr rfl dX1_isBroken_85 (ret0 (by unfold brk; grind)) (Nat.le_of_ble_eq_true rfl) (Nat.le_of_ble_eq_true rfl)
    · skip
      refine g_iconst h (nI 1) dX1_isBroken_80 (by decide) ?_
      refine g_goto h 85 dX1_isBroken_81 (by decide) ?_
      exact g_zret h hr rfl dX1_isBroken_85 (ret1 (by unfold brk; grind)) (Nat.le_of_ble_eq_true rfl) (Nat.le_of_ble_eq_true rfl)
  · skip
    refine g_aload_n h 0 dX1_isBroken_0 rfl rfl ?_
    refine g_get h 0 fa_X1_9 dX1_isBroken_1 h1 rfl ?_
    refine g_tabOut h 86 dX1_isBroken_4 (by decide) (by decide) ?_
    refine g_iload_n h 1 dX1_isBroken_86 rfl rfl ?_
    refine g_iconst h (nI 2) dX1_isBroken_87 (by decide) ?_
    refine g_icmp_neN h 95 dX1_isBroken_88 (by decide) (by omega) (by decide) (fun c88_6 => ?_) (fun c88_6 => ?_)
    · skip
      refine g_iconst h (nI 0) dX1_isBroken_95 (by decide) ?_
      exact g_zret h hr rfl dX1_isBroken_96 (ret0 (by unfold brk; grind)) (Nat.le_of_ble_eq_true rfl) (Nat.le_of_ble_eq_true rfl)
    · skip
      refine g_iconst h (nI 1) dX1_isBroken_91 (by decide) ?_
      refine g_goto h 96 dX1_isBroken_92 (by decide) ?_
      exact g_zret h hr rfl dX1_isBroken_96 (ret1 (by unfold brk; grind)) (Nat.le_of_ble_eq_true rfl) (Nat.le_of_ble_eq_true rfl)
  · skip
    refine g_aload_n h 0 dX1_isBroken_0 rfl rfl ?_
    refine g_get h 0 fa_X1_9 dX1_isBroken_1 h1 rfl ?_
    refine g_tabOut h 86 dX1_isBroken_4 (by decide) (by decide) ?_
    refine g_iload_n h 1 dX1_isBroken_86 rfl rfl ?_
    refine g_iconst h (nI 2) dX1_isBroken_87 (by decide) ?_
    refine g_icmp_neN h 95 dX1_isBroken_88 (by decide) (by omega) (by decide) (fun c88_7 => ?_) (fun c88_7 => ?_)
    · skip
      refine g_iconst h (nI 0) dX1_isBroken_95 (by decide) ?_
      exact g_zret h hr rfl dX1_isBroken_96 (ret0 (by unfold brk; grind)) (Nat.le_of_ble_eq_true rfl) (Nat.le_of_ble_eq_true rfl)
    · skip
      refine g_iconst h (nI 1) dX1_isBroken_91 (by decide) ?_
      refine g_goto h 96 dX1_isBroken_92 (by decide) ?_
      exact g_zret h hr rfl dX1_isBroken_96 (ret1 (by unfold brk; grind)) (Nat.le_of_ble_eq_true rfl) (Nat.le_of_ble_eq_true rfl)
abbrev rm_X5_rowOf : Room := { frames := 0, cells := 0, slots := 0, locals := 0 }
set_option maxRecDepth 100000 in
set_option maxHeartbeats 4000000 in
theorem c_X5_rowOf_in (l : Launch) (E : EnvD) (σ : Sto) {a m i b : Nat} {f : Nat → Option Nat} (h1 : σ.1 a = some (cQ E 2 m f)) (hm : m < 1000) (hi : i < m) (hf : f i = some b) : CC l yX5_rowOf cX5_rowOf 2 (some (.object "PlayReader$Row")) rm_X5_rowOf E [.ref a, .int (nI i)] σ (fun o s => o = some (.ref b) ∧ s = σ) := by
  refine cc_of (vs := [_, _]) (by decide) (Nat.le_of_ble_eq_true rfl) rfl ?_
  intro X h hr hn
  refine g_iload_n h 1 dX5_rowOf_0 rfl rfl ?_
  refine g_if_ltN h 16 dX5_rowOf_1 (by decide) (by omega) ?_
  refine g_iload_n h 1 dX5_rowOf_4 rfl rfl ?_
  refine g_aload_n h 0 dX5_rowOf_5 rfl rfl ?_
  refine g_alen (v := nI m) h 2 dX5_rowOf_6 rfl h1 rfl ?_
  refine g_icmp_geN h 16 dX5_rowOf_7 (by decide) (by omega) (by omega) (fun c7_2 => absurd c7_2 (by omega)) (fun c7_2 => ?_)
  refine g_aload_n h 0 dX5_rowOf_10 rfl rfl ?_
  refine g_iload_n h 1 dX5_rowOf_11 rfl rfl ?_
  refine g_aald h 2 (v := .ref b) dX5_rowOf_12 rfl rfl h1 (by omega) (by omega) (by rw [hf]; rfl) ?_
  refine g_goto h 17 dX5_rowOf_13 (by decide) ?_
  exact g_aret h hr (Or.inr ⟨_, rfl⟩) dX5_rowOf_17 (⟨rfl, rfl⟩) (Nat.le_of_ble_eq_true rfl) (Nat.le_of_ble_eq_true rfl)
set_option maxRecDepth 100000 in
set_option maxHeartbeats 4000000 in
theorem c_X5_rowOf_out (l : Launch) (E : EnvD) (σ : Sto) {a m : Nat} {f : Nat → Option Nat} (x : Int32) (h1 : σ.1 a = some (cQ E 2 m f)) (hm : m < 1000) (hx : ¬ inR x m) : CC l yX5_rowOf cX5_rowOf 2 (some (.object "PlayReader$Row")) rm_X5_rowOf E [.ref a, .int x] σ (fun o s => o = some .null ∧ s = σ) := by
  refine cc_of (vs := [_, _]) (by decide) (Nat.le_of_ble_eq_true rfl) rfl ?_
  intro X h hr hn
  refine g_iload_n h 1 dX5_rowOf_0 rfl rfl ?_
  refine g_if_lt h 16 dX5_rowOf_1 (by decide) (fun c1_1 => ?_) (fun c1_1 => ?_)
  · skip
    refine g_null h dX5_rowOf_16 ?_
    exact g_aret h hr (Or.inl rfl) dX5_rowOf_17 (⟨rfl, rfl⟩) (Nat.le_of_ble_eq_true rfl) (Nat.le_of_ble_eq_true rfl)
  · skip
    refine g_iload_n h 1 dX5_rowOf_4 rfl rfl ?_
    refine g_aload_n h 0 dX5_rowOf_5 rfl rfl ?_
    refine g_alen (v := nI m) h 2 dX5_rowOf_6 rfl h1 rfl ?_
    refine g_icmp_ge h 16 dX5_rowOf_7 (by decide) (fun c7_2 => ?_) (fun c7_2 => absurd (inR_of c1_1 c7_2 (by omega)) hx)
    refine g_null h dX5_rowOf_16 ?_
    exact g_aret h hr (Or.inl rfl) dX5_rowOf_17 (⟨rfl, rfl⟩) (Nat.le_of_ble_eq_true rfl) (Nat.le_of_ble_eq_true rfl)
abbrev rm_X5_conditionOf : Room := { frames := 0, cells := 0, slots := 0, locals := 0 }
set_option maxRecDepth 100000 in
set_option maxHeartbeats 4000000 in
theorem c_X5_conditionOf_in (l : Launch) (E : EnvD) (σ : Sto) {z : Nat} {S : PSt} {i b : Nat} {f : Nat → Option Nat} (r0 : C0 z S σ) (h1 : σ.1 (z + 3) = some (cQ E 3 12 f)) (hc : sCn S ≤ 12) (hi : i < sCn S) (hf : f i = some b) : CC l yX5_conditionOf cX5_conditionOf 2 (some (.object "PlayReader$Condition")) rm_X5_conditionOf E [.ref z, .int (nI i)] σ (fun o s => o = some (.ref b) ∧ s = σ) := by
  refine cc_of (vs := [_, _]) (by decide) (Nat.le_of_ble_eq_true rfl) rfl ?_
  intro X h hr hn
  refine g_iload_n h 1 dX5_conditionOf_0 rfl rfl ?_
  refine g_if_ltN h 30 dX5_conditionOf_1 (by decide) (by omega) ?_
  refine g_iload_n h 1 dX5_conditionOf_4 rfl rfl ?_
  refine g_aload_n h 0 dX5_conditionOf_5 rfl rfl ?_
  refine g_get h 8 fa_X5_53 dX5_conditionOf_6 r0 rfl ?_
  refine g_icmp_geN h 30 dX5_conditionOf_9 (by decide) (by omega) (by omega) (fun c9_2 => absurd c9_2 (by omega)) (fun c9_2 => ?_)
  refine g_iload_n h 1 dX5_conditionOf_12 rfl rfl ?_
  refine g_aload_n h 0 dX5_conditionOf_13 rfl rfl ?_
  refine g_get h 2 fa_X5_20 dX5_conditionOf_14 r0 rfl ?_
  refine g_alen (v := nI 12) h 3 dX5_conditionOf_17 rfl h1 rfl ?_
  refine g_icmp_geN h 30 dX5_conditionOf_18 (by decide) (by omega) (by decide) (fun c18_3 => absurd c18_3 (by omega)) (fun c18_3 => ?_)
  refine g_aload_n h 0 dX5_conditionOf_21 rfl rfl ?_
  refine g_get h 2 fa_X5_20 dX5_conditionOf_22 r0 rfl ?_
  refine g_iload_n h 1 dX5_conditionOf_25 rfl rfl ?_
  refine g_aald h 3 (v := .ref b) dX5_conditionOf_26 rfl rfl h1 (by omega) (by omega) (by rw [hf]; rfl) ?_
  refine g_goto h 31 dX5_conditionOf_27 (by decide) ?_
  exact g_aret h hr (Or.inr ⟨_, rfl⟩) dX5_conditionOf_31 (⟨rfl, rfl⟩) (Nat.le_of_ble_eq_true rfl) (Nat.le_of_ble_eq_true rfl)
set_option maxRecDepth 100000 in
set_option maxHeartbeats 4000000 in
theorem c_X5_conditionOf_out (l : Launch) (E : EnvD) (σ : Sto) {z : Nat} {S : PSt} (x : Int32) (r0 : C0 z S σ) (hc : sCn S ≤ 12) (hx : ¬ inR x (sCn S)) : CC l yX5_conditionOf cX5_conditionOf 2 (some (.object "PlayReader$Condition")) rm_X5_conditionOf E [.ref z, .int x] σ (fun o s => o = some .null ∧ s = σ) := by
  refine cc_of (vs := [_, _]) (by decide) (Nat.le_of_ble_eq_true rfl) rfl ?_
  intro X h hr hn
  refine g_iload_n h 1 dX5_conditionOf_0 rfl rfl ?_
  refine g_if_lt h 30 dX5_conditionOf_1 (by decide) (fun c1_1 => ?_) (fun c1_1 => ?_)
  · skip
    refine g_null h dX5_conditionOf_30 ?_
    exact g_aret h hr (Or.inl rfl) dX5_conditionOf_31 (⟨rfl, rfl⟩) (Nat.le_of_ble_eq_true rfl) (Nat.le_of_ble_eq_true rfl)
  · skip
    refine g_iload_n h 1 dX5_conditionOf_4 rfl rfl ?_
    refine g_aload_n h 0 dX5_conditionOf_5 rfl rfl ?_
    refine g_get h 8 fa_X5_53 dX5_conditionOf_6 r0 rfl ?_
    refine g_icmp_ge h 30 dX5_conditionOf_9 (by decide) (fun c9_2 => ?_) (fun c9_2 => absurd (inR_of c1_1 c9_2 (by omega)) hx)
    refine g_null h dX5_conditionOf_30 ?_
    exact g_aret h hr (Or.inl rfl) dX5_conditionOf_31 (⟨rfl, rfl⟩) (Nat.le_of_ble_eq_true rfl) (Nat.le_of_ble_eq_true rfl)
abbrev rm_X5_ruleOf : Room := { frames := 0, cells := 0, slots := 0, locals := 0 }
set_option maxRecDepth 100000 in
set_option maxHeartbeats 4000000 in
theorem c_X5_ruleOf_in (l : Launch) (E : EnvD) (σ : Sto) {z : Nat} {S : PSt} {i b : Nat} {f : Nat → Option Nat} (r0 : C0 z S σ) (h1 : σ.1 (z + 4) = some (cQ E 4 20 f)) (hc : sRn S ≤ 20) (hi : i < sRn S) (hf : f i = some b) : CC l yX5_ruleOf cX5_ruleOf 2 (some (.object "PlayReader$Rule")) rm_X5_ruleOf E [.ref z, .int (nI i)] σ (fun o s => o = some (.ref b) ∧ s = σ) := by
  refine cc_of (vs := [_, _]) (by decide) (Nat.le_of_ble_eq_true rfl) rfl ?_
  intro X h hr hn
  refine g_iload_n h 1 dX5_ruleOf_0 rfl rfl ?_
  refine g_if_ltN h 30 dX5_ruleOf_1 (by decide) (by omega) ?_
  refine g_iload_n h 1 dX5_ruleOf_4 rfl rfl ?_
  refine g_aload_n h 0 dX5_ruleOf_5 rfl rfl ?_
  refine g_get h 9 fa_X5_57 dX5_ruleOf_6 r0 rfl ?_
  refine g_icmp_geN h 30 dX5_ruleOf_9 (by decide) (by omega) (by omega) (fun c9_2 => absurd c9_2 (by omega)) (fun c9_2 => ?_)
  refine g_iload_n h 1 dX5_ruleOf_12 rfl rfl ?_
  refine g_aload_n h 0 dX5_ruleOf_13 rfl rfl ?_
  refine g_get h 3 fa_X5_26 dX5_ruleOf_14 r0 rfl ?_
  refine g_alen (v := nI 20) h 4 dX5_ruleOf_17 rfl h1 rfl ?_
  refine g_icmp_geN h 30 dX5_ruleOf_18 (by decide) (by omega) (by decide) (fun c18_3 => absurd c18_3 (by omega)) (fun c18_3 => ?_)
  refine g_aload_n h 0 dX5_ruleOf_21 rfl rfl ?_
  refine g_get h 3 fa_X5_26 dX5_ruleOf_22 r0 rfl ?_
  refine g_iload_n h 1 dX5_ruleOf_25 rfl rfl ?_
  refine g_aald h 4 (v := .ref b) dX5_ruleOf_26 rfl rfl h1 (by omega) (by omega) (by rw [hf]; rfl) ?_
  refine g_goto h 31 dX5_ruleOf_27 (by decide) ?_
  exact g_aret h hr (Or.inr ⟨_, rfl⟩) dX5_ruleOf_31 (⟨rfl, rfl⟩) (Nat.le_of_ble_eq_true rfl) (Nat.le_of_ble_eq_true rfl)
set_option maxRecDepth 100000 in
set_option maxHeartbeats 4000000 in
theorem c_X5_ruleOf_out (l : Launch) (E : EnvD) (σ : Sto) {z : Nat} {S : PSt} (x : Int32) (r0 : C0 z S σ) (hc : sRn S ≤ 20) (hx : ¬ inR x (sRn S)) : CC l yX5_ruleOf cX5_ruleOf 2 (some (.object "PlayReader$Rule")) rm_X5_ruleOf E [.ref z, .int x] σ (fun o s => o = some .null ∧ s = σ) := by
  refine cc_of (vs := [_, _]) (by decide) (Nat.le_of_ble_eq_true rfl) rfl ?_
  intro X h hr hn
  refine g_iload_n h 1 dX5_ruleOf_0 rfl rfl ?_
  refine g_if_lt h 30 dX5_ruleOf_1 (by decide) (fun c1_1 => ?_) (fun c1_1 => ?_)
  · skip
    refine g_null h dX5_ruleOf_30 ?_
    exact g_aret h hr (Or.inl rfl) dX5_ruleOf_31 (⟨rfl, rfl⟩) (Nat.le_of_ble_eq_true rfl) (Nat.le_of_ble_eq_true rfl)
  · skip
    refine g_iload_n h 1 dX5_ruleOf_4 rfl rfl ?_
    refine g_aload_n h 0 dX5_ruleOf_5 rfl rfl ?_
    refine g_get h 9 fa_X5_57 dX5_ruleOf_6 r0 rfl ?_
    refine g_icmp_ge h 30 dX5_ruleOf_9 (by decide) (fun c9_2 => ?_) (fun c9_2 => absurd (inR_of c1_1 c9_2 (by omega)) hx)
    refine g_null h dX5_ruleOf_30 ?_
    exact g_aret h hr (Or.inl rfl) dX5_ruleOf_31 (⟨rfl, rfl⟩) (Nat.le_of_ble_eq_true rfl) (Nat.le_of_ble_eq_true rfl)
