/-! conditions: the machine's sets of states (own work; walks by program) -/
theorem nx_le {so x y st : Nat} {ln : Int32} (h : st ≤ lastS so y) : nx so x y st ln ≤ lastS so y := by
  unfold lastS at *
  by_cases h3 : so = 3
  · subst h3
    have h4 : st ≤ 3 := by simpa using h
    have : st = 0 ∨ st = 1 ∨ st = 2 ∨ st = 3 := by omega
    have e : (if (3 : Nat) = 1 then y + 1 else 3) = 3 := if_neg (by decide)
    have key : ∀ a b s : Nat, (a = 0 ∨ a = 1) → (b = 0 ∨ b = 2) → (s = 0 ∨ s = 1 ∨ s = 2 ∨ s = 3) → (s ||| a) ||| b ≤ 3 := by
      rintro _ _ _ (rfl | rfl) (rfl | rfl) (rfl | rfl | rfl | rfl) <;> decide
    rw [e]
    unfold nx
    rw [if_neg (by decide), if_neg (by decide), if_pos rfl]
    exact key _ _ _ (by split <;> simp) (by split <;> simp) this
  · unfold nx
    grind
theorem lastS_le {so y : Nat} (h1 : so = 1 → y ≤ 40) : lastS so y ≤ 41 := by
  unfold lastS
  grind
theorem lcmp0 {x y : Int64} : (if y < x then (1 : Int32) else if x = y then 0 else -1) = 0 ↔ x = y := by
  by_cases h : x = y
  · subst h
    simp [Int64.lt_irrefl]
  · by_cases h2 : y < x <;> simp [h, h2]
theorem bt_ext {a b : Int64} (h : ∀ j, j < 64 → bt a j = bt b j) : a = b := by
  apply Int64.toBitVec_inj.mp
  apply BitVec.eq_of_getLsbD_eq
  intro i hi
  exact h i hi
/-- how many of the first n hold -/
def cnB (p : Nat → Bool) : Nat → Nat
  | 0 => 0
  | n + 1 => cnB p n + (if p n = true then 1 else 0)
theorem cnB_le (p : Nat → Bool) : ∀ n, cnB p n ≤ n
  | 0 => Nat.le_refl 0
  | n + 1 => by
    have := cnB_le p n
    unfold cnB
    split <;> omega
theorem cnB_full {p : Nat → Bool} : ∀ {n}, n ≤ cnB p n → ∀ j, j < n → p j = true
  | 0, _, j, hj => absurd hj (Nat.not_lt_zero j)
  | n + 1, h, j, hj => by
    have h1 := cnB_le p n
    unfold cnB at h
    by_cases hp : p n = true
    · rw [if_pos hp] at h
      rcases Nat.lt_or_ge j n with q | q
      · exact cnB_full (by omega) j q
      · rw [show j = n by omega]; exact hp
    · rw [if_neg hp] at h
      omega
theorem cnB_mono {p q : Nat → Bool} (h : ∀ j, p j = true → q j = true) : ∀ n, cnB p n ≤ cnB q n
  | 0 => Nat.le_refl 0
  | n + 1 => by
    have := cnB_mono h n
    unfold cnB
    by_cases hp : p n = true
    · rw [if_pos hp, if_pos (h n hp)]; omega
    · rw [if_neg hp]; omega
theorem cnB_lt {p q : Nat → Bool} (h : ∀ j, p j = true → q j = true) : ∀ n j, j < n → p j ≠ true → q j = true → cnB p n < cnB q n
  | 0, j, hj, _, _ => absurd hj (Nat.not_lt_zero j)
  | n + 1, j, hj, h1, h2 => by
    unfold cnB
    rcases Nat.lt_or_ge j n with e | e
    · have := cnB_lt h n j e h1 h2
      by_cases hp : p n = true
      · rw [if_pos hp, if_pos (h n hp)]; omega
      · rw [if_neg hp]; omega
    · have e2 : j = n := by omega
      subst e2
      have := cnB_mono h j
      rw [if_neg h1, if_pos h2]
      omega
/-- the set b of states lies within the machine's states -/
def BL (L : Nat) (b : Int64) : Prop := ∀ j, j < 64 → bt b j = true → j ≤ L
def clo (so x y : Nat) (P : Nat → Prop) : Prop := ∀ s, s ≤ lastS so y → P s → P (nx so x y s (nI x)) ∧ P (nx so x y s (nI y)) ∧ P (nx so x y s (-1))
section KX
variable {X : CX} {E : EnvD} {nL : Nat} {A : Nat → Prop} {Q : State → Prop} {k n pc : Nat} {vs : List (Option Value)}
theorem kk_exl {rest : List Value} {σ1 : Sto} {Pb : Int64 → Prop} (kk : ∀ b, Pb b → G X E nL A Q k n pc vs (.long b :: rest) σ1) : ∀ (r : Option Value) (s : Sto), (∃ b, r = some (.long b) ∧ s = σ1 ∧ Pb b) → G X E nL A Q k n pc vs (r.toList ++ rest) s := by
  rintro _ _ ⟨b, rfl, rfl, hb⟩
  exact kk b hb
end KX
abbrev rm_X1_statesBehindLine : Room := { frames := 1, cells := 0, slots := 0, locals := 22 }
set_option maxRecDepth 100000 in
set_option maxHeartbeats 4000000 in
theorem c_X1_statesBehindLine (l : Launch) (E : EnvD) (σ : Sto) {a so x y : Nat} (h1 : σ.1 a = some (cO 1 [.int (nI so), .int (nI x), .int (nI y)])) (hs : so < 7) (hx : x < 100) (hy : y < 100) (hy1 : so = 1 → y ≤ 40) (S : Int64) (ln : Int32) : CC l yX1_statesBehindLine cX1_statesBehindLine 7 (some .long) rm_X1_statesBehindLine E [.ref a, .long S, .int ln] σ (fun o s => ∃ b, o = some (.long b) ∧ s = σ ∧ (BL (lastS so y) b ∧ ∀ j, j ≤ lastS so y → (bt b j = true ↔ ∃ q, q ≤ lastS so y ∧ bt S q = true ∧ nx so x y q ln = j))) := by
  refine cc_of (vs := [_, _, _, _, _, _, _]) (by decide) (Nat.le_of_ble_eq_true rfl) rfl ?_
  intro X h hr hn
  refine g_lconst h 0 dX1_statesBehindLine_0 (by decide) ?_
  refine g_lstore (vs' := [_, _, _, _, _, _, _]) h dX1_statesBehindLine_1 (Nat.le_of_ble_eq_true rfl) rfl rfl ?_
  refine g_iconst h (nI 0) dX1_statesBehindLine_3 (by decide) ?_
  refine g_istore (vs' := [_, _, _, _, _, _, _]) h dX1_statesBehindLine_4 (Nat.le_of_ble_eq_true rfl) rfl rfl ?_
  have hL := lastS_le hy1
  have L6 : ∀ (m0 : Nat) (i : Nat) (b : Int64), (i ≤ lastS so y + 1) → (∀ j, j < 64 → (bt b j = true ↔ ∃ q, q < i ∧ bt S q = true ∧ nx so x y q ln = j)) → (lastS so y + 1 - i) < m0 → G X E 7 (AD σ) (QF X E σ (fun o s => ∃ b, o = some (.long b) ∧ s = σ ∧ (BL (lastS so y) b ∧ ∀ j, j ≤ lastS so y → (bt b j = true ↔ ∃ q, q ≤ lastS so y ∧ bt S q = true ∧ nx so x y q ln = j))) rm_X1_statesBehindLine) 0 0 6 [some (.ref a), some (.long S), none, some (.int ln), some (.long b), none, some (.int (nI i))] [] σ := by
    intro m0
    induction m0 with
    | zero => intro i b _ _ hm0; exact absurd hm0 (Nat.not_lt_zero _)
    | succ m0 ih =>
      intro i b hi hb hm0
      refine g_iload h dX1_statesBehindLine_6 rfl ?_
      refine g_aload_n h 0 dX1_statesBehindLine_8 rfl rfl ?_
      refine g_callV h [_] (c_X1_lastState (xL X) E _ h1 hs hx hy) cf_X1_25 cv_X1_lastState dX1_statesBehindLine_9 rfl h1 rfl rfl (Nat.le_of_ble_eq_true rfl) ⟨(Nat.le_of_ble_eq_true rfl), (Nat.le_of_ble_eq_true rfl)⟩ ⟨(Nat.le_of_ble_eq_true rfl), (Nat.le_of_ble_eq_true rfl)⟩ ?_
      refine kk_det ?_
      refine g_icmp_gtN h 44 dX1_statesBehindLine_12 (by decide) (by omega) (by omega) (fun c12_1 => ?_) (fun c12_1 => ?_)
      · skip
        refine g_lload h dX1_statesBehindLine_44 rfl ?_
        exact g_lret h hr dX1_statesBehindLine_46 (⟨b, rfl, rfl, fun j hj q => by obtain ⟨q1, q2, q3, q4⟩ := (hb j hj).mp q; rw [← q4]; exact nx_le (by omega), fun j hj => (hb j (by omega)).trans ⟨fun ⟨q, q1, q2, q3⟩ => ⟨q, by omega, q2, q3⟩, fun ⟨q, q1, q2, q3⟩ => ⟨q, by omega, q2, q3⟩⟩⟩) (Nat.le_of_ble_eq_true rfl) (Nat.le_of_ble_eq_true rfl)
      · skip
        refine g_lload_n h 1 dX1_statesBehindLine_15 rfl rfl ?_
        refine g_iload h dX1_statesBehindLine_16 rfl ?_
        refine g_callSN h [] (c_X5_hasBit (xL X) E _ S (b := i) (by omega)) cf_X1_29 h.2.2.2.2.1.2.2.2.1.2.2.2.2.1 cs_X5_hasBit dX1_statesBehindLine_18 rfl rfl (Nat.le_of_ble_eq_true rfl) ⟨(Nat.le_of_ble_eq_true rfl), (Nat.le_of_ble_eq_true rfl)⟩ ⟨(Nat.le_of_ble_eq_true rfl), (Nat.le_of_ble_eq_true rfl)⟩ ?_
        refine kk_det ?_
        refine g_if_eqB h 38 dX1_statesBehindLine_21 (by decide) (fun c21_2 => ?_) (fun c21_2 => ?_)
        · skip
          refine g_iinc (vs' := [_, _, _, _, _, _, _]) h (nI (i + 1)) dX1_statesBehindLine_38 rfl (by first | exact nI_1 _ | rfl) (Nat.le_of_ble_eq_true rfl) rfl rfl ?_
          refine g_goto h 6 dX1_statesBehindLine_41 (by decide) ?_
          refine ih (i + 1) _ (by omega) (fun j hj => ?_) (by omega)
          rw [hb j hj]
          constructor
          · rintro ⟨q, q1, q2, q3⟩
            exact ⟨q, by omega, q2, q3⟩
          · rintro ⟨q, q1, q2, q3⟩
            rcases Nat.lt_or_ge q i with e | e
            · exact ⟨q, e, q2, q3⟩
            · obtain rfl : q = i := by omega
              exact absurd q2 c21_2
        · skip
          refine g_lload h dX1_statesBehindLine_24 rfl ?_
          refine g_lconst h 1 dX1_statesBehindLine_26 (by decide) ?_
          refine g_aload_n h 0 dX1_statesBehindLine_27 rfl rfl ?_
          refine g_iload h dX1_statesBehindLine_28 rfl ?_
          refine g_iload_n h 3 dX1_statesBehindLine_30 rfl rfl ?_
          refine g_callV h [_, _] (c_X1_next (xL X) E _ h1 hs hx hy (st := i) (by omega) ln) cf_X1_54 cv_X1_next dX1_statesBehindLine_31 rfl h1 rfl rfl (Nat.le_of_ble_eq_true rfl) ⟨(Nat.le_of_ble_eq_true rfl), (Nat.le_of_ble_eq_true rfl)⟩ ⟨(Nat.le_of_ble_eq_true rfl), (Nat.le_of_ble_eq_true rfl)⟩ ?_
          refine kk_det ?_
          refine g_lshl h dX1_statesBehindLine_34 ?_
          refine g_lor h dX1_statesBehindLine_35 ?_
          refine g_lstore (vs' := [_, _, _, _, _, _, _]) h dX1_statesBehindLine_36 (Nat.le_of_ble_eq_true rfl) rfl rfl ?_
          refine g_iinc (vs' := [_, _, _, _, _, _, _]) h (nI (i + 1)) dX1_statesBehindLine_38 rfl (by first | exact nI_1 _ | rfl) (Nat.le_of_ble_eq_true rfl) rfl rfl ?_
          refine g_goto h 6 dX1_statesBehindLine_41 (by decide) ?_
          refine ih (i + 1) _ (by omega) (fun j hj => ?_) (by omega)
          have hn9 : nx so x y i ln ≤ lastS so y := nx_le (by omega)
          rw [bt_or, bt_shl (by omega) hj, Bool.or_eq_true, hb j hj, decide_eq_true_eq]
          constructor
          · rintro (⟨q, q1, q2, q3⟩ | q)
            · exact ⟨q, by omega, q2, q3⟩
            · exact ⟨i, by omega, c21_2, q.symm⟩
          · rintro ⟨q, q1, q2, q3⟩
            rcases Nat.lt_or_ge q i with e | e
            · exact Or.inl ⟨q, e, q2, q3⟩
            · obtain rfl : q = i := by omega
              exact Or.inr q3.symm
  exact L6 (lastS so y + 2) 0 0 (by omega) (fun j hj => by rw [bt_0]; exact ⟨fun q => (by cases q), fun ⟨q, q1, _⟩ => absurd q1 (Nat.not_lt_zero _)⟩) (by omega)
abbrev rm_X1_statesBehindGap : Room := { frames := 1, cells := 0, slots := 0, locals := 22 }
set_option maxRecDepth 100000 in
set_option maxHeartbeats 4000000 in
theorem c_X1_statesBehindGap (l : Launch) (E : EnvD) (σ : Sto) {a so x y : Nat} (h1 : σ.1 a = some (cO 1 [.int (nI so), .int (nI x), .int (nI y)])) (hs : so < 7) (hx : x < 100) (hy : y < 100) (hy1 : so = 1 → y ≤ 40) (S : Int64) (hS : BL (lastS so y) S) : CC l yX1_statesBehindGap cX1_statesBehindGap 9 (some .long) rm_X1_statesBehindGap E [.ref a, .long S] σ (fun o s => ∃ b, o = some (.long b) ∧ s = σ ∧ (BL (lastS so y) b ∧ (∀ j, j < 64 → bt S j = true → bt b j = true) ∧ clo so x y (fun j => bt b j = true) ∧ ∀ P : Nat → Prop, (∀ j, j ≤ lastS so y → bt S j = true → P j) → clo so x y P → ∀ j, j ≤ lastS so y → bt b j = true → P j)) := by
  refine cc_of (vs := [_, _, _, _, _, _, _, _, _]) (by decide) (Nat.le_of_ble_eq_true rfl) rfl ?_
  intro X h hr hn
  refine g_lload_n h 1 dX1_statesBehindGap_0 rfl rfl ?_
  refine g_lstore_n (vs' := [_, _, _, _, _, _, _, _, _]) h 3 dX1_statesBehindGap_1 rfl (Nat.le_of_ble_eq_true rfl) rfl rfl ?_
  refine g_iconst h (nI 0) dX1_statesBehindGap_2 (by decide) ?_
  refine g_istore (vs' := [_, _, _, _, _, _, _, _, _]) h dX1_statesBehindGap_3 (Nat.le_of_ble_eq_true rfl) rfl rfl ?_
  have hL := lastS_le hy1
  refine g_few (vs' := [some (.ref a), some (.long S), none, some (.long S), none, some (.int (nI 0)), none, none, none]) ⟨Or.inr rfl, Or.inr rfl, Or.inr rfl, Or.inr rfl, Or.inr rfl, Or.inr rfl, Or.inl rfl, Or.inl rfl, Or.inl rfl, trivial⟩ ?_
  have L5 : ∀ (m0 : Nat) (i : Nat) (b : Int64), (i ≤ cnB (fun j => decide (j < 64) && bt b j) (lastS so y + 1)) → (BL (lastS so y) b) → (∀ j, j < 64 → bt S j = true → bt b j = true) → (∀ P : Nat → Prop, (∀ j, j ≤ lastS so y → bt S j = true → P j) → clo so x y P → ∀ j, j ≤ lastS so y → bt b j = true → P j) → (lastS so y + 2 - i) < m0 → G X E 9 (AD σ) (QF X E σ (fun o s => ∃ b, o = some (.long b) ∧ s = σ ∧ (BL (lastS so y) b ∧ (∀ j, j < 64 → bt S j = true → bt b j = true) ∧ clo so x y (fun j => bt b j = true) ∧ ∀ P : Nat → Prop, (∀ j, j ≤ lastS so y → bt S j = true → P j) → clo so x y P → ∀ j, j ≤ lastS so y → bt b j = true → P j)) rm_X1_statesBehindGap) 0 0 5 [some (.ref a), some (.long S), none, some (.long b), none, some (.int (nI i)), none, none, none] [] σ := by
    intro m0
    induction m0 with
    | zero => intro i b _ _ _ _ hm0; exact absurd hm0 (Nat.not_lt_zero _)
    | succ m0 ih =>
      intro i b hc hb1 hb2 hb5 hm0
      have hcle := cnB_le (fun j => decide (j < 64) && bt b j) (lastS so y + 1)
      refine g_iload h dX1_statesBehindGap_5 rfl ?_
      refine g_aload_n h 0 dX1_statesBehindGap_7 rfl rfl ?_
      refine g_callV h [_] (c_X1_lastState (xL X) E _ h1 hs hx hy) cf_X1_25 cv_X1_lastState dX1_statesBehindGap_8 rfl h1 rfl rfl (Nat.le_of_ble_eq_true rfl) ⟨(Nat.le_of_ble_eq_true rfl), (Nat.le_of_ble_eq_true rfl)⟩ ⟨(Nat.le_of_ble_eq_true rfl), (Nat.le_of_ble_eq_true rfl)⟩ ?_
      refine kk_det ?_
      refine g_icmp_gtN h 102 dX1_statesBehindGap_11 (by decide) (by omega) (by omega) (fun c11_1 => ?_) (fun c11_1 => ?_)
      · skip
        have hfull := cnB_full (p := fun j => decide (j < 64) && bt b j) (n := lastS so y + 1) (by omega)
        have hcl : clo so x y (fun j => bt b j = true) := fun s hs2 _ => by
          have hh : ∀ j, j ≤ lastS so y → bt b j = true := fun j hj => by have := hfull j (by omega); simp only [Bool.and_eq_true] at this; exact this.2
          exact ⟨hh _ (nx_le hs2), hh _ (nx_le hs2), hh _ (nx_le hs2)⟩
        refine g_lload_n h 3 dX1_statesBehindGap_102 rfl rfl ?_
        exact g_lret h hr dX1_statesBehindGap_103 (⟨b, rfl, rfl, hb1, hb2, hcl, hb5⟩) (Nat.le_of_ble_eq_true rfl) (Nat.le_of_ble_eq_true rfl)
      · skip
        refine g_lload_n h 3 dX1_statesBehindGap_14 rfl rfl ?_
        refine g_lstore (vs' := [_, _, _, _, _, _, _, _, _]) h dX1_statesBehindGap_15 (Nat.le_of_ble_eq_true rfl) rfl rfl ?_
        refine g_iconst h (nI 0) dX1_statesBehindGap_17 (by decide) ?_
        refine g_istore (vs' := [_, _, _, _, _, _, _, _, _]) h dX1_statesBehindGap_18 (Nat.le_of_ble_eq_true rfl) rfl rfl ?_
        have L20 : ∀ (m0 : Nat) (u : Nat) (b2 : Int64), (u ≤ lastS so y + 1) → (BL (lastS so y) b2) → (∀ j, j < 64 → bt b j = true → bt b2 j = true) → (∀ v, v < u → bt b v = true → bt b2 (nx so x y v (nI x)) = true ∧ bt b2 (nx so x y v (nI y)) = true ∧ bt b2 (nx so x y v (-1)) = true) → (∀ P : Nat → Prop, (∀ j, j ≤ lastS so y → bt S j = true → P j) → clo so x y P → ∀ j, j ≤ lastS so y → bt b2 j = true → P j) → (lastS so y + 1 - u) < m0 → G X E 9 (AD σ) (QF X E σ (fun o s => ∃ b, o = some (.long b) ∧ s = σ ∧ (BL (lastS so y) b ∧ (∀ j, j < 64 → bt S j = true → bt b j = true) ∧ clo so x y (fun j => bt b j = true) ∧ ∀ P : Nat → Prop, (∀ j, j ≤ lastS so y → bt S j = true → P j) → clo so x y P → ∀ j, j ≤ lastS so y → bt b j = true → P j)) rm_X1_statesBehindGap) 0 0 20 [some (.ref a), some (.long S), none, some (.long b2), none, some (.int (nI i)), some (.long b), none, some (.int (nI u))] [] σ := by
          intro m0
          induction m0 with
          | zero => intro u b2 _ _ _ _ _ hm0; exact absurd hm0 (Nat.not_lt_zero _)
          | succ m0 ih2 =>
            intro u b2 hu g1 g2 g3 g5 hm0
            refine g_iload h dX1_statesBehindGap_20 rfl ?_
            refine g_aload_n h 0 dX1_statesBehindGap_22 rfl rfl ?_
            refine g_callV h [_] (c_X1_lastState (xL X) E _ h1 hs hx hy) cf_X1_25 cv_X1_lastState dX1_statesBehindGap_23 rfl h1 rfl rfl (Nat.le_of_ble_eq_true rfl) ⟨(Nat.le_of_ble_eq_true rfl), (Nat.le_of_ble_eq_true rfl)⟩ ⟨(Nat.le_of_ble_eq_true rfl), (Nat.le_of_ble_eq_true rfl)⟩ ?_
            refine kk_det ?_
            refine g_icmp_gtN h 86 dX1_statesBehindGap_26 (by decide) (by omega) (by omega) (fun c26_2 => ?_) (fun c26_2 => ?_)
            · skip
              refine g_lload_n h 3 dX1_statesBehindGap_86 rfl rfl ?_
              refine g_lload h dX1_statesBehindGap_87 rfl ?_
              refine g_lcmp h (if b < b2 then 1 else if b2 = b then 0 else -1) dX1_statesBehindGap_89 (rfl) ?_
              refine g_if_ne h 96 dX1_statesBehindGap_90 (by decide) (fun c90_3 => ?_) (fun c90_3 => ?_)
              · skip
                refine g_iinc (vs' := [_, _, _, _, _, _, _, _, _]) h (nI (i + 1)) dX1_statesBehindGap_96 rfl (by first | exact nI_1 _ | rfl) (Nat.le_of_ble_eq_true rfl) rfl rfl ?_
                refine g_goto h 5 dX1_statesBehindGap_99 (by decide) ?_
                refine g_few (vs' := [some (.ref a), some (.long S), none, some (.long b2), none, some (.int (nI (i + 1))), none, none, none]) ⟨Or.inr rfl, Or.inr rfl, Or.inr rfl, Or.inr rfl, Or.inr rfl, Or.inr rfl, Or.inl rfl, Or.inl rfl, Or.inl rfl, trivial⟩ ?_
                refine ih (i + 1) b2 ?_ g1 (fun j hj q => g2 j hj (hb2 j hj q)) (g5) (by omega)
                have hne : b2 ≠ b := fun q => c90_3 (by rw [lcmp0]; exact q)
                have hex : ∃ j, j < 64 ∧ bt b j ≠ true ∧ bt b2 j = true := by
                  refine Classical.byContradiction fun q => hne (bt_ext fun j hj => ?_)
                  cases h8 : bt b j with
                  | true => exact g2 j hj h8
                  | false =>
                    cases h9 : bt b2 j with
                    | false => rfl
                    | true => exact absurd ⟨j, hj, by rw [h8]; decide, h9⟩ q
                obtain ⟨j, hj1, hj2, hj3⟩ := hex
                have hj4 := g1 j hj1 hj3
                have := cnB_lt (p := fun j => decide (j < 64) && bt b j) (q := fun j => decide (j < 64) && bt b2 j) (fun j q => by simp only [Bool.and_eq_true, decide_eq_true_eq] at q ⊢; exact ⟨q.1, g2 j q.1 q.2⟩) (lastS so y + 1) j (by omega) (by simp [hj1, hj2]) (by simp [hj1, hj3])
                omega
              · skip
                refine g_goto h 102 dX1_statesBehindGap_93 (by decide) ?_
                refine g_lload_n h 3 dX1_statesBehindGap_102 rfl rfl ?_
                exact g_lret h hr dX1_statesBehindGap_103 (⟨b2, rfl, rfl, g1, fun j hj q => g2 j hj (hb2 j hj q), by have e9 := lcmp0.mp c90_3; subst e9; exact fun v hv q => g3 v (by omega) q, g5⟩) (Nat.le_of_ble_eq_true rfl) (Nat.le_of_ble_eq_true rfl)
            · skip
              refine g_lload_n h 3 dX1_statesBehindGap_29 rfl rfl ?_
              refine g_iload h dX1_statesBehindGap_30 rfl ?_
              refine g_callSN h [] (c_X5_hasBit (xL X) E _ b2 (b := u) (by omega)) cf_X1_29 h.2.2.2.2.1.2.2.2.1.2.2.2.2.1 cs_X5_hasBit dX1_statesBehindGap_32 rfl rfl (Nat.le_of_ble_eq_true rfl) ⟨(Nat.le_of_ble_eq_true rfl), (Nat.le_of_ble_eq_true rfl)⟩ ⟨(Nat.le_of_ble_eq_true rfl), (Nat.le_of_ble_eq_true rfl)⟩ ?_
              refine kk_det ?_
              refine g_if_eqB h 80 dX1_statesBehindGap_35 (by decide) (fun c35_4 => ?_) (fun c35_4 => ?_)
              · skip
                refine g_iinc (vs' := [_, _, _, _, _, _, _, _, _]) h (nI (u + 1)) dX1_statesBehindGap_80 rfl (by first | exact nI_1 _ | rfl) (Nat.le_of_ble_eq_true rfl) rfl rfl ?_
                refine g_goto h 20 dX1_statesBehindGap_83 (by decide) ?_
                refine ih2 (u + 1) _ (by omega) g1 g2 ?_ g5 (by omega)
                intro v hv q
                rcases Nat.lt_or_ge v u with e | e
                · exact g3 v e q
                · obtain rfl : v = u := by omega
                  exact absurd (g2 v (by omega) q) c35_4
              · skip
                refine g_lload_n h 3 dX1_statesBehindGap_38 rfl rfl ?_
                refine g_lconst h 1 dX1_statesBehindGap_39 (by decide) ?_
                refine g_aload_n h 0 dX1_statesBehindGap_40 rfl rfl ?_
                refine g_iload h dX1_statesBehindGap_41 rfl ?_
                refine g_aload_n h 0 dX1_statesBehindGap_43 rfl rfl ?_
                refine g_get h 1 fa_X1_15 dX1_statesBehindGap_44 h1 rfl ?_
                refine g_callV h [_, _] (c_X1_next (xL X) E _ h1 hs hx hy (st := u) (by omega) (nI x)) cf_X1_54 cv_X1_next dX1_statesBehindGap_47 rfl h1 rfl rfl (Nat.le_of_ble_eq_true rfl) ⟨(Nat.le_of_ble_eq_true rfl), (Nat.le_of_ble_eq_true rfl)⟩ ⟨(Nat.le_of_ble_eq_true rfl), (Nat.le_of_ble_eq_true rfl)⟩ ?_
                refine kk_det ?_
                refine g_lshl h dX1_statesBehindGap_50 ?_
                refine g_lor h dX1_statesBehindGap_51 ?_
                refine g_lstore_n (vs' := [_, _, _, _, _, _, _, _, _]) h 3 dX1_statesBehindGap_52 rfl (Nat.le_of_ble_eq_true rfl) rfl rfl ?_
                refine g_lload_n h 3 dX1_statesBehindGap_53 rfl rfl ?_
                refine g_lconst h 1 dX1_statesBehindGap_54 (by decide) ?_
                refine g_aload_n h 0 dX1_statesBehindGap_55 rfl rfl ?_
                refine g_iload h dX1_statesBehindGap_56 rfl ?_
                refine g_aload_n h 0 dX1_statesBehindGap_58 rfl rfl ?_
                refine g_get h 2 fa_X1_18 dX1_statesBehindGap_59 h1 rfl ?_
                refine g_callV h [_, _] (c_X1_next (xL X) E _ h1 hs hx hy (st := u) (by omega) (nI y)) cf_X1_54 cv_X1_next dX1_statesBehindGap_62 rfl h1 rfl rfl (Nat.le_of_ble_eq_true rfl) ⟨(Nat.le_of_ble_eq_true rfl), (Nat.le_of_ble_eq_true rfl)⟩ ⟨(Nat.le_of_ble_eq_true rfl), (Nat.le_of_ble_eq_true rfl)⟩ ?_
                refine kk_det ?_
                refine g_lshl h dX1_statesBehindGap_65 ?_
                refine g_lor h dX1_statesBehindGap_66 ?_
                refine g_lstore_n (vs' := [_, _, _, _, _, _, _, _, _]) h 3 dX1_statesBehindGap_67 rfl (Nat.le_of_ble_eq_true rfl) rfl rfl ?_
                refine g_lload_n h 3 dX1_statesBehindGap_68 rfl rfl ?_
                refine g_lconst h 1 dX1_statesBehindGap_69 (by decide) ?_
                refine g_aload_n h 0 dX1_statesBehindGap_70 rfl rfl ?_
                refine g_iload h dX1_statesBehindGap_71 rfl ?_
                refine g_iconst h (-1) dX1_statesBehindGap_73 (by decide) ?_
                refine g_callV h [_, _] (c_X1_next (xL X) E _ h1 hs hx hy (st := u) (by omega) (-1)) cf_X1_54 cv_X1_next dX1_statesBehindGap_74 rfl h1 rfl rfl (Nat.le_of_ble_eq_true rfl) ⟨(Nat.le_of_ble_eq_true rfl), (Nat.le_of_ble_eq_true rfl)⟩ ⟨(Nat.le_of_ble_eq_true rfl), (Nat.le_of_ble_eq_true rfl)⟩ ?_
                refine kk_det ?_
                refine g_lshl h dX1_statesBehindGap_77 ?_
                refine g_lor h dX1_statesBehindGap_78 ?_
                refine g_lstore_n (vs' := [_, _, _, _, _, _, _, _, _]) h 3 dX1_statesBehindGap_79 rfl (Nat.le_of_ble_eq_true rfl) rfl rfl ?_
                refine g_iinc (vs' := [_, _, _, _, _, _, _, _, _]) h (nI (u + 1)) dX1_statesBehindGap_80 rfl (by first | exact nI_1 _ | rfl) (Nat.le_of_ble_eq_true rfl) rfl rfl ?_
                refine g_goto h 20 dX1_statesBehindGap_83 (by decide) ?_
                have k1 : nx so x y u (nI x) ≤ lastS so y := nx_le (by omega)
                have k2 : nx so x y u (nI y) ≤ lastS so y := nx_le (by omega)
                have k3 : nx so x y u (-1) ≤ lastS so y := nx_le (by omega)
                refine ih2 (u + 1) _ (by omega) ?_ ?_ ?_ ?_ (by omega)
                · intro j hj q
                  simp only [bt_or, Bool.or_eq_true] at q
                  rcases q with ((q | q) | q) | q
                  · exact g1 j hj q
                  · rw [bt_shl (by omega) hj, decide_eq_true_eq] at q; rw [q]; exact nx_le (by omega)
                  · rw [bt_shl (by omega) hj, decide_eq_true_eq] at q; rw [q]; exact nx_le (by omega)
                  · rw [bt_shl (by omega) hj, decide_eq_true_eq] at q; rw [q]; exact nx_le (by omega)
                · intro j hj q
                  simp only [bt_or, Bool.or_eq_true]
                  exact Or.inl (Or.inl (Or.inl (g2 j hj q)))
                · intro v hv q
                  have k1 : nx so x y v (nI x) ≤ lastS so y := nx_le (by omega)
                  have k2 : nx so x y v (nI y) ≤ lastS so y := nx_le (by omega)
                  have k3 : nx so x y v (-1) ≤ lastS so y := nx_le (by omega)
                  simp only [bt_or, Bool.or_eq_true]
                  rcases Nat.lt_or_ge v u with e | e
                  · obtain ⟨w1, w2, w3⟩ := g3 v e q
                    exact ⟨Or.inl (Or.inl (Or.inl w1)), Or.inl (Or.inl (Or.inl w2)), Or.inl (Or.inl (Or.inl w3))⟩
                  · obtain rfl : v = u := by omega
                    refine ⟨Or.inl (Or.inl (Or.inr ?_)), Or.inl (Or.inr ?_), Or.inr ?_⟩
                    · rw [bt_shl (by omega) (by omega)]; simp
                    · rw [bt_shl (by omega) (by omega)]; simp
                    · rw [bt_shl (by omega) (by omega)]; simp
                · intro P q1 q2 j hj q
                  simp only [bt_or, Bool.or_eq_true] at q
                  have hu := g5 P q1 q2 u (by omega) c35_4
                  obtain ⟨w1, w2, w3⟩ := q2 u (by omega) hu
                  have k1 : nx so x y u (nI x) ≤ lastS so y := nx_le (by omega)
                  have k2 : nx so x y u (nI y) ≤ lastS so y := nx_le (by omega)
                  have k3 : nx so x y u (-1) ≤ lastS so y := nx_le (by omega)
                  rcases q with ((q | q) | q) | q
                  · exact g5 P q1 q2 j hj q
                  · rw [bt_shl (by omega) (by omega), decide_eq_true_eq] at q; rw [q]; exact w1
                  · rw [bt_shl (by omega) (by omega), decide_eq_true_eq] at q; rw [q]; exact w2
                  · rw [bt_shl (by omega) (by omega), decide_eq_true_eq] at q; rw [q]; exact w3
        exact L20 (lastS so y + 2) 0 b (by omega) hb1 (fun _ _ q => q) (fun v hv => absurd hv (Nat.not_lt_zero _)) hb5 (by omega)
  exact L5 (lastS so y + 3) 0 S (Nat.zero_le _) hS (fun _ _ q => q) (fun P q1 _ j hj q2 => q1 j hj q2) (by omega)
