/-! a condition judges a row (own work; walks by program) -/
def canK (so x y : Nat) (h : Nat → Int32) (n : Nat) : Prop := (so = 0 ∧ mN x h n = 0) ∨ (so = 1 ∧ mN x h n ≤ y) ∨ (so = 2 ∧ hel so x y h n) ∨ (so = 3 ∧ (mN x h n = 0 ∨ mN y h n = 0)) ∨ (so = 4 ∧ (0 < mN x h n ∨ gp h n)) ∨ (so = 5 ∧ hel so x y h n) ∨ (so = 6 ∧ bar so x y h n)
def canB (so x y : Nat) (h : Nat → Int32) (n : Nat) : Prop := (so = 0 ∧ (gp h n ∨ 0 < mN x h n)) ∨ (so = 1 ∧ (gp h n ∨ y < mN x h n)) ∨ (so = 2 ∧ opn x y h n) ∨ (so = 3 ∧ (gp h n ∨ ¬ (mN x h n = 0 ∨ mN y h n = 0))) ∨ (so = 4 ∧ mN x h n = 0) ∨ ((so = 5 ∨ so = 6) ∧ (gp h n ∨ ¬ bar so x y h n))
noncomputable def jdV (so x y : Nat) (h : Nat → Int32) (n : Nat) : Nat := cif (canB so x y h n) (cif (canK so x y h n) 1 2) 0
theorem jdV_0 {so x y n : Nat} {h : Nat → Int32} (b : ¬ canB so x y h n) : jdV so x y h n = 0 := cif_f b
theorem jdV_1 {so x y n : Nat} {h : Nat → Int32} (b : canB so x y h n) (k : canK so x y h n) : jdV so x y h n = 1 := by unfold jdV; rw [cif_t b, cif_t k]
theorem jdV_2 {so x y n : Nat} {h : Nat → Int32} (b : canB so x y h n) (k : ¬ canK so x y h n) : jdV so x y h n = 2 := by unfold jdV; rw [cif_t b, cif_f k]
theorem FS_0 {so x y j : Nat} {h : Nat → Int32} (hs : so < 7) (hy : y < 100) (hj : j ≤ lastS so y) : FS so x y h 0 j ↔ j = 0 := by
  have m : ∀ y, y < 100 → (-2 : Int32) ≠ nI y := by decide +kernel
  have m1 := m y hy
  have e : ahd h 0 = -2 := rfl
  rcases (show so = 0 ∨ so = 1 ∨ so = 2 ∨ so = 3 ∨ so = 4 ∨ so = 5 ∨ so = 6 by omega) with rfl | rfl | rfl | rfl | rfl | rfl | rfl <;> simp [FS, mN, gp, hel, opn, bar, gaY, e, m1]
  omega
theorem FS_B {so x y n : Nat} {h : Nat → Int32} (hs : so < 7) (hx : x < 100) : (∃ q, q ≤ lastS so y ∧ FS so x y h n q ∧ brk so y q) ↔ canB so x y h n := by
  rcases (show so = 0 ∨ so = 1 ∨ so = 2 ∨ so = 3 ∨ so = 4 ∨ so = 5 ∨ so = 6 by omega) with rfl | rfl | rfl | rfl | rfl | rfl | rfl
  · refine (ex4 (show lastS 0 y = 3 from rfl)).trans ?_
    simp only [FS, brk, canB]
    grind
  · have hL : lastS 1 y = y + 1 := rfl
    simp only [FS, brk, canB]
    constructor
    · rintro ⟨q, h1, h2, h3⟩
      grind
    · intro h1
      refine ⟨y + 1, by omega, ?_, ?_⟩ <;> grind
  · refine (ex4 (show lastS 2 y = 3 from rfl)).trans ?_
    simp only [FS, brk, canB]
    grind
  · refine (ex4 (show lastS 3 y = 3 from rfl)).trans ?_
    simp only [FS, brk, canB]
    grind
  · refine (ex4 (show lastS 4 y = 3 from rfl)).trans ?_
    simp only [FS, brk, canB]
    grind
  · refine (ex4 (show lastS 5 y = 3 from rfl)).trans ?_
    simp only [FS, brk, canB]
    grind
  · refine (ex4 (show lastS 6 y = 3 from rfl)).trans ?_
    simp only [FS, brk, canB]
    grind
theorem FS_K {so x y n : Nat} {h : Nat → Int32} (hs : so < 7) (hx : x < 100) : (∃ q, q ≤ lastS so y ∧ FS so x y h n q ∧ ¬ brk so y q) ↔ canK so x y h n := by
  have k4 : x = y → mN x h n = mN y h n := fun e => by rw [e]
  rcases (show so = 0 ∨ so = 1 ∨ so = 2 ∨ so = 3 ∨ so = 4 ∨ so = 5 ∨ so = 6 by omega) with rfl | rfl | rfl | rfl | rfl | rfl | rfl
  · refine (ex4 (show lastS 0 y = 3 from rfl)).trans ?_
    simp only [FS, brk, canK]
    grind
  · have hL : lastS 1 y = y + 1 := rfl
    simp only [FS, brk, canK]
    constructor
    · rintro ⟨q, h1, h2, h3⟩
      grind
    · intro h1
      refine ⟨min (mN x h n) (y + 1), by omega, ?_, ?_⟩ <;> grind
  · refine (ex4 (show lastS 2 y = 3 from rfl)).trans ?_
    have k1 := @a_hel2 x y h n
    have k2 := @a_mx_hel x y h 2 n
    have k5 : x = y → hel 2 x y h n → mN x h n = 0 := fun e q => by subst e; exact a_hel2x q
    simp only [FS, brk, canK]
    grind
  · refine (ex4 (show lastS 3 y = 3 from rfl)).trans ?_
    simp only [FS, brk, canK]
    grind
  · refine (ex4 (show lastS 4 y = 3 from rfl)).trans ?_
    simp only [FS, brk, canK]
    grind
  · refine (ex4 (show lastS 5 y = 3 from rfl)).trans ?_
    have k3 : x = y → hel 5 x y h n → mN x h n = 0 := fun e q => by subst e; exact a_hel5 q
    have k6 := @a_ahd y h n
    have k2 := @a_mx_hel x y h 5 n
    simp only [FS, brk, canK]
    grind
  · refine (ex4 (show lastS 6 y = 3 from rfl)).trans ?_
    have k1 := @a_bar6 x y h n
    simp only [FS, brk, canK]
    grind
theorem ex_no {i : Nat} {P : Nat → Prop} (h : ¬ P i) : (∃ q, q < i ∧ P q) ↔ ∃ q, q < i + 1 ∧ P q :=
  ⟨fun ⟨q, q1, q2⟩ => ⟨q, by omega, q2⟩, fun ⟨q, q1, q2⟩ => ⟨q, by
    rcases Nat.lt_or_ge q i with e | e
    · exact e
    · exact absurd ((show q = i by omega) ▸ q2) h, q2⟩⟩
theorem bI_ne {P : Prop} {B : Int32} (hB : B = bI P) (h : ¬ B = 0) : P := Classical.byContradiction fun q => h (hB.trans (bI_f q))
theorem bI_eq {P : Prop} {B : Int32} (hB : B = bI P) (h : B = 0) : ¬ P := fun q => by rw [hB, bI_t q] at h; exact absurd h (by decide)
abbrev rm_X1_statesBehind : Room := { frames := 2, cells := 0, slots := 0, locals := 50 }
set_option maxRecDepth 100000 in
set_option maxHeartbeats 4000000 in
theorem c_X1_statesBehind (l : Launch) (E : EnvD) (σ : Sto) {a so x y : Nat} (h1 : σ.1 a = some (cO 1 [.int (nI so), .int (nI x), .int (nI y)])) (hs : so < 7) (hx : x < 100) (hy : y < 100) (hy1 : so = 1 → y ≤ 40) {r n : Nat} {g : Nat → Int32} (hr2 : RowIs E σ r n g) (hn40 : n ≤ 40) : CC l yX1_statesBehind cX1_statesBehind 6 (some .long) rm_X1_statesBehind E [.ref a, .ref r] σ (fun o s => ∃ b, o = some (.long b) ∧ s = σ ∧ (BL (lastS so y) b ∧ ∀ j, j ≤ lastS so y → (bt b j = true ↔ FS so x y g n j))) := by
  refine cc_of (vs := [_, _, _, _, _, _]) (by decide) (Nat.le_of_ble_eq_true rfl) rfl ?_
  intro X h hr hn
  refine g_lconst h 1 dX1_statesBehind_0 (by decide) ?_
  refine g_lstore_n (vs' := [_, _, _, _, _, _]) h 2 dX1_statesBehind_1 rfl (Nat.le_of_ble_eq_true rfl) rfl rfl ?_
  refine g_iconst h (nI 0) dX1_statesBehind_2 (by decide) ?_
  refine g_istore (vs' := [_, _, _, _, _, _]) h dX1_statesBehind_3 (Nat.le_of_ble_eq_true rfl) rfl rfl ?_
  have hL := lastS_le hy1
  have L5 : ∀ (m0 : Nat) (i : Nat) (b : Int64), (i ≤ n) → (BL (lastS so y) b) → (∀ j, j ≤ lastS so y → (bt b j = true ↔ FS so x y g i j)) → (n - i) < m0 → G X E 6 (AD σ) (QF X E σ (fun o s => ∃ b, o = some (.long b) ∧ s = σ ∧ (BL (lastS so y) b ∧ ∀ j, j ≤ lastS so y → (bt b j = true ↔ FS so x y g n j))) rm_X1_statesBehind) 0 0 5 [some (.ref a), some (.ref r), some (.long b), none, some (.int (nI i)), none] [] σ := by
    intro m0
    induction m0 with
    | zero => intro i b _ _ _ hm0; exact absurd hm0 (Nat.not_lt_zero _)
    | succ m0 ih =>
      intro i b hi hb1 hb2 hm0
      refine g_iload h dX1_statesBehind_5 rfl ?_
      refine g_aload_n h 1 dX1_statesBehind_7 rfl rfl ?_
      refine g_get h 1 fa_X1_37 dX1_statesBehind_8 hr2.1 rfl ?_
      refine g_icmp_geN h 50 dX1_statesBehind_11 (by decide) (by omega) (by omega) (fun c11_1 => ?_) (fun c11_1 => ?_)
      · skip
        obtain rfl : n = i := by omega
        refine g_lload_n h 2 dX1_statesBehind_50 rfl rfl ?_
        exact g_lret h hr dX1_statesBehind_51 (⟨b, rfl, rfl, hb1, hb2⟩) (Nat.le_of_ble_eq_true rfl) (Nat.le_of_ble_eq_true rfl)
      · skip
        refine g_aload_n h 1 dX1_statesBehind_14 rfl rfl ?_
        refine g_iload h dX1_statesBehind_15 rfl ?_
        refine g_callV h [] (r_at (xL X) hr2 hn40 (nI i)) cf_X1_42 cv_X2_at dX1_statesBehind_17 rfl hr2.1 rfl rfl (Nat.le_of_ble_eq_true rfl) ⟨(Nat.le_of_ble_eq_true rfl), (Nat.le_of_ble_eq_true rfl)⟩ ⟨(Nat.le_of_ble_eq_true rfl), (Nat.le_of_ble_eq_true rfl)⟩ ?_
        refine kk_det ?_
        refine g_top (atV_in (by omega) (by omega)) ?_
        refine g_istore (vs' := [_, _, _, _, _, _]) h dX1_statesBehind_20 (Nat.le_of_ble_eq_true rfl) rfl rfl ?_
        refine g_iload h dX1_statesBehind_22 rfl ?_
        refine g_iconst h (-1) dX1_statesBehind_24 (by decide) ?_
        refine g_icmp_ne h 36 dX1_statesBehind_25 (by decide) (fun c25_2 => ?_) (fun c25_2 => ?_)
        · skip
          refine g_aload_n h 0 dX1_statesBehind_36 rfl rfl ?_
          refine g_lload_n h 2 dX1_statesBehind_37 rfl rfl ?_
          refine g_iload h dX1_statesBehind_38 rfl ?_
          refine g_callV h [] (c_X1_statesBehindLine (xL X) E _ h1 hs hx hy hy1 b (g i)) cf_X1_50 cv_X1_statesBehindLine dX1_statesBehind_40 rfl h1 rfl rfl (Nat.le_of_ble_eq_true rfl) ⟨(Nat.le_of_ble_eq_true rfl), (Nat.le_of_ble_eq_true rfl)⟩ ⟨(Nat.le_of_ble_eq_true rfl), (Nat.le_of_ble_eq_true rfl)⟩ ?_
          refine kk_exl (fun b2 hb3 => ?_)
          refine g_lstore_n (vs' := [_, _, _, _, _, _]) h 2 dX1_statesBehind_43 rfl (Nat.le_of_ble_eq_true rfl) rfl rfl ?_
          refine g_iinc (vs' := [_, _, _, _, _, _]) h (nI (i + 1)) dX1_statesBehind_44 rfl (by first | exact nI_1 _ | rfl) (Nat.le_of_ble_eq_true rfl) rfl rfl ?_
          refine g_goto h 5 dX1_statesBehind_47 (by decide) ?_
          refine g_few (vs' := [some (.ref a), some (.ref r), some (.long b2), none, some (.int (nI (i + 1))), none]) ⟨Or.inr rfl, Or.inr rfl, Or.inr rfl, Or.inr rfl, Or.inr rfl, Or.inl rfl, trivial⟩ ?_
          obtain ⟨k1, k2⟩ := hb3
          refine ih (i + 1) b2 (by omega) k1 ?_ (by omega)
          intro j hj
          rw [k2 j hj, ← FS_line hs hx hy c25_2 j hj]
          constructor
          · rintro ⟨q, q1, q2, q3⟩
            exact ⟨q, q1, (hb2 q q1).mp q2, q3⟩
          · rintro ⟨q, q1, q2, q3⟩
            exact ⟨q, q1, (hb2 q q1).mpr q2, q3⟩
        · skip
          refine g_aload_n h 0 dX1_statesBehind_28 rfl rfl ?_
          refine g_lload_n h 2 dX1_statesBehind_29 rfl rfl ?_
          refine g_callV h [] (c_X1_statesBehindGap (xL X) E _ h1 hs hx hy hy1 b hb1) cf_X1_46 cv_X1_statesBehindGap dX1_statesBehind_30 rfl h1 rfl rfl (Nat.le_of_ble_eq_true rfl) ⟨(Nat.le_of_ble_eq_true rfl), (Nat.le_of_ble_eq_true rfl)⟩ ⟨(Nat.le_of_ble_eq_true rfl), (Nat.le_of_ble_eq_true rfl)⟩ ?_
          refine kk_exl (fun b2 hb3 => ?_)
          refine g_goto h 43 dX1_statesBehind_33 (by decide) ?_
          refine g_lstore_n (vs' := [_, _, _, _, _, _]) h 2 dX1_statesBehind_43 rfl (Nat.le_of_ble_eq_true rfl) rfl rfl ?_
          refine g_iinc (vs' := [_, _, _, _, _, _]) h (nI (i + 1)) dX1_statesBehind_44 rfl (by first | exact nI_1 _ | rfl) (Nat.le_of_ble_eq_true rfl) rfl rfl ?_
          refine g_goto h 5 dX1_statesBehind_47 (by decide) ?_
          refine g_few (vs' := [some (.ref a), some (.ref r), some (.long b2), none, some (.int (nI (i + 1))), none]) ⟨Or.inr rfl, Or.inr rfl, Or.inr rfl, Or.inr rfl, Or.inr rfl, Or.inl rfl, trivial⟩ ?_
          obtain ⟨k1, k2, k3, k4⟩ := hb3
          refine ih (i + 1) b2 (by omega) k1 ?_ (by omega)
          exact FS_gap hs hx hy c25_2 (fun j hj q => k2 j (by omega) ((hb2 j hj).mpr q)) k3 (fun P q1 q2 => k4 P (fun j hj q => q1 j hj ((hb2 j hj).mp q)) q2)
  exact L5 (n + 1) 0 1 (by omega) (fun j hj q => by rw [bt_1 hj, decide_eq_true_eq] at q; omega) (fun j hj => by rw [bt_1 (by omega), decide_eq_true_eq, FS_0 hs hy hj]) (by omega)
abbrev rm_X1_judgement : Room := { frames := 3, cells := 0, slots := 0, locals := 75 }
set_option maxRecDepth 100000 in
set_option maxHeartbeats 4000000 in
theorem c_X1_judgement (l : Launch) (E : EnvD) (σ : Sto) {a so x y : Nat} (h1 : σ.1 a = some (cO 1 [.int (nI so), .int (nI x), .int (nI y)])) (hs : so < 7) (hx : x < 100) (hy : y < 100) (hy1 : so = 1 → y ≤ 40) {r n : Nat} {g : Nat → Int32} (hr2 : RowIs E σ r n g) (hn40 : n ≤ 40) : CC l yX1_judgement cX1_judgement 7 (some .int) rm_X1_judgement E [.ref a, .ref r] σ (fun o s => o = some (.int (nI (jdV so x y g n))) ∧ s = σ) := by
  refine cc_of (vs := [_, _, _, _, _, _, _]) (by decide) (Nat.le_of_ble_eq_true rfl) rfl ?_
  intro X h hr hn
  refine g_aload_n h 0 dX1_judgement_0 rfl rfl ?_
  refine g_aload_n h 1 dX1_judgement_1 rfl rfl ?_
  refine g_callV h [] (c_X1_statesBehind (xL X) E _ h1 hs hx hy hy1 hr2 hn40) cf_X1_21 cv_X1_statesBehind dX1_judgement_2 rfl h1 rfl rfl (Nat.le_of_ble_eq_true rfl) ⟨(Nat.le_of_ble_eq_true rfl), (Nat.le_of_ble_eq_true rfl)⟩ ⟨(Nat.le_of_ble_eq_true rfl), (Nat.le_of_ble_eq_true rfl)⟩ ?_
  refine kk_exl (fun b hb3 => ?_)
  obtain ⟨hb1, hb2⟩ := hb3
  refine g_lstore_n (vs' := [_, _, _, _, _, _, _]) h 2 dX1_judgement_5 rfl (Nat.le_of_ble_eq_true rfl) rfl rfl ?_
  refine g_iconst h (nI 0) dX1_judgement_6 (by decide) ?_
  refine g_istore (vs' := [_, _, _, _, _, _, _]) h dX1_judgement_7 (Nat.le_of_ble_eq_true rfl) rfl rfl ?_
  refine g_iconst h (nI 0) dX1_judgement_9 (by decide) ?_
  refine g_istore (vs' := [_, _, _, _, _, _, _]) h dX1_judgement_10 (Nat.le_of_ble_eq_true rfl) rfl rfl ?_
  refine g_iconst h (nI 0) dX1_judgement_12 (by decide) ?_
  refine g_istore (vs' := [_, _, _, _, _, _, _]) h dX1_judgement_13 (Nat.le_of_ble_eq_true rfl) rfl rfl ?_
  have hL := lastS_le hy1
  have L15 : ∀ (m0 : Nat) (i : Nat) (K : Int32) (B : Int32), (i ≤ lastS so y + 1) → (K = bI (∃ q, q < i ∧ bt b q = true ∧ ¬ brk so y q)) → (B = bI (∃ q, q < i ∧ bt b q = true ∧ brk so y q)) → (lastS so y + 1 - i) < m0 → G X E 7 (AD σ) (QF X E σ (fun o s => o = some (.int (nI (jdV so x y g n))) ∧ s = σ) rm_X1_judgement) 0 0 15 [some (.ref a), some (.ref r), some (.long b), none, some (.int K), some (.int B), some (.int (nI i))] [] σ := by
    intro m0
    induction m0 with
    | zero => intro i K B _ _ _ hm0; exact absurd hm0 (Nat.not_lt_zero _)
    | succ m0 ih =>
      intro i K B hi hK hB hm0
      refine g_iload h dX1_judgement_15 rfl ?_
      refine g_aload_n h 0 dX1_judgement_17 rfl rfl ?_
      refine g_callV h [_] (c_X1_lastState (xL X) E _ h1 hs hx hy) cf_X1_25 cv_X1_lastState dX1_judgement_18 rfl h1 rfl rfl (Nat.le_of_ble_eq_true rfl) ⟨(Nat.le_of_ble_eq_true rfl), (Nat.le_of_ble_eq_true rfl)⟩ ⟨(Nat.le_of_ble_eq_true rfl), (Nat.le_of_ble_eq_true rfl)⟩ ?_
      refine kk_det ?_
      refine g_icmp_gtN h 57 dX1_judgement_21 (by decide) (by omega) (by omega) (fun c21_1 => ?_) (fun c21_1 => ?_)
      · skip
        have eB : (∃ q, q < i ∧ bt b q = true ∧ brk so y q) ↔ canB so x y g n := (Iff.intro (fun ⟨q, q1, q2, q3⟩ => ⟨q, by omega, (hb2 q (by omega)).mp q2, q3⟩) (fun ⟨q, q1, q2, q3⟩ => ⟨q, by omega, (hb2 q q1).mpr q2, q3⟩)).trans (FS_B hs hx)
        have eK : (∃ q, q < i ∧ bt b q = true ∧ ¬ brk so y q) ↔ canK so x y g n := (Iff.intro (fun ⟨q, q1, q2, q3⟩ => ⟨q, by omega, (hb2 q (by omega)).mp q2, q3⟩) (fun ⟨q, q1, q2, q3⟩ => ⟨q, by omega, (hb2 q q1).mpr q2, q3⟩)).trans (FS_K hs hx)
        refine g_iload h dX1_judgement_57 rfl ?_
        refine g_if_ne h 64 dX1_judgement_59 (by decide) (fun c59_2 => ?_) (fun c59_2 => ?_)
        · skip
          refine g_iload h dX1_judgement_64 rfl ?_
          refine g_if_eq h 73 dX1_judgement_66 (by decide) (fun c66_3 => ?_) (fun c66_3 => ?_)
          · skip
            refine g_iconst h (nI 2) dX1_judgement_73 (by decide) ?_
            exact g_iret h hr dX1_judgement_74 (retI (congrArg nI (jdV_2 (eB.mp (bI_ne hB c59_2)) (fun q => bI_eq hK c66_3 (eK.mpr q))).symm)) (Nat.le_of_ble_eq_true rfl) (Nat.le_of_ble_eq_true rfl)
          · skip
            refine g_iconst h (nI 1) dX1_judgement_69 (by decide) ?_
            refine g_goto h 74 dX1_judgement_70 (by decide) ?_
            exact g_iret h hr dX1_judgement_74 (retI (congrArg nI (jdV_1 (eB.mp (bI_ne hB c59_2)) (eK.mp (bI_ne hK c66_3))).symm)) (Nat.le_of_ble_eq_true rfl) (Nat.le_of_ble_eq_true rfl)
        · skip
          refine g_iconst h (nI 0) dX1_judgement_62 (by decide) ?_
          exact g_iret h hr dX1_judgement_63 (retI (congrArg nI (jdV_0 (fun q => bI_eq hB c59_2 (eB.mpr q))).symm)) (Nat.le_of_ble_eq_true rfl) (Nat.le_of_ble_eq_true rfl)
      · skip
        refine g_lload_n h 2 dX1_judgement_24 rfl rfl ?_
        refine g_iload h dX1_judgement_25 rfl ?_
        refine g_callSN h [] (c_X5_hasBit (xL X) E _ b (b := i) (by omega)) cf_X1_29 h.2.2.2.2.1.2.2.2.1.2.2.2.2.1 cs_X5_hasBit dX1_judgement_27 rfl rfl (Nat.le_of_ble_eq_true rfl) ⟨(Nat.le_of_ble_eq_true rfl), (Nat.le_of_ble_eq_true rfl)⟩ ⟨(Nat.le_of_ble_eq_true rfl), (Nat.le_of_ble_eq_true rfl)⟩ ?_
        refine kk_det ?_
        refine g_if_eqB h 51 dX1_judgement_30 (by decide) (fun c30_4 => ?_) (fun c30_4 => ?_)
        · skip
          refine g_iinc (vs' := [_, _, _, _, _, _, _]) h (nI (i + 1)) dX1_judgement_51 rfl (by first | exact nI_1 _ | rfl) (Nat.le_of_ble_eq_true rfl) rfl rfl ?_
          refine g_goto h 15 dX1_judgement_54 (by decide) ?_
          refine ih (i + 1) (K) (B) (by omega) ?_ ?_ (by omega)
          · rw [hK]; exact bI_iff (ex_no (fun p => absurd p.1 c30_4))
          · rw [hB]; exact bI_iff (ex_no (fun p => absurd p.1 c30_4))
        · skip
          refine g_aload_n h 0 dX1_judgement_33 rfl rfl ?_
          refine g_iload h dX1_judgement_34 rfl ?_
          refine g_callV h [] (c_X1_isBroken (xL X) E _ h1 hs hx hy (st := i) (by omega)) cf_X1_33 cv_X1_isBroken dX1_judgement_36 rfl h1 rfl rfl (Nat.le_of_ble_eq_true rfl) ⟨(Nat.le_of_ble_eq_true rfl), (Nat.le_of_ble_eq_true rfl)⟩ ⟨(Nat.le_of_ble_eq_true rfl), (Nat.le_of_ble_eq_true rfl)⟩ ?_
          refine kk_det ?_
          refine g_if_eqB h 48 dX1_judgement_39 (by decide) (fun c39_5 => ?_) (fun c39_5 => ?_)
          · skip
            refine g_iconst h (nI 1) dX1_judgement_48 (by decide) ?_
            refine g_istore (vs' := [_, _, _, _, _, _, _]) h dX1_judgement_49 (Nat.le_of_ble_eq_true rfl) rfl rfl ?_
            refine g_iinc (vs' := [_, _, _, _, _, _, _]) h (nI (i + 1)) dX1_judgement_51 rfl (by first | exact nI_1 _ | rfl) (Nat.le_of_ble_eq_true rfl) rfl rfl ?_
            refine g_goto h 15 dX1_judgement_54 (by decide) ?_
            refine ih (i + 1) (nI 1) (B) (by omega) ?_ ?_ (by omega)
            · exact (bI_t ⟨i, by omega, c30_4, c39_5⟩).symm
            · rw [hB]; exact bI_iff (ex_no (fun p => absurd p.2 c39_5))
          · skip
            refine g_iconst h (nI 1) dX1_judgement_42 (by decide) ?_
            refine g_istore (vs' := [_, _, _, _, _, _, _]) h dX1_judgement_43 (Nat.le_of_ble_eq_true rfl) rfl rfl ?_
            refine g_goto h 51 dX1_judgement_45 (by decide) ?_
            refine g_iinc (vs' := [_, _, _, _, _, _, _]) h (nI (i + 1)) dX1_judgement_51 rfl (by first | exact nI_1 _ | rfl) (Nat.le_of_ble_eq_true rfl) rfl rfl ?_
            refine g_goto h 15 dX1_judgement_54 (by decide) ?_
            refine ih (i + 1) (K) (nI 1) (by omega) ?_ ?_ (by omega)
            · rw [hK]; exact bI_iff (ex_no (fun p => absurd c39_5 p.2))
            · exact (bI_t ⟨i, by omega, c30_4, c39_5⟩).symm
  exact L15 (lastS so y + 2) 0 0 0 (by omega) (bI_f (fun ⟨q, q1, _⟩ => absurd q1 (Nat.not_lt_zero _))).symm (bI_f (fun ⟨q, q1, _⟩ => absurd q1 (Nat.not_lt_zero _))).symm (by omega)
abbrev rm_X5_judgementOf : Room := { frames := 4, cells := 0, slots := 0, locals := 101 }
set_option maxRecDepth 100000 in
set_option maxHeartbeats 4000000 in
theorem c_X5_judgementOf (l : Launch) (E : EnvD) (σ : Sto) {a so x y : Nat} (h1 : σ.1 a = some (cO 1 [.int (nI so), .int (nI x), .int (nI y)])) (hs : so < 7) (hx : x < 100) (hy : y < 100) (hy1 : so = 1 → y ≤ 40) {r n : Nat} {g : Nat → Int32} (hr2 : RowIs E σ r n g) (hn40 : n ≤ 40) : CC l yX5_judgementOf cX5_judgementOf 2 (some .int) rm_X5_judgementOf E [.ref r, .ref a] σ (fun o s => o = some (.int (nI (jdV so x y g n))) ∧ s = σ) := by
  refine cc_of (vs := [_, _]) (by decide) (Nat.le_of_ble_eq_true rfl) rfl ?_
  intro X h hr hn
  refine g_aload_n h 1 dX5_judgementOf_0 rfl rfl ?_
  refine g_ifnonnull h 8 dX5_judgementOf_1 (by decide) ?_
  refine g_aload_n h 1 dX5_judgementOf_8 rfl rfl ?_
  refine g_aload_n h 0 dX5_judgementOf_9 rfl rfl ?_
  refine g_callV h [] (c_X1_judgement (xL X) E _ h1 hs hx hy hy1 hr2 hn40) cf_X5_212 cv_X1_judgement dX5_judgementOf_10 rfl h1 rfl rfl (Nat.le_of_ble_eq_true rfl) ⟨(Nat.le_of_ble_eq_true rfl), (Nat.le_of_ble_eq_true rfl)⟩ ⟨(Nat.le_of_ble_eq_true rfl), (Nat.le_of_ble_eq_true rfl)⟩ ?_
  refine kk_det ?_
  exact g_iret h hr dX5_judgementOf_13 (⟨rfl, rfl⟩) (Nat.le_of_ble_eq_true rfl) (Nat.le_of_ble_eq_true rfl)
