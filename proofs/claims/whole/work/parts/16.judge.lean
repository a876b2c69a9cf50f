/-! a condition's judgement as numbers over what was heard (own work) -/
def mN (c : Nat) (h : Nat → Int32) : Nat → Nat
  | 0 => 0
  | n + 1 => mN c h n + (if h n = nI c then 1 else 0)
def gp (h : Nat → Int32) : Nat → Prop
  | 0 => False
  | n + 1 => gp h n ∨ h n = -1
def gaY (y : Nat) (h : Nat → Int32) : Nat → Prop
  | 0 => False
  | n + 1 => h n = -1 ∨ (h n ≠ nI y ∧ gaY y h n)
def ahd (h : Nat → Int32) (n : Nat) : Int32 := if 0 < n then h (n - 1) else -2
def hel (so x y : Nat) (h : Nat → Int32) : Nat → Prop
  | 0 => True
  | n + 1 => hel so x y h n ∧ (h n = nI x → (so = 2 → x ≠ y ∧ (0 < mN y h n ∨ gp h n)) ∧ (so = 5 → x ≠ y ∧ (ahd h n = nI y ∨ ahd h n = -1)))
def bar (so x y : Nat) (h : Nat → Int32) : Nat → Prop
  | 0 => True
  | n + 1 => bar so x y h n ∧ (h n = nI y → so = 6 → mN x h n = 0) ∧ (h n = nI x → so = 5 → ahd h n = nI y)
def opn (x y : Nat) (h : Nat → Int32) : Nat → Prop
  | 0 => False
  | n + 1 => opn x y h n ∨ ((h n = -1 ∨ h n = nI x) ∧ mN y h n = 0)
def FS (so x y : Nat) (h : Nat → Int32) (n s : Nat) : Prop :=
  (so = 0 ∨ so = 4) ∧ ((s = 0 ∧ mN x h n = 0) ∨ (s = 1 ∧ (0 < mN x h n ∨ gp h n))) ∨
  so = 1 ∧ (min (mN x h n) (y + 1) ≤ s ∧ s ≤ y + 1 ∧ (gp h n ∨ s = min (mN x h n) (y + 1))) ∨
  so = 2 ∧ ((s = 0 ∧ mN x h n = 0 ∧ mN y h n = 0) ∨ (s = 1 ∧ x ≠ y ∧ hel so x y h n ∧ (0 < mN y h n ∨ gp h n)) ∨ (s = 2 ∧ opn x y h n)) ∨
  so = 3 ∧ ((s = 0 ∧ mN x h n = 0 ∧ mN y h n = 0) ∨ (s = 1 ∧ x ≠ y ∧ mN y h n = 0 ∧ (0 < mN x h n ∨ gp h n)) ∨ (s = 2 ∧ x ≠ y ∧ mN x h n = 0 ∧ (0 < mN y h n ∨ gp h n)) ∨ (s = 3 ∧ (0 < mN x h n ∨ gp h n) ∧ (0 < mN y h n ∨ gp h n))) ∨
  so = 5 ∧ ((s = 0 ∧ hel so x y h n ∧ ahd h n ≠ nI y) ∨ (s = 1 ∧ x ≠ y ∧ hel so x y h n ∧ (ahd h n = nI y ∨ ahd h n = -1)) ∨ (s = 2 ∧ (gp h n ∨ ¬ bar so x y h n))) ∨
  so = 6 ∧ ((s = 0 ∧ mN x h n = 0) ∨ (s = 1 ∧ ((0 < mN x h n ∧ bar so x y h n) ∨ (mN x h n = 0 ∧ gaY y h n))) ∨ (s = 2 ∧ (gp h n ∨ ¬ bar so x y h n)))
section AX
variable {x y : Nat} {h : Nat → Int32}
theorem a_mx_hel {so : Nat} : ∀ {n}, mN x h n = 0 → hel so x y h n
  | 0, _ => trivial
  | n + 1, e => by
    have ih := @a_mx_hel so n
    unfold mN at e
    unfold hel
    by_cases c : h n = nI x
    · rw [if_pos c] at e; omega
    · exact ⟨ih (by omega), fun q => absurd q c⟩
theorem a_hel2 : ∀ {n}, hel 2 x y h n → mN y h n = 0 → ¬ gp h n → mN x h n = 0
  | 0, _, _, _ => rfl
  | n + 1, e, e1, e2 => by
    have ih := @a_hel2 n
    unfold mN at e1 ⊢
    unfold hel at e
    unfold gp at e2
    grind
theorem a_opn : ∀ {n}, 0 < mN x h n → mN y h n = 0 → opn x y h n
  | 0, e, _ => by unfold mN at e; omega
  | n + 1, e, e1 => by
    have ih := @a_opn n
    unfold mN at e e1
    unfold opn
    grind
theorem a_ahd : ∀ {n}, ahd h n = nI y → y < 100 → 0 < mN y h n
  | 0, e, hy => by
    unfold ahd at e
    rw [if_neg (by omega)] at e
    exfalso
    have : ∀ y, y < 100 → (-2 : Int32) ≠ nI y := by decide +kernel
    exact this y hy e
  | n + 1, e, _ => by
    unfold ahd at e
    rw [if_pos (by omega), Nat.add_sub_cancel] at e
    unfold mN
    rw [if_pos e]
    omega
theorem a_hel5 : ∀ {n}, hel 5 x x h n → mN x h n = 0
  | 0, _ => rfl
  | n + 1, e => by
    have ih := @a_hel5 n
    unfold hel at e
    unfold mN
    grind
theorem a_hel2x : ∀ {n}, hel 2 x x h n → mN x h n = 0
  | 0, _ => rfl
  | n + 1, e => by
    have ih := @a_hel2x n
    unfold hel at e
    unfold mN
    grind
theorem a_barx (hx : x < 100) : ∀ {n}, bar 5 x x h n → mN x h n = 0
  | 0, _ => rfl
  | n + 1, e => by
    have ih := @a_barx hx n
    have ha := @a_ahd x h n
    unfold bar at e
    unfold mN
    grind
theorem a_bar5 (hx : x < 100) : ∀ {n}, bar 5 x y h n → hel 5 x y h n
  | 0, _ => trivial
  | n + 1, e => by
    by_cases q : x = y
    · subst q
      exact a_mx_hel (a_barx hx e)
    · have ih := @a_bar5 hx n
      unfold bar at e
      unfold hel
      grind
theorem a_bar6 : ∀ {n}, mN x h n = 0 → bar 6 x y h n
  | 0, _ => trivial
  | n + 1, e => by
    have ih := @a_bar6 n
    unfold mN at e
    unfold bar
    grind
theorem a_gaY : ∀ {n}, gaY y h n → gp h n
  | 0, e => e
  | n + 1, e => by
    have ih := @a_gaY n
    unfold gaY at e
    unfold gp
    grind
end AX
theorem mN_s {c n : Nat} {h : Nat → Int32} : mN c h (n + 1) = mN c h n + (if h n = nI c then 1 else 0) := rfl
theorem gp_s {n : Nat} {h : Nat → Int32} : gp h (n + 1) = (gp h n ∨ h n = -1) := rfl
theorem gaY_s {y n : Nat} {h : Nat → Int32} : gaY y h (n + 1) = (h n = -1 ∨ (h n ≠ nI y ∧ gaY y h n)) := rfl
theorem hel_s {so x y n : Nat} {h : Nat → Int32} : hel so x y h (n + 1) = (hel so x y h n ∧ (h n = nI x → (so = 2 → x ≠ y ∧ (0 < mN y h n ∨ gp h n)) ∧ (so = 5 → x ≠ y ∧ (ahd h n = nI y ∨ ahd h n = -1)))) := rfl
theorem bar_s {so x y n : Nat} {h : Nat → Int32} : bar so x y h (n + 1) = (bar so x y h n ∧ (h n = nI y → so = 6 → mN x h n = 0) ∧ (h n = nI x → so = 5 → ahd h n = nI y)) := rfl
theorem opn_s {x y n : Nat} {h : Nat → Int32} : opn x y h (n + 1) = (opn x y h n ∨ ((h n = -1 ∨ h n = nI x) ∧ mN y h n = 0)) := rfl
theorem ex4 {L : Nat} (hL : L = 3) {P : Nat → Prop} : (∃ q, q ≤ L ∧ P q) ↔ (P 0 ∨ P 1 ∨ P 2 ∨ P 3) := by
  subst hL
  constructor
  · rintro ⟨q, h, p⟩
    rcases (show q = 0 ∨ q = 1 ∨ q = 2 ∨ q = 3 by omega) with rfl | rfl | rfl | rfl
    · exact Or.inl p
    · exact Or.inr (Or.inl p)
    · exact Or.inr (Or.inr (Or.inl p))
    · exact Or.inr (Or.inr (Or.inr p))
  · rintro (p | p | p | p)
    · exact ⟨0, by omega, p⟩
    · exact ⟨1, by omega, p⟩
    · exact ⟨2, by omega, p⟩
    · exact ⟨3, by omega, p⟩
theorem FS_line {so x y n : Nat} {h : Nat → Int32} (hs : so < 7) (hx : x < 100) (hy : y < 100) (hl : h n ≠ -1) : ∀ j, j ≤ lastS so y → ((∃ q, q ≤ lastS so y ∧ FS so x y h n q ∧ nx so x y q (h n) = j) ↔ FS so x y h (n + 1) j) := by
  intro j hj
  have inj : nI x = nI y ↔ x = y := nI_eq (by omega) (by omega)
  have e1 : ahd h (n + 1) = h n := by unfold ahd; rw [if_pos (by omega), Nat.add_sub_cancel]
  rcases (show so = 0 ∨ so = 1 ∨ so = 2 ∨ so = 3 ∨ so = 4 ∨ so = 5 ∨ so = 6 by omega) with rfl | rfl | rfl | rfl | rfl | rfl | rfl
  · refine (ex4 (show lastS 0 y = 3 from rfl)).trans ?_
    have hj3 : j ≤ 3 := hj
    simp only [FS, nx, mN_s, gp_s]
    grind
  · have hL : lastS 1 y = y + 1 := rfl
    rw [hL] at hj ⊢
    simp only [FS, nx, mN_s, gp_s, hl, or_false]
    by_cases c : h n = nI x
    · simp only [if_pos c, c, true_and, if_true]
      constructor
      · rintro ⟨q, hq, hf, e⟩
        grind
      · intro hf
        by_cases g : gp h n
        · by_cases e : j = y + 1
          · refine ⟨y + 1, by omega, ?_, ?_⟩ <;> grind
          · refine ⟨j - 1, by omega, ?_, ?_⟩ <;> grind
        · refine ⟨min (mN x h n) (y + 1), by omega, ?_, ?_⟩ <;> grind
    · simp only [if_neg c, c, false_and, if_false, Nat.add_zero]
      constructor
      · rintro ⟨q, hq, hf, e⟩
        grind
      · intro hf
        exact ⟨j, hj, by grind, by grind⟩
  · refine (ex4 (show lastS 2 y = 3 from rfl)).trans ?_
    have hj3 : j ≤ 3 := hj
    have k1 := @a_hel2 x y h n
    have k2 := @a_mx_hel x y h 2 n
    have k3 := @a_opn x y h n
    have k4 : x = y → mN x h n = mN y h n := fun e => by rw [e]
    simp only [FS, nx, mN_s, gp_s, hel_s, opn_s]
    grind
  · refine (ex4 (show lastS 3 y = 3 from rfl)).trans ?_
    have hj3 : j ≤ 3 := hj
    have k4 : x = y → mN x h n = mN y h n := fun e => by rw [e]
    by_cases c1 : h n = nI x <;> by_cases c2 : h n = nI y
    · simp only [FS, nx, mN_s, gp_s, if_pos c1, if_pos c2, Nat.reduceOr, hl]
      grind
    · simp only [FS, nx, mN_s, gp_s, if_pos c1, if_neg c2, Nat.reduceOr, hl]
      grind
    · simp only [FS, nx, mN_s, gp_s, if_neg c1, if_pos c2, Nat.reduceOr, hl]
      grind
    · simp only [FS, nx, mN_s, gp_s, if_neg c1, if_neg c2, Nat.reduceOr, hl]
      grind
  · refine (ex4 (show lastS 4 y = 3 from rfl)).trans ?_
    have hj3 : j ≤ 3 := hj
    simp only [FS, nx, mN_s, gp_s]
    grind
  · refine (ex4 (show lastS 5 y = 3 from rfl)).trans ?_
    have hj3 : j ≤ 3 := hj
    have k1 := @a_bar5 x y h hx n
    have k2 := @a_mx_hel x y h 5 n
    have k3 : x = y → hel 5 x y h n → mN x h n = 0 := fun e q => by subst e; exact a_hel5 q
    have k5 : x = y → bar 5 x y h n → mN x h n = 0 := fun e q => by subst e; exact a_barx hx q
    have k4 : x = y → mN x h n = mN y h n := fun e => by rw [e]
    have k6 := @a_ahd y h n
    simp only [FS, nx, e1, mN_s, gp_s, hel_s, bar_s]
    grind
  · refine (ex4 (show lastS 6 y = 3 from rfl)).trans ?_
    have hj3 : j ≤ 3 := hj
    have k1 := @a_bar6 x y h n
    have k2 := @a_gaY y h n
    have k4 : x = y → mN x h n = mN y h n := fun e => by rw [e]
    simp only [FS, nx, mN_s, gp_s, bar_s, gaY_s]
    grind

theorem clo3 {so x y : Nat} (hL : lastS so y = 3) {P : Nat → Prop} (h : ∀ s, s ≤ 3 → P s → P (nx so x y s (nI x)) ∧ P (nx so x y s (nI y)) ∧ P (nx so x y s (-1))) : clo so x y P := fun s hs => h s (by omega)
/-- what a gap makes of the states -/
theorem FS_gap {so x y n : Nat} {h : Nat → Int32} (hs : so < 7) (hx : x < 100) (hy : y < 100) (hl : h n = -1) {Bb : Nat → Prop} (h1 : ∀ j, j ≤ lastS so y → FS so x y h n j → Bb j) (h2 : clo so x y Bb) (h3 : ∀ P : Nat → Prop, (∀ j, j ≤ lastS so y → FS so x y h n j → P j) → clo so x y P → ∀ j, j ≤ lastS so y → Bb j → P j) : ∀ j, j ≤ lastS so y → (Bb j ↔ FS so x y h (n + 1) j) := by
  have inj : nI x = nI y ↔ x = y := nI_eq (by omega) (by omega)
  have m1 : ∀ c, c < 100 → (-1 : Int32) ≠ nI c := by decide +kernel
  have m2 := m1 x hx
  have m3 := m1 y hy
  have e1 : ahd h (n + 1) = h n := by unfold ahd; rw [if_pos (by omega), Nat.add_sub_cancel]
  have n1 : ¬ h n = nI x := fun e => m2 (hl ▸ e)
  have n2 : ¬ h n = nI y := fun e => m3 (hl ▸ e)
  have inj2 : nI y = nI x ↔ y = x := nI_eq (by omega) (by omega)
  intro j hj
  rcases (show so = 0 ∨ so = 1 ∨ so = 2 ∨ so = 3 ∨ so = 4 ∨ so = 5 ∨ so = 6 by omega) with rfl | rfl | rfl | rfl | rfl | rfl | rfl
  · have hj3 : j ≤ 3 := hj
    constructor
    · refine h3 _ ?_ (clo3 rfl ?_) j hj
      · intro s hs9
        have hs3 : s ≤ 3 := hs9
        simp only [FS, e1, hl, mN_s, gp_s, if_neg n1, if_neg n2]
        grind
      · intro s hs9
        simp only [FS, nx, e1, hl, mN_s, gp_s, if_neg n1, if_neg n2]
        grind
    · have b0 := h2 0 (Nat.zero_le _)
      have b1 := h2 1 (show 1 ≤ 3 by omega)
      have b2 := h2 2 (show 2 ≤ 3 by omega)
      have c0 := h1 0 (Nat.zero_le _)
      have c1 := h1 1 (show 1 ≤ 3 by omega)
      have c2 := h1 2 (show 2 ≤ 3 by omega)
      have c3 := h1 3 (show 3 ≤ 3 by omega)
      simp only [FS, nx, e1, hl, mN_s, gp_s, if_neg n1, if_neg n2] at b0 b1 b2 c0 c1 c2 c3 ⊢
      grind
  · have hL : lastS 1 y = y + 1 := rfl
    have hst : ∀ q, q ≤ y → nx 1 x y q (nI x) = q + 1 := fun q hq => by simp [nx, hq]
    constructor
    · refine h3 _ ?_ ?_ j hj
      · intro s hs9
        simp only [FS, hl, mN_s, gp_s, if_neg n1]
        grind
      · intro s hs9
        rw [hL] at hs9
        simp only [FS, nx, hl, mN_s, gp_s, if_neg n1]
        grind
    · intro hf
      have hup : ∀ q, q ≤ y → Bb q → Bb (q + 1) := fun q hq hb => by
        have := (h2 q (by rw [hL]; omega) hb).1
        rwa [hst q hq] at this
      have hmin : Bb (min (mN x h n) (y + 1)) := h1 _ (by rw [hL]; omega) (by simp only [FS]; grind)
      have hall : ∀ d, min (mN x h n) (y + 1) + d ≤ y + 1 → Bb (min (mN x h n) (y + 1) + d) := by
        intro d
        induction d with
        | zero => intro _; exact hmin
        | succ d ih => intro hd; exact hup (min (mN x h n) (y + 1) + d) (by omega) (ih (by omega))
      have hge : min (mN x h n) (y + 1) ≤ j := by
        simp only [FS, hl, mN_s, gp_s, if_neg n1] at hf
        grind
      have := hall (j - min (mN x h n) (y + 1)) (by omega)
      rwa [show min (mN x h n) (y + 1) + (j - min (mN x h n) (y + 1)) = j by omega] at this
  · have hj3 : j ≤ 3 := hj
    have k1 := @a_hel2 x y h n
    have k2 := @a_mx_hel x y h 2 n
    have k3 := @a_opn x y h n
    have k5 : x = y → hel 2 x y h n → mN x h n = 0 := fun e q => by subst e; exact a_hel2x q
    have k4 : x = y → mN x h n = mN y h n := fun e => by rw [e]
    constructor
    · refine h3 _ ?_ (clo3 rfl ?_) j hj
      · intro s hs9
        have hs3 : s ≤ 3 := hs9
        simp only [FS, e1, hl, mN_s, gp_s, hel_s, opn_s, if_neg n1, if_neg n2]
        grind
      · intro s hs9
        simp only [FS, nx, e1, hl, mN_s, gp_s, hel_s, opn_s, if_neg n1, if_neg n2]
        grind
    · have b0 := h2 0 (Nat.zero_le _)
      have b1 := h2 1 (show 1 ≤ 3 by omega)
      have b2 := h2 2 (show 2 ≤ 3 by omega)
      have c0 := h1 0 (Nat.zero_le _)
      have c1 := h1 1 (show 1 ≤ 3 by omega)
      have c2 := h1 2 (show 2 ≤ 3 by omega)
      have c3 := h1 3 (show 3 ≤ 3 by omega)
      simp only [FS, nx, e1, hl, mN_s, gp_s, hel_s, opn_s, if_neg n1, if_neg n2] at b0 b1 b2 c0 c1 c2 c3 ⊢
      grind
  · have hj3 : j ≤ 3 := hj
    have k4 : x = y → mN x h n = mN y h n := fun e => by rw [e]
    constructor
    · refine h3 _ ?_ (clo3 rfl ?_) j hj
      · intro s hs9
        have hs3 : s ≤ 3 := hs9
        simp only [FS, e1, hl, mN_s, gp_s, if_neg n1, if_neg n2]
        grind
      · intro s hs9
        simp only [FS, nx, e1, hl, mN_s, gp_s, if_neg n1, if_neg n2]
        rcases (show s = 0 ∨ s = 1 ∨ s = 2 ∨ s = 3 by omega) with rfl | rfl | rfl | rfl <;> (by_cases q : x = y <;> simp [q, inj, inj2, m2, m3] <;> grind)
    · have b0 := h2 0 (Nat.zero_le _)
      have b1 := h2 1 (show 1 ≤ 3 by omega)
      have b2 := h2 2 (show 2 ≤ 3 by omega)
      have c0 := h1 0 (Nat.zero_le _)
      have c1 := h1 1 (show 1 ≤ 3 by omega)
      have c2 := h1 2 (show 2 ≤ 3 by omega)
      have c3 := h1 3 (show 3 ≤ 3 by omega)
      simp only [FS, nx, e1, hl, mN_s, gp_s, if_neg n1, if_neg n2] at b0 b1 b2 c0 c1 c2 c3 ⊢
      grind
  · have hj3 : j ≤ 3 := hj
    constructor
    · refine h3 _ ?_ (clo3 rfl ?_) j hj
      · intro s hs9
        have hs3 : s ≤ 3 := hs9
        simp only [FS, e1, hl, mN_s, gp_s, if_neg n1, if_neg n2]
        grind
      · intro s hs9
        simp only [FS, nx, e1, hl, mN_s, gp_s, if_neg n1, if_neg n2]
        grind
    · have b0 := h2 0 (Nat.zero_le _)
      have b1 := h2 1 (show 1 ≤ 3 by omega)
      have b2 := h2 2 (show 2 ≤ 3 by omega)
      have c0 := h1 0 (Nat.zero_le _)
      have c1 := h1 1 (show 1 ≤ 3 by omega)
      have c2 := h1 2 (show 2 ≤ 3 by omega)
      have c3 := h1 3 (show 3 ≤ 3 by omega)
      simp only [FS, nx, e1, hl, mN_s, gp_s, if_neg n1, if_neg n2] at b0 b1 b2 c0 c1 c2 c3 ⊢
      grind
  · have hj3 : j ≤ 3 := hj
    have k1 := @a_bar5 x y h hx n
    have k2 := @a_mx_hel x y h 5 n
    have k3 : x = y → hel 5 x y h n → mN x h n = 0 := fun e q => by subst e; exact a_hel5 q
    have k5 : x = y → bar 5 x y h n → mN x h n = 0 := fun e q => by subst e; exact a_barx hx q
    have k4 : x = y → mN x h n = mN y h n := fun e => by rw [e]
    have k6 := @a_ahd y h n
    constructor
    · refine h3 _ ?_ (clo3 rfl ?_) j hj
      · intro s hs9
        have hs3 : s ≤ 3 := hs9
        simp only [FS, e1, hl, mN_s, gp_s, hel_s, bar_s, if_neg n1, if_neg n2]
        grind
      · intro s hs9
        simp only [FS, nx, e1, hl, mN_s, gp_s, hel_s, bar_s, if_neg n1, if_neg n2]
        grind
    · have b0 := h2 0 (Nat.zero_le _)
      have b1 := h2 1 (show 1 ≤ 3 by omega)
      have b2 := h2 2 (show 2 ≤ 3 by omega)
      have c0 := h1 0 (Nat.zero_le _)
      have c1 := h1 1 (show 1 ≤ 3 by omega)
      have c2 := h1 2 (show 2 ≤ 3 by omega)
      have c3 := h1 3 (show 3 ≤ 3 by omega)
      simp only [FS, nx, e1, hl, mN_s, gp_s, hel_s, bar_s, if_neg n1, if_neg n2] at b0 b1 b2 c0 c1 c2 c3 ⊢
      grind
  · have hj3 : j ≤ 3 := hj
    have k1 := @a_bar6 x y h n
    have k2 := @a_gaY y h n
    have k4 : x = y → mN x h n = mN y h n := fun e => by rw [e]
    constructor
    · refine h3 _ ?_ (clo3 rfl ?_) j hj
      · intro s hs9
        have hs3 : s ≤ 3 := hs9
        simp only [FS, e1, hl, mN_s, gp_s, bar_s, gaY_s, if_neg n1, if_neg n2]
        grind
      · intro s hs9
        simp only [FS, nx, e1, hl, mN_s, gp_s, bar_s, gaY_s, if_neg n1, if_neg n2]
        grind
    · have b0 := h2 0 (Nat.zero_le _)
      have b1 := h2 1 (show 1 ≤ 3 by omega)
      have b2 := h2 2 (show 2 ≤ 3 by omega)
      have c0 := h1 0 (Nat.zero_le _)
      have c1 := h1 1 (show 1 ≤ 3 by omega)
      have c2 := h1 2 (show 2 ≤ 3 by omega)
      have c3 := h1 3 (show 3 ≤ 3 by omega)
      simp only [FS, nx, e1, hl, mN_s, gp_s, bar_s, gaY_s, if_neg n1, if_neg n2] at b0 b1 b2 c0 c1 c2 c3 ⊢
      grind
