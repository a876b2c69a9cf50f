/-! every call keeps the state valid (own work) -/
theorem cl_lt {x : Int32} {n : Nat} (h : inR x n) (hn : n ≤ 2147483648) : cl x < n := by
  obtain ⟨j, h1, rfl⟩ := h
  rw [cl_nI (by omega)]; exact h1
theorem okH_of {x : Int32} (h : x = -1 ∨ inR x 100) : okH x := h
theorem trT_lt {ct : Nat → Nat → Nat} {all : Nat} : ∀ f R k, trT ct all f R k < 8
  | 0, _, _ => by unfold trT; omega
  | f + 1, R, 0 => by
    show (nxT ct all (f + 1) R).getD 0 < 8
    cases h : nxT ct all (f + 1) R with
    | none => exact Nat.le_of_ble_eq_true rfl
    | some b => exact (bestT_in h).1
  | f + 1, R, k + 1 => trT_lt f _ k
theorem cifP {α : Type} (P : Prop) (a b : α) (Q : α → Prop) (h1 : P → Q a) (h2 : ¬ P → Q b) : Q (cif P a b) := by
  by_cases h : P
  · rw [cif_t h]; exact h1 h
  · rw [cif_f h]; exact h2 h
theorem insN_lt {l : Nat → Nat} {n i x q m : Nat} (h : ∀ j, j < n → l j < m) (hi : i ≤ n) (hx : x < m) (hq : q < n + 1) : insN l n i x q < m := by
  unfold insN
  split
  · exact h _ (by omega)
  · split
    · exact hx
    · split
      · exact h _ (by omega)
      · omega
theorem inv_put {S : PSt} (h : Inv S) (v i x : Int32) : Inv (opPut S v i x).2 := by
  refine cifP _ _ _ (fun r : Int32 × PSt => Inv r.2) (fun ⟨hv, hi, hx⟩ => ?_) (fun _ => h)
  refine cifP _ _ _ (fun r : Int32 × PSt => Inv r.2) (fun _ => h) (fun h40 => ?_)
  have hv8 := cl_lt hv (Nat.le_of_ble_eq_true rfl)
  obtain ⟨k1, k2⟩ := h.1 _ hv8
  have hi2 := cl_lt hi (by omega)
  exact inv_setV h (by omega) (fun q hq => insN_lt k2 (by omega) (cl_lt hx (Nat.le_of_ble_eq_true rfl)) hq)
theorem inv_take {S : PSt} (h : Inv S) (v i : Int32) : Inv (opTake S v i).2 := by
  refine cifP _ _ _ (fun r : Int32 × PSt => Inv r.2) (fun ⟨hv, hi⟩ => ?_) (fun _ => h)
  have hv8 := cl_lt hv (Nat.le_of_ble_eq_true rfl)
  obtain ⟨k1, k2⟩ := h.1 _ hv8
  refine inv_setV h (by omega) (fun q hq => ?_)
  unfold remN
  split
  · exact k2 _ (by omega)
  · exact k2 _ (by omega)
theorem inv_copy {S : PSt} (h : Inv S) (a b : Int32) : Inv (opCopy S a b).2 := by
  refine cifP _ _ _ (fun r : Int32 × PSt => Inv r.2) (fun ⟨ha, hb⟩ => ?_) (fun _ => h)
  obtain ⟨k1, k2⟩ := h.1 _ (cl_lt ha (Nat.le_of_ble_eq_true rfl))
  exact inv_setV h k1 k2
theorem inv_cond {S : PSt} (h : Inv S) (s x y : Int32) : Inv (opCond S s x y).2 := by
  refine cifP _ _ _ (fun r : Int32 × PSt => Inv r.2) (fun ⟨hs, hx, hy⟩ => ?_) (fun _ => h)
  refine cifP _ _ _ (fun r : Int32 × PSt => Inv r.2) (fun _ => h) (fun h12 => ?_)
  obtain ⟨h1, h2, ⟨h3, h3b⟩, h4, h5, h6⟩ := h
  have y100 : cl y < 100 := by
    by_cases e : s = nI 1
    · rw [if_pos e] at hy; have := cl_lt hy (Nat.le_of_ble_eq_true rfl); omega
    · rw [if_neg e] at hy; exact cl_lt hy (Nat.le_of_ble_eq_true rfl)
  have y40 : cl s = 1 → cl y ≤ 40 := fun e => by
    obtain ⟨j, hj, rfl⟩ := hs
    rw [cl_nI (by omega)] at e
    subst e
    rw [if_pos rfl] at hy
    have := cl_lt hy (Nat.le_of_ble_eq_true rfl)
    omega
  refine ⟨h1, h2, ⟨by show S.2.2.1.1 + 1 ≤ 12; unfold sCn at h3 h12; omega, fun i hi => ?_⟩, h4, h5, h6⟩
  show (upN S.2.2.1.2 S.2.2.1.1 (cl s, cl x, cl y) i).1 < 7 ∧ (upN S.2.2.1.2 S.2.2.1.1 (cl s, cl x, cl y) i).2.1 < 100 ∧ (upN S.2.2.1.2 S.2.2.1.1 (cl s, cl x, cl y) i).2.2 < 100 ∧ ((upN S.2.2.1.2 S.2.2.1.1 (cl s, cl x, cl y) i).1 = 1 → (upN S.2.2.1.2 S.2.2.1.1 (cl s, cl x, cl y) i).2.2 ≤ 40)
  by_cases e : i = S.2.2.1.1
  · subst e
    rw [upN_eq]
    exact ⟨cl_lt hs (Nat.le_of_ble_eq_true rfl), cl_lt hx (Nat.le_of_ble_eq_true rfl), y100, y40⟩
  · rw [upN_ne e]
    have hi2 : i < S.2.2.1.1 + 1 := hi
    exact h3b i (show i < S.2.2.1.1 by omega)
theorem inv_clear {S : PSt} (h : Inv S) : Inv (opClear S).2 := by
  obtain ⟨h1, h2, h3, h4, h5, h6⟩ := h
  exact ⟨h1, h2, ⟨Nat.zero_le _, fun i hi => absurd hi (Nat.not_lt_zero _)⟩, h4, h5, h6⟩
theorem inv_hear {S : PSt} (h : Inv S) (p x : Int32) : Inv (opHear S p x).2 := by
  refine cifP _ _ _ (fun r : Int32 × PSt => Inv r.2) (fun ⟨hp, hx⟩ => ?_) (fun _ => h)
  refine cifP _ _ _ (fun r : Int32 × PSt => Inv r.2) (fun _ => h) (fun h40 => ?_)
  obtain ⟨k1, k2⟩ := h.2.1 _ (cl_lt hp (Nat.le_of_ble_eq_true rfl))
  refine inv_setP h (by omega) (fun q hq => ?_)
  unfold insF
  split
  · exact k2 _ (by omega)
  · split
    · exact okH_of hx
    · exact absurd hq (by omega)
theorem inv_forget {S : PSt} (h : Inv S) (p : Int32) : Inv (opForget S p).2 := by
  refine cifP _ _ _ (fun r : Int32 × PSt => Inv r.2) (fun hp => ?_) (fun _ => h)
  exact inv_setP h (Nat.zero_le _) (fun q hq => absurd hq (Nat.not_lt_zero _))
theorem inv_both {S : PSt} (h : Inv S) (a b t : Int32) : Inv (opBoth S a b t).2 := by
  refine cifP _ _ _ (fun r : Int32 × PSt => Inv r.2) (fun ⟨ha, hb, ht⟩ => ?_) (fun _ => h)
  refine cifP _ _ _ (fun r : Int32 × PSt => Inv r.2) (fun e => ?_) (fun _ => h)
  obtain ⟨k1, k2⟩ := h.2.1 _ (cl_lt ha (Nat.le_of_ble_eq_true rfl))
  obtain ⟨k3, k4⟩ := h.2.1 _ (cl_lt hb (Nat.le_of_ble_eq_true rfl))
  refine inv_setP h k1 (fun q hq => ?_)
  show okH (hb2 _ _)
  unfold hb2
  have o1 := k2 q hq
  have o2 := k4 q (by omega)
  split
  · exact o1
  · split
    · exact o1
    · split
      · exact o2
      · exact Or.inl rfl
theorem inv_mark {S : PSt} (h : Inv S) (x m : Int32) : Inv (opMark S x m).2 := by
  refine cifP _ _ _ (fun r : Int32 × PSt => Inv r.2) (fun ⟨hx, hm⟩ => ?_) (fun _ => h)
  obtain ⟨h1, h2, h3, h4, h5, h6⟩ := h
  refine ⟨h1, h2, h3, fun j hj => ?_, h5, h6⟩
  show upN S.2.2.2.1 (cl x) (cl m) j < 256
  by_cases e : j = cl x
  · subst e; rw [upN_eq]; exact cl_lt hm (Nat.le_of_ble_eq_true rfl)
  · rw [upN_ne e]; exact h4 j hj
theorem inv_rule {S : PSt} (h : Inv S) (t m f o : Int32) : Inv (opRule S t m f o).2 := by
  refine cifP _ _ _ (fun r : Int32 × PSt => Inv r.2) (fun ⟨ht, hm, hf, ho, hfo⟩ => ?_) (fun _ => h)
  refine cifP _ _ _ (fun r : Int32 × PSt => Inv r.2) (fun _ => h) (fun h20 => ?_)
  obtain ⟨h1, h2, h3, h4, ⟨h5, h5b⟩, h6⟩ := h
  refine ⟨h1, h2, h3, h4, ⟨by show S.2.2.2.2.1.1 + 1 ≤ 20; unfold sRn at h5 h20; omega, fun i hi => ?_⟩, h6⟩
  show (upN S.2.2.2.2.1.2 S.2.2.2.2.1.1 (cl t, cl m, cl f, cl o) i).1 < 8 ∧ (upN S.2.2.2.2.1.2 S.2.2.2.2.1.1 (cl t, cl m, cl f, cl o) i).2.1 < 256 ∧ (upN S.2.2.2.2.1.2 S.2.2.2.2.1.1 (cl t, cl m, cl f, cl o) i).2.2.1 ≤ (upN S.2.2.2.2.1.2 S.2.2.2.2.1.1 (cl t, cl m, cl f, cl o) i).2.2.2 ∧ (upN S.2.2.2.2.1.2 S.2.2.2.2.1.1 (cl t, cl m, cl f, cl o) i).2.2.2 < 1000
  by_cases e : i = S.2.2.2.2.1.1
  · subst e
    rw [upN_eq]
    exact ⟨cl_lt ht (Nat.le_of_ble_eq_true rfl), cl_lt hm (Nat.le_of_ble_eq_true rfl), hfo, cl_lt ho (Nat.le_of_ble_eq_true rfl)⟩
  · rw [upN_ne e]
    have hi2 : i < S.2.2.2.2.1.1 + 1 := hi
    exact h5b i (show i < S.2.2.2.2.1.1 by omega)
theorem inv_fit {S : PSt} (h : Inv S) (v t d o : Int32) : Inv (opFit S v t d o).2 := by
  refine cifP _ _ _ (fun r : Int32 × PSt => Inv r.2) (fun ⟨hv, _, _, _⟩ => ?_) (fun _ => h)
  obtain ⟨k1, k2⟩ := h.1 _ (cl_lt hv (Nat.le_of_ble_eq_true rfl))
  refine inv_setV h (Nat.le_trans (kep_le _) k1) (fun q hq => k2 _ (kep_in hq))
theorem inv_tour {S : PSt} (h : Inv S) (v w d r : Int32) : Inv (opTour S v w d r).2 := by
  refine cifP _ _ _ (fun r : Int32 × PSt => Inv r.2) (fun ⟨_, ⟨_, hw⟩, _, _⟩ => ?_) (fun _ => h)
  refine cifP _ _ _ (fun r : Int32 × PSt => Inv r.2) (fun _ => ?_) (fun _ => h)
  obtain ⟨h1, h2, h3, h4, h5, h6⟩ := h
  exact ⟨h1, h2, h3, h4, h5, pop_le _ (cl_lt hw (Nat.le_of_ble_eq_true rfl)), fun i _ => trT_lt _ _ _⟩
theorem inv_0 : Inv PSt0 :=
  ⟨fun v hv => ⟨Nat.zero_le _, fun i hi => absurd hi (Nat.not_lt_zero _)⟩, fun v hv => ⟨Nat.zero_le _, fun i hi => absurd hi (Nat.not_lt_zero _)⟩, ⟨Nat.zero_le _, fun i hi => absurd hi (Nat.not_lt_zero _)⟩, fun x hx => (Nat.le_of_ble_eq_true rfl : 0 < 256), ⟨Nat.zero_le _, fun i hi => absurd hi (Nat.not_lt_zero _)⟩, Nat.zero_le _, fun i hi => absurd hi (Nat.not_lt_zero _)⟩
