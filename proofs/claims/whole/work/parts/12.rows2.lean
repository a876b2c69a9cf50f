/-! the Row's contracts over its things alone (own work) -/
theorem CC.mono {l : Launch} {y : MethodName} {cc : ByteArray} {maxL : Nat} {ret : Option FieldType} {rm : Room} {E : EnvD} {As : List Value} {σ : Sto} {post post' : Option Value → Sto → Prop} (h : CC l y cc maxL ret rm E As σ post) (hp : ∀ r s, post r s → post' r s) : CC l y cc maxL ret rm E As σ post' := by
  unfold CC Met at h ⊢
  refine MetFree.mono h (fun _ _ q => q) (fun _ _ _ _ _ q => q) (fun a s o s' _ q => ?_)
  obtain ⟨⟨⟨r, σ', e1, e2, e3, e4⟩, e5⟩, e6⟩ := q
  exact ⟨⟨⟨r, σ', e1, hp _ _ e2, e3, e4⟩, e5⟩, e6⟩
theorem atV_cong {n : Nat} {f g : Nat → Int32} (h : ∀ i, i < n → f i = g i) (hn : n ≤ 2147483648) (x : Int32) : atV n f x = atV n g x := by
  by_cases hx : inR x n
  · obtain ⟨j, hj, rfl⟩ := hx
    rw [atV_in hj hn, atV_in hj hn, h j hj]
  · rw [atV_out hx, atV_out hx]
section R2
variable {E : EnvD} {σ : Sto} {r n : Nat} {g : Nat → Int32}
theorem RowIs.ne (h : RowIs E σ r n g) : r + 1 ≠ r := by omega
theorem r_at (l : Launch) (h : RowIs E σ r n g) (hn : n ≤ 40) (i : Int32) : CC l yX2_at cX2_at 2 (some .int) rm_X2_at E [.ref r, .int i] σ (fun o s => o = some (.int (atV n g i)) ∧ s = σ) := by
  obtain ⟨h1, f, h2, h3⟩ := h
  have := c_X2_at l E σ h1 h2 hn i
  rwa [atV_cong h3 (by omega)] at this
theorem r_has (l : Launch) (h : RowIs E σ r n g) (hn : n ≤ 40) (i : Int32) : CC l yX2_has cX2_has 2 (some .boolean) rm_X2_has E [.ref r, .int i] σ (fun o s => o = some (.int (bI (inR i n))) ∧ s = σ) := by
  obtain ⟨h1, f, h2, h3⟩ := h
  exact c_X2_has l E σ h1 h2 hn i
theorem r_isFull (l : Launch) (h : RowIs E σ r n g) (hn : n ≤ 40) : CC l yX2_isFull cX2_isFull 1 (some .boolean) rm_X2_isFull E [.ref r] σ (fun o s => o = some (.int (bI (40 ≤ n))) ∧ s = σ) := by
  obtain ⟨h1, f, h2, h3⟩ := h
  exact c_X2_isFull l E σ h1 h2 hn
theorem rowCh_2 {e1 e2 : va_E} : RowCh σ (sup (sup σ (r + 1) e1) r e2) r := ⟨rfl, fun a h1 h2 => (sup_ne h1).trans (sup_ne h2)⟩
theorem rowCh_1 {e2 : va_E} : RowCh σ (sup σ r e2) r := ⟨rfl, fun a h1 h2 => sup_ne h1⟩
theorem rowCh_0 : RowCh σ σ r := ⟨rfl, fun a h1 h2 => rfl⟩
theorem rowIs_2 {m : Nat} {f' g' : Nat → Int32} (hf : ∀ i, i < m → f' i = g' i) : RowIs E (sup (sup σ (r + 1) (cI E 40 f')) r (cO 2 [.ref (r + 1), .int (nI m)])) r m g' :=
  ⟨sup_eq, f', (sup_ne (by omega)).trans sup_eq, hf⟩
theorem r_insert (l : Launch) (h : RowIs E σ r n g) {i : Nat} (x : Int32) (hi : i ≤ n) (hn : n < 40) : CC l yX2_insert cX2_insert 4 none rm_X2_insert E [.ref r, .int (nI i), .int x] σ (fun o s => o = none ∧ RowCh σ s r ∧ RowIs E s r (n + 1) (insF g n i x)) := by
  obtain ⟨h1, f, h2, h3⟩ := h
  refine (c_X2_insert l E σ h1 h2 (by omega) x hi hn).mono ?_
  rintro _ _ ⟨rfl, rfl⟩
  refine ⟨rfl, rowCh_2, rowIs_2 fun q hq => ?_⟩
  unfold insF
  by_cases c1 : q < i
  · rw [if_pos c1, if_pos c1, h3 q (by omega)]
  · rw [if_neg c1, if_neg c1]
    by_cases c2 : q = i
    · rw [if_pos c2, if_pos c2]
    · rw [if_neg c2, if_neg c2, if_pos (by omega), if_pos (by omega), h3 (q - 1) (by omega)]
theorem r_remove (l : Launch) (h : RowIs E σ r n g) (hn : n ≤ 40) {i : Nat} (hi : i < n) : CC l yX2_remove cX2_remove 3 none rm_X2_remove E [.ref r, .int (nI i)] σ (fun o s => o = none ∧ RowCh σ s r ∧ RowIs E s r (n - 1) (remF g n i)) := by
  obtain ⟨h1, f, h2, h3⟩ := h
  refine (c_X2_remove l E σ h1 h2 hn hi).mono ?_
  rintro _ _ ⟨rfl, rfl⟩
  refine ⟨rfl, rowCh_2, rowIs_2 fun q hq => ?_⟩
  unfold remF
  by_cases c1 : i ≤ q ∧ q + 1 < n
  · rw [if_pos c1, if_pos c1, h3 (q + 1) (by omega)]
  · rw [if_neg c1, if_neg c1, h3 q (by omega)]
theorem r_empty (l : Launch) (h : RowIs E σ r n g) (g' : Nat → Int32) : CC l yX2_empty cX2_empty 1 none rm_X2_empty E [.ref r] σ (fun o s => o = none ∧ RowCh σ s r ∧ RowIs E s r 0 g') := by
  obtain ⟨h1, f, h2, h3⟩ := h
  refine (c_X2_empty l E σ h1).mono ?_
  rintro _ _ ⟨rfl, rfl⟩
  exact ⟨rfl, rowCh_1, sup_eq, f, (sup_ne (by omega)).trans h2, fun i hi => absurd hi (Nat.not_lt_zero _)⟩
theorem r_become (l : Launch) {r2 m : Nat} {g2 : Nat → Int32} (h : RowIs E σ r n g) (hn : n ≤ 40) (h' : RowIs E σ r2 m g2) (hm : m ≤ 40) : CC l yX2_become cX2_become 3 none rm_X2_become E [.ref r, .ref r2] σ (fun o s => o = none ∧ RowCh σ s r ∧ RowIs E s r m g2) := by
  obtain ⟨h1, f, h2, h3⟩ := h
  obtain ⟨k1, f2, k2, k3⟩ := h'
  by_cases e : r2 = r
  · subst e
    rw [h1] at k1
    have e2 : n = m := by
      injection k1 with k1
      injection k1 with k1
      injection k1 with _ k1
      injection k1 with _ k1
      injection k1 with k1 _
      injection k1 with k1
      exact nI_inj (by omega) (by omega) k1
    subst e2
    refine (c_X2_become_self l E σ h1 h2 hn).mono ?_
    rintro _ s ⟨rfl, e3⟩
    rw [e3]
    exact ⟨rfl, rowCh_0, h1, f2, k2, k3⟩
  · refine (c_X2_become l E σ h1 h2 hn k1 k2 hm (fun q => e (by omega))).mono ?_
    rintro _ _ ⟨rfl, rfl⟩
    refine ⟨rfl, rowCh_2, rowIs_2 fun q hq => ?_⟩
    unfold becF
    rw [if_pos hq, k3 q hq]
end R2
