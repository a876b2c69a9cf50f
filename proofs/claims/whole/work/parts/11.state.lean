/-! the state as numbers; what the class's cells and the reference's cells say of it (own work) -/
abbrev PSt : Type := ((Nat → Nat) × (Nat → Nat → Nat)) × ((Nat → Nat) × (Nat → Nat → Int32)) × (Nat × (Nat → Nat × Nat × Nat)) × (Nat → Nat) × (Nat × (Nat → Nat × Nat × Nat × Nat)) × (Nat × (Nat → Nat))
def sVn (S : PSt) (v : Nat) : Nat := S.1.1 v
def sVl (S : PSt) (v i : Nat) : Nat := S.1.2 v i
def sPn (S : PSt) (p : Nat) : Nat := S.2.1.1 p
def sPh (S : PSt) (p i : Nat) : Int32 := S.2.1.2 p i
def sCn (S : PSt) : Nat := S.2.2.1.1
def sCs (S : PSt) (i : Nat) : Nat := (S.2.2.1.2 i).1
def sCx (S : PSt) (i : Nat) : Nat := (S.2.2.1.2 i).2.1
def sCy (S : PSt) (i : Nat) : Nat := (S.2.2.1.2 i).2.2
def sMk (S : PSt) (x : Nat) : Nat := S.2.2.2.1 x
def sRn (S : PSt) : Nat := S.2.2.2.2.1.1
def sRt (S : PSt) (i : Nat) : Nat := (S.2.2.2.2.1.2 i).1
def sRm (S : PSt) (i : Nat) : Nat := (S.2.2.2.2.1.2 i).2.1
def sRf (S : PSt) (i : Nat) : Nat := (S.2.2.2.2.1.2 i).2.2.1
def sRo (S : PSt) (i : Nat) : Nat := (S.2.2.2.2.1.2 i).2.2.2
def sTn (S : PSt) : Nat := S.2.2.2.2.2.1
def sTl (S : PSt) (i : Nat) : Nat := S.2.2.2.2.2.2 i
def upN {α : Type} (f : Nat → α) (k : Nat) (x : α) : Nat → α := fun j => if j = k then x else f j
theorem upN_eq {α : Type} {f : Nat → α} {k : Nat} {x : α} : upN f k x k = x := by unfold upN; rw [if_pos rfl]
theorem upN_ne {α : Type} {f : Nat → α} {k j : Nat} {x : α} (h : j ≠ k) : upN f k x j = f j := by unfold upN; rw [if_neg h]
def setV (S : PSt) (v n : Nat) (l : Nat → Nat) : PSt := ((upN S.1.1 v n, upN S.1.2 v l), S.2)
def setP (S : PSt) (p n : Nat) (g : Nat → Int32) : PSt := (S.1, (upN S.2.1.1 p n, upN S.2.1.2 p g), S.2.2)
def addC (S : PSt) (s x y : Nat) : PSt := (S.1, S.2.1, (S.2.2.1.1 + 1, upN S.2.2.1.2 S.2.2.1.1 (s, x, y)), S.2.2.2)
def clrC (S : PSt) : PSt := (S.1, S.2.1, (0, S.2.2.1.2), S.2.2.2)
def setM (S : PSt) (x m : Nat) : PSt := (S.1, S.2.1, S.2.2.1, upN S.2.2.2.1 x m, S.2.2.2.2)
def addR (S : PSt) (t m f o : Nat) : PSt := (S.1, S.2.1, S.2.2.1, S.2.2.2.1, (S.2.2.2.2.1.1 + 1, upN S.2.2.2.2.1.2 S.2.2.2.2.1.1 (t, m, f, o)), S.2.2.2.2.2)
def setT (S : PSt) (n : Nat) (l : Nat → Nat) : PSt := (S.1, S.2.1, S.2.2.1, S.2.2.2.1, S.2.2.2.2.1, (n, l))
def PSt0 : PSt := ((fun _ => 0, fun _ _ => 0), (fun _ => 0, fun _ _ => 0), (0, fun _ => (0, 0, 0)), fun _ => 0, (0, fun _ => (0, 0, 0, 0)), (0, fun _ => 0))
def okH (x : Int32) : Prop := x = -1 ∨ ∃ j, j < 100 ∧ x = nI j
def Inv (S : PSt) : Prop :=
  (∀ v, v < 8 → sVn S v ≤ 40 ∧ ∀ i, i < sVn S v → sVl S v i < 100) ∧ (∀ p, p < 4 → sPn S p ≤ 40 ∧ ∀ i, i < sPn S p → okH (sPh S p i)) ∧
  (sCn S ≤ 12 ∧ ∀ i, i < sCn S → sCs S i < 7 ∧ sCx S i < 100 ∧ sCy S i < 100 ∧ (sCs S i = 1 → sCy S i ≤ 40)) ∧ (∀ x, x < 100 → sMk S x < 256) ∧
  (sRn S ≤ 20 ∧ ∀ i, i < sRn S → sRt S i < 8 ∧ sRm S i < 256 ∧ sRf S i ≤ sRo S i ∧ sRo S i < 1000) ∧ (sTn S ≤ 8 ∧ ∀ i, i < sTn S → sTl S i < 8)
/-- a Row at r (its numbers at r + 1): n things g -/
def RowIs (E : EnvD) (σ : Sto) (r n : Nat) (g : Nat → Int32) : Prop := σ.1 r = some (cO 2 [.ref (r + 1), .int (nI n)]) ∧ ∃ f, σ.1 (r + 1) = some (cI E 40 f) ∧ ∀ i, i < n → f i = g i
def C0 (z : Nat) (S : PSt) (σ : Sto) : Prop := σ.1 z = some (cO 5 [.ref (z + 1), .ref (z + 2), .ref (z + 3), .ref (z + 4), .ref (z + 5), .ref (z + 6), .ref (z + 49), .ref (z + 62), .int (nI (sCn S)), .int (nI (sRn S))])
def C1 (E : EnvD) (z : Nat) (σ : Sto) : Prop := ∃ f, σ.1 (z + 1) = some (cQ E 2 8 f) ∧ ∀ v, v < 8 → f v = some (z + 64 + 2 * v)
def C2 (E : EnvD) (z : Nat) (σ : Sto) : Prop := ∃ f, σ.1 (z + 2) = some (cQ E 2 4 f) ∧ ∀ v, v < 4 → f v = some (z + 80 + 2 * v)
def C3 (E : EnvD) (z : Nat) (S : PSt) (σ : Sto) : Prop := ∃ f, σ.1 (z + 3) = some (cQ E 3 12 f) ∧ ∀ i, i < sCn S → ∃ a, f i = some a ∧ σ.1 a = some (cO 1 [.int (nI (sCs S i)), .int (nI (sCx S i)), .int (nI (sCy S i))])
def C4 (E : EnvD) (z : Nat) (S : PSt) (σ : Sto) : Prop := ∃ f, σ.1 (z + 4) = some (cQ E 4 20 f) ∧ ∀ i, i < sRn S → ∃ a, f i = some a ∧ σ.1 a = some (cO 3 [.int (nI (sRt S i)), .int (nI (sRm S i)), .int (nI (sRf S i)), .int (nI (sRo S i))])
def C5 (E : EnvD) (z : Nat) (S : PSt) (σ : Sto) : Prop := ∃ f, σ.1 (z + 5) = some (cI E 100 f) ∧ ∀ i, i < 100 → f i = nI (sMk S i)
/-- the Changes at c: a table of 41 rows of 41 -/
def ChIs (E : EnvD) (σ : Sto) (c : Nat) : Prop := σ.1 c = some (cO 0 [.ref (c + 1)]) ∧ (∃ f, σ.1 (c + 1) = some (cQ E 5 41 f) ∧ ∀ i, i < 41 → f i = some (c + 2 + i)) ∧ ∀ i, i < 41 → ∃ g, σ.1 (c + 2 + i) = some (cI E 41 g)
/-- the TourPlan at c, but its row -/
def TpIs (E : EnvD) (σ : Sto) (c : Nat) : Prop := σ.1 c = some (cO 4 [.ref (c + 1), .ref (c + 3), .ref (c + 12)]) ∧ (∃ f, σ.1 (c + 3) = some (cQ E 5 8 f) ∧ ∀ i, i < 8 → f i = some (c + 4 + i)) ∧ (∀ i, i < 8 → ∃ g, σ.1 (c + 4 + i) = some (cI E 8 g)) ∧ ∃ g, σ.1 (c + 12) = some (cI E 256 g)
def RepC (E : EnvD) (z : Nat) (S : PSt) (σ : Sto) : Prop :=
  C0 z S σ ∧ C1 E z σ ∧ C2 E z σ ∧ C3 E z S σ ∧ C4 E z S σ ∧ C5 E z S σ ∧ ChIs E σ (z + 6) ∧ TpIs E σ (z + 49) ∧ RowIs E σ (z + 50) (sTn S) (fun i => nI (sTl S i)) ∧ (∃ n g, n ≤ 40 ∧ RowIs E σ (z + 62) n g) ∧
  (∀ v, v < 8 → RowIs E σ (z + 64 + 2 * v) (sVn S v) (fun i => nI (sVl S v i))) ∧ ∀ p, p < 4 → RowIs E σ (z + 80 + 2 * p) (sPn S p) (sPh S p)
section FR
variable {E : EnvD} {z : Nat} {S S' : PSt} {σ σ' : Sto}
theorem RowIs.fr {r n : Nat} {g : Nat → Int32} (h : RowIs E σ r n g) (h1 : σ'.1 r = σ.1 r) (h2 : σ'.1 (r + 1) = σ.1 (r + 1)) : RowIs E σ' r n g := by
  obtain ⟨a, f, b, c⟩ := h
  exact ⟨h1.trans a, f, h2.trans b, c⟩
theorem C0.fr (h : C0 z S σ) (h1 : σ'.1 z = σ.1 z) (hc : sCn S' = sCn S) (hr : sRn S' = sRn S) : C0 z S' σ' := by
  unfold C0 at h ⊢
  rw [h1, h, hc, hr]
theorem C1.fr (h : C1 E z σ) (h1 : σ'.1 (z + 1) = σ.1 (z + 1)) : C1 E z σ' := by
  obtain ⟨f, a, b⟩ := h
  exact ⟨f, h1.trans a, b⟩
theorem C2.fr (h : C2 E z σ) (h1 : σ'.1 (z + 2) = σ.1 (z + 2)) : C2 E z σ' := by
  obtain ⟨f, a, b⟩ := h
  exact ⟨f, h1.trans a, b⟩
theorem C3.fr (h : C3 E z S σ) (h1 : σ'.1 (z + 3) = σ.1 (z + 3)) (h2 : ∀ a fs, σ.1 a = some (cO 1 fs) → σ'.1 a = σ.1 a) (hc : S'.2.2.1 = S.2.2.1) : C3 E z S' σ' := by
  obtain ⟨f, a, b⟩ := h
  refine ⟨f, h1.trans a, fun i hi => ?_⟩
  unfold sCn sCs sCx sCy at *
  rw [hc] at hi ⊢
  obtain ⟨x, e1, e2⟩ := b i hi
  exact ⟨x, e1, (h2 x _ e2).trans e2⟩
theorem C4.fr (h : C4 E z S σ) (h1 : σ'.1 (z + 4) = σ.1 (z + 4)) (h2 : ∀ a fs, σ.1 a = some (cO 3 fs) → σ'.1 a = σ.1 a) (hc : S'.2.2.2.2.1 = S.2.2.2.2.1) : C4 E z S' σ' := by
  obtain ⟨f, a, b⟩ := h
  refine ⟨f, h1.trans a, fun i hi => ?_⟩
  unfold sRn sRt sRm sRf sRo at *
  rw [hc] at hi ⊢
  obtain ⟨x, e1, e2⟩ := b i hi
  exact ⟨x, e1, (h2 x _ e2).trans e2⟩
theorem C5.fr (h : C5 E z S σ) (h1 : σ'.1 (z + 5) = σ.1 (z + 5)) (hm : S'.2.2.2.1 = S.2.2.2.1) : C5 E z S' σ' := by
  obtain ⟨f, a, b⟩ := h
  refine ⟨f, h1.trans a, fun i hi => ?_⟩
  unfold sMk at *
  rw [hm]
  exact b i hi
theorem ChIs.fr {c : Nat} (h : ChIs E σ c) (h1 : ∀ a, c ≤ a → a < c + 43 → σ'.1 a = σ.1 a) : ChIs E σ' c := by
  obtain ⟨a, ⟨f, b1, b2⟩, d⟩ := h
  refine ⟨(h1 _ (by omega) (by omega)).trans a, ⟨f, (h1 _ (by omega) (by omega)).trans b1, b2⟩, fun i hi => ?_⟩
  obtain ⟨g, e⟩ := d i hi
  exact ⟨g, (h1 _ (by omega) (by omega)).trans e⟩
theorem TpIs.fr {c : Nat} (h : TpIs E σ c) (h1 : ∀ a, c ≤ a → a < c + 13 → a ≠ c + 1 → a ≠ c + 2 → σ'.1 a = σ.1 a) : TpIs E σ' c := by
  obtain ⟨a, ⟨f, b1, b2⟩, d, g, e⟩ := h
  refine ⟨(h1 _ (by omega) (by omega) (by omega) (by omega)).trans a, ⟨f, (h1 _ (by omega) (by omega) (by omega) (by omega)).trans b1, b2⟩, fun i hi => ?_, g, (h1 _ (by omega) (by omega) (by omega) (by omega)).trans e⟩
  obtain ⟨g, e⟩ := d i hi
  exact ⟨g, (h1 _ (by omega) (by omega) (by omega) (by omega)).trans e⟩
/-- a kind of cell is told by what it holds -/
theorem ne_kind {a b : Nat} {e0 e1 : va_E} (h1 : σ.1 b = some e1) (h0 : σ.1 a = some e0) (h : e0 ≠ e1) : b ≠ a := ne_k h1 h0 h
/-- a store whose Row at r is another one, everything else the same -/
def RowCh (σ σ' : Sto) (r : Nat) : Prop := σ'.2 = σ.2 ∧ ∀ a, a ≠ r → a ≠ r + 1 → σ'.1 a = σ.1 a
theorem RepC.rowV {v n : Nat} {l : Nat → Nat} (h : RepC E z S σ) (hv : v < 8) (hr : RowCh σ σ' (z + 64 + 2 * v)) (hn : RowIs E σ' (z + 64 + 2 * v) n (fun i => nI (l i))) : RepC E z (setV S v n l) σ' := by
  obtain ⟨h0, h1, h2, h3, h4, h5, h6, h7, h8, ⟨m, g, hm, h9⟩, h10, h11⟩ := h
  have ag : ∀ a, a ≠ z + 64 + 2 * v → a ≠ z + 64 + 2 * v + 1 → σ'.1 a = σ.1 a := hr.2
  obtain ⟨k1, f, k2, -⟩ := h10 v hv
  refine ⟨h0.fr (ag _ (by omega) (by omega)) rfl rfl, h1.fr (ag _ (by omega) (by omega)), h2.fr (ag _ (by omega) (by omega)), h3.fr (ag _ (by omega) (by omega)) (fun a fs e => ag a (ne_k e k1 (by simp)) (ne_k e k2 (by simp))) rfl, h4.fr (ag _ (by omega) (by omega)) (fun a fs e => ag a (ne_k e k1 (by simp)) (ne_k e k2 (by simp))) rfl, h5.fr (ag _ (by omega) (by omega)) rfl, h6.fr (fun a _ _ => ag a (by omega) (by omega)), h7.fr (fun a _ _ _ _ => ag a (by omega) (by omega)), h8.fr (ag _ (by omega) (by omega)) (ag _ (by omega) (by omega)), ⟨m, g, hm, h9.fr (ag _ (by omega) (by omega)) (ag _ (by omega) (by omega))⟩, fun w hw => ?_, fun p hp => (h11 p hp).fr (ag _ (by omega) (by omega)) (ag _ (by omega) (by omega))⟩
  by_cases e : w = v
  · subst e
    show RowIs E σ' _ (upN S.1.1 w n w) (fun i => nI (upN S.1.2 w l w i))
    rw [upN_eq, upN_eq]
    exact hn
  · show RowIs E σ' _ (upN S.1.1 v n w) (fun i => nI (upN S.1.2 v l w i))
    rw [upN_ne e, upN_ne e]
    exact (h10 w hw).fr (ag _ (by omega) (by omega)) (ag _ (by omega) (by omega))
theorem RepC.rowP {p n : Nat} {l : Nat → Int32} (h : RepC E z S σ) (hv : p < 4) (hr : RowCh σ σ' (z + 80 + 2 * p)) (hn : RowIs E σ' (z + 80 + 2 * p) n l) : RepC E z (setP S p n l) σ' := by
  obtain ⟨h0, h1, h2, h3, h4, h5, h6, h7, h8, ⟨m, g, hm, h9⟩, h10, h11⟩ := h
  have ag : ∀ a, a ≠ z + 80 + 2 * p → a ≠ z + 80 + 2 * p + 1 → σ'.1 a = σ.1 a := hr.2
  obtain ⟨k1, f, k2, -⟩ := h11 p hv
  refine ⟨h0.fr (ag _ (by omega) (by omega)) rfl rfl, h1.fr (ag _ (by omega) (by omega)), h2.fr (ag _ (by omega) (by omega)), h3.fr (ag _ (by omega) (by omega)) (fun a fs e => ag a (ne_k e k1 (by simp)) (ne_k e k2 (by simp))) rfl, h4.fr (ag _ (by omega) (by omega)) (fun a fs e => ag a (ne_k e k1 (by simp)) (ne_k e k2 (by simp))) rfl, h5.fr (ag _ (by omega) (by omega)) rfl, h6.fr (fun a _ _ => ag a (by omega) (by omega)), h7.fr (fun a _ _ _ _ => ag a (by omega) (by omega)), h8.fr (ag _ (by omega) (by omega)) (ag _ (by omega) (by omega)), ⟨m, g, hm, h9.fr (ag _ (by omega) (by omega)) (ag _ (by omega) (by omega))⟩, fun w hw => (h10 w hw).fr (ag _ (by omega) (by omega)) (ag _ (by omega) (by omega)), fun w hw => ?_⟩
  by_cases e : w = p
  · subst e
    show RowIs E σ' _ (upN S.2.1.1 w n w) (upN S.2.1.2 w l w)
    rw [upN_eq, upN_eq]
    exact hn
  · show RowIs E σ' _ (upN S.2.1.1 p n w) (upN S.2.1.2 p l w)
    rw [upN_ne e, upN_ne e]
    exact (h11 w hw).fr (ag _ (by omega) (by omega)) (ag _ (by omega) (by omega))
/-- the scratch row of two ears -/
theorem RepC.ears {n : Nat} {g : Nat → Int32} (h : RepC E z S σ) (hr : RowCh σ σ' (z + 62)) (h40 : n ≤ 40) (hn : RowIs E σ' (z + 62) n g) : RepC E z S σ' := by
  obtain ⟨h0, h1, h2, h3, h4, h5, h6, h7, h8, ⟨m, g', hm, k1, f, k2, -⟩, h10, h11⟩ := h
  have ag : ∀ a, a ≠ z + 62 → a ≠ z + 62 + 1 → σ'.1 a = σ.1 a := hr.2
  exact ⟨h0.fr (ag _ (by omega) (by omega)) rfl rfl, h1.fr (ag _ (by omega) (by omega)), h2.fr (ag _ (by omega) (by omega)), h3.fr (ag _ (by omega) (by omega)) (fun a fs e => ag a (ne_k e k1 (by simp)) (ne_k e k2 (by simp))) rfl, h4.fr (ag _ (by omega) (by omega)) (fun a fs e => ag a (ne_k e k1 (by simp)) (ne_k e k2 (by simp))) rfl, h5.fr (ag _ (by omega) (by omega)) rfl, h6.fr (fun a _ _ => ag a (by omega) (by omega)), h7.fr (fun a _ _ _ _ => ag a (by omega) (by omega)), h8.fr (ag _ (by omega) (by omega)) (ag _ (by omega) (by omega)), ⟨n, g, h40, hn⟩, fun w hw => (h10 w hw).fr (ag _ (by omega) (by omega)) (ag _ (by omega) (by omega)), fun w hw => (h11 w hw).fr (ag _ (by omega) (by omega)) (ag _ (by omega) (by omega))⟩
/-- the scratch table of changes -/
theorem RepC.chg (h : RepC E z S σ) (ag : ∀ a, ¬ (z + 8 ≤ a ∧ a < z + 49) → σ'.1 a = σ.1 a) (hn : ∀ i, i < 41 → ∃ g, σ'.1 (z + 8 + i) = some (cI E 41 g)) : RepC E z S σ' := by
  obtain ⟨h0, h1, h2, h3, h4, h5, ⟨a6, ⟨f6, b6, d6⟩, e6⟩, h7, h8, ⟨m, g', hm, h9⟩, h10, h11⟩ := h
  have agk : ∀ (ci : Nat) (a : Nat) (fs : List Value), σ.1 a = some (cO ci fs) → σ'.1 a = σ.1 a := fun ci a fs e => ag a (fun q => by
    obtain ⟨g, eg⟩ := e6 (a - (z + 8)) (by omega)
    rw [show z + 6 + 2 + (a - (z + 8)) = a by omega] at eg
    rw [eg] at e
    cases e)
  exact ⟨h0.fr (ag _ (by omega)) rfl rfl, h1.fr (ag _ (by omega)), h2.fr (ag _ (by omega)), h3.fr (ag _ (by omega)) (fun a fs e => agk 1 a fs e) rfl, h4.fr (ag _ (by omega)) (fun a fs e => agk 3 a fs e) rfl, h5.fr (ag _ (by omega)) rfl, ⟨(ag _ (by omega)).trans a6, ⟨f6, (ag _ (by omega)).trans b6, d6⟩, fun i hi => by
    obtain ⟨g, eg⟩ := hn i hi
    exact ⟨g, by rw [show z + 6 + 2 + i = z + 8 + i by omega]; exact eg⟩⟩, h7.fr (fun a _ _ _ _ => ag a (by omega)), h8.fr (ag _ (by omega)) (ag _ (by omega)), ⟨m, g', hm, h9.fr (ag _ (by omega)) (ag _ (by omega))⟩, fun w hw => (h10 w hw).fr (ag _ (by omega)) (ag _ (by omega)), fun w hw => (h11 w hw).fr (ag _ (by omega)) (ag _ (by omega))⟩
/-- the marks -/
theorem RepC.mrk {x m : Nat} (h : RepC E z S σ) {f : Nat → Int32} (hf : σ.1 (z + 5) = some (cI E 100 f)) (hb : ∀ i, i < 100 → f i = nI (sMk S i)) : RepC E z (setM S x m) (sup σ (z + 5) (cI E 100 (upd f x (nI m)))) := by
  obtain ⟨h0, h1, h2, h3, h4, h5, h6, h7, h8, ⟨m', g, hm, h9⟩, h10, h11⟩ := h
  have ag : ∀ a, a ≠ z + 5 → (sup σ (z + 5) (cI E 100 (upd f x (nI m)))).1 a = σ.1 a := fun a ha => sup_ne ha
  refine ⟨h0.fr (ag _ (by omega)) rfl rfl, h1.fr (ag _ (by omega)), h2.fr (ag _ (by omega)), h3.fr (ag _ (by omega)) (fun a fs e => ag a (ne_k e hf (by simp))) rfl, h4.fr (ag _ (by omega)) (fun a fs e => ag a (ne_k e hf (by simp))) rfl, ⟨_, sup_eq, fun i hi => ?_⟩, h6.fr (fun a _ _ => ag a (by omega)), h7.fr (fun a _ _ _ _ => ag a (by omega)), h8.fr (ag _ (by omega)) (ag _ (by omega)), ⟨m', g, hm, h9.fr (ag _ (by omega)) (ag _ (by omega))⟩, fun w hw => (h10 w hw).fr (ag _ (by omega)) (ag _ (by omega)), fun w hw => (h11 w hw).fr (ag _ (by omega)) (ag _ (by omega))⟩
  show upd f x (nI m) i = nI (upN S.2.2.2.1 x m i)
  unfold upd upN
  by_cases e : i = x
  · rw [if_pos e, if_pos e]
  · rw [if_neg e, if_neg e]
    exact hb i hi
end FR
