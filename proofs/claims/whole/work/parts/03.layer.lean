/-! THE LAYER: a store of cells by address; a judgement G over it (own work) -/
abbrev Sto : Type := (Nat → Option va_E) × Nat
abbrev EnvD : Type := va_G × (Nat → ClassId)
abbrev cI (E : EnvD) (n : Nat) (f : Nat → Int32) : va_E := .inl (E.2 0, n, .inl f)
abbrev cZ (E : EnvD) (n : Nat) (f : Nat → Int32) : va_E := .inl (E.2 1, n, .inl f)
abbrev cQ (E : EnvD) (t n : Nat) (f : Nat → Option Nat) : va_E := .inl (E.2 t, n, .inr (.inr (.inr (.inr f))))
abbrev cO (ci : Nat) (fs : List Value) : va_E := .inr (ci, fs)
def tysE (E : EnvD) : List (ClassId × FieldType) := [(E.2 0, .int), (E.2 1, .boolean), (E.2 2, .object RX2), (E.2 3, .object RX1), (E.2 4, .object RX3), (E.2 5, .array .int)]
def nestL : List Cond := [.methodLinkNest RX5 36 yX0_init RX5, .methodLinkNest RX5 43 yX4_init RX5, .methodLinkNest RX4 11 yX2_init RX5, .methodLinkNest RX5 48 yX2_init RX5, .methodLinkNest RX1 29 yX5_hasBit RX5, .methodLinkNest RX4 27 yX5_isTown RX5, .methodLinkNest RX4 48 yX5_hasBit RX5]
def AOA (U : State) : Prop := (Cond.arrayOver (.array .int)).before #[] U = true
/-- what is known of the machine's tables, once and for all -/
def KK (E : EnvD) (U : State) : Prop :=
  va_K E.1 vwCl (tysE E) U ∧ (∀ w ∈ lw_tbl, goodWord w = true → w.before #[] U = true) ∧ (∀ (ci : Nat) (q : vw_C), vwCl[ci]? = some q → ∀ w ∈ u_ws q.1 q.2.1 q.2.2, w ∈ lw_tbl ∧ goodWord w = true) ∧
  (va_Nw (.methodLinkNest RX5 36 yX0_init RX5) U ∧ va_Nw (.methodLinkNest RX5 43 yX4_init RX5) U ∧ va_Nw (.methodLinkNest RX4 11 yX2_init RX5) U ∧ va_Nw (.methodLinkNest RX5 48 yX2_init RX5) U ∧ va_Nw (.methodLinkNest RX1 29 yX5_hasBit RX5) U ∧ va_Nw (.methodLinkNest RX4 27 yX5_isTown RX5) U ∧ va_Nw (.methodLinkNest RX4 48 yX5_hasBit RX5) U) ∧
  (va_AO RX2 U ∧ va_AO RX1 U ∧ va_AO RX3 U) ∧ AOA U
theorem aoa_moved {u U : State} (hvm : u.vm.Alike U.vm) (h : AOA u) : AOA U := by
  have h1 : (Cond.arrayOver (.array .int)).before #[] (u.setVm U.vm) = true := by rw [Cond.arrayOver_setVmC hvm]; exact h
  exact h1
theorem KK.warm {E : EnvD} {s U : State} (h : KK E s) (hW : s.WarmedH U.vm) : KK E U := by
  obtain ⟨h1, h2, h3, ⟨n1, n2, n3, n4, n5, n6, n7⟩, ⟨a1, a2, a3⟩, h6⟩ := h
  exact ⟨va_K.moved hW.alike h1, fun w hw hg => word_at hW (good_of_word hg) (h2 w hw hg), h3, ⟨n1.warmM hW, n2.warmM hW, n3.warmM hW, n4.warmM hW, n5.warmM hW, n6.warmM hW, n7.warmM hW⟩, ⟨a1.moved hW.alike, a2.moved hW.alike, a3.moved hW.alike⟩, aoa_moved hW.alike h6⟩
/-- a word of the tables, for any arguments -/
theorem KK.word {E : EnvD} {s : State} (h : KK E s) {w : Cond} (hw : w ∈ lw_tbl ∧ goodWord w = true) (args : Array Value) : w.before args s = true :=
  word_at (State.WarmedH.refl s) (good_of_word hw.2) (h.2.1 w hw.1 hw.2)
theorem KK.lay {E : EnvD} {s : State} (h : KK E s) {ci : Nat} {q : vw_C} (hq : vwCl[ci]? = some q) (args : Array Value) : ∀ w ∈ u_ws q.1 q.2.1 q.2.2, w.before args s = true :=
  fun w hw => h.word (h.2.2.1 ci q hq w hw) args
/-- the store describes the heap -/
def Wd (E : EnvD) (σ : Sto) (H : Heap) : Prop := (∀ a e, σ.1 a = some e → va_at E.1 vwCl (a, e) H) ∧ H.size = σ.2
def AD (σ : Sto) : Nat → Prop := fun q => σ.1 q ≠ none ∨ σ.2 ≤ q
def sup (σ : Sto) (a : Nat) (e : va_E) : Sto := (fun q => if q = a then some e else σ.1 q, σ.2)
def spush (σ : Sto) (e : va_E) : Sto := (fun q => if q = σ.2 then some e else σ.1 q, σ.2 + 1)
theorem sup_eq {σ : Sto} {a : Nat} {e : va_E} : (sup σ a e).1 a = some e := by simp [sup]
theorem sup_ne {σ : Sto} {a b : Nat} {e : va_E} (h : b ≠ a) : (sup σ a e).1 b = σ.1 b := by simp [sup, h]
theorem sup_2 {σ : Sto} {a : Nat} {e : va_E} : (sup σ a e).2 = σ.2 := rfl
theorem sup_k {σ : Sto} {a b : Nat} {e e0 e1 : va_E} (h1 : σ.1 b = some e1) (h0 : σ.1 a = some e0) (h : e0 ≠ e1) : (sup σ a e).1 b = some e1 := by
  have hne : b ≠ a := fun q => by
    subst q
    rw [h1] at h0
    exact h (Option.some.inj h0).symm
  rw [sup_ne hne, h1]
theorem sup_sup {σ : Sto} {a : Nat} {e e2 : va_E} : sup (sup σ a e) a e2 = sup σ a e2 := by
  unfold sup
  refine Prod.ext (funext fun q => ?_) rfl
  by_cases h : q = a <;> simp [h]
theorem sup_self {σ : Sto} {a : Nat} {e : va_E} (h : σ.1 a = some e) : sup σ a e = σ := by
  unfold sup
  refine Prod.ext (funext fun q => ?_) rfl
  by_cases hq : q = a
  · subst hq; simp [h]
  · simp [hq]
theorem sup_comm {σ : Sto} {a b : Nat} {e e2 : va_E} (h : a ≠ b) : sup (sup σ a e) b e2 = sup (sup σ b e2) a e := by
  unfold sup
  refine Prod.ext (funext fun q => ?_) rfl
  by_cases h1 : q = a <;> by_cases h2 : q = b
  · exact absurd (h1.symm.trans h2) h
  · simp [h1, h]
  · simp [h2]
    exact fun z => absurd z.symm h
  · simp [h1, h2]
theorem spush_new {σ : Sto} {e : va_E} : (spush σ e).1 σ.2 = some e := by simp [spush]
theorem spush_old {σ : Sto} {e : va_E} {b : Nat} (h : b ≠ σ.2) : (spush σ e).1 b = σ.1 b := by simp [spush, h]
theorem Wd.lt {E : EnvD} {σ : Sto} {H : Heap} (h : Wd E σ H) {a : Nat} {e : va_E} (ha : σ.1 a = some e) : a < σ.2 := by
  have := (h.1 a e ha).lt
  rw [h.2] at this
  exact this
theorem AD_sup {σ : Sto} {a : Nat} {e e0 : va_E} (h : σ.1 a = some e0) : ∀ q, AD (sup σ a e) q → AD σ q := by
  intro q hq
  rcases hq with hq | hq
  · by_cases hqa : q = a
    · left; rw [hqa, h]; exact fun z => by cases z
    · left; rwa [sup_ne hqa] at hq
  · exact Or.inr hq
theorem AD_push {σ : Sto} {e : va_E} : ∀ q, AD (spush σ e) q → AD σ q := by
  intro q hq
  rcases hq with hq | hq
  · by_cases hqa : q = σ.2
    · right; exact Nat.le_of_eq hqa.symm
    · left; rwa [spush_old hqa] at hq
  · right
    have : σ.2 + 1 ≤ q := hq
    omega
theorem Wd.put {E : EnvD} {σ : Sto} {H H1 : Heap} {a : Nat} {e0 e : va_E} (h : Wd E σ H) (ha : σ.1 a = some e0) (he : va_at E.1 vwCl (a, e) H1) (z : H1.size = H.size) (oq : ∀ q : Nat, q ≠ a → H1[q]? = H[q]?) : Wd E (sup σ a e) H1 := by
  refine ⟨fun b e' hb => ?_, by rw [z]; exact h.2⟩
  by_cases hba : b = a
  · subst hba
    rw [sup_eq] at hb
    cases hb
    exact he
  · rw [sup_ne hba] at hb
    exact (h.1 b e' hb).kept (oq b hba)
theorem Wd.push {E : EnvD} {σ : Sto} {H H1 : Heap} {e : va_E} (h : Wd E σ H) (he : va_at E.1 vwCl (H.size, e) H1) (z : H1.size = H.size + 1) (oq : ∀ q : Nat, q < H.size → H1[q]? = H[q]?) : Wd E (spush σ e) H1 := by
  refine ⟨fun b e' hb => ?_, by rw [z, h.2]; rfl⟩
  by_cases hba : b = σ.2
  · subst hba
    rw [spush_new] at hb
    cases hb
    rw [← h.2]
    exact he
  · rw [spush_old hba] at hb
    exact (h.1 b e' hb).kept (oq b ((h.1 b e' hb).lt))
/-! locals as a list of values by place -/
def lk : List (Option Value) → Nat → Option Value
  | [], _ => none
  | x :: _, 0 => x
  | _ :: t, n + 1 => lk t n
def vset : List (Option Value) → Nat → Option Value → List (Option Value)
  | [], _, _ => []
  | _ :: t, 0, v => v :: t
  | x :: t, n + 1, v => x :: vset t n v
def nol : List (Option Value) → Nat → Bool
  | _, 0 => true
  | vs, n + 1 => match lk vs n with
    | some v => v.category == 1
    | none => true
theorem lk_vset_eq : ∀ (vs : List (Option Value)) (i : Nat) (v : Option Value), i < vs.length → lk (vset vs i v) i = v
  | [], i, v, h => absurd h (Nat.not_lt_zero i)
  | _ :: t, 0, v, h => rfl
  | _ :: t, i + 1, v, h => lk_vset_eq t i v (Nat.lt_of_succ_lt_succ h)
theorem lk_vset_ne : ∀ (vs : List (Option Value)) (i j : Nat) (v : Option Value), j ≠ i → lk (vset vs i v) j = lk vs j
  | [], i, j, v, h => rfl
  | _ :: t, 0, 0, v, h => absurd rfl h
  | _ :: t, 0, j + 1, v, h => rfl
  | _ :: t, i + 1, 0, v, h => rfl
  | _ :: t, i + 1, j + 1, v, h => lk_vset_ne t i j v (fun e => h (by rw [e]))
theorem lk_lt : ∀ (vs : List (Option Value)) (i : Nat) (v : Value), lk vs i = some v → i < vs.length
  | [], i, v, h => by cases h
  | _ :: t, 0, v, h => Nat.succ_pos _
  | _ :: t, i + 1, v, h => Nat.succ_lt_succ (lk_lt t i v h)
def LV (ls : Array Slot) (nL : Nat) (vs : List (Option Value)) : Prop := ls.size = nL ∧ lv_wf ls ∧ vs.length = nL ∧ ∀ i v, lk vs i = some v → ls[i]? = some (.val v)
/-- the listed pairs of a list by place -/
def lvl (vs : List (Option Value)) : List (Nat × Value) := (List.range vs.length).filterMap (fun i => (lk vs i).map (fun v => (i, v)))
theorem mem_lvl {vs : List (Option Value)} {q : Nat × Value} : q ∈ lvl vs ↔ lk vs q.1 = some q.2 := by
  unfold lvl
  rw [List.mem_filterMap]
  constructor
  · rintro ⟨i, hi, h⟩
    obtain ⟨v, hv, rfl⟩ := Option.map_eq_some_iff.mp h
    exact hv
  · intro h
    exact ⟨q.1, List.mem_range.mpr (lk_lt _ _ _ h), by rw [h]; rfl⟩
theorem LV.has {ls : Array Slot} {nL : Nat} {vs : List (Option Value)} (h : LV ls nL vs) : lv_has ls nL (lvl vs) :=
  ⟨h.1, h.2.1, fun q hq => h.2.2.2 q.1 q.2 (mem_lvl.mp hq)⟩
theorem LV.at {ls : Array Slot} {nL : Nat} {vs : List (Option Value)} (h : LV ls nL vs) {i : Nat} {v : Value} (hv : lk vs i = some v) : ls[i]? = some (.val v) := h.2.2.2 i v hv
theorem vset_length : ∀ (vs : List (Option Value)) (i : Nat) (v : Option Value), (vset vs i v).length = vs.length
  | [], i, v => rfl
  | _ :: t, 0, v => rfl
  | _ :: t, i + 1, v => congrArg (· + 1) (vset_length t i v)
/-- a value of one slot is put -/
theorem LV.put1 {ls ls' : Array Slot} {nL i : Nat} {vs : List (Option Value)} {v : Value} (h : LV ls nL vs) (hi : i < nL) (hn : nol vs i = true)
    (h' : lv_has ls' nL ((i, v) :: (lvl vs).filter (fun q => !(q.1 == i) && !(q.1 + 1 == i && q.2.category == 2)))) : LV ls' nL (vset vs i (some v)) := by
  refine ⟨h'.1, h'.2.1, (vset_length vs i _).trans h.2.2.1, fun j w hj => ?_⟩
  by_cases hji : j = i
  · subst hji
    rw [lk_vset_eq vs j _ (by rw [h.2.2.1]; exact hi)] at hj
    cases hj
    exact h'.2.2 _ List.mem_cons_self
  · rw [lk_vset_ne vs i j _ hji] at hj
    refine h'.2.2 (j, w) (List.mem_cons_of_mem _ (List.mem_filter.mpr ⟨mem_lvl.mpr hj, ?_⟩))
    by_cases hj1 : j + 1 = i
    · subst hj1
      have hc : (w.category == 1) = true := by
        have := hn
        simp only [nol, hj] at this
        exact this
      have hc1 : w.category = 1 := by simpa using hc
      simp [hc1]
    · simp [hji, hj1]
/-- a value of two slots is put -/
theorem LV.put2 {ls ls' : Array Slot} {nL i : Nat} {vs : List (Option Value)} {v : Value} (h : LV ls nL vs) (hi : i + 1 < nL) (hn : nol vs i = true)
    (h' : lv_has ls' nL ((i, v) :: (lvl vs).filter (fun q => !(q.1 == i) && (!(q.1 == i + 1) && !(q.1 + 1 == i && q.2.category == 2))))) : LV ls' nL (vset (vset vs i (some v)) (i + 1) none) := by
  refine ⟨h'.1, h'.2.1, (vset_length _ _ _).trans ((vset_length vs i _).trans h.2.2.1), fun j w hj => ?_⟩
  by_cases hj2 : j = i + 1
  · subst hj2
    rw [lk_vset_eq _ (i + 1) _ (by rw [vset_length, h.2.2.1]; exact hi)] at hj
    cases hj
  · rw [lk_vset_ne _ (i + 1) j _ hj2] at hj
    by_cases hji : j = i
    · subst hji
      rw [lk_vset_eq vs j _ (by rw [h.2.2.1]; omega)] at hj
      cases hj
      exact h'.2.2 _ List.mem_cons_self
    · rw [lk_vset_ne vs i j _ hji] at hj
      refine h'.2.2 (j, w) (List.mem_cons_of_mem _ (List.mem_filter.mpr ⟨mem_lvl.mpr hj, ?_⟩))
      by_cases hj1 : j + 1 = i
      · subst hj1
        have hc : (w.category == 1) = true := by
          have := hn
          simp only [nol, hj] at this
          exact this
        have hc1 : w.category = 1 := by simpa using hc
        simp [hc1]
        omega
      · simp [hji, hj1, hj2]
/-- fewer places are known -/
def sub1 : List (Option Value) → List (Option Value) → Prop
  | [], [] => True
  | x :: s, y :: t => (y = none ∨ y = x) ∧ sub1 s t
  | _, _ => False
theorem sub1_lk : ∀ (vs vt : List (Option Value)), sub1 vs vt → ∀ i v, lk vt i = some v → lk vs i = some v
  | [], [], _, i, v, h => h
  | [], _ :: _, h0, i, v, h => h0.elim
  | _ :: _, [], h0, i, v, h => h0.elim
  | x :: s, y :: t, h0, 0, v, h => by
    rcases h0.1 with e | e
    · rw [e] at h; cases h
    · rw [e] at h; exact h
  | x :: s, y :: t, h0, i + 1, v, h => sub1_lk s t h0.2 i v h
theorem sub1_len : ∀ (vs vt : List (Option Value)), sub1 vs vt → vt.length = vs.length
  | [], [], _ => rfl
  | [], _ :: _, h0 => h0.elim
  | _ :: _, [], h0 => h0.elim
  | x :: s, y :: t, h0 => congrArg (· + 1) (sub1_len s t h0.2)
theorem LV.fewer {ls : Array Slot} {nL : Nat} {vs vt : List (Option Value)} (h : LV ls nL vs) (hs : sub1 vs vt) : LV ls nL vt :=
  ⟨h.1, h.2.1, (sub1_len vs vt hs).trans h.2.2.1, fun i v hv => h.2.2.2 i v (sub1_lk vs vt hs i v hv)⟩
/-- the locals at a method's entry -/
def entl : List Value → List (Option Value)
  | [] => []
  | v :: t => if v.category = 2 then some v :: none :: entl t else some v :: entl t
theorem entl_args : ∀ (as : List Value) (k i : Nat) (v : Value), lk (entl as) i = some v → (k + i, v) ∈ lv_args k as
  | [], k, i, v, h => by cases h
  | a :: t, k, i, v, h => by
    unfold entl at h
    unfold lv_args
    by_cases hc : a.category = 2
    · rw [if_pos hc] at h ⊢
      match i, h with
      | 0, h => cases h; exact List.mem_cons_self
      | 1, h => cases h
      | i + 2, h =>
        have := entl_args t (k + 2) i v h
        rw [show k + 2 + i = k + (i + 2) by omega] at this
        exact List.mem_cons_of_mem _ this
    · rw [if_neg hc] at h ⊢
      match i, h with
      | 0, h => cases h; exact List.mem_cons_self
      | i + 1, h =>
        have := entl_args t (k + 1) i v h
        rw [show k + 1 + i = k + (i + 1) by omega] at this
        exact List.mem_cons_of_mem _ this
theorem lk_app_rep : ∀ (as : List (Option Value)) (n i : Nat) (v : Value), lk (as ++ List.replicate n none) i = some v → lk as i = some v
  | [], n, i, v, h => by
    exfalso
    rw [List.nil_append] at h
    induction n generalizing i with
    | zero => cases h
    | succ n ih =>
      rw [List.replicate_succ] at h
      cases i with
      | zero => cases h
      | succ i => exact ih i h
  | _ :: t, n, 0, v, h => h
  | _ :: t, n, i + 1, v, h => lk_app_rep t n i v h
theorem entl_len : ∀ (as : List Value), (entl as).length = (lg_sl as).length
  | [] => rfl
  | a :: t => by
    unfold entl lg_sl
    rw [List.flatMap_cons]
    have := entl_len t
    unfold lg_sl at this
    by_cases hc : a.category = 2
    · rw [if_pos hc, if_pos hc]; simp [this]
    · rw [if_neg hc, if_neg hc]; simp [this]
