/-! numbers, answers (own work) -/
noncomputable def bI (P : Prop) : Int32 := @ite _ P (Classical.propDecidable P) 1 0
theorem bI_t {P : Prop} (h : P) : bI P = 1 := by unfold bI; rw [if_pos h]
theorem bI_f {P : Prop} (h : ¬ P) : bI P = 0 := by unfold bI; rw [if_neg h]
theorem bI_iff {P P' : Prop} (h : P ↔ P') : bI P = bI P' := by rw [propext h]
noncomputable def cif {α : Sort _} (P : Prop) (a b : α) : α := @ite _ P (Classical.propDecidable P) a b
theorem cif_t {α : Sort _} {P : Prop} {a b : α} (h : P) : cif P a b = a := by unfold cif; rw [if_pos h]
theorem cif_f {α : Sort _} {P : Prop} {a b : α} (h : ¬ P) : cif P a b = b := by unfold cif; rw [if_neg h]
def inR (x : Int32) (n : Nat) : Prop := ∃ j, j < n ∧ x = nI j
theorem nI_inj {a b : Nat} (ha : a < 2147483648) (hb : b < 2147483648) (h : nI a = nI b) : a = b := (nI_eq ha hb).mp h
theorem inR_nI {j n : Nat} (hj : j < 2147483648) (hn : n ≤ 2147483648) : inR (nI j) n ↔ j < n :=
  ⟨fun ⟨k, hk, e⟩ => by rw [nI_inj hj (by omega) e]; exact hk, fun h => ⟨j, h, rfl⟩⟩
theorem inR_neg {x : Int32} {n : Nat} (h : x < 0) (hn : n ≤ 2147483648) : ¬ inR x n := by
  rintro ⟨j, hj, rfl⟩
  exact nI_pos (by omega) h
theorem inR_ge {x : Int32} {n : Nat} (h : x ≥ nI n) (hn : n < 2147483648) : ¬ inR x n := by
  rintro ⟨j, hj, rfl⟩
  have := (nI_leI hn (by omega)).mp h
  omega
theorem inR_of {x : Int32} {n : Nat} (h0 : ¬ x < 0) (h1 : ¬ x ≥ nI n) (hn : n < 2147483648) : inR x n := by
  obtain ⟨j, hj, rfl⟩ := nI_of h0
  refine ⟨j, ?_, rfl⟩
  exact Nat.not_le.mp fun q => h1 ((nI_leI hn hj).mpr q)
theorem inR_gt {x : Int32} {m n : Nat} (h : x > nI m) (hn : n = m + 1) (hm : m < 2147483647) : ¬ inR x n := by
  rintro ⟨j, hj, rfl⟩
  have := (nI_ltI (by omega) (by omega)).mp h
  omega
theorem inR_of2 {x : Int32} {m n : Nat} (h0 : ¬ x < 0) (h1 : ¬ x > nI m) (hn : n = m + 1) (hm : m < 2147483647) : inR x n := by
  obtain ⟨j, hj, rfl⟩ := nI_of h0
  refine ⟨j, ?_, rfl⟩
  have : ¬ m < j := fun q => h1 ((nI_ltI (by omega) hj).mpr q)
  omega
/-- a row's place i: what stands there, -1 behind its end -/
noncomputable def atV (n : Nat) (f : Nat → Int32) (i : Int32) : Int32 := cif (inR i n) (f i.toNatClampNeg) (-1)
theorem atV_in {n : Nat} {f : Nat → Int32} {j : Nat} (h : j < n) (hn : n ≤ 2147483648) : atV n f (nI j) = f j := by
  unfold atV
  rw [cif_t ⟨j, h, rfl⟩, clampN (by omega)]
theorem atV_out {n : Nat} {f : Nat → Int32} {i : Int32} (h : ¬ inR i n) : atV n f i = -1 := by
  unfold atV
  rw [cif_f h]
theorem ne_k {σ : Sto} {a b : Nat} {e0 e1 : va_E} (h1 : σ.1 b = some e1) (h0 : σ.1 a = some e0) (h : e0 ≠ e1) : b ≠ a := fun q => by
  subst q
  rw [h1] at h0
  exact h (Option.some.inj h0).symm
theorem nI_dec {k : Nat} (h : 1 ≤ k) : nI k + Int32.ofInt (-1) = nI (k - 1) := by
  obtain ⟨j, rfl⟩ : ∃ j, k = j + 1 := ⟨k - 1, by omega⟩
  exact pk_m1 j
theorem ret1 {P : Prop} {σ : Sto} (h : P) : some (Value.int (nI 1)) = some (Value.int (bI P)) ∧ σ = σ := ⟨by rw [bI_t h]; rfl, rfl⟩
theorem ret0 {P : Prop} {σ : Sto} (h : ¬ P) : some (Value.int (nI 0)) = some (Value.int (bI P)) ∧ σ = σ := ⟨by rw [bI_f h]; rfl, rfl⟩
theorem retV {v w : Value} {σ : Sto} (h : v = w) : some v = some w ∧ σ = σ := ⟨by rw [h], rfl⟩
theorem retI {v w : Int32} {σ : Sto} (h : v = w) : some (Value.int v) = some (Value.int w) ∧ σ = σ := ⟨by rw [h], rfl⟩
/-- a row with x put in at place i -/
def insF (f : Nat → Int32) (n i : Nat) (x : Int32) : Nat → Int32 := fun q => if q < i then f q else if q = i then x else if q ≤ n then f (q - 1) else f q
def shF (f : Nat → Int32) (n k : Nat) : Nat → Int32 := fun q => if k < q ∧ q ≤ n then f (q - 1) else f q
theorem shF_n (f : Nat → Int32) (n : Nat) : shF f n n = f := by
  funext q
  unfold shF
  rw [if_neg (by omega)]
theorem shF_step {f : Nat → Int32} {n k : Nat} (h1 : 1 ≤ k) (h2 : k ≤ n) : upd (shF f n k) k (shF f n k (k - 1)) = shF f n (k - 1) := by
  funext q
  unfold upd shF
  by_cases hq : q = k
  · subst hq
    rw [if_pos rfl, if_neg (by omega), if_pos (by omega)]
  · rw [if_neg hq]
    by_cases h3 : k < q ∧ q ≤ n
    · rw [if_pos h3, if_pos (by omega)]
    · rw [if_neg h3, if_neg (by omega)]
theorem shF_end {f : Nat → Int32} {n i : Nat} (x : Int32) : upd (shF f n i) i x = insF f n i x := by
  funext q
  unfold upd shF insF
  by_cases hq : q = i
  · subst hq
    rw [if_pos rfl, if_neg (by omega), if_pos rfl]
  · rw [if_neg hq]
    by_cases h3 : q < i
    · rw [if_neg (by omega), if_pos h3]
    · rw [if_neg h3, if_neg hq]
      by_cases h4 : q ≤ n
      · rw [if_pos (by omega), if_pos h4]
      · rw [if_neg (by omega), if_neg h4]
/-- a row with the thing at place i taken out -/
def remF (f : Nat → Int32) (n i : Nat) : Nat → Int32 := fun q => if i ≤ q ∧ q + 1 < n then f (q + 1) else f q
theorem remF_0 {f : Nat → Int32} {i : Nat} : remF f i i = f := by
  funext q
  unfold remF
  rw [if_neg (by omega)]
theorem remF_step {f : Nat → Int32} {i k : Nat} (h : i ≤ k) : upd (remF f (k + 1) i) k (remF f (k + 1) i (k + 1)) = remF f (k + 2) i := by
  funext q
  unfold upd remF
  by_cases hq : q = k
  · subst hq
    rw [if_pos rfl, if_neg (by omega), if_pos (by omega)]
  · rw [if_neg hq]
    by_cases h3 : i ≤ q ∧ q + 1 < k + 1
    · rw [if_pos h3, if_pos (by omega)]
    · rw [if_neg h3, if_neg (by omega)]
/-- a row that has become another one, as far as place k -/
def becF (f g : Nat → Int32) (k : Nat) : Nat → Int32 := fun q => if q < k then g q else f q
theorem becF_0 {f g : Nat → Int32} : becF f g 0 = f := by
  funext q
  unfold becF
  rw [if_neg (by omega)]
theorem becF_step {f g : Nat → Int32} {k : Nat} : upd (becF f g k) k (g k) = becF f g (k + 1) := by
  funext q
  unfold upd becF
  by_cases hq : q = k
  · subst hq
    rw [if_pos rfl, if_pos (by omega)]
  · rw [if_neg hq]
    by_cases h3 : q < k
    · rw [if_pos h3, if_pos (by omega)]
    · rw [if_neg h3, if_neg (by omega)]
theorem becF_self {f : Nat → Int32} {k : Nat} : becF f f k = f := by
  funext q
  unfold becF
  split <;> rfl
section GB
variable {X : CX} {E : EnvD} {cc : ByteArray} {own : String} {nL : Nat} {R : Room} {A : Nat → Prop} {Q : State → Prop} {k n pc : Nat} {vs vs' : List (Option Value)} {st : List Value} {σ : Sto}
theorem g_if_eqB (h : OK X E cc own nL R) {P : Prop} {off : Int} (tgt : Nat) (hd : decode cc pc = .ok (.ifCond .eq off, 3)) (ht : (pc : Int) + off = (tgt : Int)) (kt : ¬ P → G X E nL A Q k n tgt vs st σ) (kf : P → G X E nL A Q k n (pc + 3) vs st σ) : G X E nL A Q k n pc vs (.int (bI P) :: st) σ :=
  g_if_eq h tgt hd ht (fun c => kt (fun q => by rw [bI_t q] at c; exact absurd c (by decide))) (fun c => kf (Classical.not_not.mp fun q => c (bI_f q)))
theorem g_if_neB (h : OK X E cc own nL R) {P : Prop} {off : Int} (tgt : Nat) (hd : decode cc pc = .ok (.ifCond .ne off, 3)) (ht : (pc : Int) + off = (tgt : Int)) (kt : P → G X E nL A Q k n tgt vs st σ) (kf : ¬ P → G X E nL A Q k n (pc + 3) vs st σ) : G X E nL A Q k n pc vs (.int (bI P) :: st) σ :=
  g_if_ne h tgt hd ht (fun c => kt (Classical.not_not.mp fun q => c (bI_f q))) (fun c => kf (fun q => by rw [bI_t q] at c; exact absurd c (by decide)))
theorem kk_det {v : Value} {rest : List Value} {σ1 : Sto} (kk : G X E nL A Q k n pc vs (v :: rest) σ1) : ∀ (r : Option Value) (s : Sto), (r = some v ∧ s = σ1) → G X E nL A Q k n pc vs (r.toList ++ rest) s := by
  rintro _ _ ⟨rfl, rfl⟩
  exact kk
theorem kk_detv {rest : List Value} {σ1 : Sto} (kk : G X E nL A Q k n pc vs rest σ1) : ∀ (r : Option Value) (s : Sto), (r = none ∧ s = σ1) → G X E nL A Q k n pc vs (r.toList ++ rest) s := by
  rintro _ _ ⟨rfl, rfl⟩
  exact kk
end GB
