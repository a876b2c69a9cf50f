/-! the law's rows: two objects side by side, each with the part of the store that is its own (own work) -/
def rst (d : Nat → Bool) (σ : Sto) : Sto := (fun q => if d q = true then σ.1 q else none, σ.2)
def mrg (d : Nat → Bool) (σ σ' : Sto) : Sto := (fun q => if d q = true then σ'.1 q else σ.1 q, σ'.2)
theorem rst_t {d : Nat → Bool} {σ : Sto} {q : Nat} (h : d q = true) : (rst d σ).1 q = σ.1 q := if_pos h
theorem rst_f {d : Nat → Bool} {σ : Sto} {q : Nat} (h : ¬ d q = true) : (rst d σ).1 q = none := if_neg h
theorem mrg_t {d : Nat → Bool} {σ σ' : Sto} {q : Nat} (h : d q = true) : (mrg d σ σ').1 q = σ'.1 q := if_pos h
theorem mrg_f {d : Nat → Bool} {σ σ' : Sto} {q : Nat} (h : ¬ d q = true) : (mrg d σ σ').1 q = σ.1 q := if_neg h
theorem rst_some {d : Nat → Bool} {σ : Sto} {q : Nat} {e : va_E} (h : (rst d σ).1 q = some e) : σ.1 q = some e := by
  by_cases c : d q = true
  · rwa [rst_t c] at h
  · rw [rst_f c] at h; cases h
theorem Wd.rst {E : EnvD} {σ : Sto} {H : Heap} (h : Wd E σ H) (d : Nat → Bool) : Wd E (rst d σ) H := ⟨fun a e q => h.1 a e (rst_some q), h.2⟩
theorem AD.rst {d : Nat → Bool} {σ : Sto} {q : Nat} (h : AD (rst d σ) q) : AD σ q := by
  rcases h with h | h
  · left
    intro z
    by_cases c : d q = true
    · rw [rst_t c] at h; exact h z
    · rw [rst_f c] at h; exact h rfl
  · exact Or.inr h
section LR
variable {X : CX} {E : EnvD} {cc : ByteArray} {own : String} {nL : Nat} {R : Room} {A : Nat → Prop} {Q : State → Prop} {k n pc : Nat} {vs vs' : List (Option Value)} {st : List Value} {σ σ0 : Sto} {a : Nat} {post : Option Value → Sto → Prop}
/-- behind a call that has a part of the store -/
theorem g_run2 (d : Nat → Bool) {rm : Room} {rest : List Value} {aa : Array Value}
    (hr : ∀ (H : Heap) (locs : List Loc) (ls : Array Slot), Wd E σ H → LV ls nL vs → va_Run (xP X) (xL X) (xE X) (xR X) (xS X) (xM X) (xA X) (xB X) (xH X) (xC X) H locs k n rm.cells rm.slots (F0 (xM X) pc ls st) rest (QC E (rst d σ) post aa) (AD (rst d σ)))
    (kk : ∀ (r : Option Value) (σ' : Sto), post r σ' → σ.2 ≤ σ'.2 → (∀ q, AD σ' q → AD (rst d σ) q) → G X E nL A Q (k + rm.cells) (n + rm.slots) (pc + 3) vs (r.toList ++ rest) (mrg d σ σ')) : G X E nL A Q k n pc vs st σ := by
  intro H locs ls hW hA hS hL T hT Xs
  obtain ⟨v, st₀, t, T', L, h0, X', hLo, e1, e2, ⟨⟨r, σ', hv, hp, hw, hd⟩, hz, hk⟩, stp⟩ := hr H locs ls hW hL T hT Xs
  cases hv
  rw [h0] at hz hk
  have hle : σ.2 ≤ σ'.2 := by rw [← hW.2, ← hw.2]; exact hz
  have hW2 : Wd E (mrg d σ σ') t.heap := by
    refine ⟨fun q e hq => ?_, hw.2⟩
    by_cases c : d q = true
    · rw [mrg_t c] at hq; exact hw.1 q e hq
    · rw [mrg_f c] at hq
      have hlt : q < H.size := by rw [hW.2]; exact hW.lt hq
      refine (hW.1 q e hq).kept (hk q hlt (fun z => ?_))
      rcases z with z | z
      · exact z (rst_f c)
      · have : σ.2 ≤ q := z
        rw [hW.2] at hlt
        omega
  obtain ⟨t2, a1, b1⟩ := kk v σ' hp hle hd T'.heap (locs ++ L) ls (by rw [e1]; exact hW2) (fun q hq => hA q (by
      rcases hq with hq | hq
      · by_cases c : d q = true
        · rw [mrg_t c] at hq; exact (hd q (Or.inl hq)).rst
        · rw [mrg_f c] at hq; exact Or.inl hq
      · exact (hd q (Or.inr hq)).rst))
    ⟨Nat.le_trans hS.1 (by rw [e1]; exact hz), fun q h1 h2 => by rw [e1, hk q (Nat.lt_of_lt_of_le h1 hS.1) (fun z => h2 (hA q z.rst))]; exact hS.2.1 q h1 h2, fun q hq => by
      rcases List.mem_append.mp hq with h | h
      · exact hS.2.2 q h
      · exact hA _ (hLo q h).rst⟩ hL T' rfl X'
  exact ⟨t2, stp t2 a1, b1⟩
theorem g_callV2 (d : Nat → Bool) (h : OK X E cc own nL R) {y : MethodName} {c2 : ByteArray} {index maxL np ci b : Nat} {ret : Option FieldType} {rm : Room} {As : List Value} {fs : List Value} {T : u_T} {N : Nat} (rest : List Value) (hM : CC (xL X) y c2 maxL ret rm E (.ref b :: As) (rst d σ) post) (hf : CF own index y c2 maxL ret np) (hi : lwI (.instanceMethod y) ∧ lwI (.selects y.cls y y)) (hd : decode cc pc = .ok (.invokevirtual index, 3))
    (hn : As.length = np) (hσ : σ.1 b = some (.inr (ci, fs))) (hc : vwCl[ci]? = some (y.cls, T, N)) (hst : st = As.reverse ++ .ref b :: rest) (hrest : (rest.map fun v => v.category).sum ≤ 8) (hR : rm.frames + 1 ≤ R.frames ∧ 8 + (maxL + 11) + rm.locals ≤ R.locals) (hroom : k + rm.cells ≤ R.cells ∧ n + rm.slots ≤ R.slots)
    (kk : ∀ (r : Option Value) (σ' : Sto), post r σ' → σ.2 ≤ σ'.2 → (∀ q, AD σ' q → AD (rst d σ) q) → G X E nL A Q (k + rm.cells) (n + rm.slots) (pc + 3) vs (r.toList ++ rest) (mrg d σ σ')) : G X E nL A Q k n pc vs st σ := by
  refine g_run2 d (rm := rm) (rest := rest) (aa := (Value.ref b :: As).toArray) (fun H locs ls hW hL => ?_) kk
  have hP : va_P E.1 vwCl [(b, .inr (ci, fs))] H := fun i q hq => by
    have h0 : i < 1 := (List.getElem?_eq_some_iff.mp hq).1
    rw [show i = 0 by omega] at hq
    cases hq
    exact hW.1 b _ hσ
  have hK : va_K E.1 vwCl (tysE E) (xS X) := h.2.2.2.2.1.1
  exact va_runV (C := y.cls) (cc := cc) (nL := nL) (Ts := []) (own := own) (index := index) (bytes := c2) (maxL := maxL) (ret := ret) (n := np) (As := As) ⟨h.1, h.2.1, h.2.2.1, h.2.2.2.1, fun w hw => absurd hw List.not_mem_nil⟩ hM
    ⟨⟨rfl, rfl, by rw [h.2.2.2.2.2.2]; exact hR.1, by rw [h.2.2.2.2.2.2]; exact hR.2, code_warm h hf.2.2.1, List.mem_singleton.mpr rfl, h.word hf.2.2.1, h.word hf.2.1, hf.2.2.2.1, np_of hf.2.2.2.2, h.word hf.1⟩, h.word hi.1, h.word hi.2⟩
    ⟨pc_blind, va_recv hK hP hc (q0 := 0) rfl, fun U hU hWm => ⟨rfl, by rw [hU]; exact hW.rst d, h.2.2.2.2.1.warm hWm⟩⟩ rfl hn hL.1 hst (lv_room hrest) hd (by rw [h.2.2.2.2.2.2]; exact hroom)
/-- a number of the script, its length -/
theorem g_scr (h : OK X E cc own nL R) {b0 L i : Nat} {xs : Nat → Int32} (hX : va_X b0 L xs (xS X) (xS X).heap) (hbl : b0 < (xS X).heap.size) (hbA : ¬ A b0) (hi : i < L) (hi2 : L < 2147483648) (hd : decode cc pc = .ok (.iaload, 1)) (kk : G X E nL A Q k n (pc + 1) vs (.int (xs i) :: st) σ) : G X E nL A Q k n pc vs (.int (nI i) :: .ref b0 :: st) σ :=
  fun H locs ls hW hA hS hL => va_sld h.1 h.2.1 hX hbl hbA hS (i := nI i) (vp_in_nI hi hi2) hd (by rw [clampN (Nat.lt_trans hi hi2)]; exact kk H locs ls hW hA hS hL)
theorem g_slen (h : OK X E cc own nL R) {b0 L : Nat} {xs : Nat → Int32} (hX : va_X b0 L xs (xS X) (xS X).heap) (hbl : b0 < (xS X).heap.size) (hbA : ¬ A b0) (hd : decode cc pc = .ok (.arraylength, 1)) (kk : G X E nL A Q k n (pc + 1) vs (.int (nI L) :: st) σ) : G X E nL A Q k n pc vs (.ref b0 :: st) σ :=
  fun H locs ls hW hA hS hL => va_slen h.1 h.2.1 hX hbl hbA hS hd (kk H locs ls hW hA hS hL)
end LR
def dM (b q : Nat) : Bool := decide (b ≤ q) && decide (q < b + 18)
def dC (b q : Nat) : Bool := !dM b q
theorem dM_t {b q : Nat} : dM b q = true ↔ b ≤ q ∧ q < b + 18 := by unfold dM; simp
theorem dC_t {b q : Nat} : dC b q = true ↔ ¬ (b ≤ q ∧ q < b + 18) := by
  unfold dC
  rw [← dM_t]
  cases dM b q <;> simp
theorem RepC.cg {E : EnvD} {z : Nat} {S : PSt} {σ σ' : Sto} (h : RepC E z S σ) (e : σ'.1 = σ.1) : RepC E z S σ' := by
  obtain ⟨f, m⟩ := σ
  obtain ⟨f', m'⟩ := σ'
  have e2 : f' = f := e
  subst e2
  exact h
theorem RepM.cg {E : EnvD} {b : Nat} {S : PSt} {σ σ' : Sto} (h : RepM E b S σ) (ag : ∀ q, b ≤ q → q < b + 18 → σ'.1 q = σ.1 q) : RepM E b S σ' := by
  obtain ⟨r0, ⟨f1, r1, e1⟩, ⟨f2, r2, e2⟩, ⟨f3, r3, e3⟩, ⟨f4, r4, e4⟩, ⟨f5, r5, e5⟩, ⟨f6, r6, e6⟩, ⟨f7, r7, e7⟩, ⟨f8, r8, e8⟩, ⟨f9, r9, e9⟩, ⟨f10, r10, e10⟩, ⟨f11, r11, e11⟩, ⟨f12, r12, e12⟩, ⟨f13, r13⟩, ⟨f14, r14⟩, ⟨f15, r15⟩, ⟨f16, r16, e16⟩, ⟨f17, r17⟩⟩ := h
  have c : ∀ k, k < 18 → σ'.1 (b + k) = σ.1 (b + k) := fun k hk => ag _ (by omega) (by omega)
  exact ⟨(c 0 (by decide)).trans r0, ⟨f1, (c 1 (by decide)).trans r1, e1⟩, ⟨f2, (c 2 (by decide)).trans r2, e2⟩, ⟨f3, (c 3 (by decide)).trans r3, e3⟩, ⟨f4, (c 4 (by decide)).trans r4, e4⟩, ⟨f5, (c 5 (by decide)).trans r5, e5⟩, ⟨f6, (c 6 (by decide)).trans r6, e6⟩, ⟨f7, (c 7 (by decide)).trans r7, e7⟩, ⟨f8, (c 8 (by decide)).trans r8, e8⟩, ⟨f9, (c 9 (by decide)).trans r9, e9⟩, ⟨f10, (c 10 (by decide)).trans r10, e10⟩, ⟨f11, (c 11 (by decide)).trans r11, e11⟩, ⟨f12, (c 12 (by decide)).trans r12, e12⟩, ⟨f13, (c 13 (by decide)).trans r13⟩, ⟨f14, (c 14 (by decide)).trans r14⟩, ⟨f15, (c 15 (by decide)).trans r15⟩, ⟨f16, (c 16 (by decide)).trans r16, e16⟩, ⟨f17, (c 17 (by decide)).trans r17⟩⟩
/-- both sides hold the state S; between two calls: the class S', the reference still S -/
def LI (E : EnvD) (z b : Nat) (S S' : PSt) (σ : Sto) : Prop := RepC E z S' (rst (dC b) σ) ∧ RepM E b S (rst (dM b) σ) ∧ b + 18 ≤ σ.2
theorem LI.c {E : EnvD} {z b : Nat} {S S' S2 : PSt} {σ σ' : Sto} (h : LI E z b S S2 σ) (hC : RepC E z S' σ') (hle : σ.2 ≤ σ'.2) (hd : ∀ q, AD σ' q → AD (rst (dC b) σ) q) : LI E z b S S' (mrg (dC b) σ σ') := by
  obtain ⟨h1, h2, h3⟩ := h
  refine ⟨hC.cg (funext fun q => ?_), h2.cg (fun q e1 e2 => ?_), Nat.le_trans h3 hle⟩
  · by_cases c : dC b q = true
    · rw [rst_t c, mrg_t c]
    · rw [rst_f c]
      by_cases e : σ'.1 q = none
      · exact e.symm
      · exfalso
        rcases hd q (Or.inl e) with z | z
        · exact z (rst_f c)
        · have z2 : σ.2 ≤ q := z
          rw [dC_t] at c
          omega
  · have c1 : dM b q = true := dM_t.mpr ⟨e1, e2⟩
    have c2 : ¬ dC b q = true := fun z => dC_t.mp z ⟨e1, e2⟩
    rw [rst_t c1, rst_t c1, mrg_f c2]
theorem LI.m {E : EnvD} {z b : Nat} {S S' : PSt} {σ σ' : Sto} (h : LI E z b S S' σ) (hM : RepM E b S' σ') (hle : σ.2 ≤ σ'.2) : LI E z b S' S' (mrg (dM b) σ σ') := by
  obtain ⟨h1, h2, h3⟩ := h
  refine ⟨h1.cg (funext fun q => ?_), hM.cg (fun q e1 e2 => ?_), Nat.le_trans h3 hle⟩
  · by_cases c : dC b q = true
    · have c2 : ¬ dM b q = true := fun z => dC_t.mp c (dM_t.mp z)
      rw [rst_t c, rst_t c, mrg_f c2]
    · rw [rst_f c, rst_f c]
  · have c1 : dM b q = true := dM_t.mpr ⟨e1, e2⟩
    rw [rst_t c1, mrg_t c1]
theorem LI.z {E : EnvD} {z b : Nat} {S S' : PSt} {σ : Sto} (h : LI E z b S S' σ) : ∃ fs, σ.1 z = some (.inr (5, fs)) := ⟨_, rst_some h.1.1⟩
theorem LI.b {E : EnvD} {z b : Nat} {S S' : PSt} {σ : Sto} (h : LI E z b S S' σ) : ∃ fs, σ.1 b = some (.inr (6, fs)) := ⟨_, rst_some h.2.1.1⟩
theorem and31 (x : Int32) : ∃ j, j < 32 ∧ x &&& nI 31 = nI j := by
  refine ⟨(x &&& nI 31).toBitVec.toNat, ?_, ?_⟩
  · rw [Int32.toBitVec_and, BitVec.toNat_and]
    have e : (nI 31).toBitVec.toNat = 31 := by decide
    have := Nat.and_le_right (n := x.toBitVec.toNat) (m := (nI 31).toBitVec.toNat)
    omega
  · apply Int32.toBitVec_inj.mp
    apply BitVec.eq_of_toNat_eq
    show _ = (BitVec.ofNat 32 _).toNat
    rw [BitVec.toNat_ofNat, Nat.mod_eq_of_lt (BitVec.isLt _)]
theorem law_more {i L : Nat} (hi : i ≤ 2560) (hL : L ≤ 2560) (h : ¬ nI i > nI L - nI 5) : i + 5 ≤ L := by
  rcases Nat.lt_or_ge L 5 with q | q
  · exfalso
    apply h
    have e : (nI L - nI 5).toInt < 0 := by
      rcases (show L = 0 ∨ L = 1 ∨ L = 2 ∨ L = 3 ∨ L = 4 by omega) with rfl | rfl | rfl | rfl | rfl <;> decide
    show nI L - nI 5 < nI i
    rw [Int32.lt_iff_toInt_lt, nI_toInt (by omega)]
    omega
  · rw [nI_subN q] at h
    rcases Nat.lt_or_ge L (i + 5) with r | r
    · exfalso
      apply h
      show nI (L - 5) < nI i
      rw [Int32.lt_iff_toInt_lt, nI_toInt (by omega), nI_toInt (by omega)]
      omega
    · exact r
