/-! what each call answers, and the state behind it (own work) -/
def cl (x : Int32) : Nat := x.toNatClampNeg
theorem cl_nI {j : Nat} (h : j < 2147483648) : cl (nI j) = j := clampN h
def rwV (S : PSt) (v : Nat) : Nat → Int32 := fun i => nI (sVl S v i)
def insN (l : Nat → Nat) (n i x : Nat) : Nat → Nat := fun q => if q < i then l q else if q = i then x else if q ≤ n then l (q - 1) else l q
def remN (l : Nat → Nat) (n i : Nat) : Nat → Nat := fun q => if i ≤ q ∧ q + 1 < n then l (q + 1) else l q
theorem insF_nI {l : Nat → Nat} {n i x : Nat} : insF (fun i => nI (l i)) n i (nI x) = fun q => nI (insN l n i x q) := by
  funext q
  unfold insF insN
  split
  · rfl
  · split
    · rfl
    · split <;> rfl
theorem remF_nI {l : Nat → Nat} {n i : Nat} : remF (fun i => nI (l i)) n i = fun q => nI (remN l n i q) := by
  funext q
  unfold remF remN
  split <;> rfl
noncomputable def opPut (S : PSt) (v i x : Int32) : Int32 × PSt :=
  cif (inR v 8 ∧ inR i (sVn S (cl v) + 1) ∧ inR x 100) (cif (sVn S (cl v) = 40) (-4, S) (nI (sVn S (cl v) + 1), setV S (cl v) (sVn S (cl v) + 1) (insN (sVl S (cl v)) (sVn S (cl v)) (cl i) (cl x)))) (-2, S)
noncomputable def opTake (S : PSt) (v i : Int32) : Int32 × PSt :=
  cif (inR v 8 ∧ inR i (sVn S (cl v))) (nI (sVl S (cl v) (cl i)), setV S (cl v) (sVn S (cl v) - 1) (remN (sVl S (cl v)) (sVn S (cl v)) (cl i))) (-2, S)
noncomputable def opCopy (S : PSt) (a b : Int32) : Int32 × PSt :=
  cif (inR a 8 ∧ inR b 8) (nI (sVn S (cl a)), setV S (cl b) (sVn S (cl a)) (sVl S (cl a))) (-2, S)
noncomputable def opLineAt (S : PSt) (v i : Int32) : Int32 × PSt := (cif (inR v 8) (atV (sVn S (cl v)) (rwV S (cl v)) i) (-2), S)
noncomputable def opDiffer (S : PSt) (a b : Int32) : Int32 × PSt := (cif (inR a 8 ∧ inR b 8) (nI (ed (rwV S (cl a)) (rwV S (cl b)) (sVn S (cl a)) (sVn S (cl b)) 0 0)) (-2), S)
noncomputable def opStep (S : PSt) (a b x : Int32) : Int32 × PSt := (cif (inR a 8 ∧ inR b 8) (stpV (rwV S (cl a)) (rwV S (cl b)) (sVn S (cl a)) (sVn S (cl b)) x) (-2), S)
noncomputable def opCond (S : PSt) (s x y : Int32) : Int32 × PSt :=
  cif (inR s 7 ∧ inR x 100 ∧ inR y (if s = nI 1 then 41 else 100)) (cif (sCn S = 12) (-4, S) (nI (sCn S), addC S (cl s) (cl x) (cl y))) (-2, S)
def opClear (S : PSt) : Int32 × PSt := (nI (sCn S), clrC S)
/-- the first from c on of k that p holds of -/
noncomputable def fp (p : Nat → Prop) : Nat → Nat → Int32
  | _, 0 => -1
  | c, k + 1 => cif (p c) (nI c) (fp p (c + 1) k)
noncomputable def jdS (S : PSt) (c : Nat) (h : Nat → Int32) (n : Nat) : Nat := jdV (sCs S c) (sCx S c) (sCy S c) h n
noncomputable def opBreaks (S : PSt) (v : Int32) : Int32 × PSt := (cif (inR v 8) (fp (fun c => jdS S c (rwV S (cl v)) (sVn S (cl v)) = 2) 0 (sCn S)) (-2), S)
noncomputable def opHear (S : PSt) (p x : Int32) : Int32 × PSt :=
  cif (inR p 4 ∧ (x = -1 ∨ inR x 100)) (cif (sPn S (cl p) = 40) (-4, S) (nI (sPn S (cl p) + 1), setP S (cl p) (sPn S (cl p) + 1) (insF (sPh S (cl p)) (sPn S (cl p)) (sPn S (cl p)) x))) (-2, S)
noncomputable def opForget (S : PSt) (p : Int32) : Int32 × PSt := cif (inR p 4) (nI (sPn S (cl p)), setP S (cl p) 0 (sPh S (cl p))) (-2, S)
noncomputable def opHeard (S : PSt) (p i : Int32) : Int32 × PSt := (cif (inR p 4 ∧ inR i (sPn S (cl p))) (sPh S (cl p) (cl i)) (-2), S)
noncomputable def opJudge (S : PSt) (p c : Int32) : Int32 × PSt := (cif (inR p 4 ∧ inR c (sCn S)) (nI (jdS S (cl c) (sPh S (cl p)) (sPn S (cl p)))) (-2), S)
noncomputable def vmx (S : PSt) (p : Nat) : Nat → Nat
  | 0 => 0
  | c + 1 => max (vmx S p c) (jdS S c (sPh S p) (sPn S p))
noncomputable def opVerdict (S : PSt) (p : Int32) : Int32 × PSt := (cif (inR p 4) (nI (vmx S (cl p) (sCn S))) (-2), S)
def qrl (f g : Nat → Int32) : Nat → Nat
  | 0 => 0
  | i + 1 => qrl f g i + (if ¬ f i = g i ∧ ¬ f i = -1 ∧ ¬ g i = -1 then 1 else 0)
noncomputable def opBoth (S : PSt) (a b t : Int32) : Int32 × PSt :=
  cif (inR a 4 ∧ inR b 4 ∧ inR t 4) (cif (sPn S (cl a) = sPn S (cl b)) (nI (qrl (sPh S (cl a)) (sPh S (cl b)) (sPn S (cl a))), setP S (cl t) (sPn S (cl a)) (fun i => hb2 (sPh S (cl a) i) (sPh S (cl b) i))) (-3, S)) (-2, S)
/-- whether the things h from i on may be the lines l from j on -/
def mtc (h l : Nat → Int32) (n m i j : Nat) : Prop :=
  if hi : i < n then (if h i = -1 then (mtc h l n m (i + 1) j ∨ ∃ hj : j < m, mtc h l n m i (j + 1)) else ∃ hj : j < m, h i = l j ∧ mtc h l n m (i + 1) (j + 1)) else j = m
termination_by (n - i) + (m - j)
decreasing_by all_goals omega
noncomputable def opMay (S : PSt) (p v : Int32) : Int32 × PSt := (cif (inR p 4 ∧ inR v 8) (bI (mtc (sPh S (cl p)) (rwV S (cl v)) (sPn S (cl p)) (sVn S (cl v)) 0 0)) (-2), S)
noncomputable def opMark (S : PSt) (x m : Int32) : Int32 × PSt := cif (inR x 100 ∧ inR m 256) (nI (sMk S (cl x)), setM S (cl x) (cl m)) (-2, S)
noncomputable def opRule (S : PSt) (t m f o : Int32) : Int32 × PSt :=
  cif (inR t 8 ∧ inR m 256 ∧ inR f 1000 ∧ inR o 1000 ∧ cl f ≤ cl o) (cif (sRn S = 20) (-4, S) (nI (sRn S), addR S (cl t) (cl m) (cl f) (cl o))) (-2, S)
def inF (S : PSt) (i t d : Nat) : Prop := t = sRt S i ∧ sRf S i ≤ d ∧ d ≤ sRo S i
/-- the marks forbidden in a town on a day, by the first rules -/
noncomputable def fbN (S : PSt) (t d : Nat) : Nat → Nat
  | 0 => 0
  | i + 1 => fbN S t d i ||| cif (inF S i t d) (sRm S i) 0
def cutC (S : PSt) (v fb : Nat) : Nat → Nat
  | 0 => 0
  | i + 1 => cutC S v fb i + (if sMk S (sVl S v i) &&& fb = 0 then 0 else 1)
noncomputable def cutN (S : PSt) (v t d : Nat) : Nat := cutC S v (fbN S t d (sRn S)) (sVn S v)
noncomputable def opCut (S : PSt) (v t d : Int32) : Int32 × PSt := (cif (inR v 8 ∧ inR t 8 ∧ inR d 1000) (nI (cutN S (cl v) (cl t) (cl d))) (-2), S)
/-- the places that are kept -/
def kep (S : PSt) (v fb n : Nat) : List Nat := (List.range n).filter (fun i => decide (sMk S (sVl S v i) &&& fb = 0))
noncomputable def opFit (S : PSt) (v t d o : Int32) : Int32 × PSt :=
  cif (inR v 8 ∧ inR t 8 ∧ inR d 1000 ∧ inR o 8) (nI (kep S (cl v) (fbN S (cl t) (cl d) (sRn S)) (sVn S (cl v))).length, setV S (cl o) (kep S (cl v) (fbN S (cl t) (cl d) (sRn S)) (sVn S (cl v))).length (fun q => sVl S (cl v) ((kep S (cl v) (fbN S (cl t) (cl d) (sRn S)) (sVn S (cl v))).getD q 0))) (-2, S)
noncomputable def ctS (S : PSt) (v d r : Nat) : Nat → Nat → Nat := fun t k => cutN S v t (d + k * (r + 1))
noncomputable def opTour (S : PSt) (v w d r : Int32) : Int32 × PSt :=
  cif (inR v 8 ∧ (¬ w = nI 0 ∧ inR w 256) ∧ inR d 1000 ∧ inR r 21) (cif (cl d + (pop (cl w) - 1) * (cl r + 1) ≤ 999) (nI (Fm (ctS S (cl v) (cl d) (cl r)) (pop (cl w)) (pop (cl w)) (cl w)), setT S (pop (cl w)) (trT (ctS S (cl v) (cl d) (cl r)) (pop (cl w)) (pop (cl w)) (cl w))) (-3, S)) (-2, S)
noncomputable def opTown (S : PSt) (i : Int32) : Int32 × PSt := (atV (sTn S) (fun k => nI (sTl S k)) i, S)
noncomputable def opFree (S : PSt) (v t d : Int32) : Int32 × PSt := (cif (inR v 8 ∧ inR t 8 ∧ inR d 1000) (fp (fun q => cutN S (cl v) (cl t) q = 0) (cl d) (1000 - cl d)) (-2), S)
def sumN (f : Nat → Nat) : Nat → Nat
  | 0 => 0
  | i + 1 => sumN f i + f i
def gapN (h : Nat → Int32) : Nat → Nat
  | 0 => 0
  | i + 1 => gapN h i + (if h i = -1 then 1 else 0)
def cntS (S : PSt) (w : Nat) : Int32 := match w with
  | 0 => nI (sumN (sVn S) 8)
  | 1 => nI (sCn S)
  | 2 => nI (sumN (sPn S) 4)
  | 3 => nI (sumN (fun p => gapN (sPh S p) (sPn S p)) 4)
  | _ => nI (sRn S)
noncomputable def opCount (S : PSt) (w : Int32) : Int32 × PSt := (cif (inR w 5) (cntS S (cl w)) (-2), S)
/-- h = 31 h + v, over the first n of f -/
def dgF (f : Nat → Int32) (h : Int64) : Nat → Int64
  | 0 => h
  | i + 1 => 31 * dgF f h i + (f i).toInt64
def dgR (n : Nat → Nat) (g : Nat → Nat → Int32) (h : Int64) : Nat → Int64
  | 0 => h
  | v + 1 => dgF (g v) (31 * dgR n g h v + (nI (n v)).toInt64) (n v)
def dgU (S : PSt) (h : Int64) : Nat → Int64
  | 0 => h
  | i + 1 => 31 * (31 * (31 * (31 * dgU S h i + (nI (sRt S i)).toInt64) + (nI (sRm S i)).toInt64) + (nI (sRf S i)).toInt64) + (nI (sRo S i)).toInt64
def dgC (S : PSt) (h : Int64) : Nat → Int64
  | 0 => h
  | i + 1 => 31 * (31 * (31 * dgC S h i + (nI (sCs S i)).toInt64) + (nI (sCx S i)).toInt64) + (nI (sCy S i)).toInt64
def opDigest (S : PSt) : Int64 := dgC S (dgU S (dgF (fun x => nI (sMk S x)) (dgR (sPn S) (sPh S) (dgR (sVn S) (rwV S) (dgF (cntS S) 181 5) 8) 4) 100) (sRn S)) (sCn S)
/-! the valid states stay valid -/
theorem inv_setV {S : PSt} {v n : Nat} {l : Nat → Nat} (h : Inv S) (hn : n ≤ 40) (hl : ∀ i, i < n → l i < 100) : Inv (setV S v n l) := by
  obtain ⟨h1, h2, h3, h4, h5, h6⟩ := h
  refine ⟨fun w hw => ?_, h2, h3, h4, h5, h6⟩
  show upN S.1.1 v n w ≤ 40 ∧ ∀ i, i < upN S.1.1 v n w → upN S.1.2 v l w i < 100
  by_cases e : w = v
  · subst e
    rw [upN_eq, upN_eq]
    exact ⟨hn, hl⟩
  · rw [upN_ne e, upN_ne e]
    exact h1 w hw
theorem inv_setP {S : PSt} {p n : Nat} {l : Nat → Int32} (h : Inv S) (hn : n ≤ 40) (hl : ∀ i, i < n → okH (l i)) : Inv (setP S p n l) := by
  obtain ⟨h1, h2, h3, h4, h5, h6⟩ := h
  refine ⟨h1, fun w hw => ?_, h3, h4, h5, h6⟩
  show upN S.2.1.1 p n w ≤ 40 ∧ ∀ i, i < upN S.2.1.1 p n w → okH (upN S.2.1.2 p l w i)
  by_cases e : w = p
  · subst e
    rw [upN_eq, upN_eq]
    exact ⟨hn, hl⟩
  · rw [upN_ne e, upN_ne e]
    exact h2 w hw
section GL
variable {X : CX} {E : EnvD} {nL : Nat} {A : Nat → Prop} {Q : State → Prop} {k n pc : Nat} {vs : List (Option Value)} {st : List Value} {σ : Sto}
/-- what the store names lies below its size -/
theorem g_lt (kk : (∀ a e, σ.1 a = some e → a < σ.2) → G X E nL A Q k n pc vs st σ) : G X E nL A Q k n pc vs st σ :=
  fun H locs ls hW hA hS hL => kk (fun a e h => hW.lt h) H locs ls hW hA hS hL
end GL
theorem fp_t {p : Nat → Prop} {c k : Nat} (h : p c) : fp p c (k + 1) = nI c := by unfold fp; rw [cif_t h]
theorem fp_f {p : Nat → Prop} {c k : Nat} (h : ¬ p c) : fp p c (k + 1) = fp p (c + 1) k := by
  conv => lhs; unfold fp
  rw [cif_f h]
theorem jdV_le {so x y n : Nat} {h : Nat → Int32} : jdV so x y h n ≤ 2 := by
  by_cases b : canB so x y h n
  · by_cases k : canK so x y h n
    · rw [jdV_1 b k]; omega
    · rw [jdV_2 b k]; omega
  · rw [jdV_0 b]; omega
theorem vmx_le {S : PSt} {p : Nat} : ∀ c, vmx S p c ≤ 2
  | 0 => Nat.zero_le _
  | c + 1 => by
    have := vmx_le (S := S) (p := p) c
    have : jdS S c (sPh S p) (sPn S p) ≤ 2 := jdV_le
    unfold vmx
    omega
theorem qrl_le {f g : Nat → Int32} : ∀ n, qrl f g n ≤ n
  | 0 => Nat.zero_le _
  | n + 1 => by
    have := qrl_le (f := f) (g := g) n
    unfold qrl
    split <;> omega
section AC
variable {E : EnvD} {z : Nat} {S : PSt} {σ σ' : Sto}
theorem RowIs.ag {r n : Nat} {g : Nat → Int32} (h : RowIs E σ r n g) (h1 : ∀ e, σ.1 r = some e → σ'.1 r = some e) (h2 : ∀ e, σ.1 (r + 1) = some e → σ'.1 (r + 1) = some e) : RowIs E σ' r n g := by
  obtain ⟨a, f, b, c⟩ := h
  exact ⟨h1 _ a, f, h2 _ b, c⟩
/-- a condition is added -/
theorem RepC.newC {s x y a : Nat} {f : Nat → Option Nat} (h : RepC E z S σ) (hf : σ.1 (z + 3) = some (cQ E 3 12 f)) (hb : ∀ i, i < sCn S → ∃ a, f i = some a ∧ σ.1 a = some (cO 1 [.int (nI (sCs S i)), .int (nI (sCx S i)), .int (nI (sCy S i))])) (ha : σ.1 a = none)
    (h1 : σ'.1 z = some (cO 5 [.ref (z + 1), .ref (z + 2), .ref (z + 3), .ref (z + 4), .ref (z + 5), .ref (z + 6), .ref (z + 49), .ref (z + 62), .int (nI (sCn S + 1)), .int (nI (sRn S))])) (h2 : σ'.1 (z + 3) = some (cQ E 3 12 (va_up f (sCn S) (some a)))) (h3 : σ'.1 a = some (cO 1 [.int (nI s), .int (nI x), .int (nI y)])) (ag : ∀ b, b ≠ z → b ≠ z + 3 → b ≠ a → σ'.1 b = σ.1 b) : RepC E z (addC S s x y) σ' := by
  obtain ⟨g0, ⟨f1, a1, b1⟩, ⟨f2, a2, b2⟩, -, ⟨f4, a4, b4⟩, ⟨f5, a5, b5⟩, ⟨c6, ⟨f6, a6, b6⟩, d6⟩, ⟨c7, ⟨f7, a7, b7⟩, d7, g7, e7⟩, r8, ⟨n9, q9, l9, r9⟩, r10, r11⟩ := h
  have k : ∀ b e, σ.1 b = some e → b ≠ z → b ≠ z + 3 → σ'.1 b = some e := fun b e hb h1 h2 => (ag b h1 h2 (fun q => by rw [q, ha] at hb; cases hb)).trans hb
  refine ⟨h1, ⟨f1, k _ _ a1 (by omega) (by omega), b1⟩, ⟨f2, k _ _ a2 (by omega) (by omega), b2⟩, ⟨_, h2, fun i hi => ?_⟩, ⟨f4, k _ _ a4 (by omega) (by omega), fun i hi => ?_⟩, ⟨f5, k _ _ a5 (by omega) (by omega), b5⟩, ⟨k _ _ c6 (by omega) (by omega), ⟨f6, k _ _ a6 (by omega) (by omega), b6⟩, fun i hi => ?_⟩, ⟨k _ _ c7 (by omega) (by omega), ⟨f7, k _ _ a7 (by omega) (by omega), b7⟩, fun i hi => ?_, g7, k _ _ e7 (by omega) (by omega)⟩, r8.ag (fun e q => k _ _ q (by omega) (by omega)) (fun e q => k _ _ q (by omega) (by omega)), ⟨n9, q9, l9, r9.ag (fun e q => k _ _ q (by omega) (by omega)) (fun e q => k _ _ q (by omega) (by omega))⟩, fun v hv => (r10 v hv).ag (fun e q => k _ _ q (by omega) (by omega)) (fun e q => k _ _ q (by omega) (by omega)), fun v hv => (r11 v hv).ag (fun e q => k _ _ q (by omega) (by omega)) (fun e q => k _ _ q (by omega) (by omega))⟩
  · have hi2 : i < sCn S + 1 := hi
    by_cases e : i = sCn S
    · refine ⟨a, by rw [e]; unfold va_up; rw [if_pos rfl], ?_⟩
      rw [h3]
      show _ = some (cO 1 [.int (nI (upN S.2.2.1.2 S.2.2.1.1 (s, x, y) i).1), .int (nI (upN S.2.2.1.2 S.2.2.1.1 (s, x, y) i).2.1), .int (nI (upN S.2.2.1.2 S.2.2.1.1 (s, x, y) i).2.2)])
      rw [show i = S.2.2.1.1 from e, upN_eq]
    · obtain ⟨b, e1, e2⟩ := hb i (by omega)
      refine ⟨b, by unfold va_up; rw [if_neg e]; exact e1, ?_⟩
      rw [k b _ e2 (ne_k e2 g0 (by simp)) (ne_k e2 hf (by simp))]
      show _ = some (cO 1 [.int (nI (upN S.2.2.1.2 S.2.2.1.1 (s, x, y) i).1), .int (nI (upN S.2.2.1.2 S.2.2.1.1 (s, x, y) i).2.1), .int (nI (upN S.2.2.1.2 S.2.2.1.1 (s, x, y) i).2.2)])
      rw [upN_ne (show i ≠ S.2.2.1.1 from e)]
      rfl
  · obtain ⟨b, e1, e2⟩ := b4 i hi
    exact ⟨b, e1, k b _ e2 (ne_k e2 g0 (by simp)) (ne_k e2 hf (by simp))⟩
  · obtain ⟨g, e⟩ := d6 i hi
    exact ⟨g, k _ _ e (by omega) (by omega)⟩
  · obtain ⟨g, e⟩ := d7 i hi
    exact ⟨g, k _ _ e (by omega) (by omega)⟩
/-- a rule is added -/
theorem RepC.newR {t m fr o a : Nat} {f : Nat → Option Nat} (h : RepC E z S σ) (hf : σ.1 (z + 4) = some (cQ E 4 20 f)) (hb : ∀ i, i < sRn S → ∃ a, f i = some a ∧ σ.1 a = some (cO 3 [.int (nI (sRt S i)), .int (nI (sRm S i)), .int (nI (sRf S i)), .int (nI (sRo S i))])) (ha : σ.1 a = none)
    (h1 : σ'.1 z = some (cO 5 [.ref (z + 1), .ref (z + 2), .ref (z + 3), .ref (z + 4), .ref (z + 5), .ref (z + 6), .ref (z + 49), .ref (z + 62), .int (nI (sCn S)), .int (nI (sRn S + 1))])) (h2 : σ'.1 (z + 4) = some (cQ E 4 20 (va_up f (sRn S) (some a)))) (h3 : σ'.1 a = some (cO 3 [.int (nI t), .int (nI m), .int (nI fr), .int (nI o)])) (ag : ∀ b, b ≠ z → b ≠ z + 4 → b ≠ a → σ'.1 b = σ.1 b) : RepC E z (addR S t m fr o) σ' := by
  obtain ⟨g0, ⟨f1, a1, b1⟩, ⟨f2, a2, b2⟩, ⟨f3, a3, b3⟩, -, ⟨f5, a5, b5⟩, ⟨c6, ⟨f6, a6, b6⟩, d6⟩, ⟨c7, ⟨f7, a7, b7⟩, d7, g7, e7⟩, r8, ⟨n9, q9, l9, r9⟩, r10, r11⟩ := h
  have k : ∀ b e, σ.1 b = some e → b ≠ z → b ≠ z + 4 → σ'.1 b = some e := fun b e hb h1 h2 => (ag b h1 h2 (fun q => by rw [q, ha] at hb; cases hb)).trans hb
  refine ⟨h1, ⟨f1, k _ _ a1 (by omega) (by omega), b1⟩, ⟨f2, k _ _ a2 (by omega) (by omega), b2⟩, ⟨f3, k _ _ a3 (by omega) (by omega), fun i hi => ?_⟩, ⟨_, h2, fun i hi => ?_⟩, ⟨f5, k _ _ a5 (by omega) (by omega), b5⟩, ⟨k _ _ c6 (by omega) (by omega), ⟨f6, k _ _ a6 (by omega) (by omega), b6⟩, fun i hi => ?_⟩, ⟨k _ _ c7 (by omega) (by omega), ⟨f7, k _ _ a7 (by omega) (by omega), b7⟩, fun i hi => ?_, g7, k _ _ e7 (by omega) (by omega)⟩, r8.ag (fun e q => k _ _ q (by omega) (by omega)) (fun e q => k _ _ q (by omega) (by omega)), ⟨n9, q9, l9, r9.ag (fun e q => k _ _ q (by omega) (by omega)) (fun e q => k _ _ q (by omega) (by omega))⟩, fun v hv => (r10 v hv).ag (fun e q => k _ _ q (by omega) (by omega)) (fun e q => k _ _ q (by omega) (by omega)), fun v hv => (r11 v hv).ag (fun e q => k _ _ q (by omega) (by omega)) (fun e q => k _ _ q (by omega) (by omega))⟩
  · obtain ⟨b, e1, e2⟩ := b3 i hi
    exact ⟨b, e1, k b _ e2 (ne_k e2 g0 (by simp)) (ne_k e2 hf (by simp))⟩
  · have hi2 : i < sRn S + 1 := hi
    have hsh : some (cO 3 [.int (nI (sRt (addR S t m fr o) i)), .int (nI (sRm (addR S t m fr o) i)), .int (nI (sRf (addR S t m fr o) i)), .int (nI (sRo (addR S t m fr o) i))]) = some (cO 3 [.int (nI (upN S.2.2.2.2.1.2 S.2.2.2.2.1.1 (t, m, fr, o) i).1), .int (nI (upN S.2.2.2.2.1.2 S.2.2.2.2.1.1 (t, m, fr, o) i).2.1), .int (nI (upN S.2.2.2.2.1.2 S.2.2.2.2.1.1 (t, m, fr, o) i).2.2.1), .int (nI (upN S.2.2.2.2.1.2 S.2.2.2.2.1.1 (t, m, fr, o) i).2.2.2)]) := rfl
    rw [hsh]
    by_cases e : i = sRn S
    · refine ⟨a, by rw [e]; unfold va_up; rw [if_pos rfl], ?_⟩
      rw [h3, show i = S.2.2.2.2.1.1 from e, upN_eq]
    · obtain ⟨b, e1, e2⟩ := hb i (by omega)
      refine ⟨b, by unfold va_up; rw [if_neg e]; exact e1, ?_⟩
      rw [k b _ e2 (ne_k e2 g0 (by simp)) (ne_k e2 hf (by simp)), upN_ne (show i ≠ S.2.2.2.2.1.1 from e)]
      rfl
  · obtain ⟨g, e⟩ := d6 i hi
    exact ⟨g, k _ _ e (by omega) (by omega)⟩
  · obtain ⟨g, e⟩ := d7 i hi
    exact ⟨g, k _ _ e (by omega) (by omega)⟩
/-- all conditions go -/
theorem RepC.clr (h : RepC E z S σ) : RepC E z (clrC S) (sup σ z (cO 5 [.ref (z + 1), .ref (z + 2), .ref (z + 3), .ref (z + 4), .ref (z + 5), .ref (z + 6), .ref (z + 49), .ref (z + 62), .int (nI 0), .int (nI (sRn S))])) := by
  obtain ⟨g0, h1, h2, ⟨f3, a3, b3⟩, h4, h5, h6, h7, h8, ⟨m, g, hm, h9⟩, h10, h11⟩ := h
  have ag : ∀ (a : Nat) (q : va_E), a ≠ z → (sup σ z q).1 a = σ.1 a := fun a q ha => sup_ne ha
  refine ⟨sup_eq, h1.fr (ag _ _ (by omega)), h2.fr (ag _ _ (by omega)), ⟨f3, (ag _ _ (by omega)).trans a3, fun i hi => absurd hi (Nat.not_lt_zero _)⟩, h4.fr (ag _ _ (by omega)) (fun a fs e => ag a _ (ne_k e g0 (by simp))) rfl, h5.fr (ag _ _ (by omega)) rfl, h6.fr (fun a _ _ => ag a _ (by omega)), h7.fr (fun a _ _ _ _ => ag a _ (by omega)), h8.fr (ag _ _ (by omega)) (ag _ _ (by omega)), ⟨m, g, hm, h9.fr (ag _ _ (by omega)) (ag _ _ (by omega))⟩, fun w hw => (h10 w hw).fr (ag _ _ (by omega)) (ag _ _ (by omega)), fun w hw => (h11 w hw).fr (ag _ _ (by omega)) (ag _ _ (by omega))⟩
end AC
