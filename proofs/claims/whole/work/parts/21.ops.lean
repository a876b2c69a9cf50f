/-! what each call answers, and the state behind it (own work) -/
def cl (x : Int32) : Nat := x.toNatClampNeg
theorem cl_nI {j : Nat} (h : j < 2147483648) : cl (nI j) = j := clampN h
def rwV (S : PSt) (v : Nat) : Nat → Int32 := fun i => nI (sVl S v i)
def insN (l : Nat → Nat) (n i x : Nat) : Nat → Nat := fun q => if q < i then l q else if q = i then x else if q ≤ n then l (q - 1) else l q
def remN (l : Nat → Nat) (n i : Nat) : Nat → Nat := fun q => if i ≤ q ∧ q + 1 < n then l (q + 1) else l q
theorem insF_nI {l : Nat → Nat} {n i x : Nat} : insF (fun i => nI (l i)) n i (nI x) = fun q => nI (insN l n i x q) := by
  funext q
  unfold insF insN
  split
  · rfl
  · split
    · rfl
    · split <;> rfl
theorem remF_nI {l : Nat → Nat} {n i : Nat} : remF (fun i => nI (l i)) n i = fun q => nI (remN l n i q) := by
  funext q
  unfold remF remN
  split <;> rfl
noncomputable def opPut (S : PSt) (v i x : Int32) : Int32 × PSt :=
  cif (inR v 8 ∧ inR i (sVn S (cl v) + 1) ∧ inR x 100) (cif (sVn S (cl v) = 40) (-4, S) (nI (sVn S (cl v) + 1), setV S (cl v) (sVn S (cl v) + 1) (insN (sVl S (cl v)) (sVn S (cl v)) (cl i) (cl x)))) (-2, S)
noncomputable def opTake (S : PSt) (v i : Int32) : Int32 × PSt :=
  cif (inR v 8 ∧ inR i (sVn S (cl v))) (nI (sVl S (cl v) (cl i)), setV S (cl v) (sVn S (cl v) - 1) (remN (sVl S (cl v)) (sVn S (cl v)) (cl i))) (-2, S)
noncomputable def opCopy (S : PSt) (a b : Int32) : Int32 × PSt :=
  cif (inR a 8 ∧ inR b 8) (nI (sVn S (cl a)), setV S (cl b) (sVn S (cl a)) (sVl S (cl a))) (-2, S)
noncomputable def opLineAt (S : PSt) (v i : Int32) : Int32 × PSt := (cif (inR v 8) (atV (sVn S (cl v)) (rwV S (cl v)) i) (-2), S)
noncomputable def opDiffer (S : PSt) (a b : Int32) : Int32 × PSt := (cif (inR a 8 ∧ inR b 8) (nI (ed (rwV S (cl a)) (rwV S (cl b)) (sVn S (cl a)) (sVn S (cl b)) 0 0)) (-2), S)
noncomputable def opStep (S : PSt) (a b x : Int32) : Int32 × PSt := (cif (inR a 8 ∧ inR b 8) (stpV (rwV S (cl a)) (rwV S (cl b)) (sVn S (cl a)) (sVn S (cl b)) x) (-2), S)
noncomputable def opCond (S : PSt) (s x y : Int32) : Int32 × PSt :=
  cif (inR s 7 ∧ inR x 100 ∧ inR y (if s = nI 1 then 41 else 100)) (cif (sCn S = 12) (-4, S) (nI (sCn S), addC S (cl s) (cl x) (cl y))) (-2, S)
def opClear (S : PSt) : Int32 × PSt := (nI (sCn S), clrC S)
/-- the first from c on of k that p holds of -/
noncomputable def fp (p : Nat → Prop) : Nat → Nat → Int32
  | _, 0 => -1
  | c, k + 1 => cif (p c) (nI c) (fp p (c + 1) k)
noncomputable def jdS (S : PSt) (c : Nat) (h : Nat → Int32) (n : Nat) : Nat := jdV (sCs S c) (sCx S c) (sCy S c) h n
noncomputable def opBreaks (S : PSt) (v : Int32) : Int32 × PSt := (cif (inR v 8) (fp (fun c => jdS S c (rwV S (cl v)) (sVn S (cl v)) = 2) 0 (sCn S)) (-2), S)
noncomputable def opHear (S : PSt) (p x : Int32) : Int32 × PSt :=
  cif (inR p 4 ∧ (x = -1 ∨ inR x 100)) (cif (sPn S (cl p) = 40) (-4, S) (nI (sPn S (cl p) + 1), setP S (cl p) (sPn S (cl p) + 1) (insF (sPh S (cl p)) (sPn S (cl p)) (sPn S (cl p)) x))) (-2, S)
noncomputable def opForget (S : PSt) (p : Int32) : Int32 × PSt := cif (inR p 4) (nI (sPn S (cl p)), setP S (cl p) 0 (sPh S (cl p))) (-2, S)
noncomputable def opHeard (S : PSt) (p i : Int32) : Int32 × PSt := (cif (inR p 4 ∧ inR i (sPn S (cl p))) (sPh S (cl p) (cl i)) (-2), S)
noncomputable def opJudge (S : PSt) (p c : Int32) : Int32 × PSt := (cif (inR p 4 ∧ inR c (sCn S)) (nI (jdS S (cl c) (sPh S (cl p)) (sPn S (cl p)))) (-2), S)
noncomputable def vmx (S : PSt) (p : Nat) : Nat → Nat
  | 0 => 0
  | c + 1 => max (vmx S p c) (jdS S c (sPh S p) (sPn S p))
noncomputable def opVerdict (S : PSt) (p : Int32) : Int32 × PSt := (cif (inR p 4) (nI (vmx S (cl p) (sCn S))) (-2), S)
def qrl (f g : Nat → Int32) : Nat → Nat
  | 0 => 0
  | i + 1 => qrl f g i + (if ¬ f i = g i ∧ ¬ f i = -1 ∧ ¬ g i = -1 then 1 else 0)
noncomputable def opBoth (S : PSt) (a b t : Int32) : Int32 × PSt :=
  cif (inR a 4 ∧ inR b 4 ∧ inR t 4) (cif (sPn S (cl a) = sPn S (cl b)) (nI (qrl (sPh S (cl a)) (sPh S (cl b)) (sPn S (cl a))), setP S (cl t) (sPn S (cl a)) (fun i => hb2 (sPh S (cl a) i) (sPh S (cl b) i))) (-3, S)) (-2, S)
/-- whether the things h from i on may be the lines l from j on -/
def mtc (h l : Nat → Int32) (n m i j : Nat) : Prop :=
  if hi : i < n then (if h i = -1 then (mtc h l n m (i + 1) j ∨ ∃ hj : j < m, mtc h l n m i (j + 1)) else ∃ hj : j < m, h i = l j ∧ mtc h l n m (i + 1) (j + 1)) else j = m
termination_by (n - i) + (m - j)
decreasing_by all_goals omega
noncomputable def opMay (S : PSt) (p v : Int32) : Int32 × PSt := (cif (inR p 4 ∧ inR v 8) (bI (mtc (sPh S (cl p)) (rwV S (cl v)) (sPn S (cl p)) (sVn S (cl v)) 0 0)) (-2), S)
noncomputable def opMark (S : PSt) (x m : Int32) : Int32 × PSt := cif (inR x 100 ∧ inR m 256) (nI (sMk S (cl x)), setM S (cl x) (cl m)) (-2, S)
noncomputable def opRule (S : PSt) (t m f o : Int32) : Int32 × PSt :=
  cif (inR t 8 ∧ inR m 256 ∧ inR f 1000 ∧ inR o 1000 ∧ cl f ≤ cl o) (cif (sRn S = 20) (-4, S) (nI (sRn S), addR S (cl t) (cl m) (cl f) (cl o))) (-2, S)
def inF (S : PSt) (i t d : Nat) : Prop := t = sRt S i ∧ sRf S i ≤ d ∧ d ≤ sRo S i
/-- the marks forbidden in a town on a day, by the first rules -/
noncomputable def fbN (S : PSt) (t d : Nat) : Nat → Nat
  | 0 => 0
  | i + 1 => fbN S t d i ||| cif (inF S i t d) (sRm S i) 0
def cutC (S : PSt) (v fb : Nat) : Nat → Nat
  | 0 => 0
  | i + 1 => cutC S v fb i + (if sMk S (sVl S v i) &&& fb = 0 then 0 else 1)
noncomputable def cutN (S : PSt) (v t d : Nat) : Nat := cutC S v (fbN S t d (sRn S)) (sVn S v)
noncomputable def opCut (S : PSt) (v t d : Int32) : Int32 × PSt := (cif (inR v 8 ∧ inR t 8 ∧ inR d 1000) (nI (cutN S (cl v) (cl t) (cl d))) (-2), S)
/-- the places that are kept -/
def kep (S : PSt) (v fb n : Nat) : List Nat := (List.range n).filter (fun i => decide (sMk S (sVl S v i) &&& fb = 0))
noncomputable def opFit (S : PSt) (v t d o : Int32) : Int32 × PSt :=
  cif (inR v 8 ∧ inR t 8 ∧ inR d 1000 ∧ inR o 8) (nI (kep S (cl v) (fbN S (cl t) (cl d) (sRn S)) (sVn S (cl v))).length, setV S (cl o) (kep S (cl v) (fbN S (cl t) (cl d) (sRn S)) (sVn S (cl v))).length (fun q => sVl S (cl v) ((kep S (cl v) (fbN S (cl t) (cl d) (sRn S)) (sVn S (cl v))).getD q 0))) (-2, S)
noncomputable def ctS (S : PSt) (v d r : Nat) : Nat → Nat → Nat := fun t k => cutN S v t (d + k * (r + 1))
noncomputable def opTour (S : PSt) (v w d r : Int32) : Int32 × PSt :=
  cif (inR v 8 ∧ (¬ w = nI 0 ∧ inR w 256) ∧ inR d 1000 ∧ inR r 21) (cif (cl d + (pop (cl w) - 1) * (cl r + 1) ≤ 999) (nI (Fm (ctS S (cl v) (cl d) (cl r)) (pop (cl w)) (pop (cl w)) (cl w)), setT S (pop (cl w)) (trT (ctS S (cl v) (cl d) (cl r)) (pop (cl w)) (pop (cl w)) (cl w))) (-3, S)) (-2, S)
noncomputable def opTown (S : PSt) (i : Int32) : Int32 × PSt := (atV (sTn S) (fun k => nI (sTl S k)) i, S)
noncomputable def opFree (S : PSt) (v t d : Int32) : Int32 × PSt := (cif (inR v 8 ∧ inR t 8 ∧ inR d 1000) (fp (fun q => cutN S (cl v) (cl t) q = 0) (cl d) (1000 - cl d)) (-2), S)
def sumN (f : Nat → Nat) : Nat → Nat
  | 0 => 0
  | i + 1 => sumN f i + f i
def gapN (h : Nat → Int32) : Nat → Nat
  | 0 => 0
  | i + 1 => gapN h i + (if h i = -1 then 1 else 0)
def cntS (S : PSt) (w : Nat) : Int32 := match w with
  | 0 => nI (sumN (sVn S) 8)
  | 1 => nI (sCn S)
  | 2 => nI (sumN (sPn S) 4)
  | 3 => nI (sumN (fun p => gapN (sPh S p) (sPn S p)) 4)
  | _ => nI (sRn S)
noncomputable def opCount (S : PSt) (w : Int32) : Int32 × PSt := (cif (inR w 5) (cntS S (cl w)) (-2), S)
/-- h = 31 h + v, over the first n of f -/
def dgF (f : Nat → Int32) (h : Int64) : Nat → Int64
  | 0 => h
  | i + 1 => 31 * dgF f h i + (f i).toInt64
def dgR (n : Nat → Nat) (g : Nat → Nat → Int32) (h : Int64) : Nat → Int64
  | 0 => h
  | v + 1 => dgF (g v) (31 * dgR n g h v + (nI (n v)).toInt64) (n v)
def dgU (S : PSt) (h : Int64) : Nat → Int64
  | 0 => h
  | i + 1 => 31 * (31 * (31 * (31 * dgU S h i + (nI (sRt S i)).toInt64) + (nI (sRm S i)).toInt64) + (nI (sRf S i)).toInt64) + (nI (sRo S i)).toInt64
def dgC (S : PSt) (h : Int64) : Nat → Int64
  | 0 => h
  | i + 1 => 31 * (31 * (31 * dgC S h i + (nI (sCs S i)).toInt64) + (nI (sCx S i)).toInt64) + (nI (sCy S i)).toInt64
def opDigest (S : PSt) : Int64 := dgC S (dgU S (dgF (fun x => nI (sMk S x)) (dgR (sPn S) (sPh S) (dgR (sVn S) (rwV S) (dgF (cntS S) 181 5) 8) 4) 100) (sRn S)) (sCn S)
/-! the valid states stay valid -/
theorem inv_setV {S : PSt} {v n : Nat} {l : Nat → Nat} (h : Inv S) (hn : n ≤ 40) (hl : ∀ i, i < n → l i < 100) : Inv (setV S v n l) := by
  obtain ⟨h1, h2, h3, h4, h5, h6⟩ := h
  refine ⟨fun w hw => ?_, h2, h3, h4, h5, h6⟩
  show upN S.1.1 v n w ≤ 40 ∧ ∀ i, i < upN S.1.1 v n w → upN S.1.2 v l w i < 100
  by_cases e : w = v
  · subst e
    rw [upN_eq, upN_eq]
    exact ⟨hn, hl⟩
  · rw [upN_ne e, upN_ne e]
    exact h1 w hw
theorem inv_setP {S : PSt} {p n : Nat} {l : Nat → Int32} (h : Inv S) (hn : n ≤ 40) (hl : ∀ i, i < n → okH (l i)) : Inv (setP S p n l) := by
  obtain ⟨h1, h2, h3, h4, h5, h6⟩ := h
  refine ⟨h1, fun w hw => ?_, h3, h4, h5, h6⟩
  show upN S.2.1.1 p n w ≤ 40 ∧ ∀ i, i < upN S.2.1.1 p n w → okH (upN S.2.1.2 p l w i)
  by_cases e : w = p
  · subst e
    rw [upN_eq, upN_eq]
    exact ⟨hn, hl⟩
  · rw [upN_ne e, upN_ne e]
    exact h2 w hw
