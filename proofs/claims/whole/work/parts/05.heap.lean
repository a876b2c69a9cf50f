/-! THE JUDGEMENT G: fields, arrays, making, calls, entry and end (own work) -/
/-- a field's link: own class's place index is field kf of class ci -/
def FA (own : String) (index ci kf : Nat) : Prop := ∃ (C : String) (T : u_T) (N : Nat) (ref : String), vwCl[ci]? = some (C, T, N) ∧ kf < N ∧ ref = (T kf).1 ∧ lwI (.fieldLink own index ref (T kf).2.1 (T kf).2.2.1)
/-- a field that is written -/
def FP (own : String) (index ci kf : Nat) (fin : Bool) (ty : FieldType) : Prop := ∃ (C : String) (T : u_T) (N : Nat) (ref : String) (ty0 : Nat → FieldType), vwCl[ci]? = some (C, T, N) ∧ kf < N ∧ ref = (T kf).1 ∧ lwI (.fieldLink own index ref (T kf).2.1 (T kf).2.2.1) ∧
  (∀ k, k < N → parseFieldDescriptor (T k).2.2.1 = some (ty0 k)) ∧ (∀ a, a < N → ∀ b, b < N → a ≠ b → (T a).2.1 ≠ (T b).2.1) ∧ (T kf).2.2.2 = fin ∧ parseFieldDescriptor (T kf).2.2.1 = some ty ∧ (fin = true → (T kf).1 = own)
theorem va_S_put {A : Nat → Prop} {H0 H H1 : Heap} {locs : List Loc} {a k : Nat} (h : va_S A H0 H locs) (z : H1.size = H.size) (oq : ∀ q : Nat, q ≠ a → H1[q]? = H[q]?) (ha : A a) : va_S A H0 H1 (locs ++ [⟨a, k⟩]) := h.put z oq ha
theorem va_S_push {A : Nat → Prop} {H0 H H1 : Heap} {locs : List Loc} (h : va_S A H0 H locs) (z : H1.size = H.size + 1) (oq : ∀ q : Nat, q < H.size → H1[q]? = H[q]?) : va_S A H0 H1 locs :=
  ⟨Nat.le_trans h.1 (by omega), fun x h1 h2 => (oq x (Nat.lt_of_lt_of_le h1 h.1)).trans (h.2.1 x h1 h2), h.2.2⟩
section GH
variable {X : CX} {E : EnvD} {cc : ByteArray} {own : String} {nL : Nat} {R : Room} {A : Nat → Prop} {Q : State → Prop} {k n pc : Nat} {vs vs' : List (Option Value)} {st : List Value} {σ : Sto} {a : Nat}
theorem g_get (h : OK X E cc own nL R) {index ci : Nat} (kf : Nat) {fs : List Value} {v : Value} (hf : FA own index ci kf) (hd : decode cc pc = .ok (.getfield index, 3)) (hσ : σ.1 a = some (.inr (ci, fs))) (hv : fs[kf]? = some v) (kk : G X E nL A Q k n (pc + 3) vs (v :: st) σ) : G X E nL A Q k n pc vs (.ref a :: st) σ := by
  obtain ⟨C, T, N, ref, hc, hk, hr, hl⟩ := hf
  intro H locs ls hW hA hS hL
  have hP : va_P E.1 vwCl [(a, .inr (ci, fs))] H := fun i q hq => by
    have h0 : i < 1 := (List.getElem?_eq_some_iff.mp hq).1
    rw [show i = 0 by omega] at hq
    cases hq
    exact hW.1 a _ hσ
  exact va_get h.1 h.2.1 (Ts := u_ws C T N) (h.2.2.2.2.1.lay hc (xA X)) (fun _ z => z) h.2.2.2.1 h.2.2.2.2.1.1 hP 0 rfl hc kf hk (by have := h.word hl; exact this) (fun x hx => by rw [hr]; exact hx) hv hd (kk H locs ls hW hA hS hL)
theorem g_put0 (h : OK X E cc own nL R) {index ci : Nat} {kf : Nat} {fs : List Value} {v : Value} {ty : FieldType} (hf : FP own index ci kf false ty) (hd : decode cc pc = .ok (.putfield index, 3)) (hσ : σ.1 a = some (.inr (ci, fs))) (hl : kf < fs.length) (hn : narrow ty v = v) (hfit : fits ty v = true)
    (kk : G X E nL A Q k n (pc + 3) vs st (sup σ a (.inr (ci, fs.set kf v)))) : G X E nL A Q k n pc vs (v :: .ref a :: st) σ := by
  obtain ⟨C, T, N, ref, ty0, hc, hk, hr, hw, hty, hnm, hfin, hdsc, -⟩ := hf
  intro H locs ls hW hA hS hL
  have hts := h.2.2.2.2.1.lay hc (xA X)
  have hK := h.2.2.2.2.1.1
  have hap := va_apart (own := own) (Ts := u_ws C T N) hts (fun _ z => z) ty0 hty hnm hK hc
  obtain ⟨r, h1, cell, q1, q2, q3, q4⟩ := hW.1 a _ hσ
  have hr2 : r = (C, T, N) := Option.some.inj (h1.symm.trans hc)
  subst hr2
  obtain ⟨hS2, hfc, kC, hkC, hkind⟩ := hK.1 ci _ hc
  obtain ⟨cf, kf2, fi, f, hi, hsl⟩ := hS2 kf hk
  have hlay := hts _ (u_in_lay hk)
  unfold u_lay at hlay
  rw [if_neg (by rw [hfin]; decide)] at hlay
  have hst := (u_facts hfc hkC (u_lays hts (fun _ z => z) hk) hi).1
  have h6 := u_store hfc hkC hkind hlay hi hdsc hn hfit
  refine W.putK h.1 h.2.1 (f := f) ⟨h.2.2.2.1, h.word hw, ⟨_, _, _, hr ▸ hi⟩, hst⟩ (by rw [q2]; exact h6) q1 q3 (by rw [hsl]; exact k2_hasslot (q4 kf hk)) rfl rfl hd fun H' e1 e2 e3 => ?_
  rw [hsl] at e1 ⊢
  exact kk H' _ ls (hW.put hσ ⟨_, hc, t_OB.to (V := updV (vp_V fs) kf v) ⟨_, e1, q2, q3, t_set q4 hap hk v⟩ (fun j _ => vp_updV_set hl v j)⟩ e2 e3) (fun q hq => hA q (AD_sup hσ q hq)) (va_S_put hS e2 e3 (hA a (Or.inl (by rw [hσ]; exact fun z => by cases z)))) hL
theorem g_putF0 (h : OK X E cc own nL R) (hin : (xH X).name = "<init>") {index ci : Nat} {kf : Nat} {fs : List Value} {v : Value} {ty : FieldType} (hf : FP own index ci kf true ty) (hd : decode cc pc = .ok (.putfield index, 3)) (hσ : σ.1 a = some (.inr (ci, fs))) (hl : kf < fs.length) (hn : narrow ty v = v) (hfit : fits ty v = true)
    (kk : G X E nL A Q k n (pc + 3) vs st (sup σ a (.inr (ci, fs.set kf v)))) : G X E nL A Q k n pc vs (v :: .ref a :: st) σ := by
  obtain ⟨C, T, N, ref, ty0, hc, hk, hr, hw, hty, hnm, hfin, hdsc, hdecl⟩ := hf
  intro H locs ls hW hA hS hL
  have hts := h.2.2.2.2.1.lay hc (xA X)
  have hK := h.2.2.2.2.1.1
  have hap := va_apart (own := own) (Ts := u_ws C T N) hts (fun _ z => z) ty0 hty hnm hK hc
  obtain ⟨r, h1, cell, q1, q2, q3, q4⟩ := hW.1 a _ hσ
  have hr2 : r = (C, T, N) := Option.some.inj (h1.symm.trans hc)
  subst hr2
  obtain ⟨hS2, hfc, kC, hkC, hkind⟩ := hK.1 ci _ hc
  obtain ⟨cf, kf2, fi, f, hi, hsl⟩ := hS2 kf hk
  have hlay := hts _ (u_in_lay hk)
  unfold u_lay at hlay
  rw [if_pos hfin] at hlay
  have hst := (u_facts hfc hkC (u_lays hts (fun _ z => z) hk) hi).1
  have hcf : (xM X).cls = cf := by
    obtain ⟨_, _, c', _, _, _, -, -, hf', -, -, -, hown2, -⟩ := Cond.laysFinal_spec hlay
    have e1 : c' = cf := by have := hi.symm.trans hf'; simp at this; exact this.1.symm
    rw [hdecl rfl] at hown2
    rw [← e1]; exact Option.some.inj (h.2.2.2.1.symm.trans hown2)
  have h6 := u_fits hfc hkC hkind (Or.inr hlay) hi hdsc hn hfit
  refine W.putFinK h.1 h.2.1 h.2.2.2.1 (h.word hw) (hr ▸ hi) hst hcf hin (by rw [q2]; exact h6) q1 q3 (by rw [hsl]; exact k2_hasslot (q4 kf hk)) rfl rfl hd fun H' e1 e2 e3 => ?_
  rw [hsl] at e1 ⊢
  exact kk H' _ ls (hW.put hσ ⟨_, hc, t_OB.to (V := updV (vp_V fs) kf v) ⟨_, e1, q2, q3, t_set q4 hap hk v⟩ (fun j _ => vp_updV_set hl v j)⟩ e2 e3) (fun q hq => hA q (AD_sup hσ q hq)) (va_S_put hS e2 e3 (hA a (Or.inl (by rw [hσ]; exact fun z => by cases z)))) hL
theorem g_put (h : OK X E cc own nL R) {index ci : Nat} (kf : Nat) {fs fs' : List Value} {v : Value} {ty : FieldType} (hf : FP own index ci kf false ty) (hd : decode cc pc = .ok (.putfield index, 3)) (hσ : σ.1 a = some (.inr (ci, fs))) (hl : kf < fs.length) (hn : narrow ty v = v) (hfit : fits ty v = true) (hfs : fs.set kf v = fs')
    (kk : G X E nL A Q k n (pc + 3) vs st (sup σ a (.inr (ci, fs')))) : G X E nL A Q k n pc vs (v :: .ref a :: st) σ := g_put0 h hf hd hσ hl hn hfit (hfs ▸ kk)
theorem g_putF (h : OK X E cc own nL R) (hin : (xH X).name = "<init>") {index ci : Nat} (kf : Nat) {fs fs' : List Value} {v : Value} {ty : FieldType} (hf : FP own index ci kf true ty) (hd : decode cc pc = .ok (.putfield index, 3)) (hσ : σ.1 a = some (.inr (ci, fs))) (hl : kf < fs.length) (hn : narrow ty v = v) (hfit : fits ty v = true) (hfs : fs.set kf v = fs')
    (kk : G X E nL A Q k n (pc + 3) vs st (sup σ a (.inr (ci, fs')))) : G X E nL A Q k n pc vs (v :: .ref a :: st) σ := g_putF0 h hin hf hd hσ hl hn hfit (hfs ▸ kk)
theorem arrTy (h : OK X E cc own nL R) {t : Nat} {cA : ClassId} {ty : FieldType} (ht : (tysE E)[t]? = some (cA, ty)) : ArrOfT (xS X) cA ty ∧ va_RA (xS X) cA ty := h.2.2.2.2.1.1.2 t _ ht
theorem clampN {i : Nat} (h : i < 2147483648) : (nI i).toNatClampNeg = i := nI_clamp h
theorem inN {i m : Nat} (h : i < m) (hm : m ≤ 2147483648) : ¬ (nI i < 0 ∨ m ≤ (nI i).toNatClampNeg) := by
  intro q
  rcases q with q | q
  · exact nI_pos (Nat.lt_of_lt_of_le h hm) q
  · rw [clampN (Nat.lt_of_lt_of_le h hm)] at q
    omega
theorem g_iald (h : OK X E cc own nL R) {m i : Nat} {f : Nat → Int32} (hd : decode cc pc = .ok (.iaload, 1)) (hσ : σ.1 a = some (cI E m f)) (hi : i < m) (hm : m ≤ 2147483648) (kk : G X E nL A Q k n (pc + 1) vs (.int (f i) :: st) σ) : G X E nL A Q k n pc vs (.int (nI i) :: .ref a :: st) σ := by
  intro H locs ls hW hA hS hL
  have h2 := inN hi hm
  refine W.iald (v := .int (f i)) h.1 h.2.1 (hW.1 a _ hσ) ((arrTy h (t := 0) rfl).1 m (fun j => .int (f j))) (fun q => by cases q) (by show ¬ (nI i < 0 ∨ (arrV _ _ _).slots.size ≤ _); rw [arrV_size]; exact h2) ?_ rfl rfl hd (kk H locs ls hW hA hS hL)
  show (arrV _ _ _).slots[_]? = _
  rw [clampN (Nat.lt_of_lt_of_le hi hm), arrV_read _ _ hi]
theorem g_zald (h : OK X E cc own nL R) {m i : Nat} {f : Nat → Int32} (hd : decode cc pc = .ok (.baload, 1)) (hσ : σ.1 a = some (cZ E m f)) (hi : i < m) (hm : m ≤ 2147483648) (kk : G X E nL A Q k n (pc + 1) vs (.int (f i) :: st) σ) : G X E nL A Q k n pc vs (.int (nI i) :: .ref a :: st) σ := by
  intro H locs ls hW hA hS hL
  have h2 := inN hi hm
  refine W.zald (v := .int (f i)) h.1 h.2.1 (hW.1 a _ hσ) ((arrTy h (t := 1) rfl).1 m (fun j => .int (f j))) (fun q => by cases q) (by show ¬ (nI i < 0 ∨ (arrV _ _ _).slots.size ≤ _); rw [arrV_size]; exact h2) ?_ rfl rfl hd (kk H locs ls hW hA hS hL)
  show (arrV _ _ _).slots[_]? = _
  rw [clampN (Nat.lt_of_lt_of_le hi hm), arrV_read _ _ hi]
theorem g_iast (h : OK X E cc own nL R) {m i : Nat} {x : Int32} {f : Nat → Int32} (hd : decode cc pc = .ok (.iastore, 1)) (hσ : σ.1 a = some (cI E m f)) (hi : i < m) (hm : m ≤ 2147483648) (kk : G X E nL A Q k n (pc + 1) vs st (sup σ a (cI E m (upd f i x)))) : G X E nL A Q k n pc vs (.int x :: .int (nI i) :: .ref a :: st) σ := by
  intro H locs ls hW hA hS hL
  have h2 := inN hi hm
  refine W.iast h.1 h.2.1 (hW.1 a _ hσ) ((arrTy h (t := 0) rfl).1 m (fun j => .int (f j))) (fun q => by cases q) (by show ¬ (nI i < 0 ∨ (arrV _ _ _).slots.size ≤ _); rw [arrV_size]; exact h2) rfl rfl hd fun H1 e z oq => ?_
  rw [clampN (Nat.lt_of_lt_of_le hi hm)] at e ⊢
  refine kk H1 _ ls (hW.put hσ ?_ z oq) (fun q hq => hA q (AD_sup hσ q hq)) (va_S_put hS z oq (hA a (Or.inl (by rw [hσ]; exact fun z => by cases z)))) hL
  show H1[a]? = some (vp_cell _ _)
  rw [e]
  rw [vp_cell_i, vp_cell_i, arrV_store]
  congr 2
  funext q
  by_cases hq : q = i
  · subst hq
    simp [updV, upd]
  · simp [updV, upd, hq]
theorem g_zast (h : OK X E cc own nL R) {m i : Nat} {x : Int32} {f : Nat → Int32} (hd : decode cc pc = .ok (.bastore, 1)) (hx : narrow .boolean (.int x) = .int x) (hσ : σ.1 a = some (cZ E m f)) (hi : i < m) (hm : m ≤ 2147483648) (kk : G X E nL A Q k n (pc + 1) vs st (sup σ a (cZ E m (upd f i x)))) : G X E nL A Q k n pc vs (.int x :: .int (nI i) :: .ref a :: st) σ := by
  intro H locs ls hW hA hS hL
  have h2 := inN hi hm
  refine W.zast h.1 h.2.1 (hW.1 a _ hσ) ((arrTy h (t := 1) rfl).1 m (fun j => .int (f j))) (fun q => by cases q) (by show ¬ (nI i < 0 ∨ (arrV _ _ _).slots.size ≤ _); rw [arrV_size]; exact h2) rfl rfl hd fun H1 e z oq => ?_
  rw [clampN (Nat.lt_of_lt_of_le hi hm), hx] at e
  rw [clampN (Nat.lt_of_lt_of_le hi hm)]
  refine kk H1 _ ls (hW.put hσ ?_ z oq) (fun q hq => hA q (AD_sup hσ q hq)) (va_S_put hS z oq (hA a (Or.inl (by rw [hσ]; exact fun z => by cases z)))) hL
  show H1[a]? = some (vp_cell _ _)
  rw [e]
  rw [vp_cell_i, vp_cell_i, arrV_store]
  congr 2
  funext q
  by_cases hq : q = i
  · subst hq
    simp [updV, upd]
  · simp [updV, upd, hq]
theorem g_aald (h : OK X E cc own nL R) (t : Nat) {ty : FieldType} {m i : Nat} {f : Nat → Option Nat} {v : Value} (hd : decode cc pc = .ok (.aaload, 1)) (ht : (tysE E)[t]? = some (E.2 t, ty)) (hty : ty.isReference = true) (hσ : σ.1 a = some (cQ E t m f)) (hi : i < m) (hm : m ≤ 2147483648) (hv : va_rf (f i) = v) (kk : G X E nL A Q k n (pc + 1) vs (v :: st) σ) : G X E nL A Q k n pc vs (.int (nI i) :: .ref a :: st) σ := by
  subst hv
  intro H locs ls hW hA hS hL
  have h2 := inN hi hm
  refine W.aald (v := va_rf (f i)) (ty := ty) h.1 h.2.1 (hW.1 a _ hσ) ((arrTy h ht).1 m (fun j => va_rf (f j))) hty (fun q => by cases q) (by show ¬ (nI i < 0 ∨ (arrV _ _ _).slots.size ≤ _); rw [arrV_size]; exact h2) ?_ rfl rfl hd (kk H locs ls hW hA hS hL)
  show (arrV _ _ _).slots[_]? = _
  rw [clampN (Nat.lt_of_lt_of_le hi hm), arrV_read _ _ hi]
theorem g_aast (h : OK X E cc own nL R) (t ci : Nat) {r : vw_C} {m i v : Nat} {fs : List Value} {f : Nat → Option Nat} (hd : decode cc pc = .ok (.aastore, 1)) (ht : (tysE E)[t]? = some (E.2 t, .object r.1)) (hc : vwCl[ci]? = some r) (hσ : σ.1 a = some (cQ E t m f)) (hv : σ.1 v = some (.inr (ci, fs))) (hi : i < m) (hm : m ≤ 2147483648)
    (kk : G X E nL A Q k n (pc + 1) vs st (sup σ a (cQ E t m (va_up f i (some v))))) : G X E nL A Q k n pc vs (.ref v :: .int (nI i) :: .ref a :: st) σ := by
  intro H locs ls hW hA hS hL
  have h2 := inN hi hm
  have hK := h.2.2.2.2.1.1
  obtain ⟨r', hr', cellV, g1, g2, g3, -⟩ := hW.1 v _ hv
  have hcls := (hK.1 ci r hc).2
  obtain ⟨kA, comp, k1, k2, k3, -⟩ := (arrTy h ht).2
  have hcomp : comp = E.1.1 ci := Option.some.inj (k3.symm.trans hcls.1)
  subst hcomp
  obtain ⟨kC, hkC, -⟩ := hcls.2
  refine W.aast h.1 h.2.1 (hW.1 a _ hσ) (fun q h => by cases h) (fun h => by cases h) k1 k2 rfl hkC ⟨fun q => h2 (Or.inl q), by show _ < (arrV _ _ _).slots.size; rw [arrV_size]; exact Nat.not_le.mp fun q => h2 (Or.inr q)⟩ g1 (fun q h => by rw [g3] at h; cases h) (by rw [g2]; exact hkC) (by rw [g2]; exact va_assign hcls) rfl rfl hd fun H1 e z oq => ?_
  rw [clampN (Nat.lt_of_lt_of_le hi hm)] at e ⊢
  refine kk H1 _ ls (hW.put hσ ?_ z oq) (fun q hq => hA q (AD_sup hσ q hq)) (va_S_put hS z oq (hA a (Or.inl (by rw [hσ]; exact fun z => by cases z)))) hL
  show H1[a]? = some (vp_cell _ _)
  rw [e]
  rw [vp_cell_q, vp_cell_q, arrV_store]
  congr 2
  funext q
  by_cases hq : q = i
  · subst hq
    simp [updV, va_up, va_rf]
  · simp [updV, va_up, hq]
theorem g_alen (h : OK X E cc own nL R) (t : Nat) {ty : FieldType} {x : vp_A} {v : Int32} (hd : decode cc pc = .ok (.arraylength, 1)) (ht : (tysE E)[t]? = some (E.2 t, ty)) (hσ : σ.1 a = some (.inl (E.2 t, x))) (hv : nI x.1 = v) (kk : G X E nL A Q k n (pc + 1) vs (.int v :: st) σ) : G X E nL A Q k n pc vs (.ref a :: st) σ := by
  intro H locs ls hW hA hS hL
  have hP : va_P E.1 vwCl [(a, .inl (E.2 t, x))] H := fun i q hq => by
    have h0 : i < 1 := (List.getElem?_eq_some_iff.mp hq).1
    rw [show i = 0 by omega] at hq
    cases hq
    exact hW.1 a _ hσ
  have hK : va_K E.1 vwCl (tysE E) (xS X) := h.2.2.2.2.1.1
  exact va_alen h.1 h.2.1 hK hP 0 t rfl ht hv hd (kk H locs ls hW hA hS hL)
-- making
theorem g_newi (h : OK X E cc own nL R) {m : Nat} (hw : lwI (.arrayClass .int)) (hd : decode cc pc = .ok (.newarray .int, 2)) (hm : m < 100000000) (hc : k + 1 ≤ R.cells) (hs : n + m ≤ R.slots)
    (kk : G X E nL A Q (k + 1) (n + m) (pc + 2) vs (.ref σ.2 :: st) (spush σ (cI E m (fun _ => 0)))) : G X E nL A Q k n pc vs (.int (nI m) :: st) σ := by
  intro H locs ls hW hA hS hL
  have hlt : m < 2147483648 := by omega
  have hcl := clampN hlt
  refine W.newa h.1 h.2.1 (atype := .int) (h.word hw) rfl hd rfl (nI_pos hlt) (by rw [hcl]; show m * 4 ≤ _; omega) (by rw [h.2.2.2.2.2.2]; exact hc) (by rw [hcl, h.2.2.2.2.2.2]; exact hs) fun cA kA comp h1 h2 h3 => ?_
  rw [hcl]
  have e1 : cA = E.2 0 := Option.some.inj (h1.symm.trans (arrTy h (t := 0) rfl).2)
  subst e1
  rw [hW.2]
  refine kk _ locs ls (hW.push ?_ (by simp) (fun q hq => by rw [Array.getElem?_push, if_neg (Nat.ne_of_lt hq)])) (fun q hq => hA q (AD_push q hq)) (va_S_push hS (by simp) (fun q hq => by rw [Array.getElem?_push, if_neg (Nat.ne_of_lt hq)])) hL
  show _ = some (vp_cell _ _)
  rw [vp_cell_i]
  simp only [Array.getElem?_push_size]
  exact congrArg some (arrV_new _ _ _)
theorem g_newz (h : OK X E cc own nL R) {m : Nat} (hw : lwI (.arrayClass .boolean)) (hd : decode cc pc = .ok (.newarray .boolean, 2)) (hm : m < 100000000) (hc : k + 1 ≤ R.cells) (hs : n + m ≤ R.slots)
    (kk : G X E nL A Q (k + 1) (n + m) (pc + 2) vs (.ref σ.2 :: st) (spush σ (cZ E m (fun _ => 0)))) : G X E nL A Q k n pc vs (.int (nI m) :: st) σ := by
  intro H locs ls hW hA hS hL
  have hlt : m < 2147483648 := by omega
  have hcl := clampN hlt
  refine W.newa h.1 h.2.1 (atype := .boolean) (h.word hw) rfl hd rfl (nI_pos hlt) (by rw [hcl]; show m * 1 ≤ _; omega) (by rw [h.2.2.2.2.2.2]; exact hc) (by rw [hcl, h.2.2.2.2.2.2]; exact hs) fun cA kA comp h1 h2 h3 => ?_
  rw [hcl]
  have e1 : cA = E.2 1 := Option.some.inj (h1.symm.trans (arrTy h (t := 1) rfl).2)
  subst e1
  rw [hW.2]
  refine kk _ locs ls (hW.push ?_ (by simp) (fun q hq => by rw [Array.getElem?_push, if_neg (Nat.ne_of_lt hq)])) (fun q hq => hA q (AD_push q hq)) (va_S_push hS (by simp) (fun q hq => by rw [Array.getElem?_push, if_neg (Nat.ne_of_lt hq)])) hL
  show _ = some (vp_cell _ _)
  rw [vp_cell_i]
  simp only [Array.getElem?_push_size]
  exact congrArg some (arrV_new _ _ _)
theorem g_newq (h : OK X E cc own nL R) (t : Nat) {C : String} {index m : Nat} (hw : lwI (.classLink own index C)) (hO : va_AO C (xS X)) (hd : decode cc pc = .ok (.anewarray index, 3)) (ht : (tysE E)[t]? = some (E.2 t, .object C)) (hm : m < 100000000) (hc : k + 1 ≤ R.cells) (hs : n + m ≤ R.slots)
    (kk : G X E nL A Q (k + 1) (n + m) (pc + 3) vs (.ref σ.2 :: st) (spush σ (cQ E t m (fun _ => none)))) : G X E nL A Q k n pc vs (.int (nI m) :: st) σ := by
  intro H locs ls hW hA hS hL
  have hlt : m < 2147483648 := by omega
  have hcl := clampN hlt
  refine W.anew h.1 h.2.1 h.2.2.2.1 (h.word hw) (va_AO.use hO) rfl hd rfl (nI_pos hlt) (by rw [hcl]; omega) (by rw [h.2.2.2.2.2.2]; exact hc) (by rw [hcl, h.2.2.2.2.2.2]; exact hs) fun cA kA comp h1 h2 h3 h4 => ?_
  rw [hcl]
  obtain ⟨kA', comp', g1, g2, g3, g4⟩ := (arrTy h ht).2
  have e1 : cA = E.2 t := Option.some.inj (h1.symm.trans g4)
  subst e1
  rw [hW.2]
  refine kk _ locs ls (hW.push ?_ (by simp) (fun q hq => by rw [Array.getElem?_push, if_neg (Nat.ne_of_lt hq)])) (fun q hq => hA q (AD_push q hq)) (va_S_push hS (by simp) (fun q hq => by rw [Array.getElem?_push, if_neg (Nat.ne_of_lt hq)])) hL
  show _ = some (vp_cell _ _)
  rw [vp_cell_q]
  simp only [Array.getElem?_push_size]
  exact congrArg some (arrV_new _ _ _)
theorem g_new (h : OK X E cc own nL R) (ci : Nat) {C : String} {T : u_T} {N index : Nat} {ty : Nat → FieldType} (fs : List Value) (hc : vwCl[ci]? = some (C, T, N)) (hty : ∀ k, k < N → parseFieldDescriptor (T k).2.2.1 = some (ty k)) (hw : lwI (.classLink own index C) ∧ lwI (.instantiable C N) ∧ lwI (.initialized C)) (hd : decode cc pc = .ok (.new index, 3)) (hfs : ∀ j, j < N → defaultValue (ty j) = vp_V fs j) (hcc : k + 1 ≤ R.cells) (hs : n + N ≤ R.slots)
    (kk : G X E nL A Q (k + 1) (n + N) (pc + 3) vs (.ref σ.2 :: st) (spush σ (.inr (ci, fs)))) : G X E nL A Q k n pc vs st σ := by
  intro H locs ls hW hA hS hL
  have hK := h.2.2.2.2.1.1
  have hts := h.2.2.2.2.1.lay hc (xA X)
  have hKn := hK.1 ci _ hc
  refine W.newcK h.1 h.2.1 h.2.2.2.1 (h.word hw.1) (h.word hw.2.1) (h.word hw.2.2) rfl hd (by rw [h.2.2.2.2.2.2]; exact hcc) (by rw [h.2.2.2.2.2.2]; exact hs) hKn.2.1 hW.2 fun H1 kC hkC e1 z1 o1 => ?_
  exact kk H1 locs ls (hW.push (by rw [hW.2]; exact ⟨_, hc, (u_born ty hts (fun _ z => z) hKn hkC e1 hty).to hfs⟩) (by rw [hW.2]; exact z1) (by rw [hW.2]; exact o1)) (fun q hq => hA q (AD_push q hq)) (va_S_push hS (by rw [hW.2]; exact z1) (by rw [hW.2]; exact o1)) hL
theorem g_objInit (h : OK X E cc own nL R) {index : Nat} (hw : lwI (.methodLink own index objectInit) ∧ lwI (.instanceMethod objectInit) ∧ lwI (.code objectInit ⟨#[0xb1]⟩ 1 none)) (hd : decode cc pc = .ok (.invokespecial index, 3)) (hr : 1 ≤ R.frames ∧ (st.map fun v => v.category).sum + 12 ≤ R.locals) (kk : G X E nL A Q k n (pc + 3) vs st σ) : G X E nL A Q k n pc vs (.ref a :: st) σ := by
  intro H locs ls hW hA hS hL
  refine W.objInit h.1 h.2.1 h.2.2.2.1 (h.word hw.1) (h.word hw.2.1) (h.word hw.2.2) rfl (by rw [h.2.2.1]; exact hL.1) rfl hd (by rw [h.2.2.2.2.2.2]; exact hr.1) (by rw [h.2.2.2.2.2.2]; show 2 * 0 + _ + 12 ≤ _; have := hr.2; omega) (kk H locs ls hW hA hS hL)
theorem g_max (h : OK X E cc own nL R) {index : Nat} {x y : Int32} (hw : lwI (.methodLink own index Lib.Math.max.name) ∧ lwI (.static Lib.Math.max.name) ∧ lwI (.initialized "java/lang/Math") ∧ lwI (.code Lib.Math.max.name Lib.Math.max.code 2 (some .int))) (hd : decode cc pc = .ok (.invokestatic index, 3)) (hr : 1 ≤ R.frames ∧ (st.map fun v => v.category).sum + 13 ≤ R.locals) (hc : k ≤ R.cells) (hs : n ≤ R.slots)
    (kk : G X E nL A Q k n (pc + 3) vs (.int (if x < y then y else x) :: st) σ) : G X E nL A Q k n pc vs (.int y :: .int x :: st) σ := by
  intro H locs ls hW hA hS hL
  exact va_mmax h.1 h.2.1 (by rw [h.2.2.1]; exact hL.1.symm) h.2.2.2.1 (h.word hw.1) (h.word hw.2.1) (h.word hw.2.2.1) (h.word hw.2.2.2) (by rw [h.2.2.2.2.2.2]; exact hr.1) (by rw [h.2.2.2.2.2.2]; exact hr.2) (by rw [h.2.2.2.2.2.2]; exact hc) (by rw [h.2.2.2.2.2.2]; exact hs) hd (kk H locs ls hW hA hS hL)
theorem g_min (h : OK X E cc own nL R) {index : Nat} {x y : Int32} (hw : lwI (.methodLink own index Lib.Math.min.name) ∧ lwI (.static Lib.Math.min.name) ∧ lwI (.initialized "java/lang/Math") ∧ lwI (.code Lib.Math.min.name Lib.Math.min.code 2 (some .int))) (hd : decode cc pc = .ok (.invokestatic index, 3)) (hr : 1 ≤ R.frames ∧ (st.map fun v => v.category).sum + 13 ≤ R.locals) (hc : k ≤ R.cells) (hs : n ≤ R.slots)
    (kk : G X E nL A Q k n (pc + 3) vs (.int (if y < x then y else x) :: st) σ) : G X E nL A Q k n pc vs (.int y :: .int x :: st) σ := by
  intro H locs ls hW hA hS hL
  exact va_mmin h.1 h.2.1 (by rw [h.2.2.1]; exact hL.1.symm) h.2.2.2.1 (h.word hw.1) (h.word hw.2.1) (h.word hw.2.2.1) (h.word hw.2.2.2) (by rw [h.2.2.2.2.2.2]; exact hr.1) (by rw [h.2.2.2.2.2.2]; exact hr.2) (by rw [h.2.2.2.2.2.2]; exact hc) (by rw [h.2.2.2.2.2.2]; exact hs) hd (kk H locs ls hW hA hS hL)
end GH
