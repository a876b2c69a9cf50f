/-! making, with the new addresses named (own work) -/
def smna (E : EnvD) (σ : Sto) (N K : Nat) : Sto := (fun q => if q = σ.2 then some (cQ E 5 N (fun i => if i < N then some (σ.2 + 1 + i) else none)) else if σ.2 < q ∧ q < σ.2 + 1 + N then some (cI E K (fun _ => 0)) else σ.1 q, σ.2 + 1 + N)
section MK
variable {X : CX} {E : EnvD} {cc : ByteArray} {own : String} {nL : Nat} {R : Room} {A : Nat → Prop} {Q : State → Prop} {k n pc : Nat} {vs vs' : List (Option Value)} {st : List Value} {σ : Sto} {a : Nat}
theorem g_mna (h : OK X E cc own nL R) {index N K : Nat} (hw : lwI (.classLink own index "[[I")) (hz : lwI (.arrayClass .int)) (hd : decode cc pc = .ok (.multianewarray index 2, 4)) (hN : N ≤ 10000) (hK : K ≤ 10000) (hc : k + (1 + N) ≤ R.cells) (hs : n + (N + N * K) ≤ R.slots)
    (kk : G X E nL A Q (k + 1 + N) (n + N + N * K) (pc + 4) vs (.ref σ.2 :: st) (smna E σ N K)) : G X E nL A Q k n pc vs (.int (nI K) :: .int (nI N) :: st) σ := by
  intro H locs ls hW hA hS hL
  have hAO : AOA (xS X) := h.2.2.2.2.1.2.2.2.2.2
  refine w_mna h.1 h.2.1 (own := own) (index := index) h.2.2.2.1 (h.word hw) hAO (h.word hz) (nI_pos (by omega)) (nI_pos (by omega)) (clampN (by omega)) (clampN (by omega)) hN hK (by rw [h.2.2.2.2.2.2]; exact hc) (by rw [h.2.2.2.2.2.2]; exact hs) hd fun cA cy H1 fA fC hsz hold hout hrow => ?_
  have e1 : cA = E.2 5 := Option.some.inj (fA.symm.trans (arrTy h (t := 5) rfl).2)
  have e2 : cy = E.2 0 := Option.some.inj (fC.symm.trans (arrTy h (t := 0) rfl).2)
  subst e1 e2
  have hz2 := hW.2
  rw [hz2] at hsz hold hout hrow ⊢
  refine kk H1 locs ls ⟨fun q e ha => ?_, hsz⟩ (fun q hq => hA q ?_) ⟨Nat.le_trans hS.1 (by omega), fun q h1 h2 => (hold q (by have := hS.1; omega)).trans (hS.2.1 q h1 h2), hS.2.2⟩ hL
  · by_cases c1 : q = σ.2
    · subst c1
      have : (smna E σ N K).1 σ.2 = some (cQ E 5 N (fun i => if i < N then some (σ.2 + 1 + i) else none)) := if_pos rfl
      rw [this] at ha
      cases ha
      show _ = some (vp_cell _ _)
      rw [vp_cell_q]
      exact hout
    · by_cases c2 : σ.2 < q ∧ q < σ.2 + 1 + N
      · have : (smna E σ N K).1 q = some (cI E K (fun _ => 0)) := (if_neg c1).trans (if_pos c2)
        rw [this] at ha
        cases ha
        have := hrow (q - (σ.2 + 1)) (by omega)
        rw [show σ.2 + 1 + (q - (σ.2 + 1)) = q by omega] at this
        show _ = some (vp_cell _ _)
        rw [vp_cell_i]
        exact this
      · have : (smna E σ N K).1 q = σ.1 q := (if_neg c1).trans (if_neg c2)
        rw [this] at ha
        exact (hW.1 q e ha).kept (hold q (hW.lt ha))
  · rcases hq with hq | hq
    · by_cases c1 : σ.2 ≤ q
      · exact Or.inr c1
      · left
        have : (smna E σ N K).1 q = σ.1 q := (if_neg (by omega)).trans (if_neg (by omega))
        rwa [this] at hq
    · have : σ.2 + 1 + N ≤ q := hq
      exact Or.inr (by omega)
theorem g_mnaA (h : OK X E cc own nL R) {index N K : Nat} (hw : lwI (.classLink own index "[[I")) (hd : decode cc pc = .ok (.multianewarray index 2, 4)) (hN : N ≤ 10000) (hK : K ≤ 10000) (hc : k + (1 + N) ≤ R.cells) (hs : n + (N + N * K) ≤ R.slots) (hz : σ.2 = a)
    (kk : ∀ s' : Sto, s'.2 = a + 1 + N → s'.1 a = some (cQ E 5 N (fun i => if i < N then some (a + 1 + i) else none)) → (∀ i, i < N → s'.1 (a + 1 + i) = some (cI E K (fun _ => 0))) → (∀ q, q < a → s'.1 q = σ.1 q) → G X E nL A Q (k + 1 + N) (n + N + N * K) (pc + 4) vs (.ref a :: st) s') : G X E nL A Q k n pc vs (.int (nI K) :: .int (nI N) :: st) σ := by
  subst hz
  refine g_mna h hw li_36 hd hN hK hc hs (kk _ rfl (if_pos rfl) (fun i hi => (if_neg (by omega)).trans (if_pos ⟨by omega, by omega⟩)) (fun q hq => (if_neg (by omega)).trans (if_neg (by omega))))
theorem g_newiA (h : OK X E cc own nL R) {m : Nat} (hd : decode cc pc = .ok (.newarray .int, 2)) (hm : m < 100000000) (hc : k + 1 ≤ R.cells) (hs : n + m ≤ R.slots) (hz : σ.2 = a)
    (kk : ∀ s' : Sto, s'.2 = a + 1 → s'.1 a = some (cI E m (fun _ => 0)) → (∀ q, q < a → s'.1 q = σ.1 q) → G X E nL A Q (k + 1) (n + m) (pc + 2) vs (.ref a :: st) s') : G X E nL A Q k n pc vs (.int (nI m) :: st) σ := by
  subst hz
  exact g_newi h li_36 hd hm hc hs (kk _ rfl spush_new (fun q hq => spush_old (Nat.ne_of_lt hq)))
theorem g_newzA (h : OK X E cc own nL R) {m : Nat} (hd : decode cc pc = .ok (.newarray .boolean, 2)) (hm : m < 100000000) (hc : k + 1 ≤ R.cells) (hs : n + m ≤ R.slots) (hz : σ.2 = a)
    (kk : ∀ s' : Sto, s'.2 = a + 1 → s'.1 a = some (cZ E m (fun _ => 0)) → (∀ q, q < a → s'.1 q = σ.1 q) → G X E nL A Q (k + 1) (n + m) (pc + 2) vs (.ref a :: st) s') : G X E nL A Q k n pc vs (.int (nI m) :: st) σ := by
  subst hz
  exact g_newz h li_526 hd hm hc hs (kk _ rfl spush_new (fun q hq => spush_old (Nat.ne_of_lt hq)))
theorem g_newqA (h : OK X E cc own nL R) (t : Nat) {C : String} {index m : Nat} (hw : lwI (.classLink own index C)) (hO : va_AO C (xS X)) (hd : decode cc pc = .ok (.anewarray index, 3)) (ht : (tysE E)[t]? = some (E.2 t, .object C)) (hm : m < 100000000) (hc : k + 1 ≤ R.cells) (hs : n + m ≤ R.slots) (hz : σ.2 = a)
    (kk : ∀ s' : Sto, s'.2 = a + 1 → s'.1 a = some (cQ E t m (fun _ => none)) → (∀ q, q < a → s'.1 q = σ.1 q) → G X E nL A Q (k + 1) (n + m) (pc + 3) vs (.ref a :: st) s') : G X E nL A Q k n pc vs (.int (nI m) :: st) σ := by
  subst hz
  exact g_newq h t hw hO hd ht hm hc hs (kk _ rfl spush_new (fun q hq => spush_old (Nat.ne_of_lt hq)))
theorem g_newA (h : OK X E cc own nL R) (ci : Nat) {C : String} {T : u_T} {N index : Nat} {ty : Nat → FieldType} (fs : List Value) (hc : vwCl[ci]? = some (C, T, N)) (hty : ∀ k, k < N → parseFieldDescriptor (T k).2.2.1 = some (ty k)) (hw : lwI (.classLink own index C) ∧ lwI (.instantiable C N) ∧ lwI (.initialized C)) (hd : decode cc pc = .ok (.new index, 3)) (hfs : ∀ j, j < N → defaultValue (ty j) = vp_V fs j) (hcc : k + 1 ≤ R.cells) (hs : n + N ≤ R.slots) (hz : σ.2 = a)
    (kk : ∀ s' : Sto, s'.2 = a + 1 → s'.1 a = some (.inr (ci, fs)) → (∀ q, q < a → s'.1 q = σ.1 q) → G X E nL A Q (k + 1) (n + N) (pc + 3) vs (.ref a :: st) s') : G X E nL A Q k n pc vs st σ := by
  subst hz
  exact g_new h ci fs hc hty hw hd hfs hcc hs (kk _ rfl spush_new (fun q hq => spush_old (Nat.ne_of_lt hq)))
end MK
