/-! contracts over the store; entry, end and calls (own work) -/
def QC (E : EnvD) (σ : Sto) (post : Option Value → Sto → Prop) : Array Value → State → Outcome → State → Prop := fun _ st oc t =>
  (∃ (r : Option Value) (σ' : Sto), oc = .returned r ∧ post r σ' ∧ Wd E σ' t.heap ∧ ∀ q, AD σ' q → AD σ q) ∧ va_F (AD σ) st t
def PC (E : EnvD) (As : List Value) (σ : Sto) : Array Value → State → Prop := va_Pc As (fun U => Wd E σ U.heap ∧ KK E U)
/-- a method's contract: from any state that the store describes -/
def CC (l : Launch) (y : MethodName) (cc : ByteArray) (maxL : Nat) (ret : Option FieldType) (rm : Room) (E : EnvD) (As : List Value) (σ : Sto) (post : Option Value → Sto → Prop) : Prop :=
  Met l y [Cond.code y cc maxL ret] rm (PC E As σ) (QC E σ post) rm.cells rm.slots (AD σ)
def QF (X : CX) (E : EnvD) (σ : Sto) (post : Option Value → Sto → Prop) (rm : Room) : State → Prop := MQ (xB X) (QC E σ post) (xA X) (xS X) rm.cells rm.slots (AD σ)
theorem cc_of {l : Launch} {y : MethodName} {cc : ByteArray} {maxL : Nat} {ret : Option FieldType} {rm : Room} {E : EnvD} {As : List Value} {σ : Sto} {post : Option Value → Sto → Prop} {vs : List (Option Value)} (hy : plainName y.cls = true) (hlen : (lg_sl As).length ≤ maxL) (hvs : entl As ++ List.replicate (maxL - (entl As).length) none = vs)
    (body : ∀ X : CX, OK X E cc y.cls maxL rm → (xH X).sig.returnType = ret → (xH X).name = y.name → G X E maxL (AD σ) (QF X E σ post rm) 0 0 0 vs [] σ) : CC l y cc maxL ret rm E As σ post := by
  refine Met.ofW (cc := cc) (maxL := maxL) (ret := ret) hy rfl ?_
  intro p e s m args below meth c s₁ B hml hv
  obtain ⟨rfl, hW, hKK⟩ := hv
  have hok : OK (p, l, e, rm, s, m, As.toArray, below, meth, c) E cc y.cls maxL rm :=
    ⟨B.exec, B.bytes, hml, findClass_of_methodNamed B.named, hKK, B.notSynchronized, rfl⟩
  have hnm : meth.name = y.name := (name_of_methodNamed B.named B.method).1
  have hb := body (p, l, e, rm, s, m, As.toArray, below, meth, c) hok B.returns hnm
  rw [lg_entry_eq]
  refine hb s.heap [] _ hW (fun q hq => hq) va_S.rf ?_
  have hl := lv_entry As (n := maxL) hlen
  refine ⟨hl.1, hl.2.1, ?_, fun i v hi => ?_⟩
  · rw [← hvs, List.length_append, List.length_replicate, entl_len]
    omega
  · rw [← hvs] at hi
    have h1 := entl_args As 0 i v (lk_app_rep _ _ _ _ hi)
    rw [Nat.zero_add] at h1
    exact hl.2.2 _ h1
section GC
variable {X : CX} {E : EnvD} {cc : ByteArray} {own : String} {nL : Nat} {R : Room} {A : Nat → Prop} {Q : State → Prop} {k n pc : Nat} {vs vs' : List (Option Value)} {st : List Value} {σ σ0 : Sto} {a : Nat} {post : Option Value → Sto → Prop}
theorem g_iret (h : OK X E cc own nL R) (hr : (xH X).sig.returnType = some .int) {v : Int32} (hd : decode cc pc = .ok (.ireturn, 1)) (hp : post (some (.int v)) σ) (h1 : k ≤ R.cells) (h2 : n ≤ R.slots) : G X E nL (AD σ0) (QF X E σ0 post R) k n pc vs [.int v] σ :=
  fun H locs ls hW hA hS hL => W.widen h1 h2 (W.iret (v := v) h.1 h.2.1 hr (fun t ht hWm => ⟨⟨_, σ, rfl, hp, by rw [ht]; exact hW, hA⟩, hS.F ht⟩) hS.2.2 hd h.2.2.2.2.2.1)
theorem g_zret (h : OK X E cc own nL R) {ty : FieldType} (hr : (xH X).sig.returnType = some ty) {v : Int32} (hn : narrow ty (.int v) = .int v) (hd : decode cc pc = .ok (.ireturn, 1)) (hp : post (some (.int v)) σ) (h1 : k ≤ R.cells) (h2 : n ≤ R.slots) : G X E nL (AD σ0) (QF X E σ0 post R) k n pc vs [.int v] σ :=
  fun H locs ls hW hA hS hL => W.widen h1 h2 (W.zret (v := v) h.1 h.2.1 hr hn (fun t ht hWm => ⟨⟨_, σ, rfl, hp, by rw [ht]; exact hW, hA⟩, hS.F ht⟩) hS.2.2 hd h.2.2.2.2.2.1)
theorem g_lret (h : OK X E cc own nL R) (hr : (xH X).sig.returnType = some .long) {v : Int64} (hd : decode cc pc = .ok (.lreturn, 1)) (hp : post (some (.long v)) σ) (h1 : k ≤ R.cells) (h2 : n ≤ R.slots) : G X E nL (AD σ0) (QF X E σ0 post R) k n pc vs [.long v] σ :=
  fun H locs ls hW hA hS hL => W.widen h1 h2 (W.lret (v := v) h.1 h.2.1 hr (fun t ht hWm => ⟨⟨_, σ, rfl, hp, by rw [ht]; exact hW, hA⟩, hS.F ht⟩) hS.2.2 hd h.2.2.2.2.2.1)
theorem g_vret (h : OK X E cc own nL R) (hr : (xH X).sig.returnType = none) (hd : decode cc pc = .ok (.return_, 1)) (hp : post none σ) (h1 : k ≤ R.cells) (h2 : n ≤ R.slots) : G X E nL (AD σ0) (QF X E σ0 post R) k n pc vs [] σ :=
  fun H locs ls hW hA hS hL => W.widen h1 h2 (W.vret h.1 h.2.1 hr (fun t ht hWm => ⟨⟨_, σ, rfl, hp, by rw [ht]; exact hW, hA⟩, hS.F ht⟩) hS.2.2 hd h.2.2.2.2.2.1)
theorem g_aret (h : OK X E cc own nL R) {C : String} (hr : (xH X).sig.returnType = some (.object C)) {v : Value} (hv : v = .null ∨ ∃ a, v = .ref a) (hd : decode cc pc = .ok (.areturn, 1)) (hp : post (some v) σ) (h1 : k ≤ R.cells) (h2 : n ≤ R.slots) : G X E nL (AD σ0) (QF X E σ0 post R) k n pc vs [v] σ :=
  fun H locs ls hW hA hS hL => W.widen h1 h2 (W.aret (v := v) h.1 h.2.1 hr (Or.inl ⟨_, rfl⟩) hv (fun t ht hWm => ⟨⟨_, σ, rfl, hp, by rw [ht]; exact hW, hA⟩, hS.F ht⟩) hS.2.2 hd h.2.2.2.2.2.1)
/-- behind a call -/
theorem g_run {rm : Room} {rest : List Value} {aa : Array Value}
    (hr : ∀ (H : Heap) (locs : List Loc) (ls : Array Slot), Wd E σ H → LV ls nL vs → va_Run (xP X) (xL X) (xE X) (xR X) (xS X) (xM X) (xA X) (xB X) (xH X) (xC X) H locs k n rm.cells rm.slots (F0 (xM X) pc ls st) rest (QC E σ post aa) (AD σ))
    (kk : ∀ (r : Option Value) (σ' : Sto), post r σ' → G X E nL A Q (k + rm.cells) (n + rm.slots) (pc + 3) vs (r.toList ++ rest) σ') : G X E nL A Q k n pc vs st σ := by
  intro H locs ls hW hA hS hL T hT Xs
  obtain ⟨v, st₀, t, T', L, h0, X', hLo, e1, e2, ⟨⟨r, σ', hv, hp, hw, hd⟩, hz, hk⟩, stp⟩ := hr H locs ls hW hL T hT Xs
  cases hv
  rw [h0] at hz hk
  obtain ⟨t2, a1, b1⟩ := kk v σ' hp T'.heap (locs ++ L) ls (by rw [e1]; exact hw) (fun q hq => hA q (hd q hq))
    ⟨Nat.le_trans hS.1 (by rw [e1]; exact hz), fun q h1 h2 => by rw [e1, hk q (Nat.lt_of_lt_of_le h1 hS.1) (fun z => h2 (hA q z))]; exact hS.2.1 q h1 h2, fun q hq => by
      rcases List.mem_append.mp hq with h | h
      · exact hS.2.2 q h
      · exact hA _ (hLo q h)⟩ hL T' rfl X'
  exact ⟨t2, stp t2 a1, b1⟩
theorem pc_blind {As : List Value} : FrameBlind (PC E As σ) := fun _ U g mk q => ⟨q.1, q.2.1, q.2.2.warm (State.WarmedH.refl U)⟩
/-- a call's words -/
def CF (own : String) (index : Nat) (y : MethodName) (cc : ByteArray) (maxL : Nat) (ret : Option FieldType) (np : Nat) : Prop :=
  lwI (.methodLink own index y) ∧ lwI (.initialized y.cls) ∧ lwI (.code y cc maxL ret) ∧ (y.cls ≠ "java/lang/invoke/MethodHandle" ∧ y.cls ≠ "java/lang/invoke/VarHandle") ∧ (parseMethodDescriptor y.desc).map (fun d => d.parameters.length) = some np
def CFn (own : String) (index : Nat) (y : MethodName) (cc : ByteArray) (maxL : Nat) (ret : Option FieldType) (np : Nat) : Prop :=
  lwI (.initialized y.cls) ∧ lwI (.code y cc maxL ret) ∧ (y.cls ≠ "java/lang/invoke/MethodHandle" ∧ y.cls ≠ "java/lang/invoke/VarHandle") ∧ (parseMethodDescriptor y.desc).map (fun d => d.parameters.length) = some np
theorem np_of {y : MethodName} {np : Nat} (h : (parseMethodDescriptor y.desc).map (fun d => d.parameters.length) = some np) : ∀ sig, parseMethodDescriptor y.desc = some sig → np = sig.parameters.length := fun sig hs => by
  rw [hs] at h
  exact (Option.some.inj h).symm
theorem code_warm (h : OK X E cc own nL R) {y : MethodName} {c2 : ByteArray} {maxL : Nat} {ret : Option FieldType} (hw : lwI (.code y c2 maxL ret)) : ∀ w ∈ [Cond.code y c2 maxL ret], ∀ (a' : Array Value) (U : State), (xS X).WarmedH U.vm → w.before a' U = true := by
  intro w hw2 a' U hWm
  rw [List.mem_singleton.mp hw2]
  exact (h.2.2.2.2.1.warm hWm).word hw a'
theorem g_callV (h : OK X E cc own nL R) {y : MethodName} {c2 : ByteArray} {index maxL np ci b : Nat} {ret : Option FieldType} {rm : Room} {As : List Value} {fs : List Value} {T : u_T} {N : Nat} (rest : List Value) (hM : CC (xL X) y c2 maxL ret rm E (.ref b :: As) σ post) (hf : CF own index y c2 maxL ret np) (hi : lwI (.instanceMethod y) ∧ lwI (.selects y.cls y y)) (hd : decode cc pc = .ok (.invokevirtual index, 3))
    (hn : As.length = np) (hσ : σ.1 b = some (.inr (ci, fs))) (hc : vwCl[ci]? = some (y.cls, T, N)) (hst : st = As.reverse ++ .ref b :: rest) (hrest : (rest.map fun v => v.category).sum ≤ 8) (hR : rm.frames + 1 ≤ R.frames ∧ 8 + (maxL + 11) + rm.locals ≤ R.locals) (hroom : k + rm.cells ≤ R.cells ∧ n + rm.slots ≤ R.slots)
    (kk : ∀ (r : Option Value) (σ' : Sto), post r σ' → G X E nL A Q (k + rm.cells) (n + rm.slots) (pc + 3) vs (r.toList ++ rest) σ') : G X E nL A Q k n pc vs st σ := by
  refine g_run (rm := rm) (rest := rest) (aa := (Value.ref b :: As).toArray) (fun H locs ls hW hL => ?_) kk
  have hP : va_P E.1 vwCl [(b, .inr (ci, fs))] H := fun i q hq => by
    have h0 : i < 1 := (List.getElem?_eq_some_iff.mp hq).1
    rw [show i = 0 by omega] at hq
    cases hq
    exact hW.1 b _ hσ
  have hK : va_K E.1 vwCl (tysE E) (xS X) := h.2.2.2.2.1.1
  exact va_runV (C := y.cls) (cc := cc) (nL := nL) (Ts := []) (own := own) (index := index) (bytes := c2) (maxL := maxL) (ret := ret) (n := np) (As := As) ⟨h.1, h.2.1, h.2.2.1, h.2.2.2.1, fun w hw => absurd hw List.not_mem_nil⟩ hM
    ⟨⟨rfl, rfl, by rw [h.2.2.2.2.2.2]; exact hR.1, by rw [h.2.2.2.2.2.2]; exact hR.2, code_warm h hf.2.2.1, List.mem_singleton.mpr rfl, h.word hf.2.2.1, h.word hf.2.1, hf.2.2.2.1, np_of hf.2.2.2.2, h.word hf.1⟩, h.word hi.1, h.word hi.2⟩
    ⟨pc_blind, va_recv hK hP hc (q0 := 0) rfl, fun U hU hWm => ⟨rfl, by rw [hU]; exact hW, h.2.2.2.2.1.warm hWm⟩⟩ rfl hn hL.1 hst (lv_room hrest) hd (by rw [h.2.2.2.2.2.2]; exact hroom)
theorem g_callS (h : OK X E cc own nL R) {y : MethodName} {c2 : ByteArray} {index maxL np : Nat} {ret : Option FieldType} {rm : Room} {As : List Value} (rest : List Value) (hM : CC (xL X) y c2 maxL ret rm E As σ post) (hf : CF own index y c2 maxL ret np) (hi : lwI (.static y)) (hd : decode cc pc = .ok (.invokestatic index, 3))
    (hn : As.length = np) (hst : st = As.reverse ++ rest) (hrest : (rest.map fun v => v.category).sum ≤ 8) (hR : rm.frames + 1 ≤ R.frames ∧ 8 + (maxL + 11) + rm.locals ≤ R.locals) (hroom : k + rm.cells ≤ R.cells ∧ n + rm.slots ≤ R.slots)
    (kk : ∀ (r : Option Value) (σ' : Sto), post r σ' → G X E nL A Q (k + rm.cells) (n + rm.slots) (pc + 3) vs (r.toList ++ rest) σ') : G X E nL A Q k n pc vs st σ := by
  refine g_run (rm := rm) (rest := rest) (aa := As.toArray) (fun H locs ls hW hL => ?_) kk
  exact va_runS (cc := cc) (nL := nL) (Ts := []) (own := own) (index := index) (bytes := c2) (maxL := maxL) (ret := ret) (n := np) (As := As) ⟨h.1, h.2.1, h.2.2.1, h.2.2.2.1, fun w hw => absurd hw List.not_mem_nil⟩ hM
    ⟨⟨rfl, rfl, by rw [h.2.2.2.2.2.2]; exact hR.1, by rw [h.2.2.2.2.2.2]; exact hR.2, code_warm h hf.2.2.1, List.mem_singleton.mpr rfl, h.word hf.2.2.1, h.word hf.2.1, hf.2.2.2.1, np_of hf.2.2.2.2, h.word hf.1⟩, h.word hi⟩
    ⟨pc_blind, fun U hU hWm => ⟨rfl, by rw [hU]; exact hW, h.2.2.2.2.1.warm hWm⟩⟩ rfl hn hL.1 hst (lv_room hrest) hd (by rw [h.2.2.2.2.2.2]; exact hroom)
theorem g_callI (h : OK X E cc own nL R) {y : MethodName} {c2 : ByteArray} {index maxL np b : Nat} {rm : Room} {As : List Value} (rest : List Value) (hM : CC (xL X) y c2 maxL none rm E (.ref b :: As) σ post) (hf : CF own index y c2 maxL none np) (hi : y.name = "<init>" ∧ lwI (.instanceMethod y)) (hd : decode cc pc = .ok (.invokespecial index, 3))
    (hn : As.length = np) (hst : st = As.reverse ++ .ref b :: rest) (hrest : (rest.map fun v => v.category).sum ≤ 8) (hR : rm.frames + 1 ≤ R.frames ∧ 8 + (maxL + 11) + rm.locals ≤ R.locals) (hroom : k + rm.cells ≤ R.cells ∧ n + rm.slots ≤ R.slots)
    (kk : ∀ (r : Option Value) (σ' : Sto), post r σ' → G X E nL A Q (k + rm.cells) (n + rm.slots) (pc + 3) vs (r.toList ++ rest) σ') : G X E nL A Q k n pc vs st σ := by
  refine g_run (rm := rm) (rest := rest) (aa := (Value.ref b :: As).toArray) (fun H locs ls hW hL => ?_) kk
  exact va_runI (cc := cc) (nL := nL) (Ts := []) (own := own) (index := index) (bytes := c2) (maxL := maxL) (n := np) (As := As) ⟨h.1, h.2.1, h.2.2.1, h.2.2.2.1, fun w hw => absurd hw List.not_mem_nil⟩ hM
    ⟨⟨rfl, rfl, by rw [h.2.2.2.2.2.2]; exact hR.1, by rw [h.2.2.2.2.2.2]; exact hR.2, code_warm h hf.2.2.1, List.mem_singleton.mpr rfl, h.word hf.2.2.1, h.word hf.2.1, hf.2.2.2.1, np_of hf.2.2.2.2, h.word hf.1⟩, hi.1, h.word hi.2⟩
    ⟨pc_blind, fun U hU hWm => ⟨rfl, by rw [hU]; exact hW, h.2.2.2.2.1.warm hWm⟩⟩ rfl hn hL.1 hst (lv_room hrest) hd (by rw [h.2.2.2.2.2.2]; exact hroom)
theorem g_callSN (h : OK X E cc own nL R) {y : MethodName} {c2 : ByteArray} {index maxL np : Nat} {host : String} {ret : Option FieldType} {rm : Room} {As : List Value} (rest : List Value) (hM : CC (xL X) y c2 maxL ret rm E As σ post) (hf : CFn own index y c2 maxL ret np) (hnest : va_Nw (.methodLinkNest own index y host) (xS X)) (hi : lwI (.static y)) (hd : decode cc pc = .ok (.invokestatic index, 3))
    (hn : As.length = np) (hst : st = As.reverse ++ rest) (hrest : (rest.map fun v => v.category).sum ≤ 8) (hR : rm.frames + 1 ≤ R.frames ∧ 8 + (maxL + 11) + rm.locals ≤ R.locals) (hroom : k + rm.cells ≤ R.cells ∧ n + rm.slots ≤ R.slots)
    (kk : ∀ (r : Option Value) (σ' : Sto), post r σ' → G X E nL A Q (k + rm.cells) (n + rm.slots) (pc + 3) vs (r.toList ++ rest) σ') : G X E nL A Q k n pc vs st σ := by
  refine g_run (rm := rm) (rest := rest) (aa := As.toArray) (fun H locs ls hW hL => ?_) kk
  exact va_runSN (cc := cc) (nL := nL) (Ts := []) (own := own) (host := host) (index := index) (bytes := c2) (maxL := maxL) (ret := ret) (n := np) (As := As) ⟨h.1, h.2.1, h.2.2.1, h.2.2.2.1, fun w hw => absurd hw List.not_mem_nil⟩ hM
    ⟨⟨⟨rfl, rfl, by rw [h.2.2.2.2.2.2]; exact hR.1, by rw [h.2.2.2.2.2.2]; exact hR.2, code_warm h hf.2.1, List.mem_singleton.mpr rfl⟩, h.word hf.2.1, h.word hf.1, hf.2.2.1, np_of hf.2.2.2, va_Nw.use rfl hnest⟩, h.word hi, trivial⟩
    ⟨pc_blind, fun U hU hWm => ⟨rfl, by rw [hU]; exact hW, h.2.2.2.2.1.warm hWm⟩⟩ rfl hn hL.1 hst (lv_room hrest) hd (by rw [h.2.2.2.2.2.2]; exact hroom)
theorem g_callIN (h : OK X E cc own nL R) {y : MethodName} {c2 : ByteArray} {index maxL np b : Nat} {host : String} {rm : Room} {As : List Value} (rest : List Value) (hM : CC (xL X) y c2 maxL none rm E (.ref b :: As) σ post) (hf : CFn own index y c2 maxL none np) (hnest : va_Nw (.methodLinkNest own index y host) (xS X)) (hi : y.name = "<init>" ∧ lwI (.instanceMethod y)) (hd : decode cc pc = .ok (.invokespecial index, 3))
    (hn : As.length = np) (hst : st = As.reverse ++ .ref b :: rest) (hrest : (rest.map fun v => v.category).sum ≤ 8) (hR : rm.frames + 1 ≤ R.frames ∧ 8 + (maxL + 11) + rm.locals ≤ R.locals) (hroom : k + rm.cells ≤ R.cells ∧ n + rm.slots ≤ R.slots)
    (kk : ∀ (r : Option Value) (σ' : Sto), post r σ' → G X E nL A Q (k + rm.cells) (n + rm.slots) (pc + 3) vs (r.toList ++ rest) σ') : G X E nL A Q k n pc vs st σ := by
  refine g_run (rm := rm) (rest := rest) (aa := (Value.ref b :: As).toArray) (fun H locs ls hW hL => ?_) kk
  exact va_runIN (cc := cc) (nL := nL) (Ts := []) (own := own) (host := host) (index := index) (bytes := c2) (maxL := maxL) (n := np) (As := As) ⟨h.1, h.2.1, h.2.2.1, h.2.2.2.1, fun w hw => absurd hw List.not_mem_nil⟩ hM
    ⟨⟨⟨rfl, rfl, by rw [h.2.2.2.2.2.2]; exact hR.1, by rw [h.2.2.2.2.2.2]; exact hR.2, code_warm h hf.2.1, List.mem_singleton.mpr rfl⟩, h.word hf.2.1, h.word hf.1, hf.2.2.1, np_of hf.2.2.2, va_Nw.use rfl hnest⟩, hi.1, h.word hi.2⟩
    ⟨pc_blind, fun U hU hWm => ⟨rfl, by rw [hU]; exact hW, h.2.2.2.2.1.warm hWm⟩⟩ rfl hn hL.1 hst (lv_room hrest) hd (by rw [h.2.2.2.2.2.2]; exact hroom)
end GC
