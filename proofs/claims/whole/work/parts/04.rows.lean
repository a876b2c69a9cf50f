/-! THE JUDGEMENT G: the machine at pc with locals vs, stack st, and the store σ (own work) -/
abbrev CX : Type := Program × Launch × Env × Room × State × MethodId × Array Value × List Frame × Method × Code
def xP (X : CX) : Program := X.1
def xL (X : CX) : Launch := X.2.1
def xE (X : CX) : Env := X.2.2.1
def xR (X : CX) : Room := X.2.2.2.1
def xS (X : CX) : State := X.2.2.2.2.1
def xM (X : CX) : MethodId := X.2.2.2.2.2.1
def xA (X : CX) : Array Value := X.2.2.2.2.2.2.1
def xB (X : CX) : List Frame := X.2.2.2.2.2.2.2.1
def xH (X : CX) : Method := X.2.2.2.2.2.2.2.2.1
def xC (X : CX) : Code := X.2.2.2.2.2.2.2.2.2
def XW (X : CX) (H : Heap) (locs : List Loc) (k n : Nat) (Q : State → Prop) (g : JFrame) : Prop := W (xP X) (xL X) (xE X) (xR X) (xS X) (xM X) (xA X) (xB X) (xH X) (xC X) H locs k n Q g
def G (X : CX) (E : EnvD) (nL : Nat) (A : Nat → Prop) (Q : State → Prop) (k n : Nat) (pc : Nat) (vs : List (Option Value)) (st : List Value) (σ : Sto) : Prop :=
  ∀ (H : Heap) (locs : List Loc) (ls : Array Slot), Wd E σ H → (∀ q, AD σ q → A q) → va_S A (xS X).heap H locs → LV ls nL vs → XW X H locs k n Q (F0 (xM X) pc ls st)
def OK (X : CX) (E : EnvD) (cc : ByteArray) (own : String) (nL : Nat) (R : Room) : Prop :=
  (xP X).tables.exec = Jvm.exec ∧ (xC X).code = cc ∧ (xC X).maxLocals = nL ∧ (xS X).vm.findClass own = some (xM X).cls ∧ KK E (xS X) ∧ (xH X).locks = false ∧ xR X = R
def lwI (w : Cond) : Prop := w ∈ lw_tbl ∧ goodWord w = true
section GR
variable {X : CX} {E : EnvD} {cc : ByteArray} {own : String} {nL : Nat} {R : Room} {A : Nat → Prop} {Q : State → Prop} {k n pc : Nat} {vs vs' : List (Option Value)} {st : List Value} {σ : Sto}
theorem OK.word (h : OK X E cc own nL R) {w : Cond} (hw : lwI w) : w.before (xA X) (xS X) = true := h.2.2.2.2.1.word hw (xA X)
theorem g_eq {st' : List Value} {σ' : Sto} (e : st' = st) (e2 : σ' = σ) (kk : G X E nL A Q k n pc vs st σ) : G X E nL A Q k n pc vs st' σ' := by
  subst e; subst e2; exact kk
theorem g_sto {σ' : Sto} (e2 : σ' = σ) (kk : G X E nL A Q k n pc vs st σ) : G X E nL A Q k n pc vs st σ' := by
  subst e2; exact kk
theorem g_top {x y : Int32} (e : x = y) (kk : G X E nL A Q k n pc vs (.int y :: st) σ) : G X E nL A Q k n pc vs (.int x :: st) σ := by
  subst e; exact kk
theorem g_topl {x y : Int64} (e : x = y) (kk : G X E nL A Q k n pc vs (.long y :: st) σ) : G X E nL A Q k n pc vs (.long x :: st) σ := by
  subst e; exact kk
theorem g_nm {x : Int32} (kk : ∀ y, y = x → G X E nL A Q k n pc vs (.int y :: st) σ) : G X E nL A Q k n pc vs (.int x :: st) σ := kk x rfl
theorem g_nml {x : Int64} (kk : ∀ y, y = x → G X E nL A Q k n pc vs (.long y :: st) σ) : G X E nL A Q k n pc vs (.long x :: st) σ := kk x rfl
theorem g_few (hs : sub1 vs vs') (kk : G X E nL A Q k n pc vs' st σ) : G X E nL A Q k n pc vs st σ :=
  fun H locs ls hW hA hS hL => kk H locs ls hW hA hS (hL.fewer hs)
theorem g_widen {k' n' : Nat} (h1 : k ≤ k') (h2 : n ≤ n') (kk : G X E nL A Q k' n' pc vs st σ) : G X E nL A Q k n pc vs st σ :=
  fun H locs ls hW hA hS hL => W.widen h1 h2 (kk H locs ls hW hA hS hL)
-- constants
theorem g_iconst (h : OK X E cc own nL R) {i : Int} (v : Int32) (hd : decode cc pc = .ok (.iconst i, 1)) (hv : Int32.ofInt i = v) (kk : G X E nL A Q k n (pc + 1) vs (.int v :: st) σ) : G X E nL A Q k n pc vs st σ :=
  fun H locs ls hW hA hS hL => lv_iconst h.1 h.2.1 hd hv (kk H locs ls hW hA hS hL)
theorem g_bipush (h : OK X E cc own nL R) {i : Int} (v : Int32) (hd : decode cc pc = .ok (.bipush i, 2)) (hv : (Int8.ofInt i).toInt32 = v) (kk : G X E nL A Q k n (pc + 2) vs (.int v :: st) σ) : G X E nL A Q k n pc vs st σ :=
  fun H locs ls hW hA hS hL => lv_bipush h.1 h.2.1 hd hv (kk H locs ls hW hA hS hL)
theorem g_sipush (h : OK X E cc own nL R) {i : Int} (v : Int32) (hd : decode cc pc = .ok (.sipush i, 3)) (hv : (Int16.ofInt i).toInt32 = v) (kk : G X E nL A Q k n (pc + 3) vs (.int v :: st) σ) : G X E nL A Q k n pc vs st σ :=
  fun H locs ls hW hA hS hL => lv_sipush h.1 h.2.1 hd hv (kk H locs ls hW hA hS hL)
theorem g_lconst (h : OK X E cc own nL R) {i : Fin 2} (v : Int64) (hd : decode cc pc = .ok (.lconst i, 1)) (hv : Int64.ofNat (i : Nat) = v) (kk : G X E nL A Q k n (pc + 1) vs (.long v :: st) σ) : G X E nL A Q k n pc vs st σ :=
  fun H locs ls hW hA hS hL => lv_lconst h.1 h.2.1 hd hv (kk H locs ls hW hA hS hL)
theorem g_ldc (h : OK X E cc own nL R) {i : Nat} (v : Int32) (hw : lwI (.constant own i v)) (hd : decode cc pc = .ok (.ldc i, 2)) (kk : G X E nL A Q k n (pc + 2) vs (.int v :: st) σ) : G X E nL A Q k n pc vs st σ :=
  fun H locs ls hW hA hS hL => lv_ldc h.1 h.2.1 h.2.2.2.1 (h.word hw) hd (kk H locs ls hW hA hS hL)
theorem g_ldcw (h : OK X E cc own nL R) {i : Nat} (v : Int32) (hw : lwI (.constant own i v)) (hd : decode cc pc = .ok (.ldc_w i, 3)) (kk : G X E nL A Q k n (pc + 3) vs (.int v :: st) σ) : G X E nL A Q k n pc vs st σ :=
  fun H locs ls hW hA hS hL => lv_ldcw h.1 h.2.1 h.2.2.2.1 (h.word hw) hd (kk H locs ls hW hA hS hL)
theorem g_ldc2 (h : OK X E cc own nL R) {i : Nat} (v : Int64) (hw : lwI (.constantLong own i v)) (hd : decode cc pc = .ok (.ldc2_w i, 3)) (kk : G X E nL A Q k n (pc + 3) vs (.long v :: st) σ) : G X E nL A Q k n pc vs st σ :=
  fun H locs ls hW hA hS hL => lv_ldc2 h.1 h.2.1 h.2.2.2.1 (h.word hw) hd (kk H locs ls hW hA hS hL)
theorem g_null (h : OK X E cc own nL R) (hd : decode cc pc = .ok (.aconst_null, 1)) (kk : G X E nL A Q k n (pc + 1) vs (.null :: st) σ) : G X E nL A Q k n pc vs st σ :=
  fun H locs ls hW hA hS hL => lv_null h.1 h.2.1 hd (kk H locs ls hW hA hS hL)
-- locals
theorem g_iload_n (h : OK X E cc own nL R) {j : Fin 4} (i : Nat) {x : Int32} (hd : decode cc pc = .ok (.iload_n j, 1)) (hi : (j : Nat) = i) (hv : lk vs i = some (.int x)) (kk : G X E nL A Q k n (pc + 1) vs (.int x :: st) σ) : G X E nL A Q k n pc vs st σ :=
  fun H locs ls hW hA hS hL => lv_iload_n h.1 h.2.1 hd hi (hL.at hv) (kk H locs ls hW hA hS hL)
theorem g_iload (h : OK X E cc own nL R) {i : Nat} {x : Int32} (hd : decode cc pc = .ok (.iload i, 2)) (hv : lk vs i = some (.int x)) (kk : G X E nL A Q k n (pc + 2) vs (.int x :: st) σ) : G X E nL A Q k n pc vs st σ :=
  fun H locs ls hW hA hS hL => lv_iload h.1 h.2.1 hd (hL.at hv) (kk H locs ls hW hA hS hL)
theorem g_lload_n (h : OK X E cc own nL R) {j : Fin 4} (i : Nat) {x : Int64} (hd : decode cc pc = .ok (.lload_n j, 1)) (hi : (j : Nat) = i) (hv : lk vs i = some (.long x)) (kk : G X E nL A Q k n (pc + 1) vs (.long x :: st) σ) : G X E nL A Q k n pc vs st σ :=
  fun H locs ls hW hA hS hL => lv_lload_n h.1 h.2.1 hd hi (hL.at hv) (kk H locs ls hW hA hS hL)
theorem g_lload (h : OK X E cc own nL R) {i : Nat} {x : Int64} (hd : decode cc pc = .ok (.lload i, 2)) (hv : lk vs i = some (.long x)) (kk : G X E nL A Q k n (pc + 2) vs (.long x :: st) σ) : G X E nL A Q k n pc vs st σ :=
  fun H locs ls hW hA hS hL => lv_lload h.1 h.2.1 hd (hL.at hv) (kk H locs ls hW hA hS hL)
theorem g_aload_n (h : OK X E cc own nL R) {j : Fin 4} (i : Nat) {x : Nat} (hd : decode cc pc = .ok (.aload_n j, 1)) (hi : (j : Nat) = i) (hv : lk vs i = some (.ref x)) (kk : G X E nL A Q k n (pc + 1) vs (.ref x :: st) σ) : G X E nL A Q k n pc vs st σ :=
  fun H locs ls hW hA hS hL => lv_aload_n h.1 h.2.1 hd hi (hL.at hv) (kk H locs ls hW hA hS hL)
theorem g_aload (h : OK X E cc own nL R) {i : Nat} {x : Nat} (hd : decode cc pc = .ok (.aload i, 2)) (hv : lk vs i = some (.ref x)) (kk : G X E nL A Q k n (pc + 2) vs (.ref x :: st) σ) : G X E nL A Q k n pc vs st σ :=
  fun H locs ls hW hA hS hL => lv_aload h.1 h.2.1 hd (hL.at hv) (kk H locs ls hW hA hS hL)
theorem g_aload_nN (h : OK X E cc own nL R) {j : Fin 4} (i : Nat) (hd : decode cc pc = .ok (.aload_n j, 1)) (hi : (j : Nat) = i) (hv : lk vs i = some .null) (kk : G X E nL A Q k n (pc + 1) vs (.null :: st) σ) : G X E nL A Q k n pc vs st σ :=
  fun H locs ls hW hA hS hL => lv_aload_nN h.1 h.2.1 hd hi (hL.at hv) (kk H locs ls hW hA hS hL)
theorem g_aloadN (h : OK X E cc own nL R) {i : Nat} (hd : decode cc pc = .ok (.aload i, 2)) (hv : lk vs i = some .null) (kk : G X E nL A Q k n (pc + 2) vs (.null :: st) σ) : G X E nL A Q k n pc vs st σ :=
  fun H locs ls hW hA hS hL => lv_aloadN h.1 h.2.1 hd (hL.at hv) (kk H locs ls hW hA hS hL)
theorem g_istore_n (h : OK X E cc own nL R) {j : Fin 4} (i : Nat) {x : Int32} (hd : decode cc pc = .ok (.istore_n j, 1)) (hi : (j : Nat) = i) (hn : i < nL) (hno : nol vs i = true) (hvs : vset vs i (some (.int x)) = vs') (kk : G X E nL A Q k n (pc + 1) vs' st σ) : G X E nL A Q k n pc vs (.int x :: st) σ :=
  fun H locs ls hW hA hS hL => lv_istore_n h.1 h.2.1 hd hi hL.has hn rfl (fun ls' h' => kk H locs ls' hW hA hS (hvs ▸ hL.put1 hn hno h'))
theorem g_istore (h : OK X E cc own nL R) {i : Nat} {x : Int32} (hd : decode cc pc = .ok (.istore i, 2)) (hn : i < nL) (hno : nol vs i = true) (hvs : vset vs i (some (.int x)) = vs') (kk : G X E nL A Q k n (pc + 2) vs' st σ) : G X E nL A Q k n pc vs (.int x :: st) σ :=
  fun H locs ls hW hA hS hL => lv_istore h.1 h.2.1 hd hL.has hn rfl (fun ls' h' => kk H locs ls' hW hA hS (hvs ▸ hL.put1 hn hno h'))
theorem g_astore_n (h : OK X E cc own nL R) {j : Fin 4} (i : Nat) {x : Nat} (hd : decode cc pc = .ok (.astore_n j, 1)) (hi : (j : Nat) = i) (hn : i < nL) (hno : nol vs i = true) (hvs : vset vs i (some (.ref x)) = vs') (kk : G X E nL A Q k n (pc + 1) vs' st σ) : G X E nL A Q k n pc vs (.ref x :: st) σ :=
  fun H locs ls hW hA hS hL => lv_astore_n h.1 h.2.1 hd hi hL.has hn rfl (fun ls' h' => kk H locs ls' hW hA hS (hvs ▸ hL.put1 hn hno h'))
theorem g_astore (h : OK X E cc own nL R) {i : Nat} {x : Nat} (hd : decode cc pc = .ok (.astore i, 2)) (hn : i < nL) (hno : nol vs i = true) (hvs : vset vs i (some (.ref x)) = vs') (kk : G X E nL A Q k n (pc + 2) vs' st σ) : G X E nL A Q k n pc vs (.ref x :: st) σ :=
  fun H locs ls hW hA hS hL => lv_astore h.1 h.2.1 hd hL.has hn rfl (fun ls' h' => kk H locs ls' hW hA hS (hvs ▸ hL.put1 hn hno h'))
theorem g_astore_nN (h : OK X E cc own nL R) {j : Fin 4} (i : Nat) (hd : decode cc pc = .ok (.astore_n j, 1)) (hi : (j : Nat) = i) (hn : i < nL) (hno : nol vs i = true) (hvs : vset vs i (some .null) = vs') (kk : G X E nL A Q k n (pc + 1) vs' st σ) : G X E nL A Q k n pc vs (.null :: st) σ :=
  fun H locs ls hW hA hS hL => lv_astore_nN h.1 h.2.1 hd hi hL.has hn rfl (fun ls' h' => kk H locs ls' hW hA hS (hvs ▸ hL.put1 hn hno h'))
theorem g_astoreN (h : OK X E cc own nL R) {i : Nat} (hd : decode cc pc = .ok (.astore i, 2)) (hn : i < nL) (hno : nol vs i = true) (hvs : vset vs i (some .null) = vs') (kk : G X E nL A Q k n (pc + 2) vs' st σ) : G X E nL A Q k n pc vs (.null :: st) σ :=
  fun H locs ls hW hA hS hL => lv_astoreN h.1 h.2.1 hd hL.has hn rfl (fun ls' h' => kk H locs ls' hW hA hS (hvs ▸ hL.put1 hn hno h'))
theorem g_lstore_n (h : OK X E cc own nL R) {j : Fin 4} (i : Nat) {x : Int64} (hd : decode cc pc = .ok (.lstore_n j, 1)) (hi : (j : Nat) = i) (hn : i + 1 < nL) (hno : nol vs i = true) (hvs : vset (vset vs i (some (.long x))) (i + 1) none = vs') (kk : G X E nL A Q k n (pc + 1) vs' st σ) : G X E nL A Q k n pc vs (.long x :: st) σ :=
  fun H locs ls hW hA hS hL => lv_lstore_n h.1 h.2.1 hd hi hL.has hn rfl (fun ls' h' => kk H locs ls' hW hA hS (hvs ▸ hL.put2 hn hno h'))
theorem g_lstore (h : OK X E cc own nL R) {i : Nat} {x : Int64} (hd : decode cc pc = .ok (.lstore i, 2)) (hn : i + 1 < nL) (hno : nol vs i = true) (hvs : vset (vset vs i (some (.long x))) (i + 1) none = vs') (kk : G X E nL A Q k n (pc + 2) vs' st σ) : G X E nL A Q k n pc vs (.long x :: st) σ :=
  fun H locs ls hW hA hS hL => lv_lstore h.1 h.2.1 hd hL.has hn rfl (fun ls' h' => kk H locs ls' hW hA hS (hvs ▸ hL.put2 hn hno h'))
theorem g_iinc (h : OK X E cc own nL R) {i : Nat} {d : Int} {x : Int32} (v : Int32) (hd : decode cc pc = .ok (.iinc i d, 3)) (hx : lk vs i = some (.int x)) (hv : x + Int32.ofInt d = v) (hn : i < nL) (hno : nol vs i = true) (hvs : vset vs i (some (.int v)) = vs') (kk : G X E nL A Q k n (pc + 3) vs' st σ) : G X E nL A Q k n pc vs st σ := by
  intro H locs ls hW hA hS hL
  obtain ⟨j, hj⟩ := List.getElem?_of_mem ((mem_lvl (vs := vs) (q := (i, .int x))).mpr hx)
  exact lv_iinc h.1 h.2.1 hd hL.has hj hv hn rfl (fun ls' h' => kk H locs ls' hW hA hS (hvs ▸ hL.put1 hn hno h'))
-- arithmetic
theorem g_iadd (h : OK X E cc own nL R) {x y : Int32} (hd : decode cc pc = .ok (.iadd, 1)) (kk : G X E nL A Q k n (pc + 1) vs (.int (x + y) :: st) σ) : G X E nL A Q k n pc vs (.int y :: .int x :: st) σ :=
  fun H locs ls hW hA hS hL => lv_iadd h.1 h.2.1 hd (kk H locs ls hW hA hS hL)
theorem g_iaddN (h : OK X E cc own nL R) {x y : Nat} (hd : decode cc pc = .ok (.iadd, 1)) (kk : G X E nL A Q k n (pc + 1) vs (.int (nI (x + y)) :: st) σ) : G X E nL A Q k n pc vs (.int (nI y) :: .int (nI x) :: st) σ :=
  g_iadd h hd (g_top (nI_add x y) kk)
theorem g_isub (h : OK X E cc own nL R) {x y : Int32} (hd : decode cc pc = .ok (.isub, 1)) (kk : G X E nL A Q k n (pc + 1) vs (.int (x - y) :: st) σ) : G X E nL A Q k n pc vs (.int y :: .int x :: st) σ :=
  fun H locs ls hW hA hS hL => lv_isub h.1 h.2.1 hd (kk H locs ls hW hA hS hL)
theorem g_imul (h : OK X E cc own nL R) {x y : Int32} (hd : decode cc pc = .ok (.imul, 1)) (kk : G X E nL A Q k n (pc + 1) vs (.int (x * y) :: st) σ) : G X E nL A Q k n pc vs (.int y :: .int x :: st) σ :=
  fun H locs ls hW hA hS hL => lv_imul h.1 h.2.1 hd (kk H locs ls hW hA hS hL)
theorem nI_mulN (a b : Nat) : nI a * nI b = nI (a * b) := by
  unfold nI
  exact (Int32.ofNat_mul a b).symm
theorem nI_subN {a b : Nat} (h : b ≤ a) : nI a - nI b = nI (a - b) := by
  have e := nI_add (a - b) b
  rw [Nat.sub_add_cancel h] at e
  rw [← e, Int32.add_sub_cancel]
theorem g_isubN (h : OK X E cc own nL R) {x y : Nat} (hd : decode cc pc = .ok (.isub, 1)) (hxy : y ≤ x) (kk : G X E nL A Q k n (pc + 1) vs (.int (nI (x - y)) :: st) σ) : G X E nL A Q k n pc vs (.int (nI y) :: .int (nI x) :: st) σ :=
  g_isub h hd (g_top (nI_subN hxy) kk)
theorem g_imulN (h : OK X E cc own nL R) {x y : Nat} (hd : decode cc pc = .ok (.imul, 1)) (kk : G X E nL A Q k n (pc + 1) vs (.int (nI (x * y)) :: st) σ) : G X E nL A Q k n pc vs (.int (nI y) :: .int (nI x) :: st) σ :=
  g_imul h hd (g_top (nI_mulN x y) kk)
theorem g_iand (h : OK X E cc own nL R) {x y : Int32} (hd : decode cc pc = .ok (.iand, 1)) (kk : G X E nL A Q k n (pc + 1) vs (.int (x &&& y) :: st) σ) : G X E nL A Q k n pc vs (.int y :: .int x :: st) σ :=
  fun H locs ls hW hA hS hL => lv_iand h.1 h.2.1 hd (kk H locs ls hW hA hS hL)
theorem g_ior (h : OK X E cc own nL R) {x y : Int32} (hd : decode cc pc = .ok (.ior, 1)) (kk : G X E nL A Q k n (pc + 1) vs (.int (x ||| y) :: st) σ) : G X E nL A Q k n pc vs (.int y :: .int x :: st) σ :=
  fun H locs ls hW hA hS hL => lv_ior h.1 h.2.1 hd (kk H locs ls hW hA hS hL)
theorem g_ixor (h : OK X E cc own nL R) {x y : Int32} (hd : decode cc pc = .ok (.ixor, 1)) (kk : G X E nL A Q k n (pc + 1) vs (.int (x ^^^ y) :: st) σ) : G X E nL A Q k n pc vs (.int y :: .int x :: st) σ :=
  fun H locs ls hW hA hS hL => lv_ixor h.1 h.2.1 hd (kk H locs ls hW hA hS hL)
theorem g_ishl (h : OK X E cc own nL R) {x y : Int32} (hd : decode cc pc = .ok (.ishl, 1)) (kk : G X E nL A Q k n (pc + 1) vs (.int (x <<< (y &&& 31)) :: st) σ) : G X E nL A Q k n pc vs (.int y :: .int x :: st) σ :=
  fun H locs ls hW hA hS hL => lv_ishl h.1 h.2.1 hd (kk H locs ls hW hA hS hL)
theorem g_ishr (h : OK X E cc own nL R) {x y : Int32} (hd : decode cc pc = .ok (.ishr, 1)) (kk : G X E nL A Q k n (pc + 1) vs (.int (x >>> (y &&& 31)) :: st) σ) : G X E nL A Q k n pc vs (.int y :: .int x :: st) σ :=
  fun H locs ls hW hA hS hL => lv_ishr h.1 h.2.1 hd (kk H locs ls hW hA hS hL)
theorem g_iushr (h : OK X E cc own nL R) {x y : Int32} (hd : decode cc pc = .ok (.iushr, 1)) (kk : G X E nL A Q k n (pc + 1) vs (.int ((x.toUInt32 >>> (y.toUInt32 &&& Int32.toUInt32 31)).toInt32) :: st) σ) : G X E nL A Q k n pc vs (.int y :: .int x :: st) σ :=
  fun H locs ls hW hA hS hL => lv_iushr h.1 h.2.1 hd rfl (kk H locs ls hW hA hS hL)
theorem g_ladd (h : OK X E cc own nL R) {x y : Int64} (hd : decode cc pc = .ok (.ladd, 1)) (kk : G X E nL A Q k n (pc + 1) vs (.long (x + y) :: st) σ) : G X E nL A Q k n pc vs (.long y :: .long x :: st) σ :=
  fun H locs ls hW hA hS hL => lv_ladd h.1 h.2.1 hd (kk H locs ls hW hA hS hL)
theorem g_lmul (h : OK X E cc own nL R) {x y : Int64} (hd : decode cc pc = .ok (.lmul, 1)) (kk : G X E nL A Q k n (pc + 1) vs (.long (x * y) :: st) σ) : G X E nL A Q k n pc vs (.long y :: .long x :: st) σ :=
  fun H locs ls hW hA hS hL => lv_lmul h.1 h.2.1 hd (kk H locs ls hW hA hS hL)
theorem g_land (h : OK X E cc own nL R) {x y : Int64} (hd : decode cc pc = .ok (.land, 1)) (kk : G X E nL A Q k n (pc + 1) vs (.long (x &&& y) :: st) σ) : G X E nL A Q k n pc vs (.long y :: .long x :: st) σ :=
  fun H locs ls hW hA hS hL => lv_land h.1 h.2.1 hd (kk H locs ls hW hA hS hL)
theorem g_lor (h : OK X E cc own nL R) {x y : Int64} (hd : decode cc pc = .ok (.lor, 1)) (kk : G X E nL A Q k n (pc + 1) vs (.long (x ||| y) :: st) σ) : G X E nL A Q k n pc vs (.long y :: .long x :: st) σ :=
  fun H locs ls hW hA hS hL => lv_lor h.1 h.2.1 hd (kk H locs ls hW hA hS hL)
theorem g_lshl (h : OK X E cc own nL R) {x : Int64} {y : Int32} (hd : decode cc pc = .ok (.lshl, 1)) (kk : G X E nL A Q k n (pc + 1) vs (.long (x <<< (y.toInt64 &&& 63)) :: st) σ) : G X E nL A Q k n pc vs (.int y :: .long x :: st) σ :=
  fun H locs ls hW hA hS hL => lv_lshl h.1 h.2.1 hd rfl (kk H locs ls hW hA hS hL)
theorem g_lshr (h : OK X E cc own nL R) {x : Int64} {y : Int32} (hd : decode cc pc = .ok (.lshr, 1)) (kk : G X E nL A Q k n (pc + 1) vs (.long (x >>> (y.toInt64 &&& 63)) :: st) σ) : G X E nL A Q k n pc vs (.int y :: .long x :: st) σ :=
  fun H locs ls hW hA hS hL => lv_lshr h.1 h.2.1 hd rfl (kk H locs ls hW hA hS hL)
theorem g_i2l (h : OK X E cc own nL R) {x : Int32} (hd : decode cc pc = .ok (.i2l, 1)) (kk : G X E nL A Q k n (pc + 1) vs (.long x.toInt64 :: st) σ) : G X E nL A Q k n pc vs (.int x :: st) σ :=
  fun H locs ls hW hA hS hL => lv_i2l h.1 h.2.1 hd rfl (kk H locs ls hW hA hS hL)
theorem g_lcmp (h : OK X E cc own nL R) {x y : Int64} (v : Int32) (hd : decode cc pc = .ok (.lcmp, 1)) (hv : (if y < x then 1 else if x = y then 0 else -1) = v) (kk : G X E nL A Q k n (pc + 1) vs (.int v :: st) σ) : G X E nL A Q k n pc vs (.long y :: .long x :: st) σ := by
  subst hv
  exact fun H locs ls hW hA hS hL => W.lcmp h.1 h.2.1 hd (kk H locs ls hW hA hS hL)
theorem g_dup (h : OK X E cc own nL R) {v : Value} (hd : decode cc pc = .ok (.dup, 1)) (hc : v.category = 1) (kk : G X E nL A Q k n (pc + 1) vs (v :: v :: st) σ) : G X E nL A Q k n pc vs (v :: st) σ :=
  fun H locs ls hW hA hS hL => lv_dup h.1 h.2.1 hd hc (kk H locs ls hW hA hS hL)
theorem g_dup2 (h : OK X E cc own nL R) {v w : Value} (hd : decode cc pc = .ok (.dup2, 1)) (hc : v.category = 1) (hc2 : w.category = 1) (kk : G X E nL A Q k n (pc + 1) vs (v :: w :: v :: w :: st) σ) : G X E nL A Q k n pc vs (v :: w :: st) σ :=
  fun H locs ls hW hA hS hL => lv_dup2_11 h.1 h.2.1 hd hc hc2 (kk H locs ls hW hA hS hL)
-- jumps
theorem g_goto (h : OK X E cc own nL R) {off : Int} (tgt : Nat) (hd : decode cc pc = .ok (.goto off, 3)) (ht : (pc : Int) + off = (tgt : Int)) (kk : G X E nL A Q k n tgt vs st σ) : G X E nL A Q k n pc vs st σ :=
  fun H locs ls hW hA hS hL => lv_goto h.1 h.2.1 hd ht (kk H locs ls hW hA hS hL)
theorem g_if_eq (h : OK X E cc own nL R) {x : Int32} {off : Int} (tgt : Nat) (hd : decode cc pc = .ok (.ifCond .eq off, 3)) (ht : (pc : Int) + off = (tgt : Int)) (kt : x = 0 → G X E nL A Q k n tgt vs st σ) (kf : ¬ x = 0 → G X E nL A Q k n (pc + 3) vs st σ) : G X E nL A Q k n pc vs (.int x :: st) σ :=
  fun H locs ls hW hA hS hL => lv_if_eq h.1 h.2.1 hd ht (fun c => kt c H locs ls hW hA hS hL) (fun c => kf c H locs ls hW hA hS hL)
theorem g_if_ne (h : OK X E cc own nL R) {x : Int32} {off : Int} (tgt : Nat) (hd : decode cc pc = .ok (.ifCond .ne off, 3)) (ht : (pc : Int) + off = (tgt : Int)) (kt : ¬ x = 0 → G X E nL A Q k n tgt vs st σ) (kf : x = 0 → G X E nL A Q k n (pc + 3) vs st σ) : G X E nL A Q k n pc vs (.int x :: st) σ :=
  fun H locs ls hW hA hS hL => lv_if_ne h.1 h.2.1 hd ht (fun c => kt c H locs ls hW hA hS hL) (fun c => kf c H locs ls hW hA hS hL)
theorem g_if_lt (h : OK X E cc own nL R) {x : Int32} {off : Int} (tgt : Nat) (hd : decode cc pc = .ok (.ifCond .lt off, 3)) (ht : (pc : Int) + off = (tgt : Int)) (kt : x < 0 → G X E nL A Q k n tgt vs st σ) (kf : ¬ x < 0 → G X E nL A Q k n (pc + 3) vs st σ) : G X E nL A Q k n pc vs (.int x :: st) σ :=
  fun H locs ls hW hA hS hL => lv_if_lt h.1 h.2.1 hd ht (fun c => kt c H locs ls hW hA hS hL) (fun c => kf c H locs ls hW hA hS hL)
theorem g_if_ge (h : OK X E cc own nL R) {x : Int32} {off : Int} (tgt : Nat) (hd : decode cc pc = .ok (.ifCond .ge off, 3)) (ht : (pc : Int) + off = (tgt : Int)) (kt : x ≥ 0 → G X E nL A Q k n tgt vs st σ) (kf : ¬ x ≥ 0 → G X E nL A Q k n (pc + 3) vs st σ) : G X E nL A Q k n pc vs (.int x :: st) σ :=
  fun H locs ls hW hA hS hL => lv_if_ge h.1 h.2.1 hd ht (fun c => kt c H locs ls hW hA hS hL) (fun c => kf c H locs ls hW hA hS hL)
theorem g_if_le (h : OK X E cc own nL R) {x : Int32} {off : Int} (tgt : Nat) (hd : decode cc pc = .ok (.ifCond .le off, 3)) (ht : (pc : Int) + off = (tgt : Int)) (kt : x ≤ 0 → G X E nL A Q k n tgt vs st σ) (kf : ¬ x ≤ 0 → G X E nL A Q k n (pc + 3) vs st σ) : G X E nL A Q k n pc vs (.int x :: st) σ :=
  fun H locs ls hW hA hS hL => lv_if_le h.1 h.2.1 hd ht (fun c => kt c H locs ls hW hA hS hL) (fun c => kf c H locs ls hW hA hS hL)
theorem g_if_gt (h : OK X E cc own nL R) {x : Int32} {off : Int} (tgt : Nat) (hd : decode cc pc = .ok (.ifCond .gt off, 3)) (ht : (pc : Int) + off = (tgt : Int)) (kt : x > 0 → G X E nL A Q k n tgt vs st σ) (kf : ¬ x > 0 → G X E nL A Q k n (pc + 3) vs st σ) : G X E nL A Q k n pc vs (.int x :: st) σ :=
  fun H locs ls hW hA hS hL => lv_if_gt h.1 h.2.1 hd ht (fun c => kt c H locs ls hW hA hS hL) (fun c => kf c H locs ls hW hA hS hL)
theorem g_icmp_eq (h : OK X E cc own nL R) {x y : Int32} {off : Int} (tgt : Nat) (hd : decode cc pc = .ok (.if_icmp .eq off, 3)) (ht : (pc : Int) + off = (tgt : Int)) (kt : x = y → G X E nL A Q k n tgt vs st σ) (kf : ¬ x = y → G X E nL A Q k n (pc + 3) vs st σ) : G X E nL A Q k n pc vs (.int y :: .int x :: st) σ :=
  fun H locs ls hW hA hS hL => lv_icmp_eq h.1 h.2.1 hd ht (fun c => kt c H locs ls hW hA hS hL) (fun c => kf c H locs ls hW hA hS hL)
theorem g_icmp_ne (h : OK X E cc own nL R) {x y : Int32} {off : Int} (tgt : Nat) (hd : decode cc pc = .ok (.if_icmp .ne off, 3)) (ht : (pc : Int) + off = (tgt : Int)) (kt : ¬ x = y → G X E nL A Q k n tgt vs st σ) (kf : x = y → G X E nL A Q k n (pc + 3) vs st σ) : G X E nL A Q k n pc vs (.int y :: .int x :: st) σ :=
  fun H locs ls hW hA hS hL => lv_icmp_ne h.1 h.2.1 hd ht (fun c => kt c H locs ls hW hA hS hL) (fun c => kf c H locs ls hW hA hS hL)
theorem g_icmp_lt (h : OK X E cc own nL R) {x y : Int32} {off : Int} (tgt : Nat) (hd : decode cc pc = .ok (.if_icmp .lt off, 3)) (ht : (pc : Int) + off = (tgt : Int)) (kt : x < y → G X E nL A Q k n tgt vs st σ) (kf : ¬ x < y → G X E nL A Q k n (pc + 3) vs st σ) : G X E nL A Q k n pc vs (.int y :: .int x :: st) σ :=
  fun H locs ls hW hA hS hL => lv_icmp_lt h.1 h.2.1 hd ht (fun c => kt c H locs ls hW hA hS hL) (fun c => kf c H locs ls hW hA hS hL)
theorem g_icmp_ge (h : OK X E cc own nL R) {x y : Int32} {off : Int} (tgt : Nat) (hd : decode cc pc = .ok (.if_icmp .ge off, 3)) (ht : (pc : Int) + off = (tgt : Int)) (kt : x ≥ y → G X E nL A Q k n tgt vs st σ) (kf : ¬ x ≥ y → G X E nL A Q k n (pc + 3) vs st σ) : G X E nL A Q k n pc vs (.int y :: .int x :: st) σ :=
  fun H locs ls hW hA hS hL => lv_icmp_ge h.1 h.2.1 hd ht (fun c => kt c H locs ls hW hA hS hL) (fun c => kf c H locs ls hW hA hS hL)
theorem g_icmp_gt (h : OK X E cc own nL R) {x y : Int32} {off : Int} (tgt : Nat) (hd : decode cc pc = .ok (.if_icmp .gt off, 3)) (ht : (pc : Int) + off = (tgt : Int)) (kt : x > y → G X E nL A Q k n tgt vs st σ) (kf : ¬ x > y → G X E nL A Q k n (pc + 3) vs st σ) : G X E nL A Q k n pc vs (.int y :: .int x :: st) σ :=
  fun H locs ls hW hA hS hL => lv_icmp_gt h.1 h.2.1 hd ht (fun c => kt c H locs ls hW hA hS hL) (fun c => kf c H locs ls hW hA hS hL)
theorem g_icmp_le (h : OK X E cc own nL R) {x y : Int32} {off : Int} (tgt : Nat) (hd : decode cc pc = .ok (.if_icmp .le off, 3)) (ht : (pc : Int) + off = (tgt : Int)) (kt : x ≤ y → G X E nL A Q k n tgt vs st σ) (kf : ¬ x ≤ y → G X E nL A Q k n (pc + 3) vs st σ) : G X E nL A Q k n pc vs (.int y :: .int x :: st) σ :=
  fun H locs ls hW hA hS hL => lv_icmp_le h.1 h.2.1 hd ht (fun c => kt c H locs ls hW hA hS hL) (fun c => kf c H locs ls hW hA hS hL)
theorem g_ifnull (h : OK X E cc own nL R) {x : Nat} {off : Int} (hd : decode cc pc = .ok (.ifnull off, 3)) (kk : G X E nL A Q k n (pc + 3) vs st σ) : G X E nL A Q k n pc vs (.ref x :: st) σ :=
  fun H locs ls hW hA hS hL => lv_ifnull h.1 h.2.1 hd (kk H locs ls hW hA hS hL)
theorem g_ifnullN (h : OK X E cc own nL R) {off : Int} (tgt : Nat) (hd : decode cc pc = .ok (.ifnull off, 3)) (ht : (pc : Int) + off = (tgt : Int)) (kk : G X E nL A Q k n tgt vs st σ) : G X E nL A Q k n pc vs (.null :: st) σ :=
  fun H locs ls hW hA hS hL => lv_ifnullN h.1 h.2.1 hd ht (kk H locs ls hW hA hS hL)
theorem g_ifnonnull (h : OK X E cc own nL R) {x : Nat} {off : Int} (tgt : Nat) (hd : decode cc pc = .ok (.ifnonnull off, 3)) (ht : (pc : Int) + off = (tgt : Int)) (kk : G X E nL A Q k n tgt vs st σ) : G X E nL A Q k n pc vs (.ref x :: st) σ :=
  fun H locs ls hW hA hS hL => lv_ifnonnull h.1 h.2.1 hd ht (kk H locs ls hW hA hS hL)
theorem g_ifnonnullN (h : OK X E cc own nL R) {off : Int} (hd : decode cc pc = .ok (.ifnonnull off, 3)) (kk : G X E nL A Q k n (pc + 3) vs st σ) : G X E nL A Q k n pc vs (.null :: st) σ :=
  fun H locs ls hW hA hS hL => lv_ifnonnullN h.1 h.2.1 hd (kk H locs ls hW hA hS hL)
theorem g_tabOut (h : OK X E cc own nL R) {dflt lo hi : Int} {offs : Array Int} {len : Nat} {x : Int32} (tgt : Nat) (hd : decode cc pc = .ok (.tableswitch dflt lo hi offs, len)) (hx : x.toInt < lo ∨ hi < x.toInt) (ht : (pc : Int) + dflt = (tgt : Int)) (kk : G X E nL A Q k n tgt vs st σ) : G X E nL A Q k n pc vs (.int x :: st) σ :=
  fun H locs ls hW hA hS hL => lv_tableOut h.1 h.2.1 hd hx ht (kk H locs ls hW hA hS hL)
theorem g_tabIn (h : OK X E cc own nL R) {dflt lo hi : Int} {offs : Array Int} {len : Nat} {x : Int32} {off : Int} (tgt : Nat) (hd : decode cc pc = .ok (.tableswitch dflt lo hi offs, len)) (h1 : ¬ x.toInt < lo) (h2 : ¬ hi < x.toInt) (ho : offs[(x.toInt - lo).toNat]? = some off) (ht : (pc : Int) + off = (tgt : Int)) (kk : G X E nL A Q k n tgt vs st σ) : G X E nL A Q k n pc vs (.int x :: st) σ :=
  fun H locs ls hW hA hS hL => lv_tableIn h.1 h.2.1 hd h1 h2 ho ht (kk H locs ls hW hA hS hL)
-- jumps over numbers
theorem g_icmp_ltN (h : OK X E cc own nL R) {x y : Nat} {off : Int} (tgt : Nat) (hd : decode cc pc = .ok (.if_icmp .lt off, 3)) (ht : (pc : Int) + off = (tgt : Int)) (hx : x < 2147483648) (hy : y < 2147483648) (kt : x < y → G X E nL A Q k n tgt vs st σ) (kf : y ≤ x → G X E nL A Q k n (pc + 3) vs st σ) : G X E nL A Q k n pc vs (.int (nI y) :: .int (nI x) :: st) σ :=
  g_icmp_lt h tgt hd ht (fun c => kt ((nI_ltI hx hy).mp c)) (fun c => kf (Nat.not_lt.mp fun q => c ((nI_ltI hx hy).mpr q)))
theorem g_icmp_geN (h : OK X E cc own nL R) {x y : Nat} {off : Int} (tgt : Nat) (hd : decode cc pc = .ok (.if_icmp .ge off, 3)) (ht : (pc : Int) + off = (tgt : Int)) (hx : x < 2147483648) (hy : y < 2147483648) (kt : y ≤ x → G X E nL A Q k n tgt vs st σ) (kf : x < y → G X E nL A Q k n (pc + 3) vs st σ) : G X E nL A Q k n pc vs (.int (nI y) :: .int (nI x) :: st) σ :=
  g_icmp_ge h tgt hd ht (fun c => kt ((nI_leI hy hx).mp c)) (fun c => kf (Nat.not_le.mp fun q => c ((nI_leI hy hx).mpr q)))
theorem g_icmp_gtN (h : OK X E cc own nL R) {x y : Nat} {off : Int} (tgt : Nat) (hd : decode cc pc = .ok (.if_icmp .gt off, 3)) (ht : (pc : Int) + off = (tgt : Int)) (hx : x < 2147483648) (hy : y < 2147483648) (kt : y < x → G X E nL A Q k n tgt vs st σ) (kf : x ≤ y → G X E nL A Q k n (pc + 3) vs st σ) : G X E nL A Q k n pc vs (.int (nI y) :: .int (nI x) :: st) σ :=
  g_icmp_gt h tgt hd ht (fun c => kt ((nI_ltI hy hx).mp c)) (fun c => kf (Nat.not_lt.mp fun q => c ((nI_ltI hy hx).mpr q)))
theorem g_icmp_leN (h : OK X E cc own nL R) {x y : Nat} {off : Int} (tgt : Nat) (hd : decode cc pc = .ok (.if_icmp .le off, 3)) (ht : (pc : Int) + off = (tgt : Int)) (hx : x < 2147483648) (hy : y < 2147483648) (kt : x ≤ y → G X E nL A Q k n tgt vs st σ) (kf : y < x → G X E nL A Q k n (pc + 3) vs st σ) : G X E nL A Q k n pc vs (.int (nI y) :: .int (nI x) :: st) σ :=
  g_icmp_le h tgt hd ht (fun c => kt ((nI_leI hx hy).mp c)) (fun c => kf (Nat.not_le.mp fun q => c ((nI_leI hx hy).mpr q)))
theorem g_icmp_eqN (h : OK X E cc own nL R) {x y : Nat} {off : Int} (tgt : Nat) (hd : decode cc pc = .ok (.if_icmp .eq off, 3)) (ht : (pc : Int) + off = (tgt : Int)) (hx : x < 2147483648) (hy : y < 2147483648) (kt : x = y → G X E nL A Q k n tgt vs st σ) (kf : x ≠ y → G X E nL A Q k n (pc + 3) vs st σ) : G X E nL A Q k n pc vs (.int (nI y) :: .int (nI x) :: st) σ :=
  g_icmp_eq h tgt hd ht (fun c => kt ((nI_eq hx hy).mp c)) (fun c => kf (fun q => c ((nI_eq hx hy).mpr q)))
theorem g_icmp_neN (h : OK X E cc own nL R) {x y : Nat} {off : Int} (tgt : Nat) (hd : decode cc pc = .ok (.if_icmp .ne off, 3)) (ht : (pc : Int) + off = (tgt : Int)) (hx : x < 2147483648) (hy : y < 2147483648) (kt : x ≠ y → G X E nL A Q k n tgt vs st σ) (kf : x = y → G X E nL A Q k n (pc + 3) vs st σ) : G X E nL A Q k n pc vs (.int (nI y) :: .int (nI x) :: st) σ :=
  g_icmp_ne h tgt hd ht (fun c => kt (fun q => c ((nI_eq hx hy).mpr q))) (fun c => kf ((nI_eq hx hy).mp c))
theorem g_if_ltN (h : OK X E cc own nL R) {x : Nat} {off : Int} (tgt : Nat) (hd : decode cc pc = .ok (.ifCond .lt off, 3)) (ht : (pc : Int) + off = (tgt : Int)) (hx : x < 2147483648) (kf : G X E nL A Q k n (pc + 3) vs st σ) : G X E nL A Q k n pc vs (.int (nI x) :: st) σ :=
  g_if_lt h tgt hd ht (fun c => absurd c (nI_pos hx)) (fun _ => kf)
theorem g_if_geN (h : OK X E cc own nL R) {x : Nat} {off : Int} (tgt : Nat) (hd : decode cc pc = .ok (.ifCond .ge off, 3)) (ht : (pc : Int) + off = (tgt : Int)) (hx : x < 2147483648) (kt : G X E nL A Q k n tgt vs st σ) : G X E nL A Q k n pc vs (.int (nI x) :: st) σ :=
  g_if_ge h tgt hd ht (fun _ => kt) (fun c => absurd (nI_pos' hx) c)
theorem g_if_eqN (h : OK X E cc own nL R) {x : Nat} {off : Int} (tgt : Nat) (hd : decode cc pc = .ok (.ifCond .eq off, 3)) (ht : (pc : Int) + off = (tgt : Int)) (hx : x < 2147483648) (kt : x = 0 → G X E nL A Q k n tgt vs st σ) (kf : 0 < x → G X E nL A Q k n (pc + 3) vs st σ) : G X E nL A Q k n pc vs (.int (nI x) :: st) σ :=
  g_if_eq h tgt hd ht (fun c => kt ((nI_eq hx (by decide)).mp (c.trans nI_0.symm))) (fun c => kf (Nat.pos_of_ne_zero fun q => c (by rw [q]; exact nI_0)))
theorem g_if_neN (h : OK X E cc own nL R) {x : Nat} {off : Int} (tgt : Nat) (hd : decode cc pc = .ok (.ifCond .ne off, 3)) (ht : (pc : Int) + off = (tgt : Int)) (hx : x < 2147483648) (kt : 0 < x → G X E nL A Q k n tgt vs st σ) (kf : x = 0 → G X E nL A Q k n (pc + 3) vs st σ) : G X E nL A Q k n pc vs (.int (nI x) :: st) σ :=
  g_if_ne h tgt hd ht (fun c => kt (Nat.pos_of_ne_zero fun q => c (by rw [q]; exact nI_0))) (fun c => kf ((nI_eq hx (by decide)).mp (c.trans nI_0.symm)))
theorem g_if_leN (h : OK X E cc own nL R) {x : Nat} {off : Int} (tgt : Nat) (hd : decode cc pc = .ok (.ifCond .le off, 3)) (ht : (pc : Int) + off = (tgt : Int)) (hx : x < 2147483648) (kt : x = 0 → G X E nL A Q k n tgt vs st σ) (kf : 0 < x → G X E nL A Q k n (pc + 3) vs st σ) : G X E nL A Q k n pc vs (.int (nI x) :: st) σ :=
  g_if_le h tgt hd ht (fun c => kt (by
    rcases Nat.eq_zero_or_pos x with q | q
    · exact q
    · exact absurd c (nI_nle q hx))) (fun c => kf (Nat.pos_of_ne_zero fun q => c (by rw [q]; decide)))
theorem g_if_gtN (h : OK X E cc own nL R) {x : Nat} {off : Int} (tgt : Nat) (hd : decode cc pc = .ok (.ifCond .gt off, 3)) (ht : (pc : Int) + off = (tgt : Int)) (hx : x < 2147483648) (kt : 0 < x → G X E nL A Q k n tgt vs st σ) (kf : x = 0 → G X E nL A Q k n (pc + 3) vs st σ) : G X E nL A Q k n pc vs (.int (nI x) :: st) σ :=
  g_if_gt h tgt hd ht (fun c => kt (Nat.pos_of_ne_zero fun q => by rw [q] at c; exact absurd c (by decide))) (fun c => kf (by
    rcases Nat.eq_zero_or_pos x with q | q
    · exact q
    · exact absurd (Int32.not_le.mp (nI_nle q hx)) c))
end GR
