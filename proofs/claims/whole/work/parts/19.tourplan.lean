/-! tours through sets of towns (own work; walks by program) -/
def pop (v : Nat) : Nat := (v.testBit 0).toNat + (v.testBit 1).toNat + (v.testBit 2).toNat + (v.testBit 3).toNat + (v.testBit 4).toNat + (v.testBit 5).toNat + (v.testBit 6).toNat + (v.testBit 7).toNat
/-- v is within w -/
def sbs (v w : Nat) : Prop := ∀ i, v.testBit i = true → w.testBit i = true
theorem pop_or : ∀ v, v < 256 → ∀ t, t < 8 → v.testBit t = false → pop (v ||| 2 ^ t) = pop v + 1 ∧ v ||| 2 ^ t < 256 ∧ v < v ||| 2 ^ t ∧ pop v ≤ 7 := by decide +kernel
theorem pop_rm : ∀ v, v < 256 → ∀ t, t < 8 → v.testBit t = true → pop (v ^^^ 2 ^ t) + 1 = pop v ∧ v ^^^ 2 ^ t < 256 ∧ v ^^^ 2 ^ t < v := by decide +kernel
theorem pop_le : ∀ v, v < 256 → pop v ≤ 8 := by decide +kernel
theorem pop_0 : ∀ v, v < 256 → (pop v = 0 ↔ v = 0) := by decide +kernel
theorem any_bit : ∀ v, v < 256 → v ≠ 0 → ∃ t, t < 8 ∧ v.testBit t = true := by decide +kernel
theorem pop_xor {a b : Nat} (h : sbs b a) : pop (a ^^^ b) + pop b = pop a := by
  have key : ∀ i, ((a ^^^ b).testBit i).toNat + (b.testBit i).toNat = (a.testBit i).toNat := by
    intro i
    have := h i
    rw [Nat.testBit_xor]
    cases ha : a.testBit i <;> cases hb : b.testBit i <;> simp_all
  unfold pop
  have := key 0; have := key 1; have := key 2; have := key 3; have := key 4; have := key 5; have := key 6; have := key 7
  omega
theorem xor_sub {a b t : Nat} (h : sbs b a) (ht : (a ^^^ b).testBit t = true) : b.testBit t = false ∧ sbs (b ||| 2 ^ t) a ∧ a ^^^ (b ||| 2 ^ t) = (a ^^^ b) ^^^ 2 ^ t := by
  rw [Nat.testBit_xor] at ht
  have hb : b.testBit t = false := by
    have := h t
    cases ha : a.testBit t <;> cases hb : b.testBit t <;> simp_all
  have ha : a.testBit t = true := by rw [hb] at ht; simpa using ht
  refine ⟨hb, fun i hi => ?_, Nat.eq_of_testBit_eq fun i => ?_⟩
  · rw [Nat.testBit_or, Nat.testBit_two_pow, Bool.or_eq_true] at hi
    rcases hi with q | q
    · exact h i q
    · have : t = i := by simpa using q
      rw [← this]; exact ha
  · simp only [Nat.testBit_xor, Nat.testBit_or, Nat.testBit_two_pow]
    by_cases e : t = i
    · subst e
      simp [hb, ha]
    · simp [e]
theorem sbs_self {a : Nat} : sbs a a := fun _ h => h
theorem sbs_0 {a : Nat} : sbs 0 a := fun i h => by simp at h
theorem sbs_eq {a b : Nat} (h : sbs b a) (e : a ^^^ b = 0) : b = a := by
  apply Nat.eq_of_testBit_eq
  intro i
  have h1 : (a ^^^ b).testBit i = false := by rw [e]; simp
  rw [Nat.testBit_xor] at h1
  have := h i
  cases ha : a.testBit i <;> cases hb : b.testBit i <;> simp_all
theorem xor_lt {a b : Nat} (ha : a < 256) (hb : b < 256) : a ^^^ b < 256 := Nat.xor_lt_two_pow (n := 8) ha hb
/-- the first of the best among the first n -/
def bestT (c : Nat → Nat) (R : Nat) : Nat → Option Nat
  | 0 => none
  | n + 1 => if R.testBit n = true then (match bestT c R n with | none => some n | some b => if c n < c b then some n else some b) else bestT c R n
theorem bestT_in {c : Nat → Nat} {R : Nat} : ∀ {n t}, bestT c R n = some t → t < n ∧ R.testBit t = true
  | 0, t, h => by cases h
  | n + 1, t, h => by
    have ih := @bestT_in c R n
    unfold bestT at h
    by_cases hb : R.testBit n = true
    · rw [if_pos hb] at h
      cases hm : bestT c R n with
      | none =>
        rw [hm] at h
        cases h
        exact ⟨Nat.lt_succ_self _, hb⟩
      | some b =>
        rw [hm] at h
        have h2 := ih hm
        by_cases hc : c n < c b
        · simp only [if_pos hc] at h
          cases h
          exact ⟨Nat.lt_succ_self _, hb⟩
        · simp only [if_neg hc] at h
          cases h
          exact ⟨by omega, h2.2⟩
    · rw [if_neg hb] at h
      have h2 := ih h
      exact ⟨by omega, h2.2⟩
theorem bestT_none {c : Nat → Nat} {R : Nat} : ∀ {n}, bestT c R n = none → ∀ t, t < n → R.testBit t = false
  | 0, _, t, ht => absurd ht (Nat.not_lt_zero _)
  | n + 1, h, t, ht => by
    have ih := @bestT_none c R n
    unfold bestT at h
    by_cases hb : R.testBit n = true
    · rw [if_pos hb] at h
      exfalso
      cases hm : bestT c R n with
      | none => rw [hm] at h; cases h
      | some b =>
        rw [hm] at h
        by_cases hc : c n < c b
        · simp only [if_pos hc] at h; cases h
        · simp only [if_neg hc] at h; cases h
    · rw [if_neg hb] at h
      rcases Nat.lt_or_ge t n with q | q
      · exact ih h t q
      · rw [show t = n by omega]
        simpa using hb
/-- it is the least, and the first of these -/
theorem bestT_min {c : Nat → Nat} {R : Nat} : ∀ {n t}, bestT c R n = some t → ∀ u, u < n → R.testBit u = true → c t ≤ c u ∧ (u < t → c t < c u)
  | 0, t, h => by cases h
  | n + 1, t, h => by
    have ih := @bestT_min c R n
    have hin := @bestT_in c R n
    intro u hu hub
    unfold bestT at h
    by_cases hb : R.testBit n = true
    · rw [if_pos hb] at h
      cases hm : bestT c R n with
      | none =>
        rw [hm] at h
        cases h
        rcases Nat.lt_or_ge u n with q | q
        · have := bestT_none hm u q
          rw [hub] at this
          cases this
        · have : u = n := by omega
          subst this
          exact ⟨Nat.le_refl _, fun z => absurd z (Nat.lt_irrefl _)⟩
      | some b =>
        rw [hm] at h
        have h2 := hin hm
        by_cases hc : c n < c b
        · simp only [if_pos hc] at h
          cases h
          rcases Nat.lt_or_ge u n with q | q
          · have := ih hm u q hub
            exact ⟨by omega, fun _ => by omega⟩
          · have : u = n := by omega
            subst this
            exact ⟨Nat.le_refl _, fun z => absurd z (Nat.lt_irrefl _)⟩
        · simp only [if_neg hc] at h
          cases h
          rcases Nat.lt_or_ge u n with q | q
          · exact ih hm u q hub
          · have : u = n := by omega
            subst this
            exact ⟨by omega, fun z => by omega⟩
    · rw [if_neg hb] at h
      rcases Nat.lt_or_ge u n with q | q
      · exact ih h u q hub
      · have : u = n := by omega
        subst this
        exact absurd hub hb
theorem bestT_cong {c d : Nat → Nat} {R : Nat} : ∀ {n}, (∀ t, t < n → R.testBit t = true → c t = d t) → bestT c R n = bestT d R n
  | 0, _ => rfl
  | n + 1, h => by
    have ih := @bestT_cong c d R n (fun t ht => h t (by omega))
    unfold bestT
    rw [ih]
    by_cases hb : R.testBit n = true
    · rw [if_pos hb, if_pos hb]
      cases hm : bestT d R n with
      | none => rfl
      | some b =>
        have h2 := bestT_in hm
        simp only
        rw [h n (Nat.lt_succ_self _) hb, h b (by omega) h2.2]
    · rw [if_neg hb, if_neg hb]
/-- the fewest cuts of what remains: f towns of R, all in all; ct by town and stop -/
def Fm (ct : Nat → Nat → Nat) (all : Nat) : Nat → Nat → Nat
  | 0, _ => 0
  | f + 1, R => match bestT (fun t => ct t (all - (f + 1)) + Fm ct all f (R ^^^ 2 ^ t)) R 8 with
    | none => 0
    | some t => ct t (all - (f + 1)) + Fm ct all f (R ^^^ 2 ^ t)
theorem Fm_s {ct : Nat → Nat → Nat} {all f R : Nat} : Fm ct all (f + 1) R = match bestT (fun t => ct t (all - (f + 1)) + Fm ct all f (R ^^^ 2 ^ t)) R 8 with
    | none => 0
    | some t => ct t (all - (f + 1)) + Fm ct all f (R ^^^ 2 ^ t) := rfl
def nxT (ct : Nat → Nat → Nat) (all f R : Nat) : Option Nat := bestT (fun t => ct t (all - f) + Fm ct all (f - 1) (R ^^^ 2 ^ t)) R 8
/-- the order: its k-th town -/
def trT (ct : Nat → Nat → Nat) (all : Nat) : Nat → Nat → Nat → Nat
  | 0, _, _ => 0
  | f + 1, R, k => match k with
    | 0 => (nxT ct all (f + 1) R).getD 0
    | k + 1 => trT ct all f (R ^^^ 2 ^ ((nxT ct all (f + 1) R).getD 0)) k
theorem Fm_le {ct : Nat → Nat → Nat} (h : ∀ t k, ct t k ≤ 40) {all : Nat} : ∀ f R, Fm ct all f R ≤ 40 * f
  | 0, _ => Nat.le_refl 0
  | f + 1, R => by
    unfold Fm
    cases hm : bestT (fun t => ct t (all - (f + 1)) + Fm ct all f (R ^^^ 2 ^ t)) R 8 with
    | none => simp
    | some t =>
      have h1 := h t (all - (f + 1))
      have h2 := Fm_le h (all := all) f (R ^^^ 2 ^ t)
      simp only
      omega
def oN (o : Option Nat) : Int32 := match o with
  | none => -1
  | some t => nI t
def bc1 (i : Int32) : Int32 := i - ((i.toUInt32 >>> ((nI 1).toUInt32 &&& Int32.toUInt32 31)).toInt32 &&& nI 1431655765)
def bc2 (i : Int32) : Int32 := (i &&& nI 858993459) + ((i.toUInt32 >>> ((nI 2).toUInt32 &&& Int32.toUInt32 31)).toInt32 &&& nI 858993459)
def bc3 (i : Int32) : Int32 := (i + (i.toUInt32 >>> ((nI 4).toUInt32 &&& Int32.toUInt32 31)).toInt32) &&& nI 252645135
def bc4 (i : Int32) : Int32 := i + (i.toUInt32 >>> ((nI 8).toUInt32 &&& Int32.toUInt32 31)).toInt32
def bc5 (i : Int32) : Int32 := i + (i.toUInt32 >>> ((nI 16).toUInt32 &&& Int32.toUInt32 31)).toInt32
theorem bitc : ∀ v, v < 256 → bc5 (bc4 (bc3 (bc2 (bc1 (nI v))))) &&& nI 63 = nI (pop v) := by decide +kernel
theorem shl_N : ∀ t, t < 8 → nI 1 <<< (nI t &&& 31) = nI (2 ^ t) := by decide +kernel
theorem bt_N : ∀ R, R < 256 → ∀ t, t < 8 → bt (nI R).toInt64 t = R.testBit t := by decide +kernel
theorem xor_m1 : ∀ v, v < 256 → nI v ^^^ (-1) = Int32.ofInt (-1 - (v : Int)) := by decide +kernel
theorem pow_lt : ∀ t, t < 8 → 2 ^ t < 256 := by decide +kernel
theorem nI_andnot {a b : Nat} (ha : a < 256) (hb : b < 256) (h : sbs b a) : nI a &&& (nI b ^^^ (-1)) = nI (a ^^^ b) := by
  apply Int32.toBitVec_inj.mp
  apply BitVec.eq_of_getLsbD_eq
  intro i hi
  have e : ∀ n : Nat, (nI n).toBitVec = BitVec.ofNat 32 n := fun n => rfl
  have e1 : (-1 : Int32).toBitVec = BitVec.allOnes 32 := by decide
  rw [Int32.toBitVec_and, BitVec.getLsbD_and, Int32.toBitVec_xor, BitVec.getLsbD_xor, e, e, e, e1, BitVec.getLsbD_ofNat, BitVec.getLsbD_ofNat, BitVec.getLsbD_ofNat, BitVec.getLsbD_allOnes, Nat.testBit_xor]
  have := h i
  cases hx : a.testBit i <;> cases hy : b.testBit i <;> simp_all
theorem nI_andnot0 {a b : Nat} (ha : a < 256) (hb : b < 256) : nI b &&& (nI a ^^^ (-1)) = 0 ↔ sbs b a := by
  have e : ∀ n : Nat, (nI n).toBitVec = BitVec.ofNat 32 n := fun n => rfl
  have e1 : (-1 : Int32).toBitVec = BitVec.allOnes 32 := by decide
  have key : ∀ i, i < 32 → (nI b &&& (nI a ^^^ (-1))).toBitVec.getLsbD i = (b.testBit i && !a.testBit i) := by
    intro i hi
    rw [Int32.toBitVec_and, BitVec.getLsbD_and, Int32.toBitVec_xor, BitVec.getLsbD_xor, e, e, e1, BitVec.getLsbD_ofNat, BitVec.getLsbD_ofNat, BitVec.getLsbD_allOnes]
    cases hx : a.testBit i <;> cases hy : b.testBit i <;> simp_all
  constructor
  · intro h i hi
    have hi8 : i < 8 := by
      rcases Nat.lt_or_ge i 8 with q | q
      · exact q
      · rw [Nat.testBit_lt_two_pow (Nat.lt_of_lt_of_le hb (Nat.pow_le_pow_right (by omega) q : 2 ^ 8 ≤ 2 ^ i))] at hi
        cases hi
    have k := key i (by omega)
    rw [h] at k
    simp at k
    have := k hi
    simpa using this
  · intro h
    apply Int32.toBitVec_inj.mp
    apply BitVec.eq_of_getLsbD_eq
    intro i hi
    rw [key i hi]
    have := h i
    cases hx : a.testBit i <;> cases hy : b.testBit i <;> simp_all
theorem m1n : ∀ b, b < 256 → nI b ≠ -1 := by decide +kernel
theorem hW_of {tw v : Nat} {ct : Nat → Nat → Nat} {gf : Nat → Int32} (h40 : ∀ t k, ct t k ≤ 40) (hG : ∀ u, u < 256 → v < u → sbs u tw → gf u = nI (Fm ct (pop tw) (pop (tw ^^^ u)) (tw ^^^ u))) (htw : tw < 256) (hv : v < 256) (hs : sbs v tw) :
    ∀ t, t < 8 → (tw ^^^ v).testBit t = true → gf (v ||| 2 ^ t) = nI (Fm ct (pop tw) (pop (tw ^^^ v) - 1) ((tw ^^^ v) ^^^ 2 ^ t)) ∧ Fm ct (pop tw) (pop (tw ^^^ v) - 1) ((tw ^^^ v) ^^^ 2 ^ t) ≤ 1000 := by
  intro t ht hb
  obtain ⟨x1, x2, x3⟩ := xor_sub hs hb
  obtain ⟨p1, p2, p3, p4⟩ := pop_or v hv t ht x1
  obtain ⟨q1, q2, q3⟩ := pop_rm _ (xor_lt htw hv) t ht hb
  have := hG _ p2 p3 x2
  rw [x3, show pop ((tw ^^^ v) ^^^ 2 ^ t) = pop (tw ^^^ v) - 1 by omega] at this
  have l1 := Fm_le h40 (all := pop tw) (pop (tw ^^^ v) - 1) ((tw ^^^ v) ^^^ 2 ^ t)
  have l2 := pop_le _ (xor_lt htw hv)
  exact ⟨this, by omega⟩
theorem nx_eq {tw v : Nat} {ct : Nat → Nat → Nat} (hs : sbs v tw) : (bestT (fun t => ct t (pop v) + Fm ct (pop tw) (pop (tw ^^^ v) - 1) ((tw ^^^ v) ^^^ 2 ^ t)) (tw ^^^ v) 8) = nxT ct (pop tw) (pop (tw ^^^ v)) (tw ^^^ v) := by
  unfold nxT
  have := pop_xor hs
  rw [show pop tw - pop (tw ^^^ v) = pop v by omega]
theorem Fm_nx {tw v : Nat} {ct : Nat → Nat → Nat} (htw : tw < 256) (hv : v < 256) (hs : sbs v tw) : Fm ct (pop tw) (pop (tw ^^^ v)) (tw ^^^ v) = match nxT ct (pop tw) (pop (tw ^^^ v)) (tw ^^^ v) with | none => 0 | some t => ct t (pop v) + Fm ct (pop tw) (pop (tw ^^^ v) - 1) ((tw ^^^ v) ^^^ 2 ^ t) := by
  have e := pop_xor hs
  cases hp : pop (tw ^^^ v) with
  | zero =>
    have hz := (pop_0 _ (xor_lt htw hv)).mp hp
    rw [hz]
    rfl
  | succ f =>
    rw [hp] at e
    rw [Fm_s]
    unfold nxT
    rw [show pop tw - (f + 1) = pop v by omega]
    rfl
abbrev rm_J6_bitCount_0f7a4 : Room := { frames := 0, cells := 0, slots := 0, locals := 0 }
set_option maxRecDepth 100000 in
set_option maxHeartbeats 4000000 in
theorem c_J6_bitCount (lau : Launch) (E : EnvD) (σ : Sto) {v : Nat} (hv : v < 256) : CC lau yJ6_bitCount_0f7a4 cJ6_bitCount_0f7a4 1 (some .int) rm_J6_bitCount_0f7a4 E [.int (nI v)] σ (fun o s => o = some (.int (nI (pop v))) ∧ s = σ) := by
  refine cc_of (vs := [_]) (by decide) (Nat.le_of_ble_eq_true rfl) rfl ?_
  intro X h hr hn
  refine g_iload_n h 0 dJ6_bitCount_0f7a4_0 rfl rfl ?_
  refine g_iload_n h 0 dJ6_bitCount_0f7a4_1 rfl rfl ?_
  refine g_iconst h (nI 1) dJ6_bitCount_0f7a4_2 (by decide) ?_
  refine g_iushr h dJ6_bitCount_0f7a4_3 ?_
  refine g_ldcw h 1431655765 lc_J6_265 dJ6_bitCount_0f7a4_4 ?_
  refine g_top (y := nI 1431655765) (by decide) ?_
  refine g_iand h dJ6_bitCount_0f7a4_7 ?_
  refine g_isub h dJ6_bitCount_0f7a4_8 ?_
  refine g_nm (fun y1 ey1 => ?_)
  have ey1 : y1 = bc1 (nI v) := ey1
  refine g_istore_n (vs' := [_]) h 0 dJ6_bitCount_0f7a4_9 rfl (Nat.le_of_ble_eq_true rfl) rfl rfl ?_
  refine g_iload_n h 0 dJ6_bitCount_0f7a4_10 rfl rfl ?_
  refine g_ldcw h 858993459 lc_J6_266 dJ6_bitCount_0f7a4_11 ?_
  refine g_top (y := nI 858993459) (by decide) ?_
  refine g_iand h dJ6_bitCount_0f7a4_14 ?_
  refine g_iload_n h 0 dJ6_bitCount_0f7a4_15 rfl rfl ?_
  refine g_iconst h (nI 2) dJ6_bitCount_0f7a4_16 (by decide) ?_
  refine g_iushr h dJ6_bitCount_0f7a4_17 ?_
  refine g_ldcw h 858993459 lc_J6_266 dJ6_bitCount_0f7a4_18 ?_
  refine g_top (y := nI 858993459) (by decide) ?_
  refine g_iand h dJ6_bitCount_0f7a4_21 ?_
  refine g_iadd h dJ6_bitCount_0f7a4_22 ?_
  refine g_nm (fun y2 ey2 => ?_)
  have ey2 : y2 = bc2 y1 := ey2
  refine g_istore_n (vs' := [_]) h 0 dJ6_bitCount_0f7a4_23 rfl (Nat.le_of_ble_eq_true rfl) rfl rfl ?_
  refine g_iload_n h 0 dJ6_bitCount_0f7a4_24 rfl rfl ?_
  refine g_iload_n h 0 dJ6_bitCount_0f7a4_25 rfl rfl ?_
  refine g_iconst h (nI 4) dJ6_bitCount_0f7a4_26 (by decide) ?_
  refine g_iushr h dJ6_bitCount_0f7a4_27 ?_
  refine g_iadd h dJ6_bitCount_0f7a4_28 ?_
  refine g_ldcw h 252645135 lc_J6_267 dJ6_bitCount_0f7a4_29 ?_
  refine g_top (y := nI 252645135) (by decide) ?_
  refine g_iand h dJ6_bitCount_0f7a4_32 ?_
  refine g_nm (fun y3 ey3 => ?_)
  have ey3 : y3 = bc3 y2 := ey3
  refine g_istore_n (vs' := [_]) h 0 dJ6_bitCount_0f7a4_33 rfl (Nat.le_of_ble_eq_true rfl) rfl rfl ?_
  refine g_iload_n h 0 dJ6_bitCount_0f7a4_34 rfl rfl ?_
  refine g_iload_n h 0 dJ6_bitCount_0f7a4_35 rfl rfl ?_
  refine g_bipush h (nI 8) dJ6_bitCount_0f7a4_36 (by decide) ?_
  refine g_iushr h dJ6_bitCount_0f7a4_38 ?_
  refine g_iadd h dJ6_bitCount_0f7a4_39 ?_
  refine g_nm (fun y4 ey4 => ?_)
  have ey4 : y4 = bc4 y3 := ey4
  refine g_istore_n (vs' := [_]) h 0 dJ6_bitCount_0f7a4_40 rfl (Nat.le_of_ble_eq_true rfl) rfl rfl ?_
  refine g_iload_n h 0 dJ6_bitCount_0f7a4_41 rfl rfl ?_
  refine g_iload_n h 0 dJ6_bitCount_0f7a4_42 rfl rfl ?_
  refine g_bipush h (nI 16) dJ6_bitCount_0f7a4_43 (by decide) ?_
  refine g_iushr h dJ6_bitCount_0f7a4_45 ?_
  refine g_iadd h dJ6_bitCount_0f7a4_46 ?_
  refine g_nm (fun y5 ey5 => ?_)
  have ey5 : y5 = bc5 y4 := ey5
  refine g_istore_n (vs' := [_]) h 0 dJ6_bitCount_0f7a4_47 rfl (Nat.le_of_ble_eq_true rfl) rfl rfl ?_
  refine g_iload_n h 0 dJ6_bitCount_0f7a4_48 rfl rfl ?_
  refine g_bipush h (nI 63) dJ6_bitCount_0f7a4_49 (by decide) ?_
  refine g_iand h dJ6_bitCount_0f7a4_51 ?_
  exact g_iret h hr dJ6_bitCount_0f7a4_52 (retI (by rw [ey5, ey4, ey3, ey2, ey1]; exact bitc v hv)) (Nat.le_of_ble_eq_true rfl) (Nat.le_of_ble_eq_true rfl)
abbrev rm_X4_setCuts : Room := { frames := 1, cells := 0, slots := 0, locals := 20 }
set_option maxRecDepth 100000 in
set_option maxHeartbeats 4000000 in
theorem c_X4_setCuts (lau : Launch) (E : EnvD) (σ : Sto) {c : Nat} {fc : Nat → Option Nat} (h0 : σ.1 c = some (cO 4 [.ref (c + 1), .ref (c + 3), .ref (c + 12)])) (h1 : σ.1 (c + 3) = some (cQ E 5 8 fc)) (hf : ∀ i, i < 8 → fc i = some (c + 4 + i)) {t k : Nat} (x : Int32) {g : Nat → Int32} (h2 : σ.1 (c + 4 + t) = some (cI E 8 g)) (ht : t < 8) (hk : k < 8) : CC lau yX4_setCuts cX4_setCuts 4 none rm_X4_setCuts E [.ref c, .int (nI t), .int (nI k), .int x] σ (fun o s => o = none ∧ s = sup σ (c + 4 + t) (cI E 8 (upd g k x))) := by
  refine cc_of (vs := [_, _, _, _]) (by decide) (Nat.le_of_ble_eq_true rfl) rfl ?_
  intro X h hr hn
  refine g_iload_n h 1 dX4_setCuts_0 rfl rfl ?_
  refine g_callSN h [] (c_X5_isTown (xL X) E _ (nI t)) cf_X4_27 h.2.2.2.2.1.2.2.2.1.2.2.2.2.2.1 cs_X5_isTown dX4_setCuts_1 rfl rfl (Nat.le_of_ble_eq_true rfl) ⟨(Nat.le_of_ble_eq_true rfl), (Nat.le_of_ble_eq_true rfl)⟩ ⟨(Nat.le_of_ble_eq_true rfl), (Nat.le_of_ble_eq_true rfl)⟩ ?_
  refine kk_det ?_
  refine g_top (bI_iff (inR_nI (by omega) (by omega))) ?_
  refine g_if_eqB h 23 dX4_setCuts_4 (by decide) (fun c4_1 => absurd ht c4_1) (fun c4_1 => ?_)
  refine g_iload_n h 2 dX4_setCuts_7 rfl rfl ?_
  refine g_callSN h [] (c_X5_isTown (xL X) E _ (nI k)) cf_X4_27 h.2.2.2.2.1.2.2.2.1.2.2.2.2.2.1 cs_X5_isTown dX4_setCuts_8 rfl rfl (Nat.le_of_ble_eq_true rfl) ⟨(Nat.le_of_ble_eq_true rfl), (Nat.le_of_ble_eq_true rfl)⟩ ⟨(Nat.le_of_ble_eq_true rfl), (Nat.le_of_ble_eq_true rfl)⟩ ?_
  refine kk_det ?_
  refine g_top (bI_iff (inR_nI (by omega) (by omega))) ?_
  refine g_if_eqB h 23 dX4_setCuts_11 (by decide) (fun c11_2 => absurd hk c11_2) (fun c11_2 => ?_)
  refine g_aload_n h 0 dX4_setCuts_14 rfl rfl ?_
  refine g_get h 1 fa_X4_20 dX4_setCuts_15 h0 rfl ?_
  refine g_iload_n h 1 dX4_setCuts_18 rfl rfl ?_
  refine g_aald h 5 (v := .ref (c + 4 + t)) dX4_setCuts_19 rfl rfl h1 (by omega) (by omega) (by rw [hf _ (by omega)]; rfl) ?_
  refine g_iload_n h 2 dX4_setCuts_20 rfl rfl ?_
  refine g_iload_n h 3 dX4_setCuts_21 rfl rfl ?_
  refine g_iast h dX4_setCuts_22 h2 (by omega) (by omega) ?_
  exact g_vret h hr dX4_setCuts_23 (⟨rfl, rfl⟩) (Nat.le_of_ble_eq_true rfl) (Nat.le_of_ble_eq_true rfl)
abbrev rm_X4_cutsBy : Room := { frames := 1, cells := 0, slots := 0, locals := 20 }
set_option maxRecDepth 100000 in
set_option maxHeartbeats 4000000 in
theorem c_X4_cutsBy (lau : Launch) (E : EnvD) (σ : Sto) {c : Nat} {fc : Nat → Option Nat} (h0 : σ.1 c = some (cO 4 [.ref (c + 1), .ref (c + 3), .ref (c + 12)])) (h1 : σ.1 (c + 3) = some (cQ E 5 8 fc)) (hf : ∀ i, i < 8 → fc i = some (c + 4 + i)) {t v w : Nat} {ct : Nat → Nat → Nat} {g gf : Nat → Int32} (h2 : σ.1 (c + 4 + t) = some (cI E 8 g)) (h3 : g (pop v) = nI (ct t (pop v))) (h4 : σ.1 (c + 12) = some (cI E 256 gf)) (h5 : gf (v ||| 2 ^ t) = nI w) (ht : t < 8) (hv : v < 256) (hvt : v.testBit t = false) : CC lau yX4_cutsBy cX4_cutsBy 5 (some .int) rm_X4_cutsBy E [.ref c, .int (nI t), .int (nI v)] σ (fun o s => o = some (.int (nI (ct t (pop v) + w))) ∧ s = σ) := by
  refine cc_of (vs := [_, _, _, _, _]) (by decide) (Nat.le_of_ble_eq_true rfl) rfl ?_
  intro X h hr hn
  refine g_iload_n h 2 dX4_cutsBy_0 rfl rfl ?_
  refine g_callS h [] (c_J6_bitCount (xL X) E _ (v := v) hv) cf_X4_52 cs_J6_bitCount_0f7a4 dX4_cutsBy_1 rfl rfl (Nat.le_of_ble_eq_true rfl) ⟨(Nat.le_of_ble_eq_true rfl), (Nat.le_of_ble_eq_true rfl)⟩ ⟨(Nat.le_of_ble_eq_true rfl), (Nat.le_of_ble_eq_true rfl)⟩ ?_
  refine kk_det ?_
  obtain ⟨p1, p2, p3, p4⟩ := pop_or v hv t ht hvt
  refine g_istore_n (vs' := [_, _, _, _, _]) h 3 dX4_cutsBy_4 rfl (Nat.le_of_ble_eq_true rfl) rfl rfl ?_
  refine g_iload_n h 2 dX4_cutsBy_5 rfl rfl ?_
  refine g_iconst h (nI 1) dX4_cutsBy_6 (by decide) ?_
  refine g_iload_n h 1 dX4_cutsBy_7 rfl rfl ?_
  refine g_ishl h dX4_cutsBy_8 ?_
  refine g_top (shl_N t ht) ?_
  refine g_ior h dX4_cutsBy_9 ?_
  refine g_top (nI_or _ _) ?_
  refine g_istore (vs' := [_, _, _, _, _]) h dX4_cutsBy_10 (Nat.le_of_ble_eq_true rfl) rfl rfl ?_
  refine g_iload_n h 1 dX4_cutsBy_12 rfl rfl ?_
  refine g_callSN h [] (c_X5_isTown (xL X) E _ (nI t)) cf_X4_27 h.2.2.2.2.1.2.2.2.1.2.2.2.2.2.1 cs_X5_isTown dX4_cutsBy_13 rfl rfl (Nat.le_of_ble_eq_true rfl) ⟨(Nat.le_of_ble_eq_true rfl), (Nat.le_of_ble_eq_true rfl)⟩ ⟨(Nat.le_of_ble_eq_true rfl), (Nat.le_of_ble_eq_true rfl)⟩ ?_
  refine kk_det ?_
  refine g_top (bI_iff (inR_nI (by omega) (by omega))) ?_
  refine g_if_eqB h 39 dX4_cutsBy_16 (by decide) (fun c16_1 => absurd ht c16_1) (fun c16_1 => ?_)
  refine g_iload_n h 3 dX4_cutsBy_19 rfl rfl ?_
  refine g_callSN h [] (c_X5_isTown (xL X) E _ (nI (pop v))) cf_X4_27 h.2.2.2.2.1.2.2.2.1.2.2.2.2.2.1 cs_X5_isTown dX4_cutsBy_20 rfl rfl (Nat.le_of_ble_eq_true rfl) ⟨(Nat.le_of_ble_eq_true rfl), (Nat.le_of_ble_eq_true rfl)⟩ ⟨(Nat.le_of_ble_eq_true rfl), (Nat.le_of_ble_eq_true rfl)⟩ ?_
  refine kk_det ?_
  refine g_top (bI_iff (inR_nI (by omega) (by omega))) ?_
  refine g_if_eqB h 39 dX4_cutsBy_23 (by decide) (fun c23_2 => absurd (by omega) c23_2) (fun c23_2 => ?_)
  refine g_iload h dX4_cutsBy_26 rfl ?_
  refine g_if_ltN h 39 dX4_cutsBy_28 (by decide) (by omega) ?_
  refine g_iload h dX4_cutsBy_31 rfl ?_
  refine g_sipush h (nI 255) dX4_cutsBy_33 (by decide) ?_
  refine g_icmp_leN h 41 dX4_cutsBy_36 (by decide) (by omega) (by decide) (fun c36_4 => ?_) (fun c36_4 => absurd c36_4 (by omega))
  refine g_aload_n h 0 dX4_cutsBy_41 rfl rfl ?_
  refine g_get h 1 fa_X4_20 dX4_cutsBy_42 h0 rfl ?_
  refine g_iload_n h 1 dX4_cutsBy_45 rfl rfl ?_
  refine g_aald h 5 (v := .ref (c + 4 + t)) dX4_cutsBy_46 rfl rfl h1 (by omega) (by omega) (by rw [hf _ (by omega)]; rfl) ?_
  refine g_iload_n h 3 dX4_cutsBy_47 rfl rfl ?_
  refine g_iald h dX4_cutsBy_48 h2 (by omega) (by omega) ?_
  refine g_top (y := nI (ct t (pop v))) (h3) ?_
  refine g_aload_n h 0 dX4_cutsBy_49 rfl rfl ?_
  refine g_get h 2 fa_X4_23 dX4_cutsBy_50 h0 rfl ?_
  refine g_iload h dX4_cutsBy_53 rfl ?_
  refine g_iald h dX4_cutsBy_55 h4 (by omega) (by omega) ?_
  refine g_top (y := nI w) (h5) ?_
  refine g_iaddN h dX4_cutsBy_56 ?_
  exact g_iret h hr dX4_cutsBy_57 (⟨rfl, rfl⟩) (Nat.le_of_ble_eq_true rfl) (Nat.le_of_ble_eq_true rfl)
abbrev rm_X4_nextTown : Room := { frames := 2, cells := 0, slots := 0, locals := 44 }
set_option maxRecDepth 100000 in
set_option maxHeartbeats 4000000 in
theorem c_X4_nextTown (lau : Launch) (E : EnvD) (σ : Sto) {c : Nat} {fc : Nat → Option Nat} (h0 : σ.1 c = some (cO 4 [.ref (c + 1), .ref (c + 3), .ref (c + 12)])) (h1 : σ.1 (c + 3) = some (cQ E 5 8 fc)) (hf : ∀ i, i < 8 → fc i = some (c + 4 + i)) {tw v : Nat} {ct : Nat → Nat → Nat} {W : Nat → Nat} {gf : Nat → Int32} (hct : ∀ t, t < 8 → ∃ g, σ.1 (c + 4 + t) = some (cI E 8 g) ∧ ∀ k, k < pop tw → g k = nI (ct t k)) (h40 : ∀ t k, ct t k ≤ 40) (h4 : σ.1 (c + 12) = some (cI E 256 gf)) (hW : ∀ t, t < 8 → (tw ^^^ v).testBit t = true → gf (v ||| 2 ^ t) = nI (W t) ∧ W t ≤ 1000) (htw : tw < 256) (hv : v < 256) (hs : sbs v tw) : CC lau yX4_nextTown cX4_nextTown 5 (some .int) rm_X4_nextTown E [.ref c, .int (nI tw), .int (nI v)] σ (fun o s => o = some (.int (oN (bestT (fun t => ct t (pop v) + W t) (tw ^^^ v) 8))) ∧ s = σ) := by
  refine cc_of (vs := [_, _, _, _, _]) (by decide) (Nat.le_of_ble_eq_true rfl) rfl ?_
  intro X h hr hn
  refine g_iconst h (-1) dX4_nextTown_0 (by decide) ?_
  refine g_istore_n (vs' := [_, _, _, _, _]) h 3 dX4_nextTown_1 rfl (Nat.le_of_ble_eq_true rfl) rfl rfl ?_
  refine g_iconst h (nI 0) dX4_nextTown_2 (by decide) ?_
  refine g_istore (vs' := [_, _, _, _, _]) h dX4_nextTown_3 (Nat.le_of_ble_eq_true rfl) rfl rfl ?_
  have L5 : ∀ (m0 : Nat) (i : Nat) (x3 : Int32), (i ≤ 8) → (x3 = oN (bestT (fun t => ct t (pop v) + W t) (tw ^^^ v) i)) → (8 - i) < m0 → G X E 5 (AD σ) (QF X E σ (fun o s => o = some (.int (oN (bestT (fun t => ct t (pop v) + W t) (tw ^^^ v) 8))) ∧ s = σ) rm_X4_nextTown) 0 0 5 [some (.ref c), some (.int (nI tw)), some (.int (nI v)), some (.int x3), some (.int (nI i))] [] σ := by
    intro m0
    induction m0 with
    | zero => intro i x3 _ _ hm0; exact absurd hm0 (Nat.not_lt_zero _)
    | succ m0 ih =>
      intro i x3 hi hx3 hm0
      refine g_iload h dX4_nextTown_5 rfl ?_
      refine g_bipush h (nI 8) dX4_nextTown_7 (by decide) ?_
      refine g_icmp_geN h 56 dX4_nextTown_9 (by decide) (by omega) (by decide) (fun c9_1 => ?_) (fun c9_1 => ?_)
      · skip
        obtain rfl : i = 8 := by omega
        refine g_iload_n h 3 dX4_nextTown_56 rfl rfl ?_
        exact g_iret h hr dX4_nextTown_57 (retI hx3) (Nat.le_of_ble_eq_true rfl) (Nat.le_of_ble_eq_true rfl)
      · skip
        refine g_iload_n h 1 dX4_nextTown_12 rfl rfl ?_
        refine g_iload_n h 2 dX4_nextTown_13 rfl rfl ?_
        refine g_iconst h (-1) dX4_nextTown_14 (by decide) ?_
        refine g_ixor h dX4_nextTown_15 ?_
        refine g_iand h dX4_nextTown_16 ?_
        refine g_top (nI_andnot htw hv hs) ?_
        refine g_i2l h dX4_nextTown_17 ?_
        refine g_iload h dX4_nextTown_18 rfl ?_
        refine g_callSN h [] (c_X5_hasBit (xL X) E _ _ (b := i) (by omega)) cf_X4_48 h.2.2.2.2.1.2.2.2.1.2.2.2.2.2.2 cs_X5_hasBit dX4_nextTown_20 rfl rfl (Nat.le_of_ble_eq_true rfl) ⟨(Nat.le_of_ble_eq_true rfl), (Nat.le_of_ble_eq_true rfl)⟩ ⟨(Nat.le_of_ble_eq_true rfl), (Nat.le_of_ble_eq_true rfl)⟩ ?_
        refine kk_det ?_
        refine g_top (bI_iff (by rw [bt_N _ (xor_lt htw hv) i (by omega)])) ?_
        refine g_if_eqB h 50 dX4_nextTown_23 (by decide) (fun c23_2 => ?_) (fun c23_2 => ?_)
        · skip
          refine g_iinc (vs' := [_, _, _, _, _]) h (nI (i + 1)) dX4_nextTown_50 rfl (by first | exact nI_1 _ | rfl) (Nat.le_of_ble_eq_true rfl) rfl rfl ?_
          refine g_goto h 5 dX4_nextTown_53 (by decide) ?_
          refine ih (i + 1) (x3) (by omega) ?_ (by omega)
          rw [hx3, bestT, if_neg c23_2]
        · skip
          have hbit := c23_2
          refine g_iload_n h 3 dX4_nextTown_26 rfl rfl ?_
          refine g_iconst h (-1) dX4_nextTown_27 (by decide) ?_
          refine g_icmp_eq h 47 dX4_nextTown_28 (by decide) (fun c28_3 => ?_) (fun c28_3 => ?_)
          · skip
            have hbn : bestT (fun t => ct t (pop v) + W t) (tw ^^^ v) i = none := by
              cases hq : bestT (fun t => ct t (pop v) + W t) (tw ^^^ v) i with
              | none => rfl
              | some b =>
                have := bestT_in hq
                rw [hx3, hq] at c28_3
                exact absurd c28_3 (fun z => by have z2 : nI b = -1 := z; exact absurd z2 (m1n b (by omega)))
            refine g_iload h dX4_nextTown_47 rfl ?_
            refine g_istore_n (vs' := [_, _, _, _, _]) h 3 dX4_nextTown_49 rfl (Nat.le_of_ble_eq_true rfl) rfl rfl ?_
            refine g_iinc (vs' := [_, _, _, _, _]) h (nI (i + 1)) dX4_nextTown_50 rfl (by first | exact nI_1 _ | rfl) (Nat.le_of_ble_eq_true rfl) rfl rfl ?_
            refine g_goto h 5 dX4_nextTown_53 (by decide) ?_
            refine ih (i + 1) (nI i) (by omega) ?_ (by omega)
            rw [bestT, if_pos hbit, hbn]; rfl
          · skip
            obtain ⟨b, hbn⟩ : ∃ b, bestT (fun t => ct t (pop v) + W t) (tw ^^^ v) i = some b := by
              cases hq : bestT (fun t => ct t (pop v) + W t) (tw ^^^ v) i with
              | none => rw [hx3, hq] at c28_3; exact absurd rfl c28_3
              | some b => exact ⟨b, rfl⟩
            have hbb := bestT_in hbn
            obtain rfl : x3 = nI b := by rw [hx3, hbn]; rfl
            refine g_aload_n h 0 dX4_nextTown_31 rfl rfl ?_
            refine g_iload h dX4_nextTown_32 rfl ?_
            refine g_iload_n h 2 dX4_nextTown_34 rfl rfl ?_
            obtain ⟨x1, x2, x3⟩ := xor_sub hs hbit
            obtain ⟨g9, g1, g2⟩ := hct i (by omega)
            obtain ⟨w1, w2⟩ := hW i (by omega) hbit
            have pq := pop_or v hv i (by omega) x1
            have pz : pop v < pop tw := by
              have z1 := pop_xor x2
              omega
            refine g_callV h [] (c_X4_cutsBy (xL X) E _ h0 h1 hf (ct := ct) g1 (g2 _ pz) h4 w1 (by omega) hv x1) cf_X4_45 cv_X4_cutsBy dX4_nextTown_35 rfl h0 rfl rfl (Nat.le_of_ble_eq_true rfl) ⟨(Nat.le_of_ble_eq_true rfl), (Nat.le_of_ble_eq_true rfl)⟩ ⟨(Nat.le_of_ble_eq_true rfl), (Nat.le_of_ble_eq_true rfl)⟩ ?_
            refine kk_det ?_
            have q40i := h40 i (pop v)
            have w40i := w2
            refine g_aload_n h 0 dX4_nextTown_38 rfl rfl ?_
            refine g_iload_n h 3 dX4_nextTown_39 rfl rfl ?_
            refine g_iload_n h 2 dX4_nextTown_40 rfl rfl ?_
            obtain ⟨x1, x2, x3⟩ := xor_sub hs hbb.2
            obtain ⟨g9, g1, g2⟩ := hct b (by omega)
            obtain ⟨w1, w2⟩ := hW b (by omega) hbb.2
            have pq := pop_or v hv b (by omega) x1
            have pz : pop v < pop tw := by
              have z1 := pop_xor x2
              omega
            refine g_callV h [_] (c_X4_cutsBy (xL X) E _ h0 h1 hf (ct := ct) g1 (g2 _ pz) h4 w1 (by omega) hv x1) cf_X4_45 cv_X4_cutsBy dX4_nextTown_41 rfl h0 rfl rfl (Nat.le_of_ble_eq_true rfl) ⟨(Nat.le_of_ble_eq_true rfl), (Nat.le_of_ble_eq_true rfl)⟩ ⟨(Nat.le_of_ble_eq_true rfl), (Nat.le_of_ble_eq_true rfl)⟩ ?_
            refine kk_det ?_
            have q40b := h40 b (pop v)
            have w40b := w2
            refine g_icmp_geN h 50 dX4_nextTown_44 (by decide) (by omega) (by omega) (fun c44_4 => ?_) (fun c44_4 => ?_)
            · skip
              refine g_iinc (vs' := [_, _, _, _, _]) h (nI (i + 1)) dX4_nextTown_50 rfl (by first | exact nI_1 _ | rfl) (Nat.le_of_ble_eq_true rfl) rfl rfl ?_
              refine g_goto h 5 dX4_nextTown_53 (by decide) ?_
              refine ih (i + 1) (nI b) (by omega) ?_ (by omega)
              rw [bestT, if_pos hbit, hbn]; simp only []; rw [if_neg (Nat.not_lt.mpr c44_4)]; rfl
            · skip
              refine g_iload h dX4_nextTown_47 rfl ?_
              refine g_istore_n (vs' := [_, _, _, _, _]) h 3 dX4_nextTown_49 rfl (Nat.le_of_ble_eq_true rfl) rfl rfl ?_
              refine g_iinc (vs' := [_, _, _, _, _]) h (nI (i + 1)) dX4_nextTown_50 rfl (by first | exact nI_1 _ | rfl) (Nat.le_of_ble_eq_true rfl) rfl rfl ?_
              refine g_goto h 5 dX4_nextTown_53 (by decide) ?_
              refine ih (i + 1) (nI i) (by omega) ?_ (by omega)
              rw [bestT, if_pos hbit, hbn]; simp only []; rw [if_pos c44_4]; rfl
  exact L5 9 0 (-1) (by omega) rfl (by omega)
abbrev rm_X4_fewestBehind : Room := { frames := 3, cells := 0, slots := 0, locals := 68 }
set_option maxRecDepth 100000 in
set_option maxHeartbeats 4000000 in
theorem c_X4_fewestBehind (lau : Launch) (E : EnvD) (σ : Sto) {c : Nat} {fc : Nat → Option Nat} (h0 : σ.1 c = some (cO 4 [.ref (c + 1), .ref (c + 3), .ref (c + 12)])) (h1 : σ.1 (c + 3) = some (cQ E 5 8 fc)) (hf : ∀ i, i < 8 → fc i = some (c + 4 + i)) {tw v : Nat} {ct : Nat → Nat → Nat} {gf : Nat → Int32} (hct : ∀ t, t < 8 → ∃ g, σ.1 (c + 4 + t) = some (cI E 8 g) ∧ ∀ k, k < pop tw → g k = nI (ct t k)) (h40 : ∀ t k, ct t k ≤ 40) (h4 : σ.1 (c + 12) = some (cI E 256 gf)) (hG : ∀ u, u < 256 → v < u → sbs u tw → gf u = nI (Fm ct (pop tw) (pop (tw ^^^ u)) (tw ^^^ u))) (htw : tw < 256) (hv : v < 256) (hs : sbs v tw) : CC lau yX4_fewestBehind cX4_fewestBehind 4 (some .int) rm_X4_fewestBehind E [.ref c, .int (nI tw), .int (nI v)] σ (fun o s => o = some (.int (nI (Fm ct (pop tw) (pop (tw ^^^ v)) (tw ^^^ v)))) ∧ s = σ) := by
  refine cc_of (vs := [_, _, _, _]) (by decide) (Nat.le_of_ble_eq_true rfl) rfl ?_
  intro X h hr hn
  refine g_aload_n h 0 dX4_fewestBehind_0 rfl rfl ?_
  refine g_iload_n h 1 dX4_fewestBehind_1 rfl rfl ?_
  refine g_iload_n h 2 dX4_fewestBehind_2 rfl rfl ?_
  refine g_callV h [] (c_X4_nextTown (xL X) E _ h0 h1 hf (v := v) hct h40 h4 (hW_of h40 hG htw hv hs) htw hv hs) cf_X4_38 cv_X4_nextTown dX4_fewestBehind_3 rfl h0 rfl rfl (Nat.le_of_ble_eq_true rfl) ⟨(Nat.le_of_ble_eq_true rfl), (Nat.le_of_ble_eq_true rfl)⟩ ⟨(Nat.le_of_ble_eq_true rfl), (Nat.le_of_ble_eq_true rfl)⟩ ?_
  refine kk_det ?_
  rw [nx_eq hs]
  refine g_nm (fun x3 hx3 => ?_)
  refine g_istore_n (vs' := [_, _, _, _]) h 3 dX4_fewestBehind_6 rfl (Nat.le_of_ble_eq_true rfl) rfl rfl ?_
  refine g_iload_n h 3 dX4_fewestBehind_7 rfl rfl ?_
  refine g_iconst h (-1) dX4_fewestBehind_8 (by decide) ?_
  refine g_icmp_ne h 16 dX4_fewestBehind_9 (by decide) (fun c9_1 => ?_) (fun c9_1 => ?_)
  · skip
    obtain ⟨b, hbn⟩ : ∃ b, nxT ct (pop tw) (pop (tw ^^^ v)) (tw ^^^ v) = some b := by
      cases hq : nxT ct (pop tw) (pop (tw ^^^ v)) (tw ^^^ v) with
      | none => rw [hx3, hq] at c9_1; exact absurd rfl c9_1
      | some b => exact ⟨b, rfl⟩
    have hbb := bestT_in hbn
    obtain rfl : x3 = nI b := by rw [hx3, hbn]; rfl
    obtain ⟨x1, x2, x3⟩ := xor_sub hs hbb.2
    obtain ⟨g9, g1, g2⟩ := hct b hbb.1
    obtain ⟨w1, w2⟩ := hW_of h40 hG htw hv hs b hbb.1 hbb.2
    have pq := pop_or v hv b hbb.1 x1
    have pz : pop v < pop tw := by
      have z1 := pop_xor x2
      omega
    refine g_aload_n h 0 dX4_fewestBehind_16 rfl rfl ?_
    refine g_iload_n h 3 dX4_fewestBehind_17 rfl rfl ?_
    refine g_iload_n h 2 dX4_fewestBehind_18 rfl rfl ?_
    refine g_callV h [] (c_X4_cutsBy (xL X) E _ h0 h1 hf (ct := ct) g1 (g2 _ pz) h4 w1 hbb.1 hv x1) cf_X4_45 cv_X4_cutsBy dX4_fewestBehind_19 rfl h0 rfl rfl (Nat.le_of_ble_eq_true rfl) ⟨(Nat.le_of_ble_eq_true rfl), (Nat.le_of_ble_eq_true rfl)⟩ ⟨(Nat.le_of_ble_eq_true rfl), (Nat.le_of_ble_eq_true rfl)⟩ ?_
    refine kk_det ?_
    exact g_iret h hr dX4_fewestBehind_22 (retI (congrArg nI (by rw [Fm_nx htw hv hs, hbn]))) (Nat.le_of_ble_eq_true rfl) (Nat.le_of_ble_eq_true rfl)
  · skip
    have hbn : nxT ct (pop tw) (pop (tw ^^^ v)) (tw ^^^ v) = none := by
      cases hq : nxT ct (pop tw) (pop (tw ^^^ v)) (tw ^^^ v) with
      | none => rfl
      | some b =>
        have := bestT_in hq
        rw [hx3, hq] at c9_1
        exact absurd c9_1 (fun z => by have z2 : nI b = -1 := z; exact absurd z2 (m1n b (by omega)))
    refine g_iconst h (nI 0) dX4_fewestBehind_12 (by decide) ?_
    refine g_goto h 22 dX4_fewestBehind_13 (by decide) ?_
    exact g_iret h hr dX4_fewestBehind_22 (retI (congrArg nI (by rw [Fm_nx htw hv hs, hbn]))) (Nat.le_of_ble_eq_true rfl) (Nat.le_of_ble_eq_true rfl)
