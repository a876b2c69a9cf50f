/-! bits (own work) -/
def bt (x : Int64) (j : Nat) : Bool := x.toBitVec.getLsbD j
theorem bt_or (x y : Int64) (j : Nat) : bt (x ||| y) j = (bt x j || bt y j) := by
  unfold bt
  rw [Int64.toBitVec_or, BitVec.getLsbD_or]
theorem bt_0 (j : Nat) : bt 0 j = false := by
  unfold bt
  simp
theorem amt_eq {b : Nat} (hb : b < 64) : ((nI b).toInt64 &&& 63) = Int64.ofNat b := by
  have h : ∀ b, b < 64 → ((nI b).toInt64 &&& 63) = Int64.ofNat b := by decide +kernel
  exact h b hb
theorem bt_shl {k j : Nat} (hk : k < 64) (hj : j < 64) : bt ((1 : Int64) <<< ((nI k).toInt64 &&& 63)) j = decide (j = k) := by
  have h : ∀ k, k < 64 → ∀ j, j < 64 → bt ((1 : Int64) <<< ((nI k).toInt64 &&& 63)) j = decide (j = k) := by decide +kernel
  exact h k hk j hj
theorem bt_1 {j : Nat} (hj : j < 64) : bt 1 j = decide (j = 0) := by
  have h : ∀ j, j < 64 → bt 1 j = decide (j = 0) := by decide +kernel
  exact h j hj
theorem shr_bv {b : Nat} (hb : b < 64) : ((Int64.ofNat b).toBitVec.smod 64).toNat = b := by
  have h : ∀ b, b < 64 → ((Int64.ofNat b).toBitVec.smod 64).toNat = b := by decide +kernel
  exact h b hb
theorem has_val (x : Int64) {b : Nat} (hb : b < 64) : (x >>> ((nI b).toInt64 &&& 63)) &&& 1 = if bt x b = true then 1 else 0 := by
  rw [amt_eq hb]
  apply Int64.toBitVec_inj.mp
  apply BitVec.eq_of_getLsbD_eq
  intro i hi
  rw [Int64.toBitVec_and, BitVec.getLsbD_and, Int64.toBitVec_shiftRight, BitVec.sshiftRight', shr_bv hb, BitVec.getLsbD_sshiftRight]
  unfold bt
  cases i with
  | zero =>
    cases hx : x.toBitVec.getLsbD b <;> simp [hx, hb]
  | succ i =>
    cases hx : x.toBitVec.getLsbD b <;> simp [hx]
