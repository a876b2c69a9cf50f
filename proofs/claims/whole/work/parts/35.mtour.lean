/-! the reference's tours, free days (own work; walks by program) -/
theorem sb_N : ∀ R, R < 256 → ∀ t, t < 8 → (nI R >>> (nI t &&& 31)) &&& nI 1 = nI (R.testBit t).toNat := by decide +kernel
theorem rm_N : ∀ R, R < 256 → ∀ t, t < 8 → R.testBit t = true → nI R &&& ((nI 1 <<< (nI t &&& 31)) ^^^ (-1)) = nI (R ^^^ 2 ^ t) := by decide +kernel
theorem tn_0 {b : Bool} (h : b.toNat = 0) : b = false := by cases b <;> simp_all
theorem tn_1 {b : Bool} (h : b.toNat ≠ 0) : b = true := by cases b <;> simp_all
theorem tn_le {b : Bool} : b.toNat ≤ 1 := by cases b <;> simp
def ppk (R : Nat) : Nat → Nat
  | 0 => 0
  | t + 1 => ppk R t + (R.testBit t).toNat
theorem ppk_8 {R : Nat} : ppk R 8 = pop R := by
  simp only [ppk, pop]
  omega
theorem ppk_le {R : Nat} : ∀ t, ppk R t ≤ t
  | 0 => Nat.le_refl 0
  | t + 1 => by
    have h1 := ppk_le (R := R) t
    have h2 := tn_le (b := R.testBit t)
    unfold ppk
    omega
theorem sbs_rm {R w t : Nat} (hb : R.testBit t = true) (h : sbs R w) : sbs (R ^^^ 2 ^ t) w := by
  intro i hi
  by_cases e : i = t
  · subst e
    exact h i hb
  · rw [Nat.testBit_xor, Nat.testBit_two_pow] at hi
    have : decide (t = i) = false := decide_eq_false (fun q => e q.symm)
    rw [this, Bool.xor_false] at hi
    exact h i hi
def cF (ct : Nat → Nat → Nat) (all R : Nat) (t : Nat) : Nat := ct t (all - pop R) + Fm ct all (pop R - 1) (R ^^^ 2 ^ t)
def bV (c : Nat → Nat) (R z n : Nat) : Nat := match bestT c R n with
  | none => z
  | some u => c u
theorem bV_s1 {c : Nat → Nat} {R z n : Nat} (h : R.testBit n = false) : bV c R z (n + 1) = bV c R z n := by
  unfold bV
  rw [bestT, if_neg (by rw [h]; decide)]
theorem bV_s2 {c : Nat → Nat} {R z n : Nat} (h : R.testBit n = true) (hz : c n < z) : bV c R z (n + 1) = if c n < bV c R z n then c n else bV c R z n := by
  unfold bV
  rw [bestT, if_pos h]
  cases hb : bestT c R n with
  | none => simp only; rw [if_pos hz]
  | some b =>
    simp only
    by_cases q : c n < c b
    · rw [if_pos q, if_pos q]
    · rw [if_neg q, if_neg q]
theorem cF_le {ct : Nat → Nat → Nat} (h40 : ∀ t k, ct t k ≤ 40) {all R t : Nat} (hR : R < 256) : cF ct all R t ≤ 40 + 40 * 8 := by
  have h1 := h40 t (all - pop R)
  have h2 := Fm_le h40 (all := all) (pop R - 1) (R ^^^ 2 ^ t)
  have h3 := pop_le R hR
  unfold cF
  omega
theorem Fm_bV {ct : Nat → Nat → Nat} {all R : Nat} (hR : R < 256) : Fm ct all (pop R) R = bV (cF ct all R) R (if R = 0 then 0 else 100000) 8 := by
  by_cases h : R = 0
  · subst h
    rw [if_pos rfl, (pop_0 0 (by omega)).mpr rfl]
    unfold bV
    cases hb : bestT (cF ct all 0) 0 8 with
    | none => rfl
    | some u =>
      have := (bestT_in hb).2
      rw [Nat.zero_testBit] at this
      cases this
  · have hp : pop R ≠ 0 := fun q => h ((pop_0 R hR).mp q)
    obtain ⟨f, hf⟩ : ∃ f, pop R = f + 1 := ⟨pop R - 1, by omega⟩
    rw [hf, Fm_s, if_neg h]
    unfold bV cF
    rw [hf, Nat.add_sub_cancel]
    cases hb : bestT (fun t => ct t (all - (f + 1)) + Fm ct all f (R ^^^ 2 ^ t)) R 8 with
    | none =>
      obtain ⟨t, h1, h2⟩ := any_bit R hR h
      have := bestT_none hb t h1
      rw [h2] at this
      cases this
    | some u => rfl
theorem Fm_nx2 {ct : Nat → Nat → Nat} {all R b : Nat} (hR : R < 256) (h0 : R ≠ 0) (h : nxT ct all (pop R) R = some b) : Fm ct all (pop R) R = cF ct all R b := by
  rw [Fm_bV hR]
  unfold bV
  have : bestT (cF ct all R) R 8 = some b := h
  rw [this]
theorem in_1 {x : Int32} : (nI 1 ≤ x ∧ x ≤ nI 255) ↔ (¬ x = nI 0 ∧ inR x 256) := by
  constructor
  · rintro ⟨h1, h2⟩
    exact ⟨fun q => by rw [q] at h1; exact absurd h1 (by decide), inR_of2 (m := 255) (Int32.not_lt.mpr (Int32.le_trans (by decide) h1)) (fun q => absurd h2 (Int32.not_le.mpr q)) rfl (by omega)⟩
  · rintro ⟨h0, j, hj, rfl⟩
    exact ⟨(nI_leI (by omega) (by omega)).mpr (Nat.pos_of_ne_zero (fun q => h0 (by rw [q]))), (nI_leI (by omega) (by omega)).mpr (by omega)⟩
theorem bV_le {c : Nat → Nat} {R z b : Nat} (h : ∀ t, c t ≤ b) (hz : z ≤ b) (n : Nat) : bV c R z n ≤ b := by
  unfold bV
  split
  · exact hz
  · exact h _
abbrev rm_X6_many : Room := { frames := 0, cells := 0, slots := 0, locals := 0 }
set_option maxRecDepth 100000 in
set_option maxHeartbeats 4000000 in
theorem c_X6_many (lau : Launch) (E : EnvD) (σ : Sto) {R : Nat} (hR : R < 256) : CC lau yX6_many cX6_many 3 (some .int) rm_X6_many E [.int (nI R)] σ (fun o s => o = some (.int (nI (pop R))) ∧ s = σ) := by
  refine cc_of (vs := [_, _, _]) (by decide) (Nat.le_of_ble_eq_true rfl) rfl ?_
  intro X h hr hn
  refine g_iconst h (nI 0) dX6_many_0 (by decide) ?_
  refine g_istore_n (vs' := [_, _, _]) h 1 dX6_many_1 rfl (Nat.le_of_ble_eq_true rfl) rfl rfl ?_
  refine g_iconst h (nI 0) dX6_many_2 (by decide) ?_
  refine g_istore_n (vs' := [_, _, _]) h 2 dX6_many_3 rfl (Nat.le_of_ble_eq_true rfl) rfl rfl ?_
  have L4 : ∀ (m0 : Nat) (t : Nat) (q : Nat), (t ≤ 8) → (q = ppk R t) → (8 - t) < m0 → G X E 3 (AD σ) (QF X E σ (fun o s => o = some (.int (nI (pop R))) ∧ s = σ) rm_X6_many) 0 0 4 [some (.int (nI R)), some (.int (nI q)), some (.int (nI t))] [] σ := by
    intro m0
    induction m0 with
    | zero => intro t q _ _ hm0; exact absurd hm0 (Nat.not_lt_zero _)
    | succ m0 ih =>
      intro t q ht hq hm0
      refine g_iload_n h 2 dX6_many_4 rfl rfl ?_
      refine g_bipush h (nI 8) dX6_many_5 (by decide) ?_
      refine g_icmp_geN h 24 dX6_many_7 (by decide) (by omega) (by decide) (fun c7_1 => ?_) (fun c7_1 => ?_)
      · skip
        obtain rfl : t = 8 := by omega
        refine g_iload_n h 1 dX6_many_24 rfl rfl ?_
        exact g_iret h hr dX6_many_25 (⟨by rw [hq, ppk_8], rfl⟩) (Nat.le_of_ble_eq_true rfl) (Nat.le_of_ble_eq_true rfl)
      · skip
        refine g_iload_n h 1 dX6_many_10 rfl rfl ?_
        refine g_iload_n h 0 dX6_many_11 rfl rfl ?_
        refine g_iload_n h 2 dX6_many_12 rfl rfl ?_
        refine g_ishr h dX6_many_13 ?_
        refine g_iconst h (nI 1) dX6_many_14 (by decide) ?_
        refine g_iand h dX6_many_15 ?_
        refine g_top (y := nI (R.testBit t).toNat) (sb_N R hR t (by omega)) ?_
        refine g_iaddN h dX6_many_16 ?_
        refine g_istore_n (vs' := [_, _, _]) h 1 dX6_many_17 rfl (Nat.le_of_ble_eq_true rfl) rfl rfl ?_
        refine g_iinc (vs' := [_, _, _]) h (nI (t + 1)) dX6_many_18 rfl (by first | exact nI_1 _ | rfl) (Nat.le_of_ble_eq_true rfl) rfl rfl ?_
        refine g_goto h 4 dX6_many_21 (by decide) ?_
        exact ih (t + 1) _ (by omega) (by rw [hq]; rfl) (by omega)
  exact L4 9 0 0 (by omega) rfl (by omega)
abbrev rm_X6_tour : Room := { frames := 2, cells := 0, slots := 0, locals := 50 }
set_option maxRecDepth 100000 in
set_option maxHeartbeats 4000000 in
theorem D_tour (lau : Launch) (E : EnvD) (σ : Sto) {b : Nat} {S : PSt} (hI : Inv S) (hM : RepM E b S σ) (a1 a2 a3 a4 : Int32) : CC lau yX6_tour cX6_tour 11 (some .int) rm_X6_tour E [.ref b, .int a1, .int a2, .int a3, .int a4] σ (fun o s => o = some (.int (opTour S a1 a2 a3 a4).1) ∧ RepM E b (opTour S a1 a2 a3 a4).2 s) := by
  refine cc_of (vs := [_, _, _, _, _, _, _, _, _, _, _]) (by decide) (Nat.le_of_ble_eq_true rfl) rfl ?_
  intro X h hr hn
  obtain ⟨r0, ⟨f1, r1, e1⟩, ⟨f2, r2, e2⟩, ⟨f3, r3, e3⟩, ⟨f4, r4, e4⟩, ⟨f5, r5, e5⟩, ⟨f6, r6, e6⟩, ⟨f7, r7, e7⟩, ⟨f8, r8, e8⟩, ⟨f9, r9, e9⟩, ⟨f10, r10, e10⟩, ⟨f11, r11, e11⟩, ⟨f12, r12, e12⟩, ⟨f13, r13⟩, ⟨f14, r14⟩, ⟨f15, r15⟩, ⟨f16, r16, e16⟩, ⟨f17, r17⟩⟩ := id hM
  by_cases na1 : ¬ inR a1 8
  · skip
    refine g_iload_n h 1 dX6_tour_0 rfl rfl ?_
    refine g_callS h [] (c_X6_isVersion (xL X) E _ a1) cf_X6_66 cs_X6_isVersion dX6_tour_1 rfl rfl (Nat.le_of_ble_eq_true rfl) ⟨(Nat.le_of_ble_eq_true rfl), (Nat.le_of_ble_eq_true rfl)⟩ ⟨(Nat.le_of_ble_eq_true rfl), (Nat.le_of_ble_eq_true rfl)⟩ ?_
    refine kk_det ?_
    refine g_if_eqB h 36 dX6_tour_4 (by decide) (fun c4_1 => ?_) (fun c4_1 => absurd c4_1 na1)
    refine g_bipush h (-2) dX6_tour_36 (by decide) ?_
    exact g_iret h hr dX6_tour_38 ((fun e => ⟨by rw [e], by rw [e]; exact hM⟩) (show opTour S a1 a2 a3 a4 = (-2, S) from cif_f (fun q => na1 q.1))) (Nat.le_of_ble_eq_true rfl) (Nat.le_of_ble_eq_true rfl)
  obtain ⟨v, hv9, rfl⟩ := Classical.not_not.mp na1
  have ev9 : cl (nI v) = v := cl_nI (by omega)
  obtain ⟨hnv, hlv⟩ := hI.1 v hv9
  by_cases na2 : ¬ (¬ a2 = nI 0 ∧ inR a2 256)
  · skip
    refine g_iload_n h 1 dX6_tour_0 rfl rfl ?_
    refine g_callS h [] (c_X6_isVersion (xL X) E _ (nI v)) cf_X6_66 cs_X6_isVersion dX6_tour_1 rfl rfl (Nat.le_of_ble_eq_true rfl) ⟨(Nat.le_of_ble_eq_true rfl), (Nat.le_of_ble_eq_true rfl)⟩ ⟨(Nat.le_of_ble_eq_true rfl), (Nat.le_of_ble_eq_true rfl)⟩ ?_
    refine kk_det ?_
    refine g_if_eqB h 36 dX6_tour_4 (by decide) (fun c4_2 => absurd ⟨v, hv9, rfl⟩ c4_2) (fun c4_2 => ?_)
    refine g_iload_n h 2 dX6_tour_7 rfl rfl ?_
    refine g_iconst h (nI 1) dX6_tour_8 (by decide) ?_
    refine g_sipush h (nI 255) dX6_tour_9 (by decide) ?_
    refine g_callS h [] (c_X6_in (xL X) E _ a2 (nI 1) (nI 255)) cf_X6_62 cs_X6_in dX6_tour_12 rfl rfl (Nat.le_of_ble_eq_true rfl) ⟨(Nat.le_of_ble_eq_true rfl), (Nat.le_of_ble_eq_true rfl)⟩ ⟨(Nat.le_of_ble_eq_true rfl), (Nat.le_of_ble_eq_true rfl)⟩ ?_
    refine kk_det ?_
    refine g_top (y := bI (¬ a2 = nI 0 ∧ inR a2 256)) (bI_iff in_1) ?_
    refine g_if_eqB h 36 dX6_tour_15 (by decide) (fun c15_3 => ?_) (fun c15_3 => absurd c15_3 na2)
    refine g_bipush h (-2) dX6_tour_36 (by decide) ?_
    exact g_iret h hr dX6_tour_38 ((fun e => ⟨by rw [e], by rw [e]; exact hM⟩) (show opTour S (nI v) a2 a3 a4 = (-2, S) from cif_f (fun q => na2 q.2.1))) (Nat.le_of_ble_eq_true rfl) (Nat.le_of_ble_eq_true rfl)
  obtain ⟨hw0, w, hw9, rfl⟩ := Classical.not_not.mp na2
  have ew9 : cl (nI w) = w := cl_nI (by omega)
  have hw1 : w ≠ 0 := fun q => hw0 (by rw [q])
  have hp1 : pop w ≠ 0 := fun q => hw1 ((pop_0 w hw9).mp q)
  have hp8 := pop_le w hw9
  by_cases na3 : ¬ inR a3 1000
  · skip
    refine g_iload_n h 1 dX6_tour_0 rfl rfl ?_
    refine g_callS h [] (c_X6_isVersion (xL X) E _ (nI v)) cf_X6_66 cs_X6_isVersion dX6_tour_1 rfl rfl (Nat.le_of_ble_eq_true rfl) ⟨(Nat.le_of_ble_eq_true rfl), (Nat.le_of_ble_eq_true rfl)⟩ ⟨(Nat.le_of_ble_eq_true rfl), (Nat.le_of_ble_eq_true rfl)⟩ ?_
    refine kk_det ?_
    refine g_if_eqB h 36 dX6_tour_4 (by decide) (fun c4_4 => absurd ⟨v, hv9, rfl⟩ c4_4) (fun c4_4 => ?_)
    refine g_iload_n h 2 dX6_tour_7 rfl rfl ?_
    refine g_iconst h (nI 1) dX6_tour_8 (by decide) ?_
    refine g_sipush h (nI 255) dX6_tour_9 (by decide) ?_
    refine g_callS h [] (c_X6_in (xL X) E _ (nI w) (nI 1) (nI 255)) cf_X6_62 cs_X6_in dX6_tour_12 rfl rfl (Nat.le_of_ble_eq_true rfl) ⟨(Nat.le_of_ble_eq_true rfl), (Nat.le_of_ble_eq_true rfl)⟩ ⟨(Nat.le_of_ble_eq_true rfl), (Nat.le_of_ble_eq_true rfl)⟩ ?_
    refine kk_det ?_
    refine g_top (y := bI (¬ (nI w) = nI 0 ∧ inR (nI w) 256)) (bI_iff in_1) ?_
    refine g_if_eqB h 36 dX6_tour_15 (by decide) (fun c15_5 => absurd ⟨hw0, w, hw9, rfl⟩ c15_5) (fun c15_5 => ?_)
    refine g_iload_n h 3 dX6_tour_18 rfl rfl ?_
    refine g_callS h [] (c_X6_isDay (xL X) E _ a3) cf_X6_98 cs_X6_isDay dX6_tour_19 rfl rfl (Nat.le_of_ble_eq_true rfl) ⟨(Nat.le_of_ble_eq_true rfl), (Nat.le_of_ble_eq_true rfl)⟩ ⟨(Nat.le_of_ble_eq_true rfl), (Nat.le_of_ble_eq_true rfl)⟩ ?_
    refine kk_det ?_
    refine g_if_eqB h 36 dX6_tour_22 (by decide) (fun c22_6 => ?_) (fun c22_6 => absurd c22_6 na3)
    refine g_bipush h (-2) dX6_tour_36 (by decide) ?_
    exact g_iret h hr dX6_tour_38 ((fun e => ⟨by rw [e], by rw [e]; exact hM⟩) (show opTour S (nI v) (nI w) a3 a4 = (-2, S) from cif_f (fun q => na3 q.2.2.1))) (Nat.le_of_ble_eq_true rfl) (Nat.le_of_ble_eq_true rfl)
  obtain ⟨d, hd9, rfl⟩ := Classical.not_not.mp na3
  have ed9 : cl (nI d) = d := cl_nI (by omega)
  by_cases na4 : ¬ inR a4 21
  · skip
    refine g_iload_n h 1 dX6_tour_0 rfl rfl ?_
    refine g_callS h [] (c_X6_isVersion (xL X) E _ (nI v)) cf_X6_66 cs_X6_isVersion dX6_tour_1 rfl rfl (Nat.le_of_ble_eq_true rfl) ⟨(Nat.le_of_ble_eq_true rfl), (Nat.le_of_ble_eq_true rfl)⟩ ⟨(Nat.le_of_ble_eq_true rfl), (Nat.le_of_ble_eq_true rfl)⟩ ?_
    refine kk_det ?_
    refine g_if_eqB h 36 dX6_tour_4 (by decide) (fun c4_7 => absurd ⟨v, hv9, rfl⟩ c4_7) (fun c4_7 => ?_)
    refine g_iload_n h 2 dX6_tour_7 rfl rfl ?_
    refine g_iconst h (nI 1) dX6_tour_8 (by decide) ?_
    refine g_sipush h (nI 255) dX6_tour_9 (by decide) ?_
    refine g_callS h [] (c_X6_in (xL X) E _ (nI w) (nI 1) (nI 255)) cf_X6_62 cs_X6_in dX6_tour_12 rfl rfl (Nat.le_of_ble_eq_true rfl) ⟨(Nat.le_of_ble_eq_true rfl), (Nat.le_of_ble_eq_true rfl)⟩ ⟨(Nat.le_of_ble_eq_true rfl), (Nat.le_of_ble_eq_true rfl)⟩ ?_
    refine kk_det ?_
    refine g_top (y := bI (¬ (nI w) = nI 0 ∧ inR (nI w) 256)) (bI_iff in_1) ?_
    refine g_if_eqB h 36 dX6_tour_15 (by decide) (fun c15_8 => absurd ⟨hw0, w, hw9, rfl⟩ c15_8) (fun c15_8 => ?_)
    refine g_iload_n h 3 dX6_tour_18 rfl rfl ?_
    refine g_callS h [] (c_X6_isDay (xL X) E _ (nI d)) cf_X6_98 cs_X6_isDay dX6_tour_19 rfl rfl (Nat.le_of_ble_eq_true rfl) ⟨(Nat.le_of_ble_eq_true rfl), (Nat.le_of_ble_eq_true rfl)⟩ ⟨(Nat.le_of_ble_eq_true rfl), (Nat.le_of_ble_eq_true rfl)⟩ ?_
    refine kk_det ?_
    refine g_if_eqB h 36 dX6_tour_22 (by decide) (fun c22_9 => absurd ⟨d, hd9, rfl⟩ c22_9) (fun c22_9 => ?_)
    refine g_iload h dX6_tour_25 rfl ?_
    refine g_iconst h (nI 0) dX6_tour_27 (by decide) ?_
    refine g_bipush h (nI 20) dX6_tour_28 (by decide) ?_
    refine g_callS h [] (c_X6_in (xL X) E _ a4 (nI 0) (nI 20)) cf_X6_62 cs_X6_in dX6_tour_30 rfl rfl (Nat.le_of_ble_eq_true rfl) ⟨(Nat.le_of_ble_eq_true rfl), (Nat.le_of_ble_eq_true rfl)⟩ ⟨(Nat.le_of_ble_eq_true rfl), (Nat.le_of_ble_eq_true rfl)⟩ ?_
    refine kk_det ?_
    refine g_top (y := bI (inR a4 21)) (bI_iff (in_N (by omega))) ?_
    refine g_if_neB h 39 dX6_tour_33 (by decide) (fun c33_10 => absurd c33_10 na4) (fun c33_10 => ?_)
    refine g_bipush h (-2) dX6_tour_36 (by decide) ?_
    exact g_iret h hr dX6_tour_38 ((fun e => ⟨by rw [e], by rw [e]; exact hM⟩) (show opTour S (nI v) (nI w) (nI d) a4 = (-2, S) from cif_f (fun q => na4 q.2.2.2))) (Nat.le_of_ble_eq_true rfl) (Nat.le_of_ble_eq_true rfl)
  obtain ⟨r, hr9, rfl⟩ := Classical.not_not.mp na4
  have er9 : cl (nI r) = r := cl_nI (by omega)
  have hmul : (pop w - 1) * (r + 1) ≤ 7 * 21 := Nat.mul_le_mul (by omega) (by omega)
  have h40 : ∀ t k, ctS S v d r t k ≤ 40 := fun t k => Nat.le_trans (cutC_le _) hnv
  refine g_iload_n h 1 dX6_tour_0 rfl rfl ?_
  refine g_callS h [] (c_X6_isVersion (xL X) E _ (nI v)) cf_X6_66 cs_X6_isVersion dX6_tour_1 rfl rfl (Nat.le_of_ble_eq_true rfl) ⟨(Nat.le_of_ble_eq_true rfl), (Nat.le_of_ble_eq_true rfl)⟩ ⟨(Nat.le_of_ble_eq_true rfl), (Nat.le_of_ble_eq_true rfl)⟩ ?_
  refine kk_det ?_
  refine g_if_eqB h 36 dX6_tour_4 (by decide) (fun c4_11 => absurd ⟨v, hv9, rfl⟩ c4_11) (fun c4_11 => ?_)
  refine g_iload_n h 2 dX6_tour_7 rfl rfl ?_
  refine g_iconst h (nI 1) dX6_tour_8 (by decide) ?_
  refine g_sipush h (nI 255) dX6_tour_9 (by decide) ?_
  refine g_callS h [] (c_X6_in (xL X) E _ (nI w) (nI 1) (nI 255)) cf_X6_62 cs_X6_in dX6_tour_12 rfl rfl (Nat.le_of_ble_eq_true rfl) ⟨(Nat.le_of_ble_eq_true rfl), (Nat.le_of_ble_eq_true rfl)⟩ ⟨(Nat.le_of_ble_eq_true rfl), (Nat.le_of_ble_eq_true rfl)⟩ ?_
  refine kk_det ?_
  refine g_top (y := bI (¬ (nI w) = nI 0 ∧ inR (nI w) 256)) (bI_iff in_1) ?_
  refine g_if_eqB h 36 dX6_tour_15 (by decide) (fun c15_12 => absurd ⟨hw0, w, hw9, rfl⟩ c15_12) (fun c15_12 => ?_)
  refine g_iload_n h 3 dX6_tour_18 rfl rfl ?_
  refine g_callS h [] (c_X6_isDay (xL X) E _ (nI d)) cf_X6_98 cs_X6_isDay dX6_tour_19 rfl rfl (Nat.le_of_ble_eq_true rfl) ⟨(Nat.le_of_ble_eq_true rfl), (Nat.le_of_ble_eq_true rfl)⟩ ⟨(Nat.le_of_ble_eq_true rfl), (Nat.le_of_ble_eq_true rfl)⟩ ?_
  refine kk_det ?_
  refine g_if_eqB h 36 dX6_tour_22 (by decide) (fun c22_13 => absurd ⟨d, hd9, rfl⟩ c22_13) (fun c22_13 => ?_)
  refine g_iload h dX6_tour_25 rfl ?_
  refine g_iconst h (nI 0) dX6_tour_27 (by decide) ?_
  refine g_bipush h (nI 20) dX6_tour_28 (by decide) ?_
  refine g_callS h [] (c_X6_in (xL X) E _ (nI r) (nI 0) (nI 20)) cf_X6_62 cs_X6_in dX6_tour_30 rfl rfl (Nat.le_of_ble_eq_true rfl) ⟨(Nat.le_of_ble_eq_true rfl), (Nat.le_of_ble_eq_true rfl)⟩ ⟨(Nat.le_of_ble_eq_true rfl), (Nat.le_of_ble_eq_true rfl)⟩ ?_
  refine kk_det ?_
  refine g_top (y := bI (inR (nI r) 21)) (bI_iff (in_N (by omega))) ?_
  refine g_if_neB h 39 dX6_tour_33 (by decide) (fun c33_14 => ?_) (fun c33_14 => absurd ⟨r, hr9, rfl⟩ c33_14)
  refine g_iload_n h 2 dX6_tour_39 rfl rfl ?_
  refine g_callS h [] (c_X6_many (xL X) E _ (R := w) (by omega)) cf_X6_111 cs_X6_many dX6_tour_40 rfl rfl (Nat.le_of_ble_eq_true rfl) ⟨(Nat.le_of_ble_eq_true rfl), (Nat.le_of_ble_eq_true rfl)⟩ ⟨(Nat.le_of_ble_eq_true rfl), (Nat.le_of_ble_eq_true rfl)⟩ ?_
  refine kk_det ?_
  refine g_istore (vs' := [_, _, _, _, _, _, _, _, _, _, _]) h dX6_tour_43 (Nat.le_of_ble_eq_true rfl) rfl rfl ?_
  refine g_iload_n h 3 dX6_tour_45 rfl rfl ?_
  refine g_iload h dX6_tour_46 rfl ?_
  refine g_iconst h (nI 1) dX6_tour_48 (by decide) ?_
  refine g_isubN h dX6_tour_49 (by omega) ?_
  refine g_iload h dX6_tour_50 rfl ?_
  refine g_iconst h (nI 1) dX6_tour_52 (by decide) ?_
  refine g_iaddN h dX6_tour_53 ?_
  refine g_imulN h dX6_tour_54 ?_
  refine g_iaddN h dX6_tour_55 ?_
  refine g_sipush h (nI 999) dX6_tour_56 (by decide) ?_
  refine g_icmp_leN h 65 dX6_tour_59 (by decide) (by omega) (by decide) (fun c59_15 => ?_) (fun c59_15 => ?_)
  · skip
    refine g_iconst h (nI 0) dX6_tour_65 (by decide) ?_
    refine g_istore (vs' := [_, _, _, _, _, _, _, _, _, _, _]) h dX6_tour_66 (Nat.le_of_ble_eq_true rfl) rfl rfl ?_
    refine g_sto (sup_self (e := cI E 64 f15) r15).symm ?_
    refine g_few (vs' := [some (.ref b), some (.int (nI v)), some (.int (nI w)), some (.int (nI d)), some (.int (nI r)), some (.int (nI (pop w))), some (.int (nI 0)), none, none, none, none]) ⟨Or.inr rfl, Or.inr rfl, Or.inr rfl, Or.inr rfl, Or.inr rfl, Or.inr rfl, Or.inr rfl, Or.inl rfl, Or.inl rfl, Or.inl rfl, Or.inl rfl, trivial⟩ ?_
    have L68 : ∀ (m0 : Nat) (k : Nat) (g : Nat → Int32), (k ≤ pop w) → (∀ i j, i < k → j < 8 → g (8 * i + j) = nI ((ctS S v d r) j i)) → (pop w - k) < m0 → G X E 11 (AD σ) (QF X E σ (fun o s => o = some (.int (opTour S (nI v) (nI w) (nI d) (nI r)).1) ∧ RepM E b (opTour S (nI v) (nI w) (nI d) (nI r)).2 s) rm_X6_tour) 0 0 68 [some (.ref b), some (.int (nI v)), some (.int (nI w)), some (.int (nI d)), some (.int (nI r)), some (.int (nI (pop w))), some (.int (nI k)), none, none, none, none] [] (sup σ (b + 15) (cI E 64 g)) := by
      intro m0
      induction m0 with
      | zero => intro k g _ _ hm0; exact absurd hm0 (Nat.not_lt_zero _)
      | succ m0 ih =>
        intro k g hk hg1 hm0
        refine g_iload h dX6_tour_68 rfl ?_
        refine g_iload h dX6_tour_70 rfl ?_
        refine g_icmp_geN h 126 dX6_tour_72 (by decide) (by omega) (by omega) (fun c72_16 => ?_) (fun c72_16 => ?_)
        · skip
          obtain rfl : k = pop w := by omega
          have hgc := hg1
          clear hg1
          refine g_iconst h (nI 0) dX6_tour_126 (by decide) ?_
          refine g_istore (vs' := [_, _, _, _, _, _, _, _, _, _, _]) h dX6_tour_127 (Nat.le_of_ble_eq_true rfl) rfl rfl ?_
          refine g_sto (sup_self (e := cI E 256 f14) ((sup_ne (by omega)).trans r14)).symm ?_
          refine g_few (vs' := [some (.ref b), some (.int (nI v)), some (.int (nI w)), some (.int (nI d)), some (.int (nI r)), some (.int (nI (pop w))), some (.int (nI 0)), none, none, none, none]) ⟨Or.inr rfl, Or.inr rfl, Or.inr rfl, Or.inr rfl, Or.inr rfl, Or.inr rfl, Or.inr rfl, Or.inl rfl, Or.inl rfl, Or.inl rfl, Or.inl rfl, trivial⟩ ?_
          have L129 : ∀ (m0 : Nat) (R : Nat) (gf : Nat → Int32), (R ≤ w + 1) → (∀ u, u < R → sbs u w → gf u = nI (Fm (ctS S v d r) (pop w) (pop u) u)) → (w + 1 - R) < m0 → G X E 11 (AD σ) (QF X E σ (fun o s => o = some (.int (opTour S (nI v) (nI w) (nI d) (nI r)).1) ∧ RepM E b (opTour S (nI v) (nI w) (nI d) (nI r)).2 s) rm_X6_tour) 0 0 129 [some (.ref b), some (.int (nI v)), some (.int (nI w)), some (.int (nI d)), some (.int (nI r)), some (.int (nI (pop w))), some (.int (nI R)), none, none, none, none] [] (sup (sup σ (b + 15) (cI E 64 g)) (b + 14) (cI E 256 gf)) := by
            intro m0
            induction m0 with
            | zero => intro R gf _ _ hm0; exact absurd hm0 (Nat.not_lt_zero _)
            | succ m0 ihR =>
              intro R gf hR hf1 hm0
              refine g_iload h dX6_tour_129 rfl ?_
              refine g_iload_n h 2 dX6_tour_131 rfl rfl ?_
              refine g_icmp_gtN h 255 dX6_tour_132 (by decide) (by omega) (by omega) (fun c132_17 => ?_) (fun c132_17 => ?_)
              · skip
                have hfw : ∀ u, u ≤ w → sbs u w → gf u = nI (Fm (ctS S v d r) (pop w) (pop u) u) := fun u hu hs => hf1 u (by omega) hs
                refine g_iload_n h 2 dX6_tour_255 rfl rfl ?_
                refine g_istore (vs' := [_, _, _, _, _, _, _, _, _, _, _]) h dX6_tour_256 (Nat.le_of_ble_eq_true rfl) rfl rfl ?_
                refine g_iconst h (nI 0) dX6_tour_258 (by decide) ?_
                refine g_istore (vs' := [_, _, _, _, _, _, _, _, _, _, _]) h dX6_tour_259 (Nat.le_of_ble_eq_true rfl) rfl rfl ?_
                refine g_sto (sup_self (e := cI E 8 f16) ((sup_ne (by omega)).trans ((sup_ne (by omega)).trans r16))).symm ?_
                refine g_few (vs' := [some (.ref b), some (.int (nI v)), some (.int (nI w)), some (.int (nI d)), some (.int (nI r)), some (.int (nI (pop w))), some (.int (nI w)), some (.int (nI 0)), none, none, none]) ⟨Or.inr rfl, Or.inr rfl, Or.inr rfl, Or.inr rfl, Or.inr rfl, Or.inr rfl, Or.inr rfl, Or.inr rfl, Or.inl rfl, Or.inl rfl, Or.inl rfl, trivial⟩ ?_
                have L261 : ∀ (m0 : Nat) (k : Nat) (R : Nat) (gt : Nat → Int32), (k ≤ pop w) → (R ≤ w) → (sbs R w) → (pop R + k = pop w) → (∀ i, trT (ctS S v d r) (pop w) (pop w) w (k + i) = trT (ctS S v d r) (pop w) (pop R) R i) → (∀ j, j < k → gt j = nI (trT (ctS S v d r) (pop w) (pop w) w j)) → (pop w - k) < m0 → G X E 11 (AD σ) (QF X E σ (fun o s => o = some (.int (opTour S (nI v) (nI w) (nI d) (nI r)).1) ∧ RepM E b (opTour S (nI v) (nI w) (nI d) (nI r)).2 s) rm_X6_tour) 0 0 261 [some (.ref b), some (.int (nI v)), some (.int (nI w)), some (.int (nI d)), some (.int (nI r)), some (.int (nI (pop w))), some (.int (nI R)), some (.int (nI k)), none, none, none] [] (sup (sup (sup σ (b + 15) (cI E 64 g)) (b + 14) (cI E 256 gf)) (b + 16) (cI E 8 gt)) := by
                  intro m0
                  induction m0 with
                  | zero => intro k R gt _ _ _ _ _ _ hm0; exact absurd hm0 (Nat.not_lt_zero _)
                  | succ m0 ihk =>
                    intro k R gt hk hR hs hpR htr hgt hm0
                    refine g_iload h dX6_tour_261 rfl ?_
                    refine g_iload h dX6_tour_263 rfl ?_
                    refine g_icmp_geN h 351 dX6_tour_265 (by decide) (by omega) (by omega) (fun c265_18 => ?_) (fun c265_18 => ?_)
                    · skip
                      obtain rfl : k = pop w := by omega
                      refine g_aload_n h 0 dX6_tour_351 rfl rfl ?_
                      refine g_iload h dX6_tour_352 rfl ?_
                      refine g_put (fs' := [_, _, _, _, _, _, _, _, _, _, _, _, _, _, _, _, _, _, _, _]) h 17 fp_X6_116 dX6_tour_354 ((sup_ne (by omega)).trans ((sup_ne (by omega)).trans ((sup_ne (by omega)).trans r0))) (Nat.le_of_ble_eq_true rfl) rfl rfl rfl ?_
                      refine g_aload_n h 0 dX6_tour_357 rfl rfl ?_
                      refine g_get h 15 fa_X6_49 dX6_tour_358 sup_eq rfl ?_
                      refine g_iload_n h 2 dX6_tour_361 rfl rfl ?_
                      refine g_iald h dX6_tour_362 ((sup_ne (by omega)).trans ((sup_ne (by omega)).trans sup_eq)) (by omega) (by omega) ?_
                      refine g_top (y := nI (Fm (ctS S v d r) (pop w) (pop w) w)) (hfw w (Nat.le_refl _) sbs_self) ?_
                      exact g_iret h hr dX6_tour_363 ((fun e => ⟨by rw [e], by rw [e]; exact ⟨sup_eq, ⟨_, ((sup_ne (by omega)).trans ((sup_ne (by omega)).trans ((sup_ne (by omega)).trans ((sup_ne (by omega)).trans r1)))), e1⟩, ⟨_, ((sup_ne (by omega)).trans ((sup_ne (by omega)).trans ((sup_ne (by omega)).trans ((sup_ne (by omega)).trans r2)))), e2⟩, ⟨_, ((sup_ne (by omega)).trans ((sup_ne (by omega)).trans ((sup_ne (by omega)).trans ((sup_ne (by omega)).trans r3)))), e3⟩, ⟨_, ((sup_ne (by omega)).trans ((sup_ne (by omega)).trans ((sup_ne (by omega)).trans ((sup_ne (by omega)).trans r4)))), e4⟩, ⟨_, ((sup_ne (by omega)).trans ((sup_ne (by omega)).trans ((sup_ne (by omega)).trans ((sup_ne (by omega)).trans r5)))), e5⟩, ⟨_, ((sup_ne (by omega)).trans ((sup_ne (by omega)).trans ((sup_ne (by omega)).trans ((sup_ne (by omega)).trans r6)))), e6⟩, ⟨_, ((sup_ne (by omega)).trans ((sup_ne (by omega)).trans ((sup_ne (by omega)).trans ((sup_ne (by omega)).trans r7)))), e7⟩, ⟨_, ((sup_ne (by omega)).trans ((sup_ne (by omega)).trans ((sup_ne (by omega)).trans ((sup_ne (by omega)).trans r8)))), e8⟩, ⟨_, ((sup_ne (by omega)).trans ((sup_ne (by omega)).trans ((sup_ne (by omega)).trans ((sup_ne (by omega)).trans r9)))), e9⟩, ⟨_, ((sup_ne (by omega)).trans ((sup_ne (by omega)).trans ((sup_ne (by omega)).trans ((sup_ne (by omega)).trans r10)))), e10⟩, ⟨_, ((sup_ne (by omega)).trans ((sup_ne (by omega)).trans ((sup_ne (by omega)).trans ((sup_ne (by omega)).trans r11)))), e11⟩, ⟨_, ((sup_ne (by omega)).trans ((sup_ne (by omega)).trans ((sup_ne (by omega)).trans ((sup_ne (by omega)).trans r12)))), e12⟩, ⟨_, ((sup_ne (by omega)).trans ((sup_ne (by omega)).trans ((sup_ne (by omega)).trans ((sup_ne (by omega)).trans r13))))⟩, ⟨_, ((sup_ne (by omega)).trans ((sup_ne (by omega)).trans sup_eq))⟩, ⟨_, ((sup_ne (by omega)).trans ((sup_ne (by omega)).trans ((sup_ne (by omega)).trans sup_eq)))⟩, ⟨_, ((sup_ne (by omega)).trans sup_eq), hgt⟩, ⟨_, ((sup_ne (by omega)).trans ((sup_ne (by omega)).trans ((sup_ne (by omega)).trans ((sup_ne (by omega)).trans r17))))⟩⟩⟩) (show opTour S (nI v) (nI w) (nI d) (nI r) = (nI (Fm (ctS S v d r) (pop w) (pop w) w), setT S (pop w) (trT (ctS S v d r) (pop w) (pop w) w)) from by unfold opTour; rw [cif_t ⟨⟨v, hv9, rfl⟩, ⟨hw0, ⟨w, hw9, rfl⟩⟩, ⟨d, hd9, rfl⟩, ⟨r, hr9, rfl⟩⟩, cif_t (by rw [ed9, ew9, er9]; exact c59_15), ev9, ew9, ed9, er9])) (Nat.le_of_ble_eq_true rfl) (Nat.le_of_ble_eq_true rfl)
                    · skip
                      have hR0 : R ≠ 0 := fun e => by rw [(pop_0 R (by omega)).mpr e] at hpR; omega
                      obtain ⟨t, hn, ht8, hb⟩ := nxT_some (ct := (ctS S v d r)) (all := pop w) (f := pop R) (R := R) (by omega) hR0
                      have hfm := Fm_nx2 (by omega) hR0 hn
                      have hmin := bestT_min (show bestT (cF (ctS S v d r) (pop w) R) R 8 = some t from hn)
                      obtain ⟨x1, x2, x3⟩ := pop_rm R (by omega) t ht8 hb
                      have hcb := cF_le h40 (all := pop w) (R := R) (t := t) (by omega)
                      refine g_iconst h (nI 0) dX6_tour_268 (by decide) ?_
                      refine g_istore (vs' := [_, _, _, _, _, _, _, _, _, _, _]) h dX6_tour_269 (Nat.le_of_ble_eq_true rfl) rfl rfl ?_
                      have L271 : ∀ (m0 : Nat) (u : Nat), (u ≤ t) → (t + 1 - u) < m0 → G X E 11 (AD σ) (QF X E σ (fun o s => o = some (.int (opTour S (nI v) (nI w) (nI d) (nI r)).1) ∧ RepM E b (opTour S (nI v) (nI w) (nI d) (nI r)).2 s) rm_X6_tour) 0 0 271 [some (.ref b), some (.int (nI v)), some (.int (nI w)), some (.int (nI d)), some (.int (nI r)), some (.int (nI (pop w))), some (.int (nI R)), some (.int (nI k)), some (.int (nI u)), none, none] [] (sup (sup (sup σ (b + 15) (cI E 64 g)) (b + 14) (cI E 256 gf)) (b + 16) (cI E 8 gt)) := by
                        intro m0
                        induction m0 with
                        | zero => intro u _ hm0; exact absurd hm0 (Nat.not_lt_zero _)
                        | succ m0 ihu =>
                          intro u hu hm0
                          refine g_iload h dX6_tour_271 rfl ?_
                          refine g_iload h dX6_tour_273 rfl ?_
                          refine g_ishr h dX6_tour_275 ?_
                          refine g_iconst h (nI 1) dX6_tour_276 (by decide) ?_
                          refine g_iand h dX6_tour_277 ?_
                          refine g_top (y := nI (R.testBit u).toNat) (sb_N R (by omega) u (by omega)) ?_
                          have htn := tn_le (b := R.testBit u)
                          refine g_if_eqN h 319 dX6_tour_278 (by decide) (by omega) (fun c278_19 => ?_) (fun c278_19 => ?_)
                          · skip
                            refine g_iinc (vs' := [_, _, _, _, _, _, _, _, _, _, _]) h (nI (u + 1)) dX6_tour_319 rfl (by first | exact nI_1 _ | rfl) (Nat.le_of_ble_eq_true rfl) rfl rfl ?_
                            refine g_goto h 271 dX6_tour_322 (by decide) ?_
                            exact ihu (u + 1) (by have hne : u ≠ t := fun e => (by rw [e, hb] at c278_19; exact absurd c278_19 (by decide)); omega) (by omega)
                          · skip
                            have hbu : R.testBit u = true := tn_1 (by omega)
                            obtain ⟨y1, y2, y3⟩ := pop_rm R (by omega) u (by omega) hbu
                            have hcu := cF_le h40 (all := pop w) (R := R) (t := u) (by omega)
                            have hs2 := sbs_rm hbu hs
                            refine g_aload_n h 0 dX6_tour_281 rfl rfl ?_
                            refine g_get h 16 fa_X6_52 dX6_tour_282 ((sup_ne (by omega)).trans ((sup_ne (by omega)).trans ((sup_ne (by omega)).trans r0))) rfl ?_
                            refine g_bipush h (nI 8) dX6_tour_285 (by decide) ?_
                            refine g_iload h dX6_tour_287 rfl ?_
                            refine g_imulN h dX6_tour_289 ?_
                            refine g_iload h dX6_tour_290 rfl ?_
                            refine g_iaddN h dX6_tour_292 ?_
                            refine g_iald h dX6_tour_293 ((sup_ne (by omega)).trans ((sup_ne (by omega)).trans sup_eq)) (by omega) (by omega) ?_
                            refine g_top (y := nI ((ctS S v d r) u k)) (hgc k u (by omega) (by omega)) ?_
                            refine g_aload_n h 0 dX6_tour_294 rfl rfl ?_
                            refine g_get h 15 fa_X6_49 dX6_tour_295 ((sup_ne (by omega)).trans ((sup_ne (by omega)).trans ((sup_ne (by omega)).trans r0))) rfl ?_
                            refine g_iload h dX6_tour_298 rfl ?_
                            refine g_iconst h (nI 1) dX6_tour_300 (by decide) ?_
                            refine g_iload h dX6_tour_301 rfl ?_
                            refine g_ishl h dX6_tour_303 ?_
                            refine g_iconst h (-1) dX6_tour_304 (by decide) ?_
                            refine g_ixor h dX6_tour_305 ?_
                            refine g_iand h dX6_tour_306 ?_
                            refine g_top (y := nI (R ^^^ 2 ^ u)) (rm_N R (by omega) u (by omega) hbu) ?_
                            refine g_iald h dX6_tour_307 ((sup_ne (by omega)).trans sup_eq) (by omega) (by omega) ?_
                            refine g_top (y := nI (Fm (ctS S v d r) (pop w) (pop R - 1) (R ^^^ 2 ^ u))) ((hfw _ (by omega) hs2).trans (by rw [show pop (R ^^^ 2 ^ u) = pop R - 1 by omega])) ?_
                            refine g_iaddN h dX6_tour_308 ?_
                            refine g_top (y := nI ((cF (ctS S v d r) (pop w) R) u)) (congrArg nI (show _ = (ctS S v d r) u (pop w - pop R) + _ from by rw [show pop w - pop R = k by omega])) ?_
                            refine g_aload_n h 0 dX6_tour_309 rfl rfl ?_
                            refine g_get h 15 fa_X6_49 dX6_tour_310 ((sup_ne (by omega)).trans ((sup_ne (by omega)).trans ((sup_ne (by omega)).trans r0))) rfl ?_
                            refine g_iload h dX6_tour_313 rfl ?_
                            refine g_iald h dX6_tour_315 ((sup_ne (by omega)).trans sup_eq) (by omega) (by omega) ?_
                            refine g_top (y := nI (cF (ctS S v d r) (pop w) R t)) ((hfw R (by omega) hs).trans (congrArg nI hfm)) ?_
                            refine g_icmp_eqN h 325 dX6_tour_316 (by decide) (by omega) (by omega) (fun c316_20 => ?_) (fun c316_20 => ?_)
                            · skip
                              obtain rfl : t = u := by
                                refine Classical.byContradiction fun e => ?_
                                have := (hmin u (by omega) hbu).2 (by omega)
                                omega
                              refine g_aload_n h 0 dX6_tour_325 rfl rfl ?_
                              refine g_get h 18 fa_X6_55 dX6_tour_326 ((sup_ne (by omega)).trans ((sup_ne (by omega)).trans ((sup_ne (by omega)).trans r0))) rfl ?_
                              refine g_iload h dX6_tour_329 rfl ?_
                              refine g_iload h dX6_tour_331 rfl ?_
                              refine g_iast h dX6_tour_333 sup_eq (by omega) (by omega) ?_
                              refine g_sto sup_sup ?_
                              refine g_iload h dX6_tour_334 rfl ?_
                              refine g_iconst h (nI 1) dX6_tour_336 (by decide) ?_
                              refine g_iload h dX6_tour_337 rfl ?_
                              refine g_ishl h dX6_tour_339 ?_
                              refine g_iconst h (-1) dX6_tour_340 (by decide) ?_
                              refine g_ixor h dX6_tour_341 ?_
                              refine g_iand h dX6_tour_342 ?_
                              refine g_top (y := nI (R ^^^ 2 ^ t)) (rm_N R (by omega) t (by omega) hb) ?_
                              refine g_istore (vs' := [_, _, _, _, _, _, _, _, _, _, _]) h dX6_tour_343 (Nat.le_of_ble_eq_true rfl) rfl rfl ?_
                              refine g_iinc (vs' := [_, _, _, _, _, _, _, _, _, _, _]) h (nI (k + 1)) dX6_tour_345 rfl (by first | exact nI_1 _ | rfl) (Nat.le_of_ble_eq_true rfl) rfl rfl ?_
                              refine g_goto h 261 dX6_tour_348 (by decide) ?_
                              refine g_few (vs' := [some (.ref b), some (.int (nI v)), some (.int (nI w)), some (.int (nI d)), some (.int (nI r)), some (.int (nI (pop w))), some (.int (nI (R ^^^ 2 ^ t))), some (.int (nI (k + 1))), none, none, none]) ⟨Or.inr rfl, Or.inr rfl, Or.inr rfl, Or.inr rfl, Or.inr rfl, Or.inr rfl, Or.inr rfl, Or.inr rfl, Or.inl rfl, Or.inl rfl, Or.inl rfl, trivial⟩ ?_
                              obtain ⟨w1, w2⟩ := trT_s (show nxT (ctS S v d r) (pop w) (pop R - 1 + 1) R = some t from by rw [Nat.sub_add_cancel (by omega)]; exact hn)
                              rw [Nat.sub_add_cancel (by omega)] at w1 w2
                              refine ihk (k + 1) (R ^^^ 2 ^ t) _ (by omega) (by omega) (sbs_rm hb hs) (by omega) (fun i => ?_) (fun j hj => ?_) (by omega)
                              · rw [show k + 1 + i = k + (i + 1) by omega, htr, w2, show pop (R ^^^ 2 ^ t) = pop R - 1 by omega]
                              · by_cases e : j = k
                                · subst e
                                  rw [upd_eq9]
                                  have := htr 0
                                  rw [Nat.add_zero, w1] at this
                                  rw [this]
                                · rw [upd_ne9 e]
                                  exact hgt j (by omega)
                            · skip
                              refine g_iinc (vs' := [_, _, _, _, _, _, _, _, _, _, _]) h (nI (u + 1)) dX6_tour_319 rfl (by first | exact nI_1 _ | rfl) (Nat.le_of_ble_eq_true rfl) rfl rfl ?_
                              refine g_goto h 271 dX6_tour_322 (by decide) ?_
                              exact ihu (u + 1) (by have hne : u ≠ t := fun e => c316_20 (by rw [e]); omega) (by omega)
                      exact L271 (t + 2) 0 (by omega) (by omega)
                exact L261 (pop w + 1) 0 w f16 (by omega) (Nat.le_refl _) sbs_self (by omega) (fun i => by rw [Nat.zero_add]) (fun j q => absurd q (Nat.not_lt_zero _)) (by omega)
              · skip
                refine g_iload h dX6_tour_135 rfl ?_
                refine g_iload_n h 2 dX6_tour_137 rfl rfl ?_
                refine g_iconst h (-1) dX6_tour_138 (by decide) ?_
                refine g_ixor h dX6_tour_139 ?_
                refine g_iand h dX6_tour_140 ?_
                refine g_if_ne h 249 dX6_tour_141 (by decide) (fun c141_21 => ?_) (fun c141_21 => ?_)
                · skip
                  refine g_iinc (vs' := [_, _, _, _, _, _, _, _, _, _, _]) h (nI (R + 1)) dX6_tour_249 rfl (by first | exact nI_1 _ | rfl) (Nat.le_of_ble_eq_true rfl) rfl rfl ?_
                  refine g_goto h 129 dX6_tour_252 (by decide) ?_
                  refine g_few (vs' := [some (.ref b), some (.int (nI v)), some (.int (nI w)), some (.int (nI d)), some (.int (nI r)), some (.int (nI (pop w))), some (.int (nI (R + 1))), none, none, none, none]) ⟨Or.inr rfl, Or.inr rfl, Or.inr rfl, Or.inr rfl, Or.inr rfl, Or.inr rfl, Or.inr rfl, Or.inl rfl, Or.inl rfl, Or.inl rfl, Or.inl rfl, trivial⟩ ?_
                  exact ihR (R + 1) gf (by omega) (fun u hu hs => by
                    rcases Nat.lt_or_ge u R with e | e
                    · exact hf1 u e hs
                    · obtain rfl : u = R := by omega
                      exact absurd hs (fun q => c141_21 ((nI_andnot0 hw9 (by omega)).mpr q))) (by omega)
                · skip
                  have hs : sbs R w := (nI_andnot0 hw9 (by omega)).mp c141_21
                  have hpx := pop_xor hs
                  have hpR := pop_le R (by omega)
                  refine g_iload h dX6_tour_144 rfl ?_
                  refine g_iload h dX6_tour_146 rfl ?_
                  refine g_callS h [_] (c_X6_many (xL X) E _ (R := R) (by omega)) cf_X6_111 cs_X6_many dX6_tour_148 rfl rfl (Nat.le_of_ble_eq_true rfl) ⟨(Nat.le_of_ble_eq_true rfl), (Nat.le_of_ble_eq_true rfl)⟩ ⟨(Nat.le_of_ble_eq_true rfl), (Nat.le_of_ble_eq_true rfl)⟩ ?_
                  refine kk_det ?_
                  refine g_isubN h dX6_tour_151 (by omega) ?_
                  refine g_istore (vs' := [_, _, _, _, _, _, _, _, _, _, _]) h dX6_tour_152 (Nat.le_of_ble_eq_true rfl) rfl rfl ?_
                  refine g_iload h dX6_tour_154 rfl ?_
                  refine g_if_neN h 163 dX6_tour_156 (by decide) (by omega) (fun c156_22 => ?_) (fun c156_22 => ?_)
                  · skip
                    refine g_ldc h 100000 lc_X6_115 dX6_tour_163 ?_
                    refine g_top (y := nI 100000) (by decide) ?_
                    refine g_istore (vs' := [_, _, _, _, _, _, _, _, _, _, _]) h dX6_tour_165 (Nat.le_of_ble_eq_true rfl) rfl rfl ?_
                    refine g_iconst h (nI 0) dX6_tour_167 (by decide) ?_
                    refine g_istore (vs' := [_, _, _, _, _, _, _, _, _, _, _]) h dX6_tour_168 (Nat.le_of_ble_eq_true rfl) rfl rfl ?_
                    refine g_few (vs' := [some (.ref b), some (.int (nI v)), some (.int (nI w)), some (.int (nI d)), some (.int (nI r)), some (.int (nI (pop w))), some (.int (nI R)), some (.int (nI ((pop w) - (pop R)))), some (.int (nI 100000)), some (.int (nI 0)), none]) ⟨Or.inr rfl, Or.inr rfl, Or.inr rfl, Or.inr rfl, Or.inr rfl, Or.inr rfl, Or.inr rfl, Or.inr rfl, Or.inr rfl, Or.inr rfl, Or.inl rfl, trivial⟩ ?_
                    have L170 : ∀ (m0 : Nat) (t : Nat) (q : Nat), (t ≤ 8) → (q = bV (cF (ctS S v d r) (pop w) R) R (if R = 0 then 0 else 100000) t) → (8 - t) < m0 → G X E 11 (AD σ) (QF X E σ (fun o s => o = some (.int (opTour S (nI v) (nI w) (nI d) (nI r)).1) ∧ RepM E b (opTour S (nI v) (nI w) (nI d) (nI r)).2 s) rm_X6_tour) 0 0 170 [some (.ref b), some (.int (nI v)), some (.int (nI w)), some (.int (nI d)), some (.int (nI r)), some (.int (nI (pop w))), some (.int (nI R)), some (.int (nI (pop w - pop R))), some (.int (nI q)), some (.int (nI t)), none] [] (sup (sup σ (b + 15) (cI E 64 g)) (b + 14) (cI E 256 gf)) := by
                      intro m0
                      induction m0 with
                      | zero => intro t q _ _ hm0; exact absurd hm0 (Nat.not_lt_zero _)
                      | succ m0 iht =>
                        intro t q ht hq hm0
                        have hqb := bV_le (c := (cF (ctS S v d r) (pop w) R)) (R := R) (z := if R = 0 then 0 else 100000) (b := 100000) (fun t => Nat.le_trans (cF_le h40 (all := pop w) (R := R) (by omega)) (by omega)) (by split <;> omega) t
                        refine g_iload h dX6_tour_170 rfl ?_
                        refine g_bipush h (nI 8) dX6_tour_172 (by decide) ?_
                        refine g_icmp_geN h 240 dX6_tour_174 (by decide) (by omega) (by decide) (fun c174_23 => ?_) (fun c174_23 => ?_)
                        · skip
                          obtain rfl : t = 8 := by omega
                          refine g_aload_n h 0 dX6_tour_240 rfl rfl ?_
                          refine g_get h 15 fa_X6_49 dX6_tour_241 ((sup_ne (by omega)).trans ((sup_ne (by omega)).trans r0)) rfl ?_
                          refine g_iload h dX6_tour_244 rfl ?_
                          refine g_iload h dX6_tour_246 rfl ?_
                          refine g_iast h dX6_tour_248 sup_eq (by omega) (by omega) ?_
                          refine g_sto sup_sup ?_
                          refine g_iinc (vs' := [_, _, _, _, _, _, _, _, _, _, _]) h (nI (R + 1)) dX6_tour_249 rfl (by first | exact nI_1 _ | rfl) (Nat.le_of_ble_eq_true rfl) rfl rfl ?_
                          refine g_goto h 129 dX6_tour_252 (by decide) ?_
                          refine g_few (vs' := [some (.ref b), some (.int (nI v)), some (.int (nI w)), some (.int (nI d)), some (.int (nI r)), some (.int (nI (pop w))), some (.int (nI (R + 1))), none, none, none, none]) ⟨Or.inr rfl, Or.inr rfl, Or.inr rfl, Or.inr rfl, Or.inr rfl, Or.inr rfl, Or.inr rfl, Or.inl rfl, Or.inl rfl, Or.inl rfl, Or.inl rfl, trivial⟩ ?_
                          exact ihR (R + 1) _ (by omega) (fun u hu hs => by
                            rcases Nat.lt_or_ge u R with e | e
                            · rw [upd_ne9 (by omega)]
                              exact hf1 u e hs
                            · obtain rfl : u = R := by omega
                              rw [upd_eq9, hq, Fm_bV (by omega)]) (by omega)
                        · skip
                          refine g_iload h dX6_tour_177 rfl ?_
                          refine g_iload h dX6_tour_179 rfl ?_
                          refine g_ishr h dX6_tour_181 ?_
                          refine g_iconst h (nI 1) dX6_tour_182 (by decide) ?_
                          refine g_iand h dX6_tour_183 ?_
                          refine g_top (y := nI (R.testBit t).toNat) (sb_N R (by omega) t (by omega)) ?_
                          have htn := tn_le (b := R.testBit t)
                          refine g_iconst h (nI 1) dX6_tour_184 (by decide) ?_
                          refine g_icmp_neN h 234 dX6_tour_185 (by decide) (by omega) (by decide) (fun c185_24 => ?_) (fun c185_24 => ?_)
                          · skip
                            refine g_iinc (vs' := [_, _, _, _, _, _, _, _, _, _, _]) h (nI (t + 1)) dX6_tour_234 rfl (by first | exact nI_1 _ | rfl) (Nat.le_of_ble_eq_true rfl) rfl rfl ?_
                            refine g_goto h 170 dX6_tour_237 (by decide) ?_
                            refine g_few (vs' := [some (.ref b), some (.int (nI v)), some (.int (nI w)), some (.int (nI d)), some (.int (nI r)), some (.int (nI (pop w))), some (.int (nI R)), some (.int (nI (pop w - pop R))), some (.int (nI q)), some (.int (nI (t + 1))), none]) ⟨Or.inr rfl, Or.inr rfl, Or.inr rfl, Or.inr rfl, Or.inr rfl, Or.inr rfl, Or.inr rfl, Or.inr rfl, Or.inr rfl, Or.inr rfl, Or.inl rfl, trivial⟩ ?_
                            exact iht (t + 1) _ (by omega) (by rw [hq, bV_s1 (tn_0 (by omega))]) (by omega)
                          · skip
                            have hb : R.testBit t = true := tn_1 (by omega)
                            obtain ⟨x1, x2, x3⟩ := pop_rm R (by omega) t (by omega) hb
                            have hcf := cF_le h40 (all := pop w) (R := R) (t := t) (by omega)
                            have hz0 : R ≠ 0 := fun e => by rw [e, Nat.zero_testBit] at hb; cases hb
                            have hz1 : (if R = 0 then 0 else 100000) = 100000 := if_neg hz0
                            have hs2 := sbs_rm hb hs
                            have hst := bV_s2 (c := (cF (ctS S v d r) (pop w) R)) (R := R) (z := if R = 0 then 0 else 100000) hb (by rw [hz1]; omega)
                            refine g_aload_n h 0 dX6_tour_188 rfl rfl ?_
                            refine g_get h 16 fa_X6_52 dX6_tour_189 ((sup_ne (by omega)).trans ((sup_ne (by omega)).trans r0)) rfl ?_
                            refine g_bipush h (nI 8) dX6_tour_192 (by decide) ?_
                            refine g_iload h dX6_tour_194 rfl ?_
                            refine g_imulN h dX6_tour_196 ?_
                            refine g_iload h dX6_tour_197 rfl ?_
                            refine g_iaddN h dX6_tour_199 ?_
                            refine g_iald h dX6_tour_200 ((sup_ne (by omega)).trans sup_eq) (by omega) (by omega) ?_
                            refine g_top (y := nI ((ctS S v d r) t (pop w - pop R))) (hgc (pop w - pop R) t (by omega) (by omega)) ?_
                            refine g_aload_n h 0 dX6_tour_201 rfl rfl ?_
                            refine g_get h 15 fa_X6_49 dX6_tour_202 ((sup_ne (by omega)).trans ((sup_ne (by omega)).trans r0)) rfl ?_
                            refine g_iload h dX6_tour_205 rfl ?_
                            refine g_iconst h (nI 1) dX6_tour_207 (by decide) ?_
                            refine g_iload h dX6_tour_208 rfl ?_
                            refine g_ishl h dX6_tour_210 ?_
                            refine g_iconst h (-1) dX6_tour_211 (by decide) ?_
                            refine g_ixor h dX6_tour_212 ?_
                            refine g_iand h dX6_tour_213 ?_
                            refine g_top (y := nI (R ^^^ 2 ^ t)) (rm_N R (by omega) t (by omega) hb) ?_
                            refine g_iald h dX6_tour_214 sup_eq (by omega) (by omega) ?_
                            refine g_top (y := nI (Fm (ctS S v d r) (pop w) (pop R - 1) (R ^^^ 2 ^ t))) ((hf1 _ x3 hs2).trans (by rw [show pop (R ^^^ 2 ^ t) = pop R - 1 by omega])) ?_
                            refine g_iaddN h dX6_tour_215 ?_
                            refine g_top (y := nI ((cF (ctS S v d r) (pop w) R) t)) rfl ?_
                            refine g_istore (vs' := [_, _, _, _, _, _, _, _, _, _, _]) h dX6_tour_216 (Nat.le_of_ble_eq_true rfl) rfl rfl ?_
                            refine g_iload h dX6_tour_218 rfl ?_
                            refine g_iload h dX6_tour_220 rfl ?_
                            refine g_icmp_geN h 230 dX6_tour_222 (by decide) (by omega) (by omega) (fun c222_25 => ?_) (fun c222_25 => ?_)
                            · skip
                              refine g_iload h dX6_tour_230 rfl ?_
                              refine g_istore (vs' := [_, _, _, _, _, _, _, _, _, _, _]) h dX6_tour_232 (Nat.le_of_ble_eq_true rfl) rfl rfl ?_
                              refine g_iinc (vs' := [_, _, _, _, _, _, _, _, _, _, _]) h (nI (t + 1)) dX6_tour_234 rfl (by first | exact nI_1 _ | rfl) (Nat.le_of_ble_eq_true rfl) rfl rfl ?_
                              refine g_goto h 170 dX6_tour_237 (by decide) ?_
                              refine g_few (vs' := [some (.ref b), some (.int (nI v)), some (.int (nI w)), some (.int (nI d)), some (.int (nI r)), some (.int (nI (pop w))), some (.int (nI R)), some (.int (nI (pop w - pop R))), some (.int (nI q)), some (.int (nI (t + 1))), none]) ⟨Or.inr rfl, Or.inr rfl, Or.inr rfl, Or.inr rfl, Or.inr rfl, Or.inr rfl, Or.inr rfl, Or.inr rfl, Or.inr rfl, Or.inr rfl, Or.inl rfl, trivial⟩ ?_
                              exact iht (t + 1) _ (by omega) (by rw [hst, if_neg (by omega)]; exact hq) (by omega)
                            · skip
                              refine g_iload h dX6_tour_225 rfl ?_
                              refine g_goto h 232 dX6_tour_227 (by decide) ?_
                              refine g_istore (vs' := [_, _, _, _, _, _, _, _, _, _, _]) h dX6_tour_232 (Nat.le_of_ble_eq_true rfl) rfl rfl ?_
                              refine g_iinc (vs' := [_, _, _, _, _, _, _, _, _, _, _]) h (nI (t + 1)) dX6_tour_234 rfl (by first | exact nI_1 _ | rfl) (Nat.le_of_ble_eq_true rfl) rfl rfl ?_
                              refine g_goto h 170 dX6_tour_237 (by decide) ?_
                              refine g_few (vs' := [some (.ref b), some (.int (nI v)), some (.int (nI w)), some (.int (nI d)), some (.int (nI r)), some (.int (nI (pop w))), some (.int (nI R)), some (.int (nI (pop w - pop R))), some (.int (nI (cF (ctS S v d r) (pop w) R t))), some (.int (nI (t + 1))), none]) ⟨Or.inr rfl, Or.inr rfl, Or.inr rfl, Or.inr rfl, Or.inr rfl, Or.inr rfl, Or.inr rfl, Or.inr rfl, Or.inr rfl, Or.inr rfl, Or.inl rfl, trivial⟩ ?_
                              exact iht (t + 1) _ (by omega) (by rw [hst, if_pos (by omega)]) (by omega)
                    exact L170 9 0 _ (by omega) (by show _ = (if R = 0 then 0 else 100000); rw [if_neg (by omega)]) (by omega)
                  · skip
                    refine g_iconst h (nI 0) dX6_tour_159 (by decide) ?_
                    refine g_goto h 165 dX6_tour_160 (by decide) ?_
                    refine g_istore (vs' := [_, _, _, _, _, _, _, _, _, _, _]) h dX6_tour_165 (Nat.le_of_ble_eq_true rfl) rfl rfl ?_
                    refine g_iconst h (nI 0) dX6_tour_167 (by decide) ?_
                    refine g_istore (vs' := [_, _, _, _, _, _, _, _, _, _, _]) h dX6_tour_168 (Nat.le_of_ble_eq_true rfl) rfl rfl ?_
                    refine g_few (vs' := [some (.ref b), some (.int (nI v)), some (.int (nI w)), some (.int (nI d)), some (.int (nI r)), some (.int (nI (pop w))), some (.int (nI R)), some (.int (nI ((pop w) - (pop R)))), some (.int (nI 0)), some (.int (nI 0)), none]) ⟨Or.inr rfl, Or.inr rfl, Or.inr rfl, Or.inr rfl, Or.inr rfl, Or.inr rfl, Or.inr rfl, Or.inr rfl, Or.inr rfl, Or.inr rfl, Or.inl rfl, trivial⟩ ?_
                    have L170 : ∀ (m0 : Nat) (t : Nat) (q : Nat), (t ≤ 8) → (q = bV (cF (ctS S v d r) (pop w) R) R (if R = 0 then 0 else 100000) t) → (8 - t) < m0 → G X E 11 (AD σ) (QF X E σ (fun o s => o = some (.int (opTour S (nI v) (nI w) (nI d) (nI r)).1) ∧ RepM E b (opTour S (nI v) (nI w) (nI d) (nI r)).2 s) rm_X6_tour) 0 0 170 [some (.ref b), some (.int (nI v)), some (.int (nI w)), some (.int (nI d)), some (.int (nI r)), some (.int (nI (pop w))), some (.int (nI R)), some (.int (nI (pop w - pop R))), some (.int (nI q)), some (.int (nI t)), none] [] (sup (sup σ (b + 15) (cI E 64 g)) (b + 14) (cI E 256 gf)) := by
                      intro m0
                      induction m0 with
                      | zero => intro t q _ _ hm0; exact absurd hm0 (Nat.not_lt_zero _)
                      | succ m0 iht =>
                        intro t q ht hq hm0
                        have hqb := bV_le (c := (cF (ctS S v d r) (pop w) R)) (R := R) (z := if R = 0 then 0 else 100000) (b := 100000) (fun t => Nat.le_trans (cF_le h40 (all := pop w) (R := R) (by omega)) (by omega)) (by split <;> omega) t
                        refine g_iload h dX6_tour_170 rfl ?_
                        refine g_bipush h (nI 8) dX6_tour_172 (by decide) ?_
                        refine g_icmp_geN h 240 dX6_tour_174 (by decide) (by omega) (by decide) (fun c174_26 => ?_) (fun c174_26 => ?_)
                        · skip
                          obtain rfl : t = 8 := by omega
                          refine g_aload_n h 0 dX6_tour_240 rfl rfl ?_
                          refine g_get h 15 fa_X6_49 dX6_tour_241 ((sup_ne (by omega)).trans ((sup_ne (by omega)).trans r0)) rfl ?_
                          refine g_iload h dX6_tour_244 rfl ?_
                          refine g_iload h dX6_tour_246 rfl ?_
                          refine g_iast h dX6_tour_248 sup_eq (by omega) (by omega) ?_
                          refine g_sto sup_sup ?_
                          refine g_iinc (vs' := [_, _, _, _, _, _, _, _, _, _, _]) h (nI (R + 1)) dX6_tour_249 rfl (by first | exact nI_1 _ | rfl) (Nat.le_of_ble_eq_true rfl) rfl rfl ?_
                          refine g_goto h 129 dX6_tour_252 (by decide) ?_
                          refine g_few (vs' := [some (.ref b), some (.int (nI v)), some (.int (nI w)), some (.int (nI d)), some (.int (nI r)), some (.int (nI (pop w))), some (.int (nI (R + 1))), none, none, none, none]) ⟨Or.inr rfl, Or.inr rfl, Or.inr rfl, Or.inr rfl, Or.inr rfl, Or.inr rfl, Or.inr rfl, Or.inl rfl, Or.inl rfl, Or.inl rfl, Or.inl rfl, trivial⟩ ?_
                          exact ihR (R + 1) _ (by omega) (fun u hu hs => by
                            rcases Nat.lt_or_ge u R with e | e
                            · rw [upd_ne9 (by omega)]
                              exact hf1 u e hs
                            · obtain rfl : u = R := by omega
                              rw [upd_eq9, hq, Fm_bV (by omega)]) (by omega)
                        · skip
                          refine g_iload h dX6_tour_177 rfl ?_
                          refine g_iload h dX6_tour_179 rfl ?_
                          refine g_ishr h dX6_tour_181 ?_
                          refine g_iconst h (nI 1) dX6_tour_182 (by decide) ?_
                          refine g_iand h dX6_tour_183 ?_
                          refine g_top (y := nI (R.testBit t).toNat) (sb_N R (by omega) t (by omega)) ?_
                          have htn := tn_le (b := R.testBit t)
                          refine g_iconst h (nI 1) dX6_tour_184 (by decide) ?_
                          refine g_icmp_neN h 234 dX6_tour_185 (by decide) (by omega) (by decide) (fun c185_27 => ?_) (fun c185_27 => ?_)
                          · skip
                            refine g_iinc (vs' := [_, _, _, _, _, _, _, _, _, _, _]) h (nI (t + 1)) dX6_tour_234 rfl (by first | exact nI_1 _ | rfl) (Nat.le_of_ble_eq_true rfl) rfl rfl ?_
                            refine g_goto h 170 dX6_tour_237 (by decide) ?_
                            refine g_few (vs' := [some (.ref b), some (.int (nI v)), some (.int (nI w)), some (.int (nI d)), some (.int (nI r)), some (.int (nI (pop w))), some (.int (nI R)), some (.int (nI (pop w - pop R))), some (.int (nI q)), some (.int (nI (t + 1))), none]) ⟨Or.inr rfl, Or.inr rfl, Or.inr rfl, Or.inr rfl, Or.inr rfl, Or.inr rfl, Or.inr rfl, Or.inr rfl, Or.inr rfl, Or.inr rfl, Or.inl rfl, trivial⟩ ?_
                            exact iht (t + 1) _ (by omega) (by rw [hq, bV_s1 (tn_0 (by omega))]) (by omega)
                          · skip
                            have hb : R.testBit t = true := tn_1 (by omega)
                            obtain ⟨x1, x2, x3⟩ := pop_rm R (by omega) t (by omega) hb
                            have hcf := cF_le h40 (all := pop w) (R := R) (t := t) (by omega)
                            have hz0 : R ≠ 0 := fun e => by rw [e, Nat.zero_testBit] at hb; cases hb
                            have hz1 : (if R = 0 then 0 else 100000) = 100000 := if_neg hz0
                            have hs2 := sbs_rm hb hs
                            have hst := bV_s2 (c := (cF (ctS S v d r) (pop w) R)) (R := R) (z := if R = 0 then 0 else 100000) hb (by rw [hz1]; omega)
                            refine g_aload_n h 0 dX6_tour_188 rfl rfl ?_
                            refine g_get h 16 fa_X6_52 dX6_tour_189 ((sup_ne (by omega)).trans ((sup_ne (by omega)).trans r0)) rfl ?_
                            refine g_bipush h (nI 8) dX6_tour_192 (by decide) ?_
                            refine g_iload h dX6_tour_194 rfl ?_
                            refine g_imulN h dX6_tour_196 ?_
                            refine g_iload h dX6_tour_197 rfl ?_
                            refine g_iaddN h dX6_tour_199 ?_
                            refine g_iald h dX6_tour_200 ((sup_ne (by omega)).trans sup_eq) (by omega) (by omega) ?_
                            refine g_top (y := nI ((ctS S v d r) t (pop w - pop R))) (hgc (pop w - pop R) t (by omega) (by omega)) ?_
                            refine g_aload_n h 0 dX6_tour_201 rfl rfl ?_
                            refine g_get h 15 fa_X6_49 dX6_tour_202 ((sup_ne (by omega)).trans ((sup_ne (by omega)).trans r0)) rfl ?_
                            refine g_iload h dX6_tour_205 rfl ?_
                            refine g_iconst h (nI 1) dX6_tour_207 (by decide) ?_
                            refine g_iload h dX6_tour_208 rfl ?_
                            refine g_ishl h dX6_tour_210 ?_
                            refine g_iconst h (-1) dX6_tour_211 (by decide) ?_
                            refine g_ixor h dX6_tour_212 ?_
                            refine g_iand h dX6_tour_213 ?_
                            refine g_top (y := nI (R ^^^ 2 ^ t)) (rm_N R (by omega) t (by omega) hb) ?_
                            refine g_iald h dX6_tour_214 sup_eq (by omega) (by omega) ?_
                            refine g_top (y := nI (Fm (ctS S v d r) (pop w) (pop R - 1) (R ^^^ 2 ^ t))) ((hf1 _ x3 hs2).trans (by rw [show pop (R ^^^ 2 ^ t) = pop R - 1 by omega])) ?_
                            refine g_iaddN h dX6_tour_215 ?_
                            refine g_top (y := nI ((cF (ctS S v d r) (pop w) R) t)) rfl ?_
                            refine g_istore (vs' := [_, _, _, _, _, _, _, _, _, _, _]) h dX6_tour_216 (Nat.le_of_ble_eq_true rfl) rfl rfl ?_
                            refine g_iload h dX6_tour_218 rfl ?_
                            refine g_iload h dX6_tour_220 rfl ?_
                            refine g_icmp_geN h 230 dX6_tour_222 (by decide) (by omega) (by omega) (fun c222_28 => ?_) (fun c222_28 => ?_)
                            · skip
                              refine g_iload h dX6_tour_230 rfl ?_
                              refine g_istore (vs' := [_, _, _, _, _, _, _, _, _, _, _]) h dX6_tour_232 (Nat.le_of_ble_eq_true rfl) rfl rfl ?_
                              refine g_iinc (vs' := [_, _, _, _, _, _, _, _, _, _, _]) h (nI (t + 1)) dX6_tour_234 rfl (by first | exact nI_1 _ | rfl) (Nat.le_of_ble_eq_true rfl) rfl rfl ?_
                              refine g_goto h 170 dX6_tour_237 (by decide) ?_
                              refine g_few (vs' := [some (.ref b), some (.int (nI v)), some (.int (nI w)), some (.int (nI d)), some (.int (nI r)), some (.int (nI (pop w))), some (.int (nI R)), some (.int (nI (pop w - pop R))), some (.int (nI q)), some (.int (nI (t + 1))), none]) ⟨Or.inr rfl, Or.inr rfl, Or.inr rfl, Or.inr rfl, Or.inr rfl, Or.inr rfl, Or.inr rfl, Or.inr rfl, Or.inr rfl, Or.inr rfl, Or.inl rfl, trivial⟩ ?_
                              exact iht (t + 1) _ (by omega) (by rw [hst, if_neg (by omega)]; exact hq) (by omega)
                            · skip
                              refine g_iload h dX6_tour_225 rfl ?_
                              refine g_goto h 232 dX6_tour_227 (by decide) ?_
                              refine g_istore (vs' := [_, _, _, _, _, _, _, _, _, _, _]) h dX6_tour_232 (Nat.le_of_ble_eq_true rfl) rfl rfl ?_
                              refine g_iinc (vs' := [_, _, _, _, _, _, _, _, _, _, _]) h (nI (t + 1)) dX6_tour_234 rfl (by first | exact nI_1 _ | rfl) (Nat.le_of_ble_eq_true rfl) rfl rfl ?_
                              refine g_goto h 170 dX6_tour_237 (by decide) ?_
                              refine g_few (vs' := [some (.ref b), some (.int (nI v)), some (.int (nI w)), some (.int (nI d)), some (.int (nI r)), some (.int (nI (pop w))), some (.int (nI R)), some (.int (nI (pop w - pop R))), some (.int (nI (cF (ctS S v d r) (pop w) R t))), some (.int (nI (t + 1))), none]) ⟨Or.inr rfl, Or.inr rfl, Or.inr rfl, Or.inr rfl, Or.inr rfl, Or.inr rfl, Or.inr rfl, Or.inr rfl, Or.inr rfl, Or.inr rfl, Or.inl rfl, trivial⟩ ?_
                              exact iht (t + 1) _ (by omega) (by rw [hst, if_pos (by omega)]) (by omega)
                    exact L170 9 0 _ (by omega) (by show _ = (if R = 0 then 0 else 100000); rw [if_pos (by omega)]) (by omega)
          exact L129 (w + 2) 0 f14 (by omega) (fun u q => absurd q (Nat.not_lt_zero _)) (by omega)
        · skip
          refine g_iconst h (nI 0) dX6_tour_75 (by decide) ?_
          refine g_istore (vs' := [_, _, _, _, _, _, _, _, _, _, _]) h dX6_tour_76 (Nat.le_of_ble_eq_true rfl) rfl rfl ?_
          refine g_few (vs' := [some (.ref b), some (.int (nI v)), some (.int (nI w)), some (.int (nI d)), some (.int (nI r)), some (.int (nI (pop w))), some (.int (nI k)), some (.int (nI 0)), none, none, none]) ⟨Or.inr rfl, Or.inr rfl, Or.inr rfl, Or.inr rfl, Or.inr rfl, Or.inr rfl, Or.inr rfl, Or.inr rfl, Or.inl rfl, Or.inl rfl, Or.inl rfl, trivial⟩ ?_
          have L78 : ∀ (m0 : Nat) (t : Nat) (g : Nat → Int32), (t ≤ 8) → (∀ i j, (i < k ∨ (i = k ∧ j < t)) → j < 8 → g (8 * i + j) = nI ((ctS S v d r) j i)) → (8 - t) < m0 → G X E 11 (AD σ) (QF X E σ (fun o s => o = some (.int (opTour S (nI v) (nI w) (nI d) (nI r)).1) ∧ RepM E b (opTour S (nI v) (nI w) (nI d) (nI r)).2 s) rm_X6_tour) 0 0 78 [some (.ref b), some (.int (nI v)), some (.int (nI w)), some (.int (nI d)), some (.int (nI r)), some (.int (nI (pop w))), some (.int (nI k)), some (.int (nI t)), none, none, none] [] (sup σ (b + 15) (cI E 64 g)) := by
            intro m0
            induction m0 with
            | zero => intro t g _ _ hm0; exact absurd hm0 (Nat.not_lt_zero _)
            | succ m0 ih2 =>
              intro t g ht hg2 hm0
              refine g_iload h dX6_tour_78 rfl ?_
              refine g_bipush h (nI 8) dX6_tour_80 (by decide) ?_
              refine g_icmp_geN h 120 dX6_tour_82 (by decide) (by omega) (by decide) (fun c82_29 => ?_) (fun c82_29 => ?_)
              · skip
                refine g_iinc (vs' := [_, _, _, _, _, _, _, _, _, _, _]) h (nI (k + 1)) dX6_tour_120 rfl (by first | exact nI_1 _ | rfl) (Nat.le_of_ble_eq_true rfl) rfl rfl ?_
                refine g_goto h 68 dX6_tour_123 (by decide) ?_
                refine g_few (vs' := [some (.ref b), some (.int (nI v)), some (.int (nI w)), some (.int (nI d)), some (.int (nI r)), some (.int (nI (pop w))), some (.int (nI (k + 1))), none, none, none, none]) ⟨Or.inr rfl, Or.inr rfl, Or.inr rfl, Or.inr rfl, Or.inr rfl, Or.inr rfl, Or.inr rfl, Or.inl rfl, Or.inl rfl, Or.inl rfl, Or.inl rfl, trivial⟩ ?_
                exact ih (k + 1) g (by omega) (fun i j q1 q2 => hg2 i j (by omega) q2) (by omega)
              · skip
                have hmk : k * (r + 1) ≤ (pop w - 1) * (r + 1) := Nat.mul_le_mul (by omega) (Nat.le_refl _)
                have hM2 : RepM E b S (sup σ (b + 15) (cI E 64 g)) := ⟨((sup_ne (by omega)).trans r0), ⟨_, ((sup_ne (by omega)).trans r1), e1⟩, ⟨_, ((sup_ne (by omega)).trans r2), e2⟩, ⟨_, ((sup_ne (by omega)).trans r3), e3⟩, ⟨_, ((sup_ne (by omega)).trans r4), e4⟩, ⟨_, ((sup_ne (by omega)).trans r5), e5⟩, ⟨_, ((sup_ne (by omega)).trans r6), e6⟩, ⟨_, ((sup_ne (by omega)).trans r7), e7⟩, ⟨_, ((sup_ne (by omega)).trans r8), e8⟩, ⟨_, ((sup_ne (by omega)).trans r9), e9⟩, ⟨_, ((sup_ne (by omega)).trans r10), e10⟩, ⟨_, ((sup_ne (by omega)).trans r11), e11⟩, ⟨_, ((sup_ne (by omega)).trans r12), e12⟩, ⟨_, ((sup_ne (by omega)).trans r13)⟩, ⟨_, ((sup_ne (by omega)).trans r14)⟩, ⟨_, sup_eq⟩, ⟨_, ((sup_ne (by omega)).trans r16), e16⟩, ⟨_, ((sup_ne (by omega)).trans r17)⟩⟩
                refine g_aload_n h 0 dX6_tour_85 rfl rfl ?_
                refine g_get h 16 fa_X6_52 dX6_tour_86 ((sup_ne (by omega)).trans r0) rfl ?_
                refine g_bipush h (nI 8) dX6_tour_89 (by decide) ?_
                refine g_iload h dX6_tour_91 rfl ?_
                refine g_imulN h dX6_tour_93 ?_
                refine g_iload h dX6_tour_94 rfl ?_
                refine g_iaddN h dX6_tour_96 ?_
                refine g_aload_n h 0 dX6_tour_97 rfl rfl ?_
                refine g_iload_n h 1 dX6_tour_98 rfl rfl ?_
                refine g_iload h dX6_tour_99 rfl ?_
                refine g_iload_n h 3 dX6_tour_101 rfl rfl ?_
                refine g_iload h dX6_tour_102 rfl ?_
                refine g_iload h dX6_tour_104 rfl ?_
                refine g_iconst h (nI 1) dX6_tour_106 (by decide) ?_
                refine g_iaddN h dX6_tour_107 ?_
                refine g_imulN h dX6_tour_108 ?_
                refine g_iaddN h dX6_tour_109 ?_
                refine g_callV h [_, _] (c_X6_cutOf (xL X) E _ hI hM2 (v := v) (t := t) (d := d + (k * (r + 1))) hv9 (by omega) (by omega)) cf_X6_107 cv_X6_cutOf dX6_tour_110 rfl ((sup_ne (by omega)).trans r0) rfl rfl (Nat.le_of_ble_eq_true rfl) ⟨(Nat.le_of_ble_eq_true rfl), (Nat.le_of_ble_eq_true rfl)⟩ ⟨(Nat.le_of_ble_eq_true rfl), (Nat.le_of_ble_eq_true rfl)⟩ ?_
                refine kk_det ?_
                refine g_iast h dX6_tour_113 sup_eq (by omega) (by omega) ?_
                refine g_sto sup_sup ?_
                refine g_iinc (vs' := [_, _, _, _, _, _, _, _, _, _, _]) h (nI (t + 1)) dX6_tour_114 rfl (by first | exact nI_1 _ | rfl) (Nat.le_of_ble_eq_true rfl) rfl rfl ?_
                refine g_goto h 78 dX6_tour_117 (by decide) ?_
                refine ih2 (t + 1) _ (by omega) (fun i j q1 q2 => ?_) (by omega)
                by_cases e : i = k ∧ j = t
                · obtain ⟨rfl, rfl⟩ := e
                  rw [upd_eq9]
                  rfl
                · rw [upd_ne9 (by omega)]
                  exact hg2 i j (by omega) q2
          exact L78 9 0 g (by omega) (fun i j q1 q2 => hg1 i j (by omega) q2) (by omega)
    exact L68 (pop w + 1) 0 f15 (by omega) (fun i j q => absurd q (Nat.not_lt_zero _)) (by omega)
  · skip
    refine g_bipush h (-3) dX6_tour_62 (by decide) ?_
    exact g_iret h hr dX6_tour_64 ((fun e => ⟨by rw [e], by rw [e]; exact hM⟩) (show opTour S (nI v) (nI w) (nI d) (nI r) = (-3, S) from by unfold opTour; rw [cif_t ⟨⟨v, hv9, rfl⟩, ⟨hw0, ⟨w, hw9, rfl⟩⟩, ⟨d, hd9, rfl⟩, ⟨r, hr9, rfl⟩⟩, cif_f (by rw [ed9, ew9, er9]; omega)])) (Nat.le_of_ble_eq_true rfl) (Nat.le_of_ble_eq_true rfl)
abbrev rm_X6_town : Room := { frames := 1, cells := 0, slots := 0, locals := 22 }
set_option maxRecDepth 100000 in
set_option maxHeartbeats 4000000 in
theorem D_town (lau : Launch) (E : EnvD) (σ : Sto) {b : Nat} {S : PSt} (hI : Inv S) (hM : RepM E b S σ) (a1 : Int32) : CC lau yX6_town cX6_town 2 (some .int) rm_X6_town E [.ref b, .int a1] σ (fun o s => o = some (.int (opTown S a1).1) ∧ RepM E b (opTown S a1).2 s) := by
  refine cc_of (vs := [_, _]) (by decide) (Nat.le_of_ble_eq_true rfl) rfl ?_
  intro X h hr hn
  obtain ⟨r0, ⟨f1, r1, e1⟩, ⟨f2, r2, e2⟩, ⟨f3, r3, e3⟩, ⟨f4, r4, e4⟩, ⟨f5, r5, e5⟩, ⟨f6, r6, e6⟩, ⟨f7, r7, e7⟩, ⟨f8, r8, e8⟩, ⟨f9, r9, e9⟩, ⟨f10, r10, e10⟩, ⟨f11, r11, e11⟩, ⟨f12, r12, e12⟩, ⟨f13, r13⟩, ⟨f14, r14⟩, ⟨f15, r15⟩, ⟨f16, r16, e16⟩, ⟨f17, r17⟩⟩ := id hM
  have htn := hI.2.2.2.2.2.1
  by_cases ha1 : inR a1 (sTn S)
  · skip
    obtain ⟨i, hi9, rfl⟩ := ha1
    refine g_iload_n h 1 dX6_town_0 rfl rfl ?_
    refine g_iconst h (nI 0) dX6_town_1 (by decide) ?_
    refine g_aload_n h 0 dX6_town_2 rfl rfl ?_
    refine g_get h 17 fa_X6_116 dX6_town_3 r0 rfl ?_
    refine g_iconst h (nI 1) dX6_town_6 (by decide) ?_
    refine g_isub h dX6_town_7 ?_
    refine g_callS h [] (c_X6_in (xL X) E _ (nI i) (nI 0) ((nI (sTn S) - nI 1))) cf_X6_62 cs_X6_in dX6_town_8 rfl rfl (Nat.le_of_ble_eq_true rfl) ⟨(Nat.le_of_ble_eq_true rfl), (Nat.le_of_ble_eq_true rfl)⟩ ⟨(Nat.le_of_ble_eq_true rfl), (Nat.le_of_ble_eq_true rfl)⟩ ?_
    refine kk_det ?_
    refine g_top (y := bI (inR (nI i) (sTn S))) (bI_iff (in_M (by omega))) ?_
    refine g_if_eqB h 23 dX6_town_11 (by decide) (fun c11_1 => absurd ⟨i, hi9, rfl⟩ c11_1) (fun c11_1 => ?_)
    refine g_aload_n h 0 dX6_town_14 rfl rfl ?_
    refine g_get h 18 fa_X6_55 dX6_town_15 r0 rfl ?_
    refine g_iload_n h 1 dX6_town_18 rfl rfl ?_
    refine g_iald h dX6_town_19 r16 (by omega) (by omega) ?_
    refine g_top (y := nI (sTl S i)) (e16 i (by omega)) ?_
    refine g_goto h 24 dX6_town_20 (by decide) ?_
    exact g_iret h hr dX6_town_24 (⟨by show _ = some (Value.int (atV (sTn S) (fun k => nI (sTl S k)) (nI i))); rw [atV_in hi9 (by omega)], hM⟩) (Nat.le_of_ble_eq_true rfl) (Nat.le_of_ble_eq_true rfl)
  · skip
    refine g_iload_n h 1 dX6_town_0 rfl rfl ?_
    refine g_iconst h (nI 0) dX6_town_1 (by decide) ?_
    refine g_aload_n h 0 dX6_town_2 rfl rfl ?_
    refine g_get h 17 fa_X6_116 dX6_town_3 r0 rfl ?_
    refine g_iconst h (nI 1) dX6_town_6 (by decide) ?_
    refine g_isub h dX6_town_7 ?_
    refine g_callS h [] (c_X6_in (xL X) E _ a1 (nI 0) ((nI (sTn S) - nI 1))) cf_X6_62 cs_X6_in dX6_town_8 rfl rfl (Nat.le_of_ble_eq_true rfl) ⟨(Nat.le_of_ble_eq_true rfl), (Nat.le_of_ble_eq_true rfl)⟩ ⟨(Nat.le_of_ble_eq_true rfl), (Nat.le_of_ble_eq_true rfl)⟩ ?_
    refine kk_det ?_
    refine g_top (y := bI (inR a1 (sTn S))) (bI_iff (in_M (by omega))) ?_
    refine g_if_eqB h 23 dX6_town_11 (by decide) (fun c11_2 => ?_) (fun c11_2 => absurd c11_2 ha1)
    refine g_iconst h (-1) dX6_town_23 (by decide) ?_
    exact g_iret h hr dX6_town_24 (⟨by show _ = some (Value.int (atV (sTn S) (fun k => nI (sTl S k)) a1)); rw [atV_out ha1], hM⟩) (Nat.le_of_ble_eq_true rfl) (Nat.le_of_ble_eq_true rfl)
abbrev rm_X6_free : Room := { frames := 2, cells := 0, slots := 0, locals := 50 }
set_option maxRecDepth 100000 in
set_option maxHeartbeats 4000000 in
theorem D_free (lau : Launch) (E : EnvD) (σ : Sto) {b : Nat} {S : PSt} (hI : Inv S) (hM : RepM E b S σ) (a1 a2 a3 : Int32) : CC lau yX6_free cX6_free 5 (some .int) rm_X6_free E [.ref b, .int a1, .int a2, .int a3] σ (fun o s => o = some (.int (opFree S a1 a2 a3).1) ∧ RepM E b (opFree S a1 a2 a3).2 s) := by
  refine cc_of (vs := [_, _, _, _, _]) (by decide) (Nat.le_of_ble_eq_true rfl) rfl ?_
  intro X h hr hn
  obtain ⟨r0, ⟨f1, r1, e1⟩, ⟨f2, r2, e2⟩, ⟨f3, r3, e3⟩, ⟨f4, r4, e4⟩, ⟨f5, r5, e5⟩, ⟨f6, r6, e6⟩, ⟨f7, r7, e7⟩, ⟨f8, r8, e8⟩, ⟨f9, r9, e9⟩, ⟨f10, r10, e10⟩, ⟨f11, r11, e11⟩, ⟨f12, r12, e12⟩, ⟨f13, r13⟩, ⟨f14, r14⟩, ⟨f15, r15⟩, ⟨f16, r16, e16⟩, ⟨f17, r17⟩⟩ := id hM
  by_cases na1 : ¬ inR a1 8
  · skip
    refine g_iload_n h 1 dX6_free_0 rfl rfl ?_
    refine g_callS h [] (c_X6_isVersion (xL X) E _ a1) cf_X6_66 cs_X6_isVersion dX6_free_1 rfl rfl (Nat.le_of_ble_eq_true rfl) ⟨(Nat.le_of_ble_eq_true rfl), (Nat.le_of_ble_eq_true rfl)⟩ ⟨(Nat.le_of_ble_eq_true rfl), (Nat.le_of_ble_eq_true rfl)⟩ ?_
    refine kk_det ?_
    refine g_if_eqB h 21 dX6_free_4 (by decide) (fun c4_1 => ?_) (fun c4_1 => absurd c4_1 na1)
    refine g_bipush h (-2) dX6_free_21 (by decide) ?_
    exact g_iret h hr dX6_free_23 ((fun e => ⟨by rw [e], by rw [e]; exact hM⟩) (show opFree S a1 a2 a3 = (-2, S) from by unfold opFree; rw [cif_f (fun q => na1 q.1)])) (Nat.le_of_ble_eq_true rfl) (Nat.le_of_ble_eq_true rfl)
  obtain ⟨v, hv9, rfl⟩ := Classical.not_not.mp na1
  have ev9 : cl (nI v) = v := cl_nI (by omega)
  have hnv := (hI.1 v hv9).1
  by_cases na2 : ¬ inR a2 8
  · skip
    refine g_iload_n h 1 dX6_free_0 rfl rfl ?_
    refine g_callS h [] (c_X6_isVersion (xL X) E _ (nI v)) cf_X6_66 cs_X6_isVersion dX6_free_1 rfl rfl (Nat.le_of_ble_eq_true rfl) ⟨(Nat.le_of_ble_eq_true rfl), (Nat.le_of_ble_eq_true rfl)⟩ ⟨(Nat.le_of_ble_eq_true rfl), (Nat.le_of_ble_eq_true rfl)⟩ ?_
    refine kk_det ?_
    refine g_if_eqB h 21 dX6_free_4 (by decide) (fun c4_2 => absurd ⟨v, hv9, rfl⟩ c4_2) (fun c4_2 => ?_)
    refine g_iload_n h 2 dX6_free_7 rfl rfl ?_
    refine g_callS h [] (c_X6_isTown (xL X) E _ a2) cf_X6_95 cs_X6_isTown dX6_free_8 rfl rfl (Nat.le_of_ble_eq_true rfl) ⟨(Nat.le_of_ble_eq_true rfl), (Nat.le_of_ble_eq_true rfl)⟩ ⟨(Nat.le_of_ble_eq_true rfl), (Nat.le_of_ble_eq_true rfl)⟩ ?_
    refine kk_det ?_
    refine g_if_eqB h 21 dX6_free_11 (by decide) (fun c11_3 => ?_) (fun c11_3 => absurd c11_3 na2)
    refine g_bipush h (-2) dX6_free_21 (by decide) ?_
    exact g_iret h hr dX6_free_23 ((fun e => ⟨by rw [e], by rw [e]; exact hM⟩) (show opFree S (nI v) a2 a3 = (-2, S) from by unfold opFree; rw [cif_f (fun q => na2 q.2.1)])) (Nat.le_of_ble_eq_true rfl) (Nat.le_of_ble_eq_true rfl)
  obtain ⟨t, ht9, rfl⟩ := Classical.not_not.mp na2
  have et9 : cl (nI t) = t := cl_nI (by omega)
  by_cases na3 : ¬ inR a3 1000
  · skip
    refine g_iload_n h 1 dX6_free_0 rfl rfl ?_
    refine g_callS h [] (c_X6_isVersion (xL X) E _ (nI v)) cf_X6_66 cs_X6_isVersion dX6_free_1 rfl rfl (Nat.le_of_ble_eq_true rfl) ⟨(Nat.le_of_ble_eq_true rfl), (Nat.le_of_ble_eq_true rfl)⟩ ⟨(Nat.le_of_ble_eq_true rfl), (Nat.le_of_ble_eq_true rfl)⟩ ?_
    refine kk_det ?_
    refine g_if_eqB h 21 dX6_free_4 (by decide) (fun c4_4 => absurd ⟨v, hv9, rfl⟩ c4_4) (fun c4_4 => ?_)
    refine g_iload_n h 2 dX6_free_7 rfl rfl ?_
    refine g_callS h [] (c_X6_isTown (xL X) E _ (nI t)) cf_X6_95 cs_X6_isTown dX6_free_8 rfl rfl (Nat.le_of_ble_eq_true rfl) ⟨(Nat.le_of_ble_eq_true rfl), (Nat.le_of_ble_eq_true rfl)⟩ ⟨(Nat.le_of_ble_eq_true rfl), (Nat.le_of_ble_eq_true rfl)⟩ ?_
    refine kk_det ?_
    refine g_if_eqB h 21 dX6_free_11 (by decide) (fun c11_5 => absurd ⟨t, ht9, rfl⟩ c11_5) (fun c11_5 => ?_)
    refine g_iload_n h 3 dX6_free_14 rfl rfl ?_
    refine g_callS h [] (c_X6_isDay (xL X) E _ a3) cf_X6_98 cs_X6_isDay dX6_free_15 rfl rfl (Nat.le_of_ble_eq_true rfl) ⟨(Nat.le_of_ble_eq_true rfl), (Nat.le_of_ble_eq_true rfl)⟩ ⟨(Nat.le_of_ble_eq_true rfl), (Nat.le_of_ble_eq_true rfl)⟩ ?_
    refine kk_det ?_
    refine g_if_neB h 24 dX6_free_18 (by decide) (fun c18_6 => absurd c18_6 na3) (fun c18_6 => ?_)
    refine g_bipush h (-2) dX6_free_21 (by decide) ?_
    exact g_iret h hr dX6_free_23 ((fun e => ⟨by rw [e], by rw [e]; exact hM⟩) (show opFree S (nI v) (nI t) a3 = (-2, S) from by unfold opFree; rw [cif_f (fun q => na3 q.2.2)])) (Nat.le_of_ble_eq_true rfl) (Nat.le_of_ble_eq_true rfl)
  obtain ⟨d, hd9, rfl⟩ := Classical.not_not.mp na3
  have ed9 : cl (nI d) = d := cl_nI (by omega)
  have e0 : opFree S (nI v) (nI t) (nI d) = (fp (fun q => cutN S v t q = 0) d (1000 - d), S) := by unfold opFree; rw [cif_t ⟨⟨v, hv9, rfl⟩, ⟨t, ht9, rfl⟩, ⟨d, hd9, rfl⟩⟩, ev9, et9, ed9]
  refine g_iload_n h 1 dX6_free_0 rfl rfl ?_
  refine g_callS h [] (c_X6_isVersion (xL X) E _ (nI v)) cf_X6_66 cs_X6_isVersion dX6_free_1 rfl rfl (Nat.le_of_ble_eq_true rfl) ⟨(Nat.le_of_ble_eq_true rfl), (Nat.le_of_ble_eq_true rfl)⟩ ⟨(Nat.le_of_ble_eq_true rfl), (Nat.le_of_ble_eq_true rfl)⟩ ?_
  refine kk_det ?_
  refine g_if_eqB h 21 dX6_free_4 (by decide) (fun c4_7 => absurd ⟨v, hv9, rfl⟩ c4_7) (fun c4_7 => ?_)
  refine g_iload_n h 2 dX6_free_7 rfl rfl ?_
  refine g_callS h [] (c_X6_isTown (xL X) E _ (nI t)) cf_X6_95 cs_X6_isTown dX6_free_8 rfl rfl (Nat.le_of_ble_eq_true rfl) ⟨(Nat.le_of_ble_eq_true rfl), (Nat.le_of_ble_eq_true rfl)⟩ ⟨(Nat.le_of_ble_eq_true rfl), (Nat.le_of_ble_eq_true rfl)⟩ ?_
  refine kk_det ?_
  refine g_if_eqB h 21 dX6_free_11 (by decide) (fun c11_8 => absurd ⟨t, ht9, rfl⟩ c11_8) (fun c11_8 => ?_)
  refine g_iload_n h 3 dX6_free_14 rfl rfl ?_
  refine g_callS h [] (c_X6_isDay (xL X) E _ (nI d)) cf_X6_98 cs_X6_isDay dX6_free_15 rfl rfl (Nat.le_of_ble_eq_true rfl) ⟨(Nat.le_of_ble_eq_true rfl), (Nat.le_of_ble_eq_true rfl)⟩ ⟨(Nat.le_of_ble_eq_true rfl), (Nat.le_of_ble_eq_true rfl)⟩ ?_
  refine kk_det ?_
  refine g_if_neB h 24 dX6_free_18 (by decide) (fun c18_9 => ?_) (fun c18_9 => absurd ⟨d, hd9, rfl⟩ c18_9)
  refine g_iload_n h 3 dX6_free_24 rfl rfl ?_
  refine g_istore (vs' := [_, _, _, _, _]) h dX6_free_25 (Nat.le_of_ble_eq_true rfl) rfl rfl ?_
  have L27 : ∀ (m0 : Nat) (q : Nat), (q ≤ 1000) → (fp (fun q => cutN S v t q = 0) d (1000 - d) = fp (fun q => cutN S v t q = 0) q (1000 - q)) → (1000 - q) < m0 → G X E 5 (AD σ) (QF X E σ (fun o s => o = some (.int (opFree S (nI v) (nI t) (nI d)).1) ∧ RepM E b (opFree S (nI v) (nI t) (nI d)).2 s) rm_X6_free) 0 0 27 [some (.ref b), some (.int (nI v)), some (.int (nI t)), some (.int (nI d)), some (.int (nI q))] [] σ := by
    intro m0
    induction m0 with
    | zero => intro q _ _ hm0; exact absurd hm0 (Nat.not_lt_zero _)
    | succ m0 ih =>
      intro q hq hf hm0
      refine g_iload h dX6_free_27 rfl ?_
      refine g_sipush h (nI 1000) dX6_free_29 (by decide) ?_
      refine g_icmp_geN h 55 dX6_free_32 (by decide) (by omega) (by decide) (fun c32_10 => ?_) (fun c32_10 => ?_)
      · skip
        refine g_iconst h (-1) dX6_free_55 (by decide) ?_
        exact g_iret h hr dX6_free_56 (⟨by rw [e0]; exact congrArg (fun q => some (Value.int q)) (by rw [hf, show 1000 - q = 0 by omega]; rfl), by rw [e0]; exact hM⟩) (Nat.le_of_ble_eq_true rfl) (Nat.le_of_ble_eq_true rfl)
      · skip
        have hcl : cutN S v t q ≤ 40 := Nat.le_trans (cutC_le _) hnv
        refine g_aload_n h 0 dX6_free_35 rfl rfl ?_
        refine g_iload_n h 1 dX6_free_36 rfl rfl ?_
        refine g_iload_n h 2 dX6_free_37 rfl rfl ?_
        refine g_iload h dX6_free_38 rfl ?_
        refine g_callV h [] (c_X6_cutOf (xL X) E _ hI hM (v := v) (t := t) (d := q) hv9 ht9 (by omega)) cf_X6_107 cv_X6_cutOf dX6_free_40 rfl r0 rfl rfl (Nat.le_of_ble_eq_true rfl) ⟨(Nat.le_of_ble_eq_true rfl), (Nat.le_of_ble_eq_true rfl)⟩ ⟨(Nat.le_of_ble_eq_true rfl), (Nat.le_of_ble_eq_true rfl)⟩ ?_
        refine kk_det ?_
        refine g_if_neN h 49 dX6_free_43 (by decide) (by omega) (fun c43_11 => ?_) (fun c43_11 => ?_)
        · skip
          refine g_iinc (vs' := [_, _, _, _, _]) h (nI (q + 1)) dX6_free_49 rfl (by first | exact nI_1 _ | rfl) (Nat.le_of_ble_eq_true rfl) rfl rfl ?_
          refine g_goto h 27 dX6_free_52 (by decide) ?_
          exact ih (q + 1) (by omega) (hf.trans (by rw [show 1000 - q = (1000 - (q + 1)) + 1 by omega, fp_f (p := (fun q => cutN S v t q = 0)) (Nat.ne_of_gt c43_11)])) (by omega)
        · skip
          refine g_iload h dX6_free_46 rfl ?_
          exact g_iret h hr dX6_free_48 (⟨by rw [e0]; exact congrArg (fun q => some (Value.int q)) (by rw [hf, show 1000 - q = (1000 - (q + 1)) + 1 by omega, fp_t (p := (fun q => cutN S v t q = 0)) (by omega)]), by rw [e0]; exact hM⟩) (Nat.le_of_ble_eq_true rfl) (Nat.le_of_ble_eq_true rfl)
  exact L27 1001 d (by omega) rfl (by omega)
