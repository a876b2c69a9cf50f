/-! the reference's cells; its first methods (own work; walks by program) -/
def RepM (E : EnvD) (b : Nat) (S : PSt) (σ : Sto) : Prop :=
  σ.1 b = some (cO 6 [.ref (b + 1), .ref (b + 2), .ref (b + 3), .ref (b + 4), .int (nI (sCn S)), .ref (b + 5), .ref (b + 6), .ref (b + 7), .ref (b + 8), .int (nI (sRn S)), .ref (b + 9), .ref (b + 10), .ref (b + 11), .ref (b + 12), .ref (b + 13), .ref (b + 14), .ref (b + 15), .int (nI (sTn S)), .ref (b + 16), .ref (b + 17)]) ∧
  (∃ f, σ.1 (b + 1) = some (cI E 320 f) ∧ ∀ v, v < 8 → ∀ i, i < sVn S v → f (40 * v + i) = nI (sVl S v i)) ∧
  (∃ f, σ.1 (b + 2) = some (cI E 8 f) ∧ ∀ v, v < 8 → f v = nI (sVn S v)) ∧
  (∃ f, σ.1 (b + 3) = some (cI E 160 f) ∧ ∀ p, p < 4 → ∀ i, i < sPn S p → f (40 * p + i) = sPh S p i) ∧
  (∃ f, σ.1 (b + 4) = some (cI E 4 f) ∧ ∀ p, p < 4 → f p = nI (sPn S p)) ∧
  (∃ f, σ.1 (b + 5) = some (cI E 12 f) ∧ ∀ i, i < sCn S → f i = nI (sCs S i)) ∧
  (∃ f, σ.1 (b + 6) = some (cI E 12 f) ∧ ∀ i, i < sCn S → f i = nI (sCx S i)) ∧
  (∃ f, σ.1 (b + 7) = some (cI E 12 f) ∧ ∀ i, i < sCn S → f i = nI (sCy S i)) ∧
  (∃ f, σ.1 (b + 8) = some (cI E 100 f) ∧ ∀ x, x < 100 → f x = nI (sMk S x)) ∧
  (∃ f, σ.1 (b + 9) = some (cI E 20 f) ∧ ∀ i, i < sRn S → f i = nI (sRt S i)) ∧
  (∃ f, σ.1 (b + 10) = some (cI E 20 f) ∧ ∀ i, i < sRn S → f i = nI (sRm S i)) ∧
  (∃ f, σ.1 (b + 11) = some (cI E 20 f) ∧ ∀ i, i < sRn S → f i = nI (sRf S i)) ∧
  (∃ f, σ.1 (b + 12) = some (cI E 20 f) ∧ ∀ i, i < sRn S → f i = nI (sRo S i)) ∧
  (∃ f, σ.1 (b + 13) = some (cI E 1681 f)) ∧
  (∃ f, σ.1 (b + 14) = some (cI E 256 f)) ∧
  (∃ f, σ.1 (b + 15) = some (cI E 64 f)) ∧
  (∃ f, σ.1 (b + 16) = some (cI E 8 f) ∧ ∀ i, i < sTn S → f i = nI (sTl S i)) ∧
  (∃ f, σ.1 (b + 17) = some (cZ E 1681 f))
theorem upd_eq9 {f : Nat → Int32} {k : Nat} {x : Int32} : upd f k x k = x := by unfold upd; rw [if_pos rfl]
theorem upd_ne9 {f : Nat → Int32} {k j : Nat} {x : Int32} (h : j ≠ k) : upd f k x j = f j := by unfold upd; rw [if_neg h]
theorem nw_bI {P : Prop} : narrow .boolean (.int (bI P)) = .int (bI P) := by
  by_cases h : P
  · rw [bI_t h]; rfl
  · rw [bI_f h]; rfl
theorem in_N {x : Int32} {m : Nat} (hm : m < 2147483647) : (nI 0 ≤ x ∧ x ≤ nI m) ↔ inR x (m + 1) := by
  constructor
  · rintro ⟨h1, h2⟩
    exact inR_of2 (m := m) (Int32.not_lt.mpr h1) (fun q => absurd h2 (Int32.not_le.mpr q)) rfl hm
  · rintro ⟨j, hj, rfl⟩
    exact ⟨(nI_leI (by omega) (by omega)).mpr (Nat.zero_le _), (nI_leI (by omega) (by omega)).mpr (by omega)⟩
theorem in_M {x : Int32} {n : Nat} (hn : n < 2147483647) : (nI 0 ≤ x ∧ x ≤ nI n - nI 1) ↔ inR x n := by
  rcases Nat.eq_zero_or_pos n with e | e
  · subst e
    constructor
    · rintro ⟨h1, h2⟩
      exact absurd (Int32.le_trans h1 h2) (by decide)
    · rintro ⟨j, hj, _⟩
      exact absurd hj (Nat.not_lt_zero j)
  · rw [nI_subN (by omega), in_N (by omega), Nat.sub_add_cancel (by omega)]
theorem m_siz {S : PSt} {f : Nat → Int32} {v n : Nat} {l : Nat → Nat} (e2 : ∀ v, v < 8 → f v = nI (sVn S v)) : ∀ w, w < 8 → upd f v (nI n) w = nI (sVn (setV S v n l) w) := by
  intro w hw
  show _ = nI (upN S.1.1 v n w)
  by_cases e : w = v
  · subst e
    rw [upd_eq9, upN_eq]
  · rw [upd_ne9 e, upN_ne e]
    exact e2 w hw
theorem m_lin {S : PSt} {f g : Nat → Int32} {v n : Nat} {l : Nat → Nat} (hI : Inv S) (e1 : ∀ v, v < 8 → ∀ i, i < sVn S v → f (40 * v + i) = nI (sVl S v i)) (h1 : ∀ i, i < n → g (40 * v + i) = nI (l i)) (h2 : ∀ w i, w < 8 → w ≠ v → i < 40 → g (40 * w + i) = f (40 * w + i)) : ∀ w, w < 8 → ∀ i, i < sVn (setV S v n l) w → g (40 * w + i) = nI (sVl (setV S v n l) w i) := by
  intro w hw i hi
  have hi2 : i < upN S.1.1 v n w := hi
  show _ = nI (upN S.1.2 v l w i)
  by_cases e : w = v
  · subst e
    rw [upN_eq] at hi2 ⊢
    exact h1 i hi2
  · rw [upN_ne e] at hi2 ⊢
    have h40 : sVn S w ≤ 40 := (hI.1 w hw).1
    have hi3 : i < sVn S w := hi2
    rw [h2 w i hw e (by omega)]
    exact e1 w hw i hi2
theorem m_put {S : PSt} {f : Nat → Int32} {v i x : Nat} (hI : Inv S) (e1 : ∀ v, v < 8 → ∀ i, i < sVn S v → f (40 * v + i) = nI (sVl S v i)) (hv : v < 8) (hi : i ≤ sVn S v) (hn : sVn S v < 40) : ∀ w, w < 8 → ∀ q, q < sVn (setV S v (sVn S v + 1) (insN (sVl S v) (sVn S v) i x)) w → insF f (40 * v + sVn S v) (40 * v + i) (nI x) (40 * w + q) = nI (sVl (setV S v (sVn S v + 1) (insN (sVl S v) (sVn S v) i x)) w q) := by
  refine m_lin hI e1 (fun q hq => ?_) (fun w q hw e hq => ?_)
  · unfold insF insN
    by_cases a : q < i
    · rw [if_pos (by omega), if_pos a]
      exact e1 v hv q (by omega)
    · rw [if_neg (by omega), if_neg a]
      by_cases c : q = i
      · rw [if_pos (by omega), if_pos c]
      · rw [if_neg (by omega), if_neg c, if_pos (by omega), if_pos (by omega), show 40 * v + q - 1 = 40 * v + (q - 1) by omega]
        exact e1 v hv _ (by omega)
  · unfold insF
    rcases Nat.lt_or_ge w v with a | a
    · rw [if_pos (by omega)]
    · rw [if_neg (by omega), if_neg (by omega), if_neg (by omega)]
theorem m_take {S : PSt} {f : Nat → Int32} {v i : Nat} (hI : Inv S) (e1 : ∀ v, v < 8 → ∀ i, i < sVn S v → f (40 * v + i) = nI (sVl S v i)) (hv : v < 8) (hi : i < sVn S v) : ∀ w, w < 8 → ∀ q, q < sVn (setV S v (sVn S v - 1) (remN (sVl S v) (sVn S v) i)) w → remF f (40 * v + sVn S v) (40 * v + i) (40 * w + q) = nI (sVl (setV S v (sVn S v - 1) (remN (sVl S v) (sVn S v) i)) w q) := by
  have hn := (hI.1 v hv).1
  refine m_lin hI e1 (fun q hq => ?_) (fun w q hw e hq => ?_)
  · unfold remF remN
    by_cases a : i ≤ q
    · rw [if_pos (by omega), if_pos (by omega)]
      exact e1 v hv (q + 1) (by omega)
    · rw [if_neg (by omega), if_neg (by omega)]
      exact e1 v hv q (by omega)
  · unfold remF
    rw [if_neg (by omega)]
/-- k things from place s on copied to place t on -/
def cpF (f : Nat → Int32) (t s k : Nat) : Nat → Int32 := fun a => if t ≤ a ∧ a < t + k then f (a - t + s) else f a
theorem cpF_0 {f : Nat → Int32} {t s : Nat} : cpF f t s 0 = f := by
  funext a
  unfold cpF
  rw [if_neg (by omega)]
theorem cpF_rd {f : Nat → Int32} {t s k : Nat} (h : s + k < t ∨ t + k ≤ s + k) : cpF f t s k (s + k) = f (s + k) := by
  unfold cpF
  rw [if_neg (by omega)]
theorem cpF_step {f : Nat → Int32} {t s k : Nat} : upd (cpF f t s k) (t + k) (f (s + k)) = cpF f t s (k + 1) := by
  funext a
  by_cases e : a = t + k
  · subst e
    rw [upd_eq9]
    unfold cpF
    rw [if_pos (by omega)]
    exact congrArg f (by omega)
  · rw [upd_ne9 e]
    unfold cpF
    by_cases c : t ≤ a ∧ a < t + k
    · rw [if_pos c, if_pos (by omega)]
    · rw [if_neg c, if_neg (by omega)]
theorem m_copy {S : PSt} {f : Nat → Int32} {v u : Nat} (hI : Inv S) (e1 : ∀ v, v < 8 → ∀ i, i < sVn S v → f (40 * v + i) = nI (sVl S v i)) (hv : v < 8) (hu : u < 8) : ∀ w, w < 8 → ∀ q, q < sVn (setV S u (sVn S v) (sVl S v)) w → cpF f (40 * u) (40 * v) (sVn S v) (40 * w + q) = nI (sVl (setV S u (sVn S v) (sVl S v)) w q) := by
  have hn := (hI.1 v hv).1
  refine m_lin hI e1 (fun q hq => ?_) (fun w q hw e hq => ?_)
  · unfold cpF
    rw [if_pos (by omega), show 40 * u + q - 40 * u + 40 * v = 40 * v + q by omega]
    exact e1 v hv q hq
  · unfold cpF
    rw [if_neg (by omega)]
abbrev rm_X6_in : Room := { frames := 0, cells := 0, slots := 0, locals := 0 }
set_option maxRecDepth 100000 in
set_option maxHeartbeats 4000000 in
theorem c_X6_in (lau : Launch) (E : EnvD) (σ : Sto) (x lo hi : Int32) : CC lau yX6_in cX6_in 3 (some .boolean) rm_X6_in E [.int x, .int lo, .int hi] σ (fun o s => o = some (.int (bI (lo ≤ x ∧ x ≤ hi))) ∧ s = σ) := by
  refine cc_of (vs := [_, _, _]) (by decide) (Nat.le_of_ble_eq_true rfl) rfl ?_
  intro X h hr hn
  refine g_iload_n h 0 dX6_in_0 rfl rfl ?_
  refine g_iload_n h 1 dX6_in_1 rfl rfl ?_
  refine g_icmp_lt h 14 dX6_in_2 (by decide) (fun c2_1 => ?_) (fun c2_1 => ?_)
  · skip
    refine g_iconst h (nI 0) dX6_in_14 (by decide) ?_
    exact g_zret h hr rfl dX6_in_15 (ret0 (fun q => absurd q.1 (Int32.not_le.mpr c2_1))) (Nat.le_of_ble_eq_true rfl) (Nat.le_of_ble_eq_true rfl)
  · skip
    refine g_iload_n h 0 dX6_in_5 rfl rfl ?_
    refine g_iload_n h 2 dX6_in_6 rfl rfl ?_
    refine g_icmp_gt h 14 dX6_in_7 (by decide) (fun c7_2 => ?_) (fun c7_2 => ?_)
    · skip
      refine g_iconst h (nI 0) dX6_in_14 (by decide) ?_
      exact g_zret h hr rfl dX6_in_15 (ret0 (fun q => absurd q.2 (Int32.not_le.mpr c7_2))) (Nat.le_of_ble_eq_true rfl) (Nat.le_of_ble_eq_true rfl)
    · skip
      refine g_iconst h (nI 1) dX6_in_10 (by decide) ?_
      refine g_goto h 15 dX6_in_11 (by decide) ?_
      exact g_zret h hr rfl dX6_in_15 (ret1 ⟨Int32.not_lt.mp c2_1, Int32.not_lt.mp c7_2⟩) (Nat.le_of_ble_eq_true rfl) (Nat.le_of_ble_eq_true rfl)
abbrev rm_X6_isVersion : Room := { frames := 1, cells := 0, slots := 0, locals := 22 }
set_option maxRecDepth 100000 in
set_option maxHeartbeats 4000000 in
theorem c_X6_isVersion (lau : Launch) (E : EnvD) (σ : Sto) (x : Int32) : CC lau yX6_isVersion cX6_isVersion 1 (some .boolean) rm_X6_isVersion E [.int x] σ (fun o s => o = some (.int (bI (inR x 8))) ∧ s = σ) := by
  refine cc_of (vs := [_]) (by decide) (Nat.le_of_ble_eq_true rfl) rfl ?_
  intro X h hr hn
  refine g_iload_n h 0 dX6_isVersion_0 rfl rfl ?_
  refine g_iconst h (nI 0) dX6_isVersion_1 (by decide) ?_
  refine g_bipush h (nI 7) dX6_isVersion_2 (by decide) ?_
  refine g_callS h [] (c_X6_in (xL X) E _ x (nI 0) (nI 7)) cf_X6_62 cs_X6_in dX6_isVersion_4 rfl rfl (Nat.le_of_ble_eq_true rfl) ⟨(Nat.le_of_ble_eq_true rfl), (Nat.le_of_ble_eq_true rfl)⟩ ⟨(Nat.le_of_ble_eq_true rfl), (Nat.le_of_ble_eq_true rfl)⟩ ?_
  refine kk_det ?_
  refine g_top (y := bI (inR x 8)) (bI_iff (in_N (by omega))) ?_
  exact g_zret h hr nw_bI dX6_isVersion_7 (⟨rfl, rfl⟩) (Nat.le_of_ble_eq_true rfl) (Nat.le_of_ble_eq_true rfl)
abbrev rm_X6_isLine : Room := { frames := 1, cells := 0, slots := 0, locals := 22 }
set_option maxRecDepth 100000 in
set_option maxHeartbeats 4000000 in
theorem c_X6_isLine (lau : Launch) (E : EnvD) (σ : Sto) (x : Int32) : CC lau yX6_isLine cX6_isLine 1 (some .boolean) rm_X6_isLine E [.int x] σ (fun o s => o = some (.int (bI (inR x 100))) ∧ s = σ) := by
  refine cc_of (vs := [_]) (by decide) (Nat.le_of_ble_eq_true rfl) rfl ?_
  intro X h hr hn
  refine g_iload_n h 0 dX6_isLine_0 rfl rfl ?_
  refine g_iconst h (nI 0) dX6_isLine_1 (by decide) ?_
  refine g_bipush h (nI 99) dX6_isLine_2 (by decide) ?_
  refine g_callS h [] (c_X6_in (xL X) E _ x (nI 0) (nI 99)) cf_X6_62 cs_X6_in dX6_isLine_4 rfl rfl (Nat.le_of_ble_eq_true rfl) ⟨(Nat.le_of_ble_eq_true rfl), (Nat.le_of_ble_eq_true rfl)⟩ ⟨(Nat.le_of_ble_eq_true rfl), (Nat.le_of_ble_eq_true rfl)⟩ ?_
  refine kk_det ?_
  refine g_top (y := bI (inR x 100)) (bI_iff (in_N (by omega))) ?_
  exact g_zret h hr nw_bI dX6_isLine_7 (⟨rfl, rfl⟩) (Nat.le_of_ble_eq_true rfl) (Nat.le_of_ble_eq_true rfl)
abbrev rm_X6_isHeard : Room := { frames := 1, cells := 0, slots := 0, locals := 22 }
set_option maxRecDepth 100000 in
set_option maxHeartbeats 4000000 in
theorem c_X6_isHeard (lau : Launch) (E : EnvD) (σ : Sto) (x : Int32) : CC lau yX6_isHeard cX6_isHeard 1 (some .boolean) rm_X6_isHeard E [.int x] σ (fun o s => o = some (.int (bI (inR x 4))) ∧ s = σ) := by
  refine cc_of (vs := [_]) (by decide) (Nat.le_of_ble_eq_true rfl) rfl ?_
  intro X h hr hn
  refine g_iload_n h 0 dX6_isHeard_0 rfl rfl ?_
  refine g_iconst h (nI 0) dX6_isHeard_1 (by decide) ?_
  refine g_iconst h (nI 3) dX6_isHeard_2 (by decide) ?_
  refine g_callS h [] (c_X6_in (xL X) E _ x (nI 0) (nI 3)) cf_X6_62 cs_X6_in dX6_isHeard_3 rfl rfl (Nat.le_of_ble_eq_true rfl) ⟨(Nat.le_of_ble_eq_true rfl), (Nat.le_of_ble_eq_true rfl)⟩ ⟨(Nat.le_of_ble_eq_true rfl), (Nat.le_of_ble_eq_true rfl)⟩ ?_
  refine kk_det ?_
  refine g_top (y := bI (inR x 4)) (bI_iff (in_N (by omega))) ?_
  exact g_zret h hr nw_bI dX6_isHeard_6 (⟨rfl, rfl⟩) (Nat.le_of_ble_eq_true rfl) (Nat.le_of_ble_eq_true rfl)
abbrev rm_X6_isTown : Room := { frames := 1, cells := 0, slots := 0, locals := 22 }
set_option maxRecDepth 100000 in
set_option maxHeartbeats 4000000 in
theorem c_X6_isTown (lau : Launch) (E : EnvD) (σ : Sto) (x : Int32) : CC lau yX6_isTown cX6_isTown 1 (some .boolean) rm_X6_isTown E [.int x] σ (fun o s => o = some (.int (bI (inR x 8))) ∧ s = σ) := by
  refine cc_of (vs := [_]) (by decide) (Nat.le_of_ble_eq_true rfl) rfl ?_
  intro X h hr hn
  refine g_iload_n h 0 dX6_isTown_0 rfl rfl ?_
  refine g_iconst h (nI 0) dX6_isTown_1 (by decide) ?_
  refine g_bipush h (nI 7) dX6_isTown_2 (by decide) ?_
  refine g_callS h [] (c_X6_in (xL X) E _ x (nI 0) (nI 7)) cf_X6_62 cs_X6_in dX6_isTown_4 rfl rfl (Nat.le_of_ble_eq_true rfl) ⟨(Nat.le_of_ble_eq_true rfl), (Nat.le_of_ble_eq_true rfl)⟩ ⟨(Nat.le_of_ble_eq_true rfl), (Nat.le_of_ble_eq_true rfl)⟩ ?_
  refine kk_det ?_
  refine g_top (y := bI (inR x 8)) (bI_iff (in_N (by omega))) ?_
  exact g_zret h hr nw_bI dX6_isTown_7 (⟨rfl, rfl⟩) (Nat.le_of_ble_eq_true rfl) (Nat.le_of_ble_eq_true rfl)
abbrev rm_X6_isDay : Room := { frames := 1, cells := 0, slots := 0, locals := 22 }
set_option maxRecDepth 100000 in
set_option maxHeartbeats 4000000 in
theorem c_X6_isDay (lau : Launch) (E : EnvD) (σ : Sto) (x : Int32) : CC lau yX6_isDay cX6_isDay 1 (some .boolean) rm_X6_isDay E [.int x] σ (fun o s => o = some (.int (bI (inR x 1000))) ∧ s = σ) := by
  refine cc_of (vs := [_]) (by decide) (Nat.le_of_ble_eq_true rfl) rfl ?_
  intro X h hr hn
  refine g_iload_n h 0 dX6_isDay_0 rfl rfl ?_
  refine g_iconst h (nI 0) dX6_isDay_1 (by decide) ?_
  refine g_sipush h (nI 999) dX6_isDay_2 (by decide) ?_
  refine g_callS h [] (c_X6_in (xL X) E _ x (nI 0) (nI 999)) cf_X6_62 cs_X6_in dX6_isDay_5 rfl rfl (Nat.le_of_ble_eq_true rfl) ⟨(Nat.le_of_ble_eq_true rfl), (Nat.le_of_ble_eq_true rfl)⟩ ⟨(Nat.le_of_ble_eq_true rfl), (Nat.le_of_ble_eq_true rfl)⟩ ?_
  refine kk_det ?_
  refine g_top (y := bI (inR x 1000)) (bI_iff (in_N (by omega))) ?_
  exact g_zret h hr nw_bI dX6_isDay_8 (⟨rfl, rfl⟩) (Nat.le_of_ble_eq_true rfl) (Nat.le_of_ble_eq_true rfl)
abbrev rm_X6_put : Room := { frames := 2, cells := 0, slots := 0, locals := 42 }
set_option maxRecDepth 100000 in
set_option maxHeartbeats 4000000 in
theorem D_put (lau : Launch) (E : EnvD) (σ : Sto) {b : Nat} {S : PSt} (hI : Inv S) (hM : RepM E b S σ) (a1 a2 a3 : Int32) : CC lau yX6_put cX6_put 5 (some .int) rm_X6_put E [.ref b, .int a1, .int a2, .int a3] σ (fun o s => o = some (.int (opPut S a1 a2 a3).1) ∧ RepM E b (opPut S a1 a2 a3).2 s) := by
  refine cc_of (vs := [_, _, _, _, _]) (by decide) (Nat.le_of_ble_eq_true rfl) rfl ?_
  intro X h hr hn
  obtain ⟨r0, ⟨f1, r1, e1⟩, ⟨f2, r2, e2⟩, ⟨f3, r3, e3⟩, ⟨f4, r4, e4⟩, ⟨f5, r5, e5⟩, ⟨f6, r6, e6⟩, ⟨f7, r7, e7⟩, ⟨f8, r8, e8⟩, ⟨f9, r9, e9⟩, ⟨f10, r10, e10⟩, ⟨f11, r11, e11⟩, ⟨f12, r12, e12⟩, ⟨f13, r13⟩, ⟨f14, r14⟩, ⟨f15, r15⟩, ⟨f16, r16, e16⟩, ⟨f17, r17⟩⟩ := id hM
  by_cases na1 : ¬ inR a1 8
  · skip
    refine g_iload_n h 1 dX6_put_0 rfl rfl ?_
    refine g_callS h [] (c_X6_isVersion (xL X) E _ a1) cf_X6_66 cs_X6_isVersion dX6_put_1 rfl rfl (Nat.le_of_ble_eq_true rfl) ⟨(Nat.le_of_ble_eq_true rfl), (Nat.le_of_ble_eq_true rfl)⟩ ⟨(Nat.le_of_ble_eq_true rfl), (Nat.le_of_ble_eq_true rfl)⟩ ?_
    refine kk_det ?_
    refine g_if_eqB h 28 dX6_put_4 (by decide) (fun c4_1 => ?_) (fun c4_1 => absurd c4_1 na1)
    refine g_bipush h (-2) dX6_put_28 (by decide) ?_
    exact g_iret h hr dX6_put_30 ((fun e => ⟨by rw [e], by rw [e]; exact hM⟩) (show opPut S a1 a2 a3 = (-2, S) from cif_f (fun q => na1 q.1))) (Nat.le_of_ble_eq_true rfl) (Nat.le_of_ble_eq_true rfl)
  obtain ⟨v, hv9, rfl⟩ := Classical.not_not.mp na1
  have ev9 : cl (nI v) = v := cl_nI (by omega)
  have hn40 := (hI.1 v hv9).1
  by_cases na2 : ¬ inR a2 (sVn S v + 1)
  · skip
    refine g_iload_n h 1 dX6_put_0 rfl rfl ?_
    refine g_callS h [] (c_X6_isVersion (xL X) E _ (nI v)) cf_X6_66 cs_X6_isVersion dX6_put_1 rfl rfl (Nat.le_of_ble_eq_true rfl) ⟨(Nat.le_of_ble_eq_true rfl), (Nat.le_of_ble_eq_true rfl)⟩ ⟨(Nat.le_of_ble_eq_true rfl), (Nat.le_of_ble_eq_true rfl)⟩ ?_
    refine kk_det ?_
    refine g_if_eqB h 28 dX6_put_4 (by decide) (fun c4_2 => absurd ⟨v, hv9, rfl⟩ c4_2) (fun c4_2 => ?_)
    refine g_iload_n h 2 dX6_put_7 rfl rfl ?_
    refine g_iconst h (nI 0) dX6_put_8 (by decide) ?_
    refine g_aload_n h 0 dX6_put_9 rfl rfl ?_
    refine g_get h 1 fa_X6_13 dX6_put_10 r0 rfl ?_
    refine g_iload_n h 1 dX6_put_13 rfl rfl ?_
    refine g_iald h dX6_put_14 r2 (by omega) (by omega) ?_
    refine g_top (y := nI (sVn S v)) (e2 v (by omega)) ?_
    refine g_callS h [] (c_X6_in (xL X) E _ a2 (nI 0) (nI (sVn S v))) cf_X6_62 cs_X6_in dX6_put_15 rfl rfl (Nat.le_of_ble_eq_true rfl) ⟨(Nat.le_of_ble_eq_true rfl), (Nat.le_of_ble_eq_true rfl)⟩ ⟨(Nat.le_of_ble_eq_true rfl), (Nat.le_of_ble_eq_true rfl)⟩ ?_
    refine kk_det ?_
    refine g_top (y := bI (inR a2 (sVn S v + 1))) (bI_iff (in_N (by omega))) ?_
    refine g_if_eqB h 28 dX6_put_18 (by decide) (fun c18_3 => ?_) (fun c18_3 => absurd c18_3 na2)
    refine g_bipush h (-2) dX6_put_28 (by decide) ?_
    exact g_iret h hr dX6_put_30 ((fun e => ⟨by rw [e], by rw [e]; exact hM⟩) (show opPut S (nI v) a2 a3 = (-2, S) from cif_f (fun q => na2 (ev9 ▸ q.2.1)))) (Nat.le_of_ble_eq_true rfl) (Nat.le_of_ble_eq_true rfl)
  obtain ⟨i, hi9, rfl⟩ := Classical.not_not.mp na2
  have ei9 : cl (nI i) = i := cl_nI (by omega)
  by_cases na3 : ¬ inR a3 100
  · skip
    refine g_iload_n h 1 dX6_put_0 rfl rfl ?_
    refine g_callS h [] (c_X6_isVersion (xL X) E _ (nI v)) cf_X6_66 cs_X6_isVersion dX6_put_1 rfl rfl (Nat.le_of_ble_eq_true rfl) ⟨(Nat.le_of_ble_eq_true rfl), (Nat.le_of_ble_eq_true rfl)⟩ ⟨(Nat.le_of_ble_eq_true rfl), (Nat.le_of_ble_eq_true rfl)⟩ ?_
    refine kk_det ?_
    refine g_if_eqB h 28 dX6_put_4 (by decide) (fun c4_4 => absurd ⟨v, hv9, rfl⟩ c4_4) (fun c4_4 => ?_)
    refine g_iload_n h 2 dX6_put_7 rfl rfl ?_
    refine g_iconst h (nI 0) dX6_put_8 (by decide) ?_
    refine g_aload_n h 0 dX6_put_9 rfl rfl ?_
    refine g_get h 1 fa_X6_13 dX6_put_10 r0 rfl ?_
    refine g_iload_n h 1 dX6_put_13 rfl rfl ?_
    refine g_iald h dX6_put_14 r2 (by omega) (by omega) ?_
    refine g_top (y := nI (sVn S v)) (e2 v (by omega)) ?_
    refine g_callS h [] (c_X6_in (xL X) E _ (nI i) (nI 0) (nI (sVn S v))) cf_X6_62 cs_X6_in dX6_put_15 rfl rfl (Nat.le_of_ble_eq_true rfl) ⟨(Nat.le_of_ble_eq_true rfl), (Nat.le_of_ble_eq_true rfl)⟩ ⟨(Nat.le_of_ble_eq_true rfl), (Nat.le_of_ble_eq_true rfl)⟩ ?_
    refine kk_det ?_
    refine g_top (y := bI (inR (nI i) (sVn S v + 1))) (bI_iff (in_N (by omega))) ?_
    refine g_if_eqB h 28 dX6_put_18 (by decide) (fun c18_5 => absurd ⟨i, hi9, rfl⟩ c18_5) (fun c18_5 => ?_)
    refine g_iload_n h 3 dX6_put_21 rfl rfl ?_
    refine g_callS h [] (c_X6_isLine (xL X) E _ a3) cf_X6_70 cs_X6_isLine dX6_put_22 rfl rfl (Nat.le_of_ble_eq_true rfl) ⟨(Nat.le_of_ble_eq_true rfl), (Nat.le_of_ble_eq_true rfl)⟩ ⟨(Nat.le_of_ble_eq_true rfl), (Nat.le_of_ble_eq_true rfl)⟩ ?_
    refine kk_det ?_
    refine g_if_neB h 31 dX6_put_25 (by decide) (fun c25_6 => absurd c25_6 na3) (fun c25_6 => ?_)
    refine g_bipush h (-2) dX6_put_28 (by decide) ?_
    exact g_iret h hr dX6_put_30 ((fun e => ⟨by rw [e], by rw [e]; exact hM⟩) (show opPut S (nI v) (nI i) a3 = (-2, S) from cif_f (fun q => na3 q.2.2))) (Nat.le_of_ble_eq_true rfl) (Nat.le_of_ble_eq_true rfl)
  obtain ⟨x, hx9, rfl⟩ := Classical.not_not.mp na3
  have ex9 : cl (nI x) = x := cl_nI (by omega)
  refine g_iload_n h 1 dX6_put_0 rfl rfl ?_
  refine g_callS h [] (c_X6_isVersion (xL X) E _ (nI v)) cf_X6_66 cs_X6_isVersion dX6_put_1 rfl rfl (Nat.le_of_ble_eq_true rfl) ⟨(Nat.le_of_ble_eq_true rfl), (Nat.le_of_ble_eq_true rfl)⟩ ⟨(Nat.le_of_ble_eq_true rfl), (Nat.le_of_ble_eq_true rfl)⟩ ?_
  refine kk_det ?_
  refine g_if_eqB h 28 dX6_put_4 (by decide) (fun c4_7 => absurd ⟨v, hv9, rfl⟩ c4_7) (fun c4_7 => ?_)
  refine g_iload_n h 2 dX6_put_7 rfl rfl ?_
  refine g_iconst h (nI 0) dX6_put_8 (by decide) ?_
  refine g_aload_n h 0 dX6_put_9 rfl rfl ?_
  refine g_get h 1 fa_X6_13 dX6_put_10 r0 rfl ?_
  refine g_iload_n h 1 dX6_put_13 rfl rfl ?_
  refine g_iald h dX6_put_14 r2 (by omega) (by omega) ?_
  refine g_top (y := nI (sVn S v)) (e2 v (by omega)) ?_
  refine g_callS h [] (c_X6_in (xL X) E _ (nI i) (nI 0) (nI (sVn S v))) cf_X6_62 cs_X6_in dX6_put_15 rfl rfl (Nat.le_of_ble_eq_true rfl) ⟨(Nat.le_of_ble_eq_true rfl), (Nat.le_of_ble_eq_true rfl)⟩ ⟨(Nat.le_of_ble_eq_true rfl), (Nat.le_of_ble_eq_true rfl)⟩ ?_
  refine kk_det ?_
  refine g_top (y := bI (inR (nI i) (sVn S v + 1))) (bI_iff (in_N (by omega))) ?_
  refine g_if_eqB h 28 dX6_put_18 (by decide) (fun c18_8 => absurd ⟨i, hi9, rfl⟩ c18_8) (fun c18_8 => ?_)
  refine g_iload_n h 3 dX6_put_21 rfl rfl ?_
  refine g_callS h [] (c_X6_isLine (xL X) E _ (nI x)) cf_X6_70 cs_X6_isLine dX6_put_22 rfl rfl (Nat.le_of_ble_eq_true rfl) ⟨(Nat.le_of_ble_eq_true rfl), (Nat.le_of_ble_eq_true rfl)⟩ ⟨(Nat.le_of_ble_eq_true rfl), (Nat.le_of_ble_eq_true rfl)⟩ ?_
  refine kk_det ?_
  refine g_if_neB h 31 dX6_put_25 (by decide) (fun c25_9 => ?_) (fun c25_9 => absurd ⟨x, hx9, rfl⟩ c25_9)
  refine g_aload_n h 0 dX6_put_31 rfl rfl ?_
  refine g_get h 1 fa_X6_13 dX6_put_32 r0 rfl ?_
  refine g_iload_n h 1 dX6_put_35 rfl rfl ?_
  refine g_iald h dX6_put_36 r2 (by omega) (by omega) ?_
  refine g_top (y := nI (sVn S v)) (e2 v (by omega)) ?_
  refine g_bipush h (nI 40) dX6_put_37 (by decide) ?_
  refine g_icmp_neN h 45 dX6_put_39 (by decide) (by omega) (by decide) (fun c39_10 => ?_) (fun c39_10 => ?_)
  · skip
    refine g_aload_n h 0 dX6_put_45 rfl rfl ?_
    refine g_get h 1 fa_X6_13 dX6_put_46 r0 rfl ?_
    refine g_iload_n h 1 dX6_put_49 rfl rfl ?_
    refine g_iald h dX6_put_50 r2 (by omega) (by omega) ?_
    refine g_top (y := nI (sVn S v)) (e2 v (by omega)) ?_
    refine g_istore (vs' := [_, _, _, _, _]) h dX6_put_51 (Nat.le_of_ble_eq_true rfl) rfl rfl ?_
    refine g_sto (sup_self (e := cI E 320 f1) r1).symm ?_
    have L53 : ∀ (m0 : Nat) (k : Nat) (g : Nat → Int32), (i ≤ k) → (k ≤ sVn S v) → (g = shF f1 (40 * v + sVn S v) (40 * v + k)) → k < m0 → G X E 5 (AD σ) (QF X E σ (fun o s => o = some (.int (opPut S (nI v) (nI i) (nI x)).1) ∧ RepM E b (opPut S (nI v) (nI i) (nI x)).2 s) rm_X6_put) 0 0 53 [some (.ref b), some (.int (nI v)), some (.int (nI i)), some (.int (nI x)), some (.int (nI k))] [] (sup σ (b + 1) (cI E 320 g)) := by
      intro m0
      induction m0 with
      | zero => intro k g _ _ _ hm0; exact absurd hm0 (Nat.not_lt_zero _)
      | succ m0 ih =>
        intro k g hk1 hk2 hg hm0
        refine g_iload h dX6_put_53 rfl ?_
        refine g_iload_n h 2 dX6_put_55 rfl rfl ?_
        refine g_icmp_leN h 91 dX6_put_56 (by decide) (by omega) (by omega) (fun c56_11 => ?_) (fun c56_11 => ?_)
        · skip
          obtain rfl : i = k := by omega
          subst hg
          refine g_aload_n h 0 dX6_put_91 rfl rfl ?_
          refine g_get h 0 fa_X6_7 dX6_put_92 ((sup_ne (by omega)).trans r0) rfl ?_
          refine g_bipush h (nI 40) dX6_put_95 (by decide) ?_
          refine g_iload_n h 1 dX6_put_97 rfl rfl ?_
          refine g_imulN h dX6_put_98 ?_
          refine g_iload_n h 2 dX6_put_99 rfl rfl ?_
          refine g_iaddN h dX6_put_100 ?_
          refine g_iload_n h 3 dX6_put_101 rfl rfl ?_
          refine g_iast h dX6_put_102 sup_eq (by omega) (by omega) ?_
          refine g_sto sup_sup ?_
          refine g_aload_n h 0 dX6_put_103 rfl rfl ?_
          refine g_get h 1 fa_X6_13 dX6_put_104 ((sup_ne (by omega)).trans r0) rfl ?_
          refine g_iload_n h 1 dX6_put_107 rfl rfl ?_
          refine g_dup2 h dX6_put_108 rfl rfl ?_
          refine g_iald h dX6_put_109 ((sup_ne (by omega)).trans r2) (by omega) (by omega) ?_
          refine g_top (y := nI (sVn S v)) (e2 v (by omega)) ?_
          refine g_iconst h (nI 1) dX6_put_110 (by decide) ?_
          refine g_iaddN h dX6_put_111 ?_
          refine g_iast h dX6_put_112 ((sup_ne (by omega)).trans r2) (by omega) (by omega) ?_
          refine g_aload_n h 0 dX6_put_113 rfl rfl ?_
          refine g_get h 1 fa_X6_13 dX6_put_114 ((sup_ne (by omega)).trans ((sup_ne (by omega)).trans r0)) rfl ?_
          refine g_iload_n h 1 dX6_put_117 rfl rfl ?_
          refine g_iald h dX6_put_118 sup_eq (by omega) (by omega) ?_
          refine g_top (y := nI (sVn S v + 1)) (upd_eq9) ?_
          exact g_iret h hr dX6_put_119 ((fun e => ⟨by rw [e], by rw [e]; exact ⟨((sup_ne (by omega)).trans ((sup_ne (by omega)).trans r0)), ⟨_, ((sup_ne (by omega)).trans sup_eq), by rw [shF_end]; exact m_put hI e1 hv9 (by omega) (by omega)⟩, ⟨_, sup_eq, m_siz e2⟩, ⟨_, ((sup_ne (by omega)).trans ((sup_ne (by omega)).trans r3)), e3⟩, ⟨_, ((sup_ne (by omega)).trans ((sup_ne (by omega)).trans r4)), e4⟩, ⟨_, ((sup_ne (by omega)).trans ((sup_ne (by omega)).trans r5)), e5⟩, ⟨_, ((sup_ne (by omega)).trans ((sup_ne (by omega)).trans r6)), e6⟩, ⟨_, ((sup_ne (by omega)).trans ((sup_ne (by omega)).trans r7)), e7⟩, ⟨_, ((sup_ne (by omega)).trans ((sup_ne (by omega)).trans r8)), e8⟩, ⟨_, ((sup_ne (by omega)).trans ((sup_ne (by omega)).trans r9)), e9⟩, ⟨_, ((sup_ne (by omega)).trans ((sup_ne (by omega)).trans r10)), e10⟩, ⟨_, ((sup_ne (by omega)).trans ((sup_ne (by omega)).trans r11)), e11⟩, ⟨_, ((sup_ne (by omega)).trans ((sup_ne (by omega)).trans r12)), e12⟩, ⟨_, ((sup_ne (by omega)).trans ((sup_ne (by omega)).trans r13))⟩, ⟨_, ((sup_ne (by omega)).trans ((sup_ne (by omega)).trans r14))⟩, ⟨_, ((sup_ne (by omega)).trans ((sup_ne (by omega)).trans r15))⟩, ⟨_, ((sup_ne (by omega)).trans ((sup_ne (by omega)).trans r16)), e16⟩, ⟨_, ((sup_ne (by omega)).trans ((sup_ne (by omega)).trans r17))⟩⟩⟩) (show opPut S (nI v) (nI i) (nI x) = (nI (sVn S v + 1), setV S v (sVn S v + 1) (insN (sVl S v) (sVn S v) i x)) from by unfold opPut; rw [cif_t ⟨⟨v, hv9, rfl⟩, ⟨i, by rw [ev9]; exact hi9, rfl⟩, ⟨x, hx9, rfl⟩⟩, cif_f (by rw [ev9]; omega), ev9, ei9, ex9])) (Nat.le_of_ble_eq_true rfl) (Nat.le_of_ble_eq_true rfl)
        · skip
          refine g_aload_n h 0 dX6_put_59 rfl rfl ?_
          refine g_get h 0 fa_X6_7 dX6_put_60 ((sup_ne (by omega)).trans r0) rfl ?_
          refine g_bipush h (nI 40) dX6_put_63 (by decide) ?_
          refine g_iload_n h 1 dX6_put_65 rfl rfl ?_
          refine g_imulN h dX6_put_66 ?_
          refine g_iload h dX6_put_67 rfl ?_
          refine g_iaddN h dX6_put_69 ?_
          refine g_aload_n h 0 dX6_put_70 rfl rfl ?_
          refine g_get h 0 fa_X6_7 dX6_put_71 ((sup_ne (by omega)).trans r0) rfl ?_
          refine g_bipush h (nI 40) dX6_put_74 (by decide) ?_
          refine g_iload_n h 1 dX6_put_76 rfl rfl ?_
          refine g_imulN h dX6_put_77 ?_
          refine g_iload h dX6_put_78 rfl ?_
          refine g_iaddN h dX6_put_80 ?_
          refine g_iconst h (nI 1) dX6_put_81 (by decide) ?_
          refine g_isubN h dX6_put_82 (by omega) ?_
          refine g_iald h dX6_put_83 sup_eq (by omega) (by omega) ?_
          refine g_iast h dX6_put_84 sup_eq (by omega) (by omega) ?_
          refine g_sto sup_sup ?_
          refine g_iinc (vs' := [_, _, _, _, _]) h (nI (k - 1)) dX6_put_85 rfl (nI_dec (by omega)) (Nat.le_of_ble_eq_true rfl) rfl rfl ?_
          refine g_goto h 53 dX6_put_88 (by decide) ?_
          exact ih (k - 1) _ (by omega) (by omega) (by rw [hg, shF_step (by omega) (by omega), show (40 * v) + k - 1 = (40 * v) + (k - 1) by omega]) (by omega)
    exact L53 (sVn S v + 1) (sVn S v) f1 (by omega) (Nat.le_refl _) (shF_n _ _).symm (by omega)
  · skip
    refine g_bipush h (-4) dX6_put_42 (by decide) ?_
    exact g_iret h hr dX6_put_44 ((fun e => ⟨by rw [e], by rw [e]; exact hM⟩) (show opPut S (nI v) (nI i) (nI x) = (-4, S) from by unfold opPut; rw [cif_t ⟨⟨v, hv9, rfl⟩, ⟨i, by rw [ev9]; exact hi9, rfl⟩, ⟨x, hx9, rfl⟩⟩, cif_t (by rw [ev9]; omega)])) (Nat.le_of_ble_eq_true rfl) (Nat.le_of_ble_eq_true rfl)
abbrev rm_X6_take : Room := { frames := 2, cells := 0, slots := 0, locals := 42 }
set_option maxRecDepth 100000 in
set_option maxHeartbeats 4000000 in
theorem D_take (lau : Launch) (E : EnvD) (σ : Sto) {b : Nat} {S : PSt} (hI : Inv S) (hM : RepM E b S σ) (a1 a2 : Int32) : CC lau yX6_take cX6_take 5 (some .int) rm_X6_take E [.ref b, .int a1, .int a2] σ (fun o s => o = some (.int (opTake S a1 a2).1) ∧ RepM E b (opTake S a1 a2).2 s) := by
  refine cc_of (vs := [_, _, _, _, _]) (by decide) (Nat.le_of_ble_eq_true rfl) rfl ?_
  intro X h hr hn
  obtain ⟨r0, ⟨f1, r1, e1⟩, ⟨f2, r2, e2⟩, ⟨f3, r3, e3⟩, ⟨f4, r4, e4⟩, ⟨f5, r5, e5⟩, ⟨f6, r6, e6⟩, ⟨f7, r7, e7⟩, ⟨f8, r8, e8⟩, ⟨f9, r9, e9⟩, ⟨f10, r10, e10⟩, ⟨f11, r11, e11⟩, ⟨f12, r12, e12⟩, ⟨f13, r13⟩, ⟨f14, r14⟩, ⟨f15, r15⟩, ⟨f16, r16, e16⟩, ⟨f17, r17⟩⟩ := id hM
  by_cases na1 : ¬ inR a1 8
  · skip
    refine g_iload_n h 1 dX6_take_0 rfl rfl ?_
    refine g_callS h [] (c_X6_isVersion (xL X) E _ a1) cf_X6_66 cs_X6_isVersion dX6_take_1 rfl rfl (Nat.le_of_ble_eq_true rfl) ⟨(Nat.le_of_ble_eq_true rfl), (Nat.le_of_ble_eq_true rfl)⟩ ⟨(Nat.le_of_ble_eq_true rfl), (Nat.le_of_ble_eq_true rfl)⟩ ?_
    refine kk_det ?_
    refine g_if_eqB h 23 dX6_take_4 (by decide) (fun c4_1 => ?_) (fun c4_1 => absurd c4_1 na1)
    refine g_bipush h (-2) dX6_take_23 (by decide) ?_
    exact g_iret h hr dX6_take_25 ((fun e => ⟨by rw [e], by rw [e]; exact hM⟩) (show opTake S a1 a2 = (-2, S) from cif_f (fun q => na1 q.1))) (Nat.le_of_ble_eq_true rfl) (Nat.le_of_ble_eq_true rfl)
  obtain ⟨v, hv9, rfl⟩ := Classical.not_not.mp na1
  have ev9 : cl (nI v) = v := cl_nI (by omega)
  have hn40 := (hI.1 v hv9).1
  by_cases na2 : ¬ inR a2 (sVn S v)
  · skip
    refine g_iload_n h 1 dX6_take_0 rfl rfl ?_
    refine g_callS h [] (c_X6_isVersion (xL X) E _ (nI v)) cf_X6_66 cs_X6_isVersion dX6_take_1 rfl rfl (Nat.le_of_ble_eq_true rfl) ⟨(Nat.le_of_ble_eq_true rfl), (Nat.le_of_ble_eq_true rfl)⟩ ⟨(Nat.le_of_ble_eq_true rfl), (Nat.le_of_ble_eq_true rfl)⟩ ?_
    refine kk_det ?_
    refine g_if_eqB h 23 dX6_take_4 (by decide) (fun c4_2 => absurd ⟨v, hv9, rfl⟩ c4_2) (fun c4_2 => ?_)
    refine g_iload_n h 2 dX6_take_7 rfl rfl ?_
    refine g_iconst h (nI 0) dX6_take_8 (by decide) ?_
    refine g_aload_n h 0 dX6_take_9 rfl rfl ?_
    refine g_get h 1 fa_X6_13 dX6_take_10 r0 rfl ?_
    refine g_iload_n h 1 dX6_take_13 rfl rfl ?_
    refine g_iald h dX6_take_14 r2 (by omega) (by omega) ?_
    refine g_top (y := nI (sVn S v)) (e2 v (by omega)) ?_
    refine g_iconst h (nI 1) dX6_take_15 (by decide) ?_
    refine g_isub h dX6_take_16 ?_
    refine g_callS h [] (c_X6_in (xL X) E _ a2 (nI 0) ((nI (sVn S v) - nI 1))) cf_X6_62 cs_X6_in dX6_take_17 rfl rfl (Nat.le_of_ble_eq_true rfl) ⟨(Nat.le_of_ble_eq_true rfl), (Nat.le_of_ble_eq_true rfl)⟩ ⟨(Nat.le_of_ble_eq_true rfl), (Nat.le_of_ble_eq_true rfl)⟩ ?_
    refine kk_det ?_
    refine g_top (y := bI (inR a2 (sVn S v))) (bI_iff (in_M (by omega))) ?_
    refine g_if_neB h 26 dX6_take_20 (by decide) (fun c20_3 => absurd c20_3 na2) (fun c20_3 => ?_)
    refine g_bipush h (-2) dX6_take_23 (by decide) ?_
    exact g_iret h hr dX6_take_25 ((fun e => ⟨by rw [e], by rw [e]; exact hM⟩) (show opTake S (nI v) a2 = (-2, S) from cif_f (fun q => na2 (ev9 ▸ q.2)))) (Nat.le_of_ble_eq_true rfl) (Nat.le_of_ble_eq_true rfl)
  obtain ⟨i, hi9, rfl⟩ := Classical.not_not.mp na2
  have ei9 : cl (nI i) = i := cl_nI (by omega)
  refine g_iload_n h 1 dX6_take_0 rfl rfl ?_
  refine g_callS h [] (c_X6_isVersion (xL X) E _ (nI v)) cf_X6_66 cs_X6_isVersion dX6_take_1 rfl rfl (Nat.le_of_ble_eq_true rfl) ⟨(Nat.le_of_ble_eq_true rfl), (Nat.le_of_ble_eq_true rfl)⟩ ⟨(Nat.le_of_ble_eq_true rfl), (Nat.le_of_ble_eq_true rfl)⟩ ?_
  refine kk_det ?_
  refine g_if_eqB h 23 dX6_take_4 (by decide) (fun c4_4 => absurd ⟨v, hv9, rfl⟩ c4_4) (fun c4_4 => ?_)
  refine g_iload_n h 2 dX6_take_7 rfl rfl ?_
  refine g_iconst h (nI 0) dX6_take_8 (by decide) ?_
  refine g_aload_n h 0 dX6_take_9 rfl rfl ?_
  refine g_get h 1 fa_X6_13 dX6_take_10 r0 rfl ?_
  refine g_iload_n h 1 dX6_take_13 rfl rfl ?_
  refine g_iald h dX6_take_14 r2 (by omega) (by omega) ?_
  refine g_top (y := nI (sVn S v)) (e2 v (by omega)) ?_
  refine g_iconst h (nI 1) dX6_take_15 (by decide) ?_
  refine g_isub h dX6_take_16 ?_
  refine g_callS h [] (c_X6_in (xL X) E _ (nI i) (nI 0) ((nI (sVn S v) - nI 1))) cf_X6_62 cs_X6_in dX6_take_17 rfl rfl (Nat.le_of_ble_eq_true rfl) ⟨(Nat.le_of_ble_eq_true rfl), (Nat.le_of_ble_eq_true rfl)⟩ ⟨(Nat.le_of_ble_eq_true rfl), (Nat.le_of_ble_eq_true rfl)⟩ ?_
  refine kk_det ?_
  refine g_top (y := bI (inR (nI i) (sVn S v))) (bI_iff (in_M (by omega))) ?_
  refine g_if_neB h 26 dX6_take_20 (by decide) (fun c20_5 => ?_) (fun c20_5 => absurd ⟨i, hi9, rfl⟩ c20_5)
  refine g_aload_n h 0 dX6_take_26 rfl rfl ?_
  refine g_get h 0 fa_X6_7 dX6_take_27 r0 rfl ?_
  refine g_bipush h (nI 40) dX6_take_30 (by decide) ?_
  refine g_iload_n h 1 dX6_take_32 rfl rfl ?_
  refine g_imulN h dX6_take_33 ?_
  refine g_iload_n h 2 dX6_take_34 rfl rfl ?_
  refine g_iaddN h dX6_take_35 ?_
  refine g_iald h dX6_take_36 r1 (by omega) (by omega) ?_
  refine g_top (y := nI (sVl S v i)) (e1 v (by omega) i (by omega)) ?_
  refine g_istore_n (vs' := [_, _, _, _, _]) h 3 dX6_take_37 rfl (Nat.le_of_ble_eq_true rfl) rfl rfl ?_
  refine g_aload_n h 0 dX6_take_38 rfl rfl ?_
  refine g_get h 1 fa_X6_13 dX6_take_39 r0 rfl ?_
  refine g_iload_n h 1 dX6_take_42 rfl rfl ?_
  refine g_dup2 h dX6_take_43 rfl rfl ?_
  refine g_iald h dX6_take_44 r2 (by omega) (by omega) ?_
  refine g_top (y := nI (sVn S v)) (e2 v (by omega)) ?_
  refine g_iconst h (nI 1) dX6_take_45 (by decide) ?_
  refine g_isubN h dX6_take_46 (by omega) ?_
  refine g_iast h dX6_take_47 r2 (by omega) (by omega) ?_
  refine g_iload_n h 2 dX6_take_48 rfl rfl ?_
  refine g_istore (vs' := [_, _, _, _, _]) h dX6_take_49 (Nat.le_of_ble_eq_true rfl) rfl rfl ?_
  refine g_sto (sup_self (e := cI E 320 f1) ((sup_ne (by omega)).trans r1)).symm ?_
  have L51 : ∀ (m0 : Nat) (k : Nat) (g : Nat → Int32), (i ≤ k) → (k ≤ sVn S v - 1) → (g = remF f1 (40 * v + k + 1) (40 * v + i)) → (sVn S v - k) < m0 → G X E 5 (AD σ) (QF X E σ (fun o s => o = some (.int (opTake S (nI v) (nI i)).1) ∧ RepM E b (opTake S (nI v) (nI i)).2 s) rm_X6_take) 0 0 51 [some (.ref b), some (.int (nI v)), some (.int (nI i)), some (.int (nI (sVl S v i))), some (.int (nI k))] [] (sup (sup σ (b + 2) (cI E 8 (upd f2 v (nI ((sVn S v) - 1))))) (b + 1) (cI E 320 g)) := by
    intro m0
    induction m0 with
    | zero => intro k g _ _ _ hm0; exact absurd hm0 (Nat.not_lt_zero _)
    | succ m0 ih =>
      intro k g hk1 hk2 hg hm0
      refine g_iload h dX6_take_51 rfl ?_
      refine g_aload_n h 0 dX6_take_53 rfl rfl ?_
      refine g_get h 1 fa_X6_13 dX6_take_54 ((sup_ne (by omega)).trans ((sup_ne (by omega)).trans r0)) rfl ?_
      refine g_iload_n h 1 dX6_take_57 rfl rfl ?_
      refine g_iald h dX6_take_58 ((sup_ne (by omega)).trans sup_eq) (by omega) (by omega) ?_
      refine g_top (y := nI (sVn S v - 1)) (upd_eq9) ?_
      refine g_icmp_geN h 94 dX6_take_59 (by decide) (by omega) (by omega) (fun c59_6 => ?_) (fun c59_6 => ?_)
      · skip
        have hke : k + 1 = sVn S v := by omega
        refine g_iload_n h 3 dX6_take_94 rfl rfl ?_
        exact g_iret h hr dX6_take_95 ((fun e => ⟨by rw [e], by rw [e]; exact ⟨((sup_ne (by omega)).trans ((sup_ne (by omega)).trans r0)), ⟨_, sup_eq, by rw [hg, show 40 * v + k + 1 = 40 * v + sVn S v by omega]; exact m_take hI e1 hv9 hi9⟩, ⟨_, ((sup_ne (by omega)).trans sup_eq), m_siz e2⟩, ⟨_, ((sup_ne (by omega)).trans ((sup_ne (by omega)).trans r3)), e3⟩, ⟨_, ((sup_ne (by omega)).trans ((sup_ne (by omega)).trans r4)), e4⟩, ⟨_, ((sup_ne (by omega)).trans ((sup_ne (by omega)).trans r5)), e5⟩, ⟨_, ((sup_ne (by omega)).trans ((sup_ne (by omega)).trans r6)), e6⟩, ⟨_, ((sup_ne (by omega)).trans ((sup_ne (by omega)).trans r7)), e7⟩, ⟨_, ((sup_ne (by omega)).trans ((sup_ne (by omega)).trans r8)), e8⟩, ⟨_, ((sup_ne (by omega)).trans ((sup_ne (by omega)).trans r9)), e9⟩, ⟨_, ((sup_ne (by omega)).trans ((sup_ne (by omega)).trans r10)), e10⟩, ⟨_, ((sup_ne (by omega)).trans ((sup_ne (by omega)).trans r11)), e11⟩, ⟨_, ((sup_ne (by omega)).trans ((sup_ne (by omega)).trans r12)), e12⟩, ⟨_, ((sup_ne (by omega)).trans ((sup_ne (by omega)).trans r13))⟩, ⟨_, ((sup_ne (by omega)).trans ((sup_ne (by omega)).trans r14))⟩, ⟨_, ((sup_ne (by omega)).trans ((sup_ne (by omega)).trans r15))⟩, ⟨_, ((sup_ne (by omega)).trans ((sup_ne (by omega)).trans r16)), e16⟩, ⟨_, ((sup_ne (by omega)).trans ((sup_ne (by omega)).trans r17))⟩⟩⟩) (show opTake S (nI v) (nI i) = (nI (sVl S v i), setV S v (sVn S v - 1) (remN (sVl S v) (sVn S v) i)) from by unfold opTake; rw [cif_t ⟨⟨v, hv9, rfl⟩, ⟨i, by rw [ev9]; exact hi9, rfl⟩⟩, ev9, ei9])) (Nat.le_of_ble_eq_true rfl) (Nat.le_of_ble_eq_true rfl)
      · skip
        refine g_aload_n h 0 dX6_take_62 rfl rfl ?_
        refine g_get h 0 fa_X6_7 dX6_take_63 ((sup_ne (by omega)).trans ((sup_ne (by omega)).trans r0)) rfl ?_
        refine g_bipush h (nI 40) dX6_take_66 (by decide) ?_
        refine g_iload_n h 1 dX6_take_68 rfl rfl ?_
        refine g_imulN h dX6_take_69 ?_
        refine g_iload h dX6_take_70 rfl ?_
        refine g_iaddN h dX6_take_72 ?_
        refine g_aload_n h 0 dX6_take_73 rfl rfl ?_
        refine g_get h 0 fa_X6_7 dX6_take_74 ((sup_ne (by omega)).trans ((sup_ne (by omega)).trans r0)) rfl ?_
        refine g_bipush h (nI 40) dX6_take_77 (by decide) ?_
        refine g_iload_n h 1 dX6_take_79 rfl rfl ?_
        refine g_imulN h dX6_take_80 ?_
        refine g_iload h dX6_take_81 rfl ?_
        refine g_iaddN h dX6_take_83 ?_
        refine g_iconst h (nI 1) dX6_take_84 (by decide) ?_
        refine g_iaddN h dX6_take_85 ?_
        refine g_iald h dX6_take_86 sup_eq (by omega) (by omega) ?_
        refine g_iast h dX6_take_87 sup_eq (by omega) (by omega) ?_
        refine g_sto sup_sup ?_
        refine g_iinc (vs' := [_, _, _, _, _]) h (nI (k + 1)) dX6_take_88 rfl (by first | exact nI_1 _ | rfl) (Nat.le_of_ble_eq_true rfl) rfl rfl ?_
        refine g_goto h 51 dX6_take_91 (by decide) ?_
        exact ih (k + 1) _ (by omega) (by omega) (by rw [hg, show 40 * v + k + 1 = (40 * v + k) + 1 from rfl, remF_step (by omega)]; rfl) (by omega)
  exact L51 (sVn S v + 1) i f1 (by omega) (by omega) (by funext q; unfold remF; rw [if_neg (by omega)]) (by omega)
abbrev rm_X6_copy : Room := { frames := 2, cells := 0, slots := 0, locals := 42 }
set_option maxRecDepth 100000 in
set_option maxHeartbeats 4000000 in
theorem D_copy (lau : Launch) (E : EnvD) (σ : Sto) {b : Nat} {S : PSt} (hI : Inv S) (hM : RepM E b S σ) (a1 a2 : Int32) : CC lau yX6_copy cX6_copy 4 (some .int) rm_X6_copy E [.ref b, .int a1, .int a2] σ (fun o s => o = some (.int (opCopy S a1 a2).1) ∧ RepM E b (opCopy S a1 a2).2 s) := by
  refine cc_of (vs := [_, _, _, _]) (by decide) (Nat.le_of_ble_eq_true rfl) rfl ?_
  intro X h hr hn
  obtain ⟨r0, ⟨f1, r1, e1⟩, ⟨f2, r2, e2⟩, ⟨f3, r3, e3⟩, ⟨f4, r4, e4⟩, ⟨f5, r5, e5⟩, ⟨f6, r6, e6⟩, ⟨f7, r7, e7⟩, ⟨f8, r8, e8⟩, ⟨f9, r9, e9⟩, ⟨f10, r10, e10⟩, ⟨f11, r11, e11⟩, ⟨f12, r12, e12⟩, ⟨f13, r13⟩, ⟨f14, r14⟩, ⟨f15, r15⟩, ⟨f16, r16, e16⟩, ⟨f17, r17⟩⟩ := id hM
  by_cases na1 : ¬ inR a1 8
  · skip
    refine g_iload_n h 1 dX6_copy_0 rfl rfl ?_
    refine g_callS h [] (c_X6_isVersion (xL X) E _ a1) cf_X6_66 cs_X6_isVersion dX6_copy_1 rfl rfl (Nat.le_of_ble_eq_true rfl) ⟨(Nat.le_of_ble_eq_true rfl), (Nat.le_of_ble_eq_true rfl)⟩ ⟨(Nat.le_of_ble_eq_true rfl), (Nat.le_of_ble_eq_true rfl)⟩ ?_
    refine kk_det ?_
    refine g_if_eqB h 14 dX6_copy_4 (by decide) (fun c4_1 => ?_) (fun c4_1 => absurd c4_1 na1)
    refine g_bipush h (-2) dX6_copy_14 (by decide) ?_
    exact g_iret h hr dX6_copy_16 ((fun e => ⟨by rw [e], by rw [e]; exact hM⟩) (show opCopy S a1 a2 = (-2, S) from cif_f (fun q => na1 q.1))) (Nat.le_of_ble_eq_true rfl) (Nat.le_of_ble_eq_true rfl)
  obtain ⟨v, hv9, rfl⟩ := Classical.not_not.mp na1
  have ev9 : cl (nI v) = v := cl_nI (by omega)
  have hn40 := (hI.1 v hv9).1
  by_cases na2 : ¬ inR a2 8
  · skip
    refine g_iload_n h 1 dX6_copy_0 rfl rfl ?_
    refine g_callS h [] (c_X6_isVersion (xL X) E _ (nI v)) cf_X6_66 cs_X6_isVersion dX6_copy_1 rfl rfl (Nat.le_of_ble_eq_true rfl) ⟨(Nat.le_of_ble_eq_true rfl), (Nat.le_of_ble_eq_true rfl)⟩ ⟨(Nat.le_of_ble_eq_true rfl), (Nat.le_of_ble_eq_true rfl)⟩ ?_
    refine kk_det ?_
    refine g_if_eqB h 14 dX6_copy_4 (by decide) (fun c4_2 => absurd ⟨v, hv9, rfl⟩ c4_2) (fun c4_2 => ?_)
    refine g_iload_n h 2 dX6_copy_7 rfl rfl ?_
    refine g_callS h [] (c_X6_isVersion (xL X) E _ a2) cf_X6_66 cs_X6_isVersion dX6_copy_8 rfl rfl (Nat.le_of_ble_eq_true rfl) ⟨(Nat.le_of_ble_eq_true rfl), (Nat.le_of_ble_eq_true rfl)⟩ ⟨(Nat.le_of_ble_eq_true rfl), (Nat.le_of_ble_eq_true rfl)⟩ ?_
    refine kk_det ?_
    refine g_if_neB h 17 dX6_copy_11 (by decide) (fun c11_3 => absurd c11_3 na2) (fun c11_3 => ?_)
    refine g_bipush h (-2) dX6_copy_14 (by decide) ?_
    exact g_iret h hr dX6_copy_16 ((fun e => ⟨by rw [e], by rw [e]; exact hM⟩) (show opCopy S (nI v) a2 = (-2, S) from cif_f (fun q => na2 q.2))) (Nat.le_of_ble_eq_true rfl) (Nat.le_of_ble_eq_true rfl)
  obtain ⟨u, hu9, rfl⟩ := Classical.not_not.mp na2
  have eu9 : cl (nI u) = u := cl_nI (by omega)
  refine g_iload_n h 1 dX6_copy_0 rfl rfl ?_
  refine g_callS h [] (c_X6_isVersion (xL X) E _ (nI v)) cf_X6_66 cs_X6_isVersion dX6_copy_1 rfl rfl (Nat.le_of_ble_eq_true rfl) ⟨(Nat.le_of_ble_eq_true rfl), (Nat.le_of_ble_eq_true rfl)⟩ ⟨(Nat.le_of_ble_eq_true rfl), (Nat.le_of_ble_eq_true rfl)⟩ ?_
  refine kk_det ?_
  refine g_if_eqB h 14 dX6_copy_4 (by decide) (fun c4_4 => absurd ⟨v, hv9, rfl⟩ c4_4) (fun c4_4 => ?_)
  refine g_iload_n h 2 dX6_copy_7 rfl rfl ?_
  refine g_callS h [] (c_X6_isVersion (xL X) E _ (nI u)) cf_X6_66 cs_X6_isVersion dX6_copy_8 rfl rfl (Nat.le_of_ble_eq_true rfl) ⟨(Nat.le_of_ble_eq_true rfl), (Nat.le_of_ble_eq_true rfl)⟩ ⟨(Nat.le_of_ble_eq_true rfl), (Nat.le_of_ble_eq_true rfl)⟩ ?_
  refine kk_det ?_
  refine g_if_neB h 17 dX6_copy_11 (by decide) (fun c11_5 => ?_) (fun c11_5 => absurd ⟨u, hu9, rfl⟩ c11_5)
  refine g_iconst h (nI 0) dX6_copy_17 (by decide) ?_
  refine g_istore_n (vs' := [_, _, _, _]) h 3 dX6_copy_18 rfl (Nat.le_of_ble_eq_true rfl) rfl rfl ?_
  refine g_sto (sup_self (e := cI E 320 f1) r1).symm ?_
  have L19 : ∀ (m0 : Nat) (k : Nat) (g : Nat → Int32), (k ≤ sVn S v) → (g = cpF f1 (40 * u) (40 * v) k) → (sVn S v - k) < m0 → G X E 4 (AD σ) (QF X E σ (fun o s => o = some (.int (opCopy S (nI v) (nI u)).1) ∧ RepM E b (opCopy S (nI v) (nI u)).2 s) rm_X6_copy) 0 0 19 [some (.ref b), some (.int (nI v)), some (.int (nI u)), some (.int (nI k))] [] (sup σ (b + 1) (cI E 320 g)) := by
    intro m0
    induction m0 with
    | zero => intro k g _ _ hm0; exact absurd hm0 (Nat.not_lt_zero _)
    | succ m0 ih =>
      intro k g hk hg hm0
      refine g_iload_n h 3 dX6_copy_19 rfl rfl ?_
      refine g_aload_n h 0 dX6_copy_20 rfl rfl ?_
      refine g_get h 1 fa_X6_13 dX6_copy_21 ((sup_ne (by omega)).trans r0) rfl ?_
      refine g_iload_n h 1 dX6_copy_24 rfl rfl ?_
      refine g_iald h dX6_copy_25 ((sup_ne (by omega)).trans r2) (by omega) (by omega) ?_
      refine g_top (y := nI (sVn S v)) (e2 v (by omega)) ?_
      refine g_icmp_geN h 57 dX6_copy_26 (by decide) (by omega) (by omega) (fun c26_6 => ?_) (fun c26_6 => ?_)
      · skip
        obtain rfl : k = sVn S v := by omega
        refine g_aload_n h 0 dX6_copy_57 rfl rfl ?_
        refine g_get h 1 fa_X6_13 dX6_copy_58 ((sup_ne (by omega)).trans r0) rfl ?_
        refine g_iload_n h 2 dX6_copy_61 rfl rfl ?_
        refine g_aload_n h 0 dX6_copy_62 rfl rfl ?_
        refine g_get h 1 fa_X6_13 dX6_copy_63 ((sup_ne (by omega)).trans r0) rfl ?_
        refine g_iload_n h 1 dX6_copy_66 rfl rfl ?_
        refine g_iald h dX6_copy_67 ((sup_ne (by omega)).trans r2) (by omega) (by omega) ?_
        refine g_top (y := nI (sVn S v)) (e2 v (by omega)) ?_
        refine g_iast h dX6_copy_68 ((sup_ne (by omega)).trans r2) (by omega) (by omega) ?_
        refine g_aload_n h 0 dX6_copy_69 rfl rfl ?_
        refine g_get h 1 fa_X6_13 dX6_copy_70 ((sup_ne (by omega)).trans ((sup_ne (by omega)).trans r0)) rfl ?_
        refine g_iload_n h 2 dX6_copy_73 rfl rfl ?_
        refine g_iald h dX6_copy_74 sup_eq (by omega) (by omega) ?_
        refine g_top (y := nI (sVn S v)) (upd_eq9) ?_
        exact g_iret h hr dX6_copy_75 ((fun e => ⟨by rw [e], by rw [e]; exact ⟨((sup_ne (by omega)).trans ((sup_ne (by omega)).trans r0)), ⟨_, ((sup_ne (by omega)).trans sup_eq), by rw [hg]; exact m_copy hI e1 hv9 hu9⟩, ⟨_, sup_eq, m_siz e2⟩, ⟨_, ((sup_ne (by omega)).trans ((sup_ne (by omega)).trans r3)), e3⟩, ⟨_, ((sup_ne (by omega)).trans ((sup_ne (by omega)).trans r4)), e4⟩, ⟨_, ((sup_ne (by omega)).trans ((sup_ne (by omega)).trans r5)), e5⟩, ⟨_, ((sup_ne (by omega)).trans ((sup_ne (by omega)).trans r6)), e6⟩, ⟨_, ((sup_ne (by omega)).trans ((sup_ne (by omega)).trans r7)), e7⟩, ⟨_, ((sup_ne (by omega)).trans ((sup_ne (by omega)).trans r8)), e8⟩, ⟨_, ((sup_ne (by omega)).trans ((sup_ne (by omega)).trans r9)), e9⟩, ⟨_, ((sup_ne (by omega)).trans ((sup_ne (by omega)).trans r10)), e10⟩, ⟨_, ((sup_ne (by omega)).trans ((sup_ne (by omega)).trans r11)), e11⟩, ⟨_, ((sup_ne (by omega)).trans ((sup_ne (by omega)).trans r12)), e12⟩, ⟨_, ((sup_ne (by omega)).trans ((sup_ne (by omega)).trans r13))⟩, ⟨_, ((sup_ne (by omega)).trans ((sup_ne (by omega)).trans r14))⟩, ⟨_, ((sup_ne (by omega)).trans ((sup_ne (by omega)).trans r15))⟩, ⟨_, ((sup_ne (by omega)).trans ((sup_ne (by omega)).trans r16)), e16⟩, ⟨_, ((sup_ne (by omega)).trans ((sup_ne (by omega)).trans r17))⟩⟩⟩) (show opCopy S (nI v) (nI u) = (nI (sVn S v), setV S u (sVn S v) (sVl S v)) from by unfold opCopy; rw [cif_t ⟨⟨v, hv9, rfl⟩, ⟨u, hu9, rfl⟩⟩, ev9, eu9])) (Nat.le_of_ble_eq_true rfl) (Nat.le_of_ble_eq_true rfl)
      · skip
        refine g_aload_n h 0 dX6_copy_29 rfl rfl ?_
        refine g_get h 0 fa_X6_7 dX6_copy_30 ((sup_ne (by omega)).trans r0) rfl ?_
        refine g_bipush h (nI 40) dX6_copy_33 (by decide) ?_
        refine g_iload_n h 2 dX6_copy_35 rfl rfl ?_
        refine g_imulN h dX6_copy_36 ?_
        refine g_iload_n h 3 dX6_copy_37 rfl rfl ?_
        refine g_iaddN h dX6_copy_38 ?_
        refine g_aload_n h 0 dX6_copy_39 rfl rfl ?_
        refine g_get h 0 fa_X6_7 dX6_copy_40 ((sup_ne (by omega)).trans r0) rfl ?_
        refine g_bipush h (nI 40) dX6_copy_43 (by decide) ?_
        refine g_iload_n h 1 dX6_copy_45 rfl rfl ?_
        refine g_imulN h dX6_copy_46 ?_
        refine g_iload_n h 3 dX6_copy_47 rfl rfl ?_
        refine g_iaddN h dX6_copy_48 ?_
        refine g_iald h dX6_copy_49 sup_eq (by omega) (by omega) ?_
        refine g_iast h dX6_copy_50 sup_eq (by omega) (by omega) ?_
        refine g_sto sup_sup ?_
        refine g_iinc (vs' := [_, _, _, _]) h (nI (k + 1)) dX6_copy_51 rfl (by first | exact nI_1 _ | rfl) (Nat.le_of_ble_eq_true rfl) rfl rfl ?_
        refine g_goto h 19 dX6_copy_54 (by decide) ?_
        exact ih (k + 1) _ (by omega) (by rw [hg, cpF_rd (by omega), cpF_step]) (by omega)
  exact L19 (sVn S v + 1) 0 f1 (by omega) cpF_0.symm (by omega)
abbrev rm_X6_lineAt : Room := { frames := 2, cells := 0, slots := 0, locals := 42 }
set_option maxRecDepth 100000 in
set_option maxHeartbeats 4000000 in
theorem D_lineAt (lau : Launch) (E : EnvD) (σ : Sto) {b : Nat} {S : PSt} (hI : Inv S) (hM : RepM E b S σ) (a1 a2 : Int32) : CC lau yX6_lineAt cX6_lineAt 3 (some .int) rm_X6_lineAt E [.ref b, .int a1, .int a2] σ (fun o s => o = some (.int (opLineAt S a1 a2).1) ∧ RepM E b (opLineAt S a1 a2).2 s) := by
  refine cc_of (vs := [_, _, _]) (by decide) (Nat.le_of_ble_eq_true rfl) rfl ?_
  intro X h hr hn
  obtain ⟨r0, ⟨f1, r1, e1⟩, ⟨f2, r2, e2⟩, ⟨f3, r3, e3⟩, ⟨f4, r4, e4⟩, ⟨f5, r5, e5⟩, ⟨f6, r6, e6⟩, ⟨f7, r7, e7⟩, ⟨f8, r8, e8⟩, ⟨f9, r9, e9⟩, ⟨f10, r10, e10⟩, ⟨f11, r11, e11⟩, ⟨f12, r12, e12⟩, ⟨f13, r13⟩, ⟨f14, r14⟩, ⟨f15, r15⟩, ⟨f16, r16, e16⟩, ⟨f17, r17⟩⟩ := id hM
  by_cases na1 : ¬ inR a1 8
  · skip
    refine g_iload_n h 1 dX6_lineAt_0 rfl rfl ?_
    refine g_callS h [] (c_X6_isVersion (xL X) E _ a1) cf_X6_66 cs_X6_isVersion dX6_lineAt_1 rfl rfl (Nat.le_of_ble_eq_true rfl) ⟨(Nat.le_of_ble_eq_true rfl), (Nat.le_of_ble_eq_true rfl)⟩ ⟨(Nat.le_of_ble_eq_true rfl), (Nat.le_of_ble_eq_true rfl)⟩ ?_
    refine kk_det ?_
    refine g_if_neB h 10 dX6_lineAt_4 (by decide) (fun c4_1 => absurd c4_1 na1) (fun c4_1 => ?_)
    refine g_bipush h (-2) dX6_lineAt_7 (by decide) ?_
    exact g_iret h hr dX6_lineAt_9 ((fun e => ⟨by rw [e], by rw [e]; exact hM⟩) (show opLineAt S a1 a2 = (-2, S) from by unfold opLineAt; rw [cif_f (fun q => na1 q)])) (Nat.le_of_ble_eq_true rfl) (Nat.le_of_ble_eq_true rfl)
  obtain ⟨v, hv9, rfl⟩ := Classical.not_not.mp na1
  have ev9 : cl (nI v) = v := cl_nI (by omega)
  have hn40 := (hI.1 v hv9).1
  by_cases ha2 : inR a2 (sVn S v)
  · skip
    obtain ⟨i, hi9, rfl⟩ := ha2
    refine g_iload_n h 1 dX6_lineAt_0 rfl rfl ?_
    refine g_callS h [] (c_X6_isVersion (xL X) E _ (nI v)) cf_X6_66 cs_X6_isVersion dX6_lineAt_1 rfl rfl (Nat.le_of_ble_eq_true rfl) ⟨(Nat.le_of_ble_eq_true rfl), (Nat.le_of_ble_eq_true rfl)⟩ ⟨(Nat.le_of_ble_eq_true rfl), (Nat.le_of_ble_eq_true rfl)⟩ ?_
    refine kk_det ?_
    refine g_if_neB h 10 dX6_lineAt_4 (by decide) (fun c4_2 => ?_) (fun c4_2 => absurd ⟨v, hv9, rfl⟩ c4_2)
    refine g_iload_n h 2 dX6_lineAt_10 rfl rfl ?_
    refine g_iconst h (nI 0) dX6_lineAt_11 (by decide) ?_
    refine g_aload_n h 0 dX6_lineAt_12 rfl rfl ?_
    refine g_get h 1 fa_X6_13 dX6_lineAt_13 r0 rfl ?_
    refine g_iload_n h 1 dX6_lineAt_16 rfl rfl ?_
    refine g_iald h dX6_lineAt_17 r2 (by omega) (by omega) ?_
    refine g_top (y := nI (sVn S v)) (e2 v (by omega)) ?_
    refine g_iconst h (nI 1) dX6_lineAt_18 (by decide) ?_
    refine g_isub h dX6_lineAt_19 ?_
    refine g_callS h [] (c_X6_in (xL X) E _ (nI i) (nI 0) ((nI (sVn S v) - nI 1))) cf_X6_62 cs_X6_in dX6_lineAt_20 rfl rfl (Nat.le_of_ble_eq_true rfl) ⟨(Nat.le_of_ble_eq_true rfl), (Nat.le_of_ble_eq_true rfl)⟩ ⟨(Nat.le_of_ble_eq_true rfl), (Nat.le_of_ble_eq_true rfl)⟩ ?_
    refine kk_det ?_
    refine g_top (y := bI (inR (nI i) (sVn S v))) (bI_iff (in_M (by omega))) ?_
    refine g_if_eqB h 40 dX6_lineAt_23 (by decide) (fun c23_3 => absurd ⟨i, hi9, rfl⟩ c23_3) (fun c23_3 => ?_)
    refine g_aload_n h 0 dX6_lineAt_26 rfl rfl ?_
    refine g_get h 0 fa_X6_7 dX6_lineAt_27 r0 rfl ?_
    refine g_bipush h (nI 40) dX6_lineAt_30 (by decide) ?_
    refine g_iload_n h 1 dX6_lineAt_32 rfl rfl ?_
    refine g_imulN h dX6_lineAt_33 ?_
    refine g_iload_n h 2 dX6_lineAt_34 rfl rfl ?_
    refine g_iaddN h dX6_lineAt_35 ?_
    refine g_iald h dX6_lineAt_36 r1 (by omega) (by omega) ?_
    refine g_top (y := nI (sVl S v i)) (e1 v (by omega) i (by omega)) ?_
    refine g_goto h 41 dX6_lineAt_37 (by decide) ?_
    exact g_iret h hr dX6_lineAt_41 ((fun e => ⟨by rw [e, atV_in hi9 (by omega)]; rfl, by rw [e]; exact hM⟩) (show opLineAt S (nI v) (nI i) = (atV (sVn S v) (rwV S v) (nI i), S) from by unfold opLineAt; rw [cif_t ⟨v, hv9, rfl⟩, ev9])) (Nat.le_of_ble_eq_true rfl) (Nat.le_of_ble_eq_true rfl)
  · skip
    refine g_iload_n h 1 dX6_lineAt_0 rfl rfl ?_
    refine g_callS h [] (c_X6_isVersion (xL X) E _ (nI v)) cf_X6_66 cs_X6_isVersion dX6_lineAt_1 rfl rfl (Nat.le_of_ble_eq_true rfl) ⟨(Nat.le_of_ble_eq_true rfl), (Nat.le_of_ble_eq_true rfl)⟩ ⟨(Nat.le_of_ble_eq_true rfl), (Nat.le_of_ble_eq_true rfl)⟩ ?_
    refine kk_det ?_
    refine g_if_neB h 10 dX6_lineAt_4 (by decide) (fun c4_4 => ?_) (fun c4_4 => absurd ⟨v, hv9, rfl⟩ c4_4)
    refine g_iload_n h 2 dX6_lineAt_10 rfl rfl ?_
    refine g_iconst h (nI 0) dX6_lineAt_11 (by decide) ?_
    refine g_aload_n h 0 dX6_lineAt_12 rfl rfl ?_
    refine g_get h 1 fa_X6_13 dX6_lineAt_13 r0 rfl ?_
    refine g_iload_n h 1 dX6_lineAt_16 rfl rfl ?_
    refine g_iald h dX6_lineAt_17 r2 (by omega) (by omega) ?_
    refine g_top (y := nI (sVn S v)) (e2 v (by omega)) ?_
    refine g_iconst h (nI 1) dX6_lineAt_18 (by decide) ?_
    refine g_isub h dX6_lineAt_19 ?_
    refine g_callS h [] (c_X6_in (xL X) E _ a2 (nI 0) ((nI (sVn S v) - nI 1))) cf_X6_62 cs_X6_in dX6_lineAt_20 rfl rfl (Nat.le_of_ble_eq_true rfl) ⟨(Nat.le_of_ble_eq_true rfl), (Nat.le_of_ble_eq_true rfl)⟩ ⟨(Nat.le_of_ble_eq_true rfl), (Nat.le_of_ble_eq_true rfl)⟩ ?_
    refine kk_det ?_
    refine g_top (y := bI (inR a2 (sVn S v))) (bI_iff (in_M (by omega))) ?_
    refine g_if_eqB h 40 dX6_lineAt_23 (by decide) (fun c23_5 => ?_) (fun c23_5 => absurd c23_5 ha2)
    refine g_iconst h (-1) dX6_lineAt_40 (by decide) ?_
    exact g_iret h hr dX6_lineAt_41 ((fun e => ⟨by rw [e, atV_out ha2], by rw [e]; exact hM⟩) (show opLineAt S (nI v) a2 = (atV (sVn S v) (rwV S v) a2, S) from by unfold opLineAt; rw [cif_t ⟨v, hv9, rfl⟩, ev9])) (Nat.le_of_ble_eq_true rfl) (Nat.le_of_ble_eq_true rfl)
