theorem pfx_iff {xs ys : List Int64} : ys <+: xs ↔ ys.length ≤ xs.length ∧ ∀ j, j < ys.length → xs.getD j 0 = ys.getD j 0 := by
  rw [List.prefix_iff_getElem?]
  constructor
  · intro H
    have hl : ys.length ≤ xs.length := by
      rcases Nat.lt_or_ge xs.length ys.length with q | q
      · have h1 := H xs.length q
        rw [List.getElem?_eq_none (Nat.le_refl _)] at h1
        cases h1
      · exact q
    refine ⟨hl, fun j hj => ?_⟩
    have h1 := H j hj
    simp [List.getD, h1, hj]
  · intro ⟨hl, H⟩ j hj
    have h1 := H j hj
    have hx : j < xs.length := by omega
    simp [List.getD, hx, hj] at h1
    simp [hx, h1]
theorem ch_begins_loop {h : sm_H} {a b cap a2 b2 cap2 : Nat} {xs ys : List Int64} (H : chn h a b cap xs) (H2 : chn h a2 b2 cap2 ys) (hl : ys.length ≤ xs.length) : ∀ (n i : Nat), i ≤ ys.length → ys.length + 1 ≤ i + n → (∀ j, j < i → xs.getD j 0 = ys.getD j 0) → fX0_beginsWith_15 n a (some a2) (nI i) h = some (if ys <+: xs then 1 else 0, h) := by
  have hx : xs.length ≤ 2000 := Nat.le_trans H.2.1 H.2.2.1
  intro n
  induction n with
  | zero => intro i h1 h2; omega
  | succ n ih =>
    intro i h1 h2 hp
    unfold fX0_beginsWith_15
    rw [pu_get H2.1]
    simp only [List.getElem?_cons_succ, List.getElem?_cons_zero, sm_I, Option.bind_some]
    by_cases hi : i < ys.length
    · rw [if_neg (by rw [nI_leI (by omega) (by omega)]; omega), pu_obj H.1, Option.bind_some, ch_at H, pu_cb, pu_obj H2.1, Option.bind_some, ch_at H2, pu_cb, chAt_in hi (by omega), chAt_in (xs := xs) (by omega) (by omega)]
      by_cases he : xs.getD i 0 = ys.getD i 0
      · rw [if_pos ((lg_cmp_0 _ _).mpr he), sm_let, nI_1]
        exact ih (i + 1) (by omega) (by omega) (fun j hj => by
          rcases Nat.lt_or_ge j i with q | q
          · exact hp j q
          · have e : j = i := by omega
            rw [e]; exact he)
      · rw [if_neg (fun q => he ((lg_cmp_0 _ _).mp q)), if_neg (fun q => he ((pfx_iff.mp q).2 i hi))]
    · have hie : i = ys.length := by omega
      rw [if_pos (nI_le (by omega) (by omega)), if_pos (pfx_iff.mpr ⟨hl, fun j hj => hp j (by omega)⟩)]
theorem ch_begins {h : sm_H} {a b cap a2 b2 cap2 : Nat} {xs ys : List Int64} (H : chn h a b cap xs) (H2 : chn h a2 b2 cap2 ys) : fX0_beginsWith a (some a2) h = some (if ys <+: xs then 1 else 0, h) := by
  have hx : xs.length ≤ 2000 := Nat.le_trans H.2.1 H.2.2.1
  have hy : ys.length ≤ 2000 := Nat.le_trans H2.2.1 H2.2.2.1
  unfold fX0_beginsWith
  rw [pu_get H.1, pu_get H2.1]
  simp only [List.getElem?_cons_succ, List.getElem?_cons_zero, sm_I, Option.bind_some]
  by_cases hl : ys.length ≤ xs.length
  · rw [if_pos (nI_le hl (by omega))]
    exact ch_begins_loop H H2 hl sm_fuel 0 (Nat.zero_le _) (by rw [sm_fuel_eq]; omega) (fun j hj => absurd hj (Nat.not_lt_zero _))
  · rw [if_neg (by rw [nI_leI (by omega) (by omega)]; exact hl), if_neg (fun q => hl (pfx_iff.mp q).1)]
theorem pfx_same {xs ys : List Int64} (hl : xs.length = ys.length) : ys <+: xs ↔ xs = ys := by
  constructor
  · intro q
    exact (List.IsPrefix.eq_of_length q hl.symm).symm
  · intro q
    rw [q]
    exact List.prefix_rfl
theorem ch_same {h : sm_H} {a b cap a2 b2 cap2 : Nat} {xs ys : List Int64} (H : chn h a b cap xs) (H2 : chn h a2 b2 cap2 ys) : fX0_isSame a (some a2) h = some (if xs = ys then 1 else 0, h) := by
  have hx : xs.length ≤ 2000 := Nat.le_trans H.2.1 H.2.2.1
  have hy : ys.length ≤ 2000 := Nat.le_trans H2.2.1 H2.2.2.1
  unfold fX0_isSame
  rw [pu_get H.1, pu_get H2.1]
  simp only [List.getElem?_cons_succ, List.getElem?_cons_zero, sm_I, Option.bind_some]
  by_cases hl : xs.length = ys.length
  · rw [if_pos (by rw [hl]), pu_obj H.1, Option.bind_some, ch_begins H H2, pu_cb]
    by_cases he : xs = ys
    · rw [if_pos ((pfx_same hl).mpr he), if_neg (by decide), if_pos he]
    · rw [if_neg (fun q => he ((pfx_same hl).mp q)), if_pos rfl, if_neg he]
  · rw [if_neg (fun q => hl ((nI_eq (by omega) (by omega)).mp q)), if_neg (fun q => hl (by rw [q]))]
-- which of two names is the lesser
def lessN : List Int64 → List Int64 → Bool
  | [], [] => false
  | [], _ :: _ => true
  | _ :: _, [] => false
  | x :: xs, y :: ys => if x = y then lessN xs ys else decide (x < y)
theorem drop_c {xs : List Int64} {i : Nat} (hi : i < xs.length) : xs.drop i = xs.getD i 0 :: xs.drop (i + 1) := by
  rw [List.drop_eq_getElem_cons hi]
  simp [List.getD, hi]
theorem lessN_0 (xs ys : List Int64) (h : xs = [] ∨ ys = []) : lessN xs ys = decide (xs.length < ys.length) := by
  cases xs <;> cases ys <;> simp_all [lessN]
theorem ch_less_loop {h : sm_H} {a b cap a2 b2 cap2 : Nat} {xs ys : List Int64} (H : chn h a b cap xs) (H2 : chn h a2 b2 cap2 ys) : ∀ (n i : Nat), i ≤ min xs.length ys.length → min xs.length ys.length + 1 ≤ i + n → fX0_isLess_14 n a (some a2) (nI (min xs.length ys.length)) (nI i) h = some (if lessN (xs.drop i) (ys.drop i) = true then 1 else 0, h) := by
  have hx : xs.length ≤ 2000 := Nat.le_trans H.2.1 H.2.2.1
  have hy : ys.length ≤ 2000 := Nat.le_trans H2.2.1 H2.2.2.1
  intro n
  induction n with
  | zero => intro i h1 h2; omega
  | succ n ih =>
    intro i h1 h2
    unfold fX0_isLess_14
    by_cases hi : i < min xs.length ys.length
    · rw [if_neg (by rw [nI_leI (by omega) (by omega)]; omega), pu_obj H.1, Option.bind_some, ch_at H, pu_cb, pu_obj H2.1, Option.bind_some, ch_at H2, pu_cb, chAt_in (xs := xs) (by omega) (by omega), chAt_in (xs := ys) (by omega) (by omega)]
      rw [drop_c (xs := xs) (i := i) (by omega), drop_c (xs := ys) (i := i) (by omega)]
      by_cases he : xs.getD i 0 = ys.getD i 0
      · rw [if_pos ((lg_cmp_0 _ _).mpr he), sm_let, nI_1, ih (i + 1) (by omega) (by omega)]
        simp only [lessN, he, if_true]
      · rw [if_neg (fun q => he ((lg_cmp_0 _ _).mp q)), pu_obj H.1, Option.bind_some, ch_at H, pu_cb, pu_obj H2.1, Option.bind_some, ch_at H2, pu_cb, chAt_in (xs := xs) (by omega) (by omega), chAt_in (xs := ys) (by omega) (by omega)]
        simp only [lessN, he, if_false, decide_eq_true_eq]
        by_cases hlt : xs.getD i 0 < ys.getD i 0
        · rw [if_pos hlt, if_neg]
          intro q
          unfold lg_cmp at q
          have h3 : ¬ ys.getD i 0 < xs.getD i 0 := by rw [Int64.lt_iff_toInt_lt] at *; omega
          rw [if_neg h3, if_neg he] at q
          exact absurd q (by decide)
        · rw [if_neg hlt, if_pos]
          unfold lg_cmp
          have h3 : ys.getD i 0 < xs.getD i 0 := by
            have h4 : (xs.getD i 0).toInt ≠ (ys.getD i 0).toInt := fun e => he (Int64.toInt_inj.mp e)
            rw [Int64.lt_iff_toInt_lt] at *
            omega
          rw [if_pos h3]
          decide
    · have hie : i = min xs.length ys.length := by omega
      rw [if_pos (nI_le (by omega) (by omega)), pu_get H.1, pu_get H2.1]
      simp only [List.getElem?_cons_succ, List.getElem?_cons_zero, sm_I, Option.bind_some]
      have hd : xs.drop i = [] ∨ ys.drop i = [] := by
        rcases Nat.le_total xs.length ys.length with q | q
        · left; exact List.drop_eq_nil_of_le (by omega)
        · right; exact List.drop_eq_nil_of_le (by omega)
      rw [lessN_0 _ _ hd]
      simp only [List.length_drop, decide_eq_true_eq]
      by_cases hl : xs.length < ys.length
      · rw [if_neg (by rw [nI_leI (by omega) (by omega)]; omega), if_pos (by omega)]
      · rw [if_pos (nI_le (by omega) (by omega)), if_neg (by omega)]
theorem nI_min {a b : Nat} (ha : a < 2 ^ 31) (hb : b < 2 ^ 31) : (if nI b < nI a then nI b else nI a) = nI (min a b) := by
  by_cases h : b < a
  · rw [if_pos (nI_lt h ha)]; congr 1; omega
  · rw [if_neg (nI_nlt (by omega) hb)]; congr 1; omega
theorem ch_less {h : sm_H} {a b cap a2 b2 cap2 : Nat} {xs ys : List Int64} (H : chn h a b cap xs) (H2 : chn h a2 b2 cap2 ys) : fX0_isLess a (some a2) h = some (if lessN xs ys = true then 1 else 0, h) := by
  have hx : xs.length ≤ 2000 := Nat.le_trans H.2.1 H.2.2.1
  have hy : ys.length ≤ 2000 := Nat.le_trans H2.2.1 H2.2.2.1
  unfold fX0_isLess
  rw [pu_get H.1, pu_get H2.1]
  simp only [List.getElem?_cons_succ, List.getElem?_cons_zero, sm_I, Option.bind_some, sm_let]
  rw [nI_min (by omega) (by omega)]
  have e := ch_less_loop H H2 sm_fuel 0 (Nat.zero_le _) (by rw [sm_fuel_eq]; omega)
  rw [List.drop_zero, List.drop_zero] at e
  exact e
