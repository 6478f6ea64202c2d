def anyN (f : Nat → Bool) : Nat → Nat → Bool
  | _, 0 => false
  | o, n + 1 => f o || anyN f (o + 1) n
theorem anyN_iff (f : Nat → Bool) : ∀ (n o : Nat), anyN f o n = true ↔ ∃ j, o ≤ j ∧ j < o + n ∧ f j = true := by
  intro n
  induction n with
  | zero => intro o; simp [anyN]; intro j h1 h2; omega
  | succ n ih =>
    intro o
    simp only [anyN, Bool.or_eq_true, ih]
    constructor
    · rintro (h | ⟨j, h1, h2, h3⟩)
      · exact ⟨o, Nat.le_refl _, by omega, h⟩
      · exact ⟨j, by omega, by omega, h3⟩
    · rintro ⟨j, h1, h2, h3⟩
      by_cases hj : j = o
      · left; rw [← hj]; exact h3
      · right; exact ⟨j, by omega, by omega, h3⟩
def szA (S : MS) (k o : Nat) : Nat := (S.2.2.1 k o).toNatClampNeg
-- the name with number o in the rows kn (numbers) and ks (sizes)
def nmA (S : MS) (kn ks o : Nat) : List Int64 := slc (S.2.2.2 kn) (16 * o) (szA S ks o)
def clsh (S : MS) (kn ks n o : Nat) : Bool := decide (nmA S kn ks o <+: slc (S.2.2.2 3) 0 n) || decide (slc (S.2.2.2 3) 0 n <+: nmA S kn ks o)
theorem ifb {b : Bool} {α : Type} (x y : α) : (if b = true then x else y) = bif b then x else y := by cases b <;> rfl
theorem g_cl82 {S : MS} {n tb : Nat} (hn : n ≤ 16) (htb : S.1 22 = nI tb) (ht4 : tb ≤ 4) (hz : ∀ o, o < tb → S.2.2.1 24 o = nI (szA S 24 o) ∧ szA S 24 o ≤ 16) : ∀ (fu o : Nat) (b : Bool), o ≤ tb → tb + 1 ≤ o + fu → gM_clashes_82 fu (nI n) (bif b then 1 else 0) (nI o) S = some (bif (b || anyN (clsh S 23 24 n) o (tb - o)) then 1 else 0, S) := by
  have l3 : la 3 := ⟨by decide, rfl, rfl⟩
  have l23 : la 23 := ⟨by decide, rfl, rfl⟩
  have h16 : (16 : Int32) = nI 16 := rfl
  have h0 : (0 : Int32) = nI 0 := rfl
  intro fu
  induction fu with
  | zero => intro o b h1 h2; omega
  | succ fu ih =>
    intro o b h1 h2
    unfold gM_clashes_82
    simp only [sm_let, htb]
    by_cases ho : o = tb
    · subst ho
      rw [if_pos (nI_le (Nat.le_refl _) (by omega)), Nat.sub_self]
      cases b <;> rfl
    · rw [if_neg (by rw [nI_leI (by omega) (by omega)]; omega)]
      obtain ⟨c, hc⟩ : ∃ c, tb - o = c + 1 := ⟨tb - o - 1, by omega⟩
      have hc2 : tb - (o + 1) = c := by omega
      have iht := ih (o + 1) true (by omega) (by omega)
      have ihf := ih (o + 1) false (by omega) (by omega)
      simp only [cond_true, cond_false, hc2, Bool.true_or, Bool.false_or] at iht ihf
      rw [hc]
      obtain ⟨z1, z2⟩ := hz o (by omega)
      cases b with
      | true =>
        simp only [cond_true, Bool.true_or]
        rw [if_neg (by decide), nI_1]
        exact iht
      | false =>
        simp only [cond_false, Bool.false_or, anyN]
        rw [if_pos trivial, rI (k := 24) (t := 0) ⟨by decide, rfl, rfl⟩ (show o < 4 by omega), Option.bind_some, z1, h16, pk_mul]
        have e1 := g_begins (S := S) (ka := 3) (kb := 23) (A := 0) (B := 16 * o) (n := n) (m := szA S 24 o) l3 l23 (show 0 + n ≤ 16 by omega) (show 16 * o + szA S 24 o ≤ 64 by omega)
        have e2 := g_begins (S := S) (ka := 23) (kb := 3) (A := 16 * o) (B := 0) (n := szA S 24 o) (m := n) l23 l3 (show 16 * o + szA S 24 o ≤ 64 by omega) (show 0 + n ≤ 16 by omega)
        rw [← h0] at e1 e2
        rw [e1, mc_some]
        unfold clsh nmA
        by_cases p1 : slc (S.2.2.2 23) (16 * o) (szA S 24 o) <+: slc (S.2.2.2 3) 0 n
        · rw [if_pos p1, if_neg (by decide), nI_1]
          simp only [p1, decide_true, Bool.true_or, cond_true]
          exact iht
        · rw [if_neg p1, if_pos rfl, rI (k := 24) (t := 0) ⟨by decide, rfl, rfl⟩ (show o < 4 by omega), Option.bind_some, z1, e2, mc_some]
          by_cases p2 : slc (S.2.2.2 3) 0 n <+: slc (S.2.2.2 23) (16 * o) (szA S 24 o)
          · rw [if_pos p2, if_neg (by decide), nI_1]
            simp only [p1, p2, decide_true, decide_false, Bool.or_true, Bool.true_or, cond_true]
            exact iht
          · rw [if_neg p2, if_pos rfl, nI_1]
            simp only [p1, p2, decide_false, Bool.or_false, Bool.false_or]
            exact ihf
theorem g_cl4 {S : MS} {n ob tb : Nat} (hn : n ≤ 16) (hob : S.1 8 = nI ob) (ho40 : ob ≤ 40) (htb : S.1 22 = nI tb) (ht4 : tb ≤ 4) (hz : ∀ o, o < ob → S.2.2.1 10 o = nI (szA S 10 o) ∧ szA S 10 o ≤ 16) (hzt : ∀ o, o < tb → S.2.2.1 24 o = nI (szA S 24 o) ∧ szA S 24 o ≤ 16) : ∀ (fu o : Nat) (b : Bool), o ≤ ob → ob + 1 ≤ o + fu → gM_clashes_4 fu (nI n) (bif b then 1 else 0) (nI o) S = some (bif (b || anyN (clsh S 9 10 n) o (ob - o) || anyN (clsh S 23 24 n) 0 tb) then 1 else 0, S) := by
  have l3 : la 3 := ⟨by decide, rfl, rfl⟩
  have l9 : la 9 := ⟨by decide, rfl, rfl⟩
  have h16 : (16 : Int32) = nI 16 := rfl
  have h0 : (0 : Int32) = nI 0 := rfl
  intro fu
  induction fu with
  | zero => intro o b h1 h2; omega
  | succ fu ih =>
    intro o b h1 h2
    unfold gM_clashes_4
    simp only [sm_let, hob]
    by_cases ho : o = ob
    · subst ho
      rw [if_pos (nI_le (Nat.le_refl _) (by omega)), Nat.sub_self]
      have e := g_cl82 (S := S) hn htb ht4 hzt sm_fuel 0 b (Nat.zero_le _) (by rw [sm_fuel_eq]; omega)
      rw [Nat.sub_zero] at e
      simp only [anyN, Bool.or_false]
      exact e
    · rw [if_neg (by rw [nI_leI (by omega) (by omega)]; omega)]
      obtain ⟨c, hc⟩ : ∃ c, ob - o = c + 1 := ⟨ob - o - 1, by omega⟩
      have hc2 : ob - (o + 1) = c := by omega
      have iht := ih (o + 1) true (by omega) (by omega)
      have ihf := ih (o + 1) false (by omega) (by omega)
      simp only [cond_true, cond_false, hc2, Bool.true_or, Bool.false_or] at iht ihf
      rw [hc]
      obtain ⟨z1, z2⟩ := hz o (by omega)
      cases b with
      | true =>
        simp only [cond_true, Bool.true_or]
        rw [if_neg (by decide), nI_1]
        exact iht
      | false =>
        simp only [cond_false, Bool.false_or, anyN]
        rw [if_pos trivial, rI (k := 10) (t := 0) ⟨by decide, rfl, rfl⟩ (show o < 40 by omega), Option.bind_some, z1, h16, pk_mul]
        have e1 := g_begins (S := S) (ka := 3) (kb := 9) (A := 0) (B := 16 * o) (n := n) (m := szA S 10 o) l3 l9 (show 0 + n ≤ 16 by omega) (show 16 * o + szA S 10 o ≤ 640 by omega)
        have e2 := g_begins (S := S) (ka := 9) (kb := 3) (A := 16 * o) (B := 0) (n := szA S 10 o) (m := n) l9 l3 (show 16 * o + szA S 10 o ≤ 640 by omega) (show 0 + n ≤ 16 by omega)
        rw [← h0] at e1 e2
        rw [e1, mc_some]
        unfold clsh nmA
        by_cases p1 : slc (S.2.2.2 9) (16 * o) (szA S 10 o) <+: slc (S.2.2.2 3) 0 n
        · rw [if_pos p1, if_neg (by decide), nI_1]
          simp only [p1, decide_true, Bool.true_or, cond_true]
          exact iht
        · rw [if_neg p1, if_pos rfl, rI (k := 10) (t := 0) ⟨by decide, rfl, rfl⟩ (show o < 40 by omega), Option.bind_some, z1, e2, mc_some]
          by_cases p2 : slc (S.2.2.2 3) 0 n <+: slc (S.2.2.2 9) (16 * o) (szA S 10 o)
          · rw [if_pos p2, if_neg (by decide), nI_1]
            simp only [p1, p2, decide_true, decide_false, Bool.or_true, Bool.true_or, cond_true]
            exact iht
          · rw [if_neg p2, if_pos rfl, nI_1]
            simp only [p1, p2, decide_false, Bool.or_false, Bool.false_or]
            exact ihf
theorem g_clashes {S : MS} {n ob tb : Nat} (hn : n ≤ 16) (hob : S.1 8 = nI ob) (ho40 : ob ≤ 40) (htb : S.1 22 = nI tb) (ht4 : tb ≤ 4) (hz : ∀ o, o < ob → S.2.2.1 10 o = nI (szA S 10 o) ∧ szA S 10 o ≤ 16) (hzt : ∀ o, o < tb → S.2.2.1 24 o = nI (szA S 24 o) ∧ szA S 24 o ≤ 16) : gM_clashes (nI n) S = some (bif (anyN (clsh S 9 10 n) 0 ob || anyN (clsh S 23 24 n) 0 tb) then 1 else 0, S) := by
  have e := g_cl4 (S := S) hn hob ho40 htb ht4 hz hzt sm_fuel 0 false (Nat.zero_le _) (by rw [sm_fuel_eq]; omega)
  simp only [cond_false, Bool.false_or, Nat.sub_zero] at e
  exact e
-- the first object, from o on, with access, with whose name a name begins
def fstO (S : MS) (xs : List Int64) (ac : Int32) : Nat → Nat → Int32
  | _, 0 => -1
  | o, n + 1 => if ¬ S.2.2.1 12 o < ac ∧ nmA S 9 10 o <+: xs then nI o else fstO S xs ac (o + 1) n
theorem g_obj_loop {S : MS} {ka A n ob : Nat} (ha : la ka) (hA : A + n ≤ (mT ka).2.2.1) (ac : Int32) (hob : S.1 8 = nI ob) (ho40 : ob ≤ 40) (hz : ∀ o, o < ob → S.2.2.1 10 o = nI (szA S 10 o) ∧ szA S 10 o ≤ 16) : ∀ (fu o : Nat), o ≤ ob → ob + 1 ≤ o + fu → gM_objectOf_3 fu ka (nI A) (nI n) ac (nI o) S = some (fstO S (slc (S.2.2.2 ka) A n) ac o (ob - o), S) := by
  have l9 : la 9 := ⟨by decide, rfl, rfl⟩
  have h16 : (16 : Int32) = nI 16 := rfl
  intro fu
  induction fu with
  | zero => intro o h1 h2; omega
  | succ fu ih =>
    intro o h1 h2
    unfold gM_objectOf_3
    simp only [sm_let, hob]
    by_cases ho : o = ob
    · subst ho
      rw [if_pos (nI_le (Nat.le_refl _) (by omega)), Nat.sub_self]
      rfl
    · rw [if_neg (by rw [nI_leI (by omega) (by omega)]; omega)]
      obtain ⟨c, hc⟩ : ∃ c, ob - o = c + 1 := ⟨ob - o - 1, by omega⟩
      have hc2 : ob - (o + 1) = c := by omega
      have ih1 := ih (o + 1) (by omega) (by omega)
      rw [hc2] at ih1
      obtain ⟨z1, z2⟩ := hz o (by omega)
      rw [hc, rI (k := 12) (t := 0) ⟨by decide, rfl, rfl⟩ (show o < 40 by omega), rI (k := 10) (t := 0) ⟨by decide, rfl, rfl⟩ (show o < 40 by omega), Option.bind_some, Option.bind_some, z1, h16, pk_mul]
      have e1 := g_begins (S := S) (ka := ka) (kb := 9) (A := A) (B := 16 * o) (n := n) (m := szA S 10 o) ha l9 hA (show 16 * o + szA S 10 o ≤ 640 by omega)
      rw [e1, mc_some, nI_1]
      simp only [fstO]
      by_cases p0 : S.2.2.1 12 o < ac
      · rw [if_pos p0, if_neg (fun q => q.1 p0)]
        exact ih1
      · rw [if_neg p0]
        by_cases p1 : slc (S.2.2.2 9) (16 * o) (szA S 10 o) <+: slc (S.2.2.2 ka) A n
        · rw [if_pos p1, if_neg (by decide), if_pos ⟨p0, p1⟩]
        · rw [if_neg p1, if_pos rfl, if_neg (fun q => p1 q.2)]
          exact ih1
theorem g_obj {S : MS} {ka A n ob : Nat} (ha : la ka) (hA : A + n ≤ (mT ka).2.2.1) (ac : Int32) (hob : S.1 8 = nI ob) (ho40 : ob ≤ 40) (hz : ∀ o, o < ob → S.2.2.1 10 o = nI (szA S 10 o) ∧ szA S 10 o ≤ 16) : gM_objectOf ka (nI A) (nI n) ac S = some (fstO S (slc (S.2.2.2 ka) A n) ac 0 ob, S) := by
  unfold gM_objectOf
  exact g_obj_loop ha hA ac hob ho40 hz sm_fuel 0 (Nat.zero_le _) (by rw [sm_fuel_eq]; omega)
