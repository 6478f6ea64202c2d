def slI (f : Nat → Int32) (a n : Nat) : List Int32 := (List.range n).map (fun i => f (a + i))
theorem slI_eq {f g : Nat → Int32} {a b n : Nat} : slI f a n = slI g b n ↔ ∀ i, i < n → f (a + i) = g (b + i) := by
  unfold slI
  constructor
  · intro h i hi
    have h1 := congrArg (fun l => l[i]?) h
    simpa [hi] using h1
  · intro h
    apply List.map_congr_left
    intro i hi
    exact h i (List.mem_range.mp hi)
-- a row of octets
def lb (k : Nat) : Prop := k < 66 ∧ (mT k).1 = 2 ∧ (mT k).2.1 = 3
theorem g_com_in {S : MS} {kb fm n c : Nat} (hb : lb kb) (hB : fm + n ≤ (mT kb).2.2.1) (hc : c < 8) (hn : n ≤ 40) (K : Nat → Int32 → Int32 → Int32 → MS → Option (Int32 × MS)) : ∀ (fu i : Nat), i ≤ n → n + 1 ≤ i + fu → (∀ j, j < i → S.2.2.1 29 (40 * c + j) = S.2.2.1 kb (fm + j)) → gM_communityOf_33 K fu kb (nI fm) (nI n) (nI c) 1 (nI i) S = if slI (S.2.2.1 29) (40 * c) n = slI (S.2.2.1 kb) fm n then some (nI c, S) else K kb (nI fm) (nI n) (nI (c + 1)) S := by
  have hlb := mT_len kb hb.1
  have h40 : (40 : Int32) = nI 40 := rfl
  intro fu
  induction fu with
  | zero => intro i h1 h2; omega
  | succ fu ih =>
    intro i h1 h2 hp
    unfold gM_communityOf_33
    by_cases hi : i = n
    · rw [if_pos (nI_le (by omega) (by omega)), if_neg (by decide), if_pos]
      exact slI_eq.mpr (fun j hj => hp j (by omega))
    · rw [if_neg (by rw [nI_leI (by omega) (by omega)]; omega), if_neg (by decide), h40, pk_mul, nI_add, nI_add, rI (k := 29) (t := 3) ⟨by decide, rfl, rfl⟩ (show 40 * c + i < 320 by omega), rI (k := kb) (t := 3) hb (by omega), Option.bind_some, Option.bind_some]
      simp only [sm_let, nI_1]
      by_cases he : S.2.2.1 29 (40 * c + i) = S.2.2.1 kb (fm + i)
      · rw [if_pos he]
        exact ih (i + 1) (by omega) (by omega) (fun j hj => by
          rcases Nat.lt_or_ge j i with q | q
          · exact hp j q
          · have e : j = i := by omega
            rw [e]; exact he)
      · rw [if_neg he, if_neg (fun q => he (slI_eq.mp q i (by omega)))]
        cases fu with
        | zero => omega
        | succ fu =>
          unfold gM_communityOf_33
          simp only [sm_let, nI_1]
          by_cases h3 : nI n ≤ nI (i + 1)
          · rw [if_pos h3, if_pos trivial]
          · rw [if_neg h3, if_pos trivial, if_pos trivial]
theorem g_com_no {S : MS} {kb fm n c : Nat} (K : Nat → Int32 → Int32 → Int32 → MS → Option (Int32 × MS)) : gM_communityOf_33 K sm_fuel kb (nI fm) (nI n) (nI c) 0 0 S = K kb (nI fm) (nI n) (nI (c + 1)) S := by
  have hf : sm_fuel = 99999 + 1 := sm_fuel_eq
  rw [hf]
  unfold gM_communityOf_33
  simp only [sm_let, nI_1]
  by_cases h3 : nI n ≤ 0
  · rw [if_pos h3, if_pos trivial]
  · rw [if_neg h3, if_pos trivial, if_pos trivial]
-- the first community, from c on, that has these octets as its name
def fstC (S : MS) (xs : List Int32) (n : Nat) : Nat → Nat → Int32
  | _, 0 => -1
  | c, m + 1 => if S.2.2.1 30 c = nI n ∧ slI (S.2.2.1 29) (40 * c) n = xs then nI c else fstC S xs n (c + 1) m
theorem g_com_loop {S : MS} {kb fm n cm : Nat} (hb : lb kb) (hB : fm + n ≤ (mT kb).2.2.1) (hn : n ≤ 40) (hcm : S.1 28 = nI cm) (h8 : cm ≤ 8) : ∀ (fu c : Nat), c ≤ cm → cm + 1 ≤ c + fu → gM_communityOf_3 fu kb (nI fm) (nI n) (nI c) S = some (fstC S (slI (S.2.2.1 kb) fm n) n c (cm - c), S) := by
  intro fu
  induction fu with
  | zero => intro c h1 h2; omega
  | succ fu ih =>
    intro c h1 h2
    unfold gM_communityOf_3
    simp only [sm_let, hcm]
    by_cases hc : c = cm
    · subst hc
      rw [if_pos (nI_le (Nat.le_refl _) (by omega)), Nat.sub_self]
      rfl
    · obtain ⟨d, hd⟩ : ∃ d, cm - c = d + 1 := ⟨cm - c - 1, by omega⟩
      have ih1 := ih (c + 1) (by omega) (by omega)
      rw [show cm - (c + 1) = d by omega] at ih1
      rw [if_neg (by rw [nI_leI (by omega) (by omega)]; omega), rI (k := 30) (t := 0) ⟨by decide, rfl, rfl⟩ (show c < 8 by omega), Option.bind_some, hd]
      simp only [fstC]
      by_cases p1 : S.2.2.1 30 c = nI n
      · have e := g_com_in (S := S) (c := c) hb hB (by omega) hn (gM_communityOf_3 fu) sm_fuel 0 (Nat.zero_le _) (by rw [sm_fuel_eq]; omega) (fun j hj => absurd hj (Nat.not_lt_zero _))
        rw [if_pos p1]
        refine e.trans ?_
        by_cases p2 : slI (S.2.2.1 29) (40 * c) n = slI (S.2.2.1 kb) fm n
        · rw [if_pos p2, if_pos ⟨p1, p2⟩]
        · rw [if_neg p2, if_neg (fun q => p2 q.2)]
          exact ih1
      · rw [if_neg p1, if_neg (fun q => p1 q.1), g_com_no]
        exact ih1
theorem g_com {S : MS} {kb fm n cm : Nat} (hb : lb kb) (hB : fm + n ≤ (mT kb).2.2.1) (hn : n ≤ 40) (hcm : S.1 28 = nI cm) (h8 : cm ≤ 8) : gM_communityOf kb (nI fm) (nI n) S = some (fstC S (slI (S.2.2.1 kb) fm n) n 0 cm, S) := by
  unfold gM_communityOf
  exact g_com_loop hb hB hn hcm h8 sm_fuel 0 (Nat.zero_le _) (by rw [sm_fuel_eq]; omega)
-- the view: the place of the longest row that fits, the later of two as long
def bstV (S : MS) (xs : List Int64) : Nat → Nat → Int32 → Int32
  | _, 0, b => b
  | v, n + 1, b => bstV S xs (v + 1) n (if nmA S 33 34 v <+: xs then (if b < 0 then nI v else if S.2.2.1 34 v < S.2.2.1 34 b.toNatClampNeg then b else nI v) else b)
theorem g_view_loop {S : MS} {ka A n w nv : Nat} (ha : la ka) (hA : A + n ≤ (mT ka).2.2.1) (hw : S.1 49 = nI w) (hw8 : w < 8) (hnv : S.2.2.1 32 w = nI nv) (hv8 : nv ≤ 8) (hz : ∀ v, v < 64 → S.2.2.1 34 v = nI (szA S 34 v) ∧ szA S 34 v ≤ 16) : ∀ (fu i : Nat) (b : Int32), i ≤ nv → nv + 1 ≤ i + fu → (b = -1 ∨ ∃ j, j < 64 ∧ b = nI j) → gM_inView_12 fu ka (nI A) (nI n) b (nI (8 * w + i)) S = some (if bstV S (slc (S.2.2.2 ka) A n) (8 * w + i) (nv - i) b < 0 then 1 else if S.2.2.1 35 (bstV S (slc (S.2.2.2 ka) A n) (8 * w + i) (nv - i) b).toNatClampNeg = 0 then 0 else 1, S) := by
  have l33 : la 33 := ⟨by decide, rfl, rfl⟩
  have h16 : (16 : Int32) = nI 16 := rfl
  have h8 : (8 : Int32) = nI 8 := rfl
  intro fu
  induction fu with
  | zero => intro i b h1 h2; omega
  | succ fu ih =>
    intro i b h1 h2 hbb
    unfold gM_inView_12
    simp only [sm_let, hw]
    rw [rI (k := 32) (t := 0) ⟨by decide, rfl, rfl⟩ (show w < 8 by omega), Option.bind_some, hnv, h8, pk_mul, nI_add]
    by_cases hi : i = nv
    · subst hi
      have e0 : bstV S (slc (S.2.2.2 ka) A n) (8 * w + i) 0 b = b := rfl
      rw [if_pos (nI_le (Nat.le_refl _) (by omega)), Nat.sub_self, e0]
      by_cases hb0 : b < 0
      · rw [if_pos hb0, if_pos hb0]
      · rw [if_neg hb0, if_neg hb0]
        rcases hbb with rfl | ⟨j, hj, rfl⟩
        · exact absurd (by decide) hb0
        · rw [rI (k := 35) (t := 2) ⟨by decide, rfl, rfl⟩ (show j < 64 by omega), Option.bind_some, nI_clamp (by omega)]
          by_cases h3 : S.2.2.1 35 j = 0
          · rw [if_pos h3, if_pos h3]
          · rw [if_neg h3, if_neg h3]
    · rw [if_neg (by rw [nI_leI (by omega) (by omega)]; omega)]
      obtain ⟨d, hd⟩ : ∃ d, nv - i = d + 1 := ⟨nv - i - 1, by omega⟩
      have hd2 : nv - (i + 1) = d := by omega
      obtain ⟨z1, z2⟩ := hz (8 * w + i) (by omega)
      rw [rI (k := 34) (t := 0) ⟨by decide, rfl, rfl⟩ (show 8 * w + i < 64 by omega), Option.bind_some, z1, h16, pk_mul]
      have e1 := g_begins (S := S) (ka := ka) (kb := 33) (A := A) (B := 16 * (8 * w + i)) (n := n) (m := szA S 34 (8 * w + i)) ha l33 hA (show 16 * (8 * w + i) + szA S 34 (8 * w + i) ≤ 1024 by omega)
      rw [e1, mc_some, nI_1, show 8 * w + i + 1 = 8 * w + (i + 1) by omega, hd]
      simp only [bstV, show 8 * w + i + 1 = 8 * w + (i + 1) by omega]
      unfold nmA
      have ihb := fun b hb => ih (i + 1) b (by omega) (by omega) hb
      rw [hd2] at ihb
      by_cases p1 : slc (S.2.2.2 33) (16 * (8 * w + i)) (szA S 34 (8 * w + i)) <+: slc (S.2.2.2 ka) A n
      · rw [if_pos p1, if_neg (by decide), if_pos p1]
        by_cases hb0 : b < 0
        · rw [if_pos hb0, if_pos hb0]
          exact ihb _ (Or.inr ⟨_, by omega, rfl⟩)
        · rw [if_neg hb0, if_neg hb0]
          rcases hbb with rfl | ⟨j, hj, rfl⟩
          · exact absurd (by decide) hb0
          · rw [rI (k := 34) (t := 0) ⟨by decide, rfl, rfl⟩ (show 8 * w + i < 64 by omega), rI (k := 34) (t := 0) ⟨by decide, rfl, rfl⟩ (show j < 64 by omega), Option.bind_some, Option.bind_some, nI_clamp (by omega)]
            by_cases h3 : S.2.2.1 34 (8 * w + i) < S.2.2.1 34 j
            · rw [if_pos h3, if_pos h3]
              exact ihb _ (Or.inr ⟨j, hj, rfl⟩)
            · rw [if_neg h3, if_neg h3]
              exact ihb _ (Or.inr ⟨_, by omega, rfl⟩)
      · rw [if_neg p1, if_pos rfl, if_neg p1]
        exact ihb b hbb
def vwM (S : MS) (xs : List Int64) (w nv : Nat) : Bool := if bstV S xs (8 * w) nv (-1) < 0 then true else !(S.2.2.1 35 (bstV S xs (8 * w) nv (-1)).toNatClampNeg == 0)
theorem g_view {S : MS} {ka A n w nv : Nat} (ha : la ka) (hA : A + n ≤ (mT ka).2.2.1) (hw : S.1 49 = nI w) (hw8 : w < 8) (hnv : S.2.2.1 32 w = nI nv) (hv8 : nv ≤ 8) (hz : ∀ v, v < 64 → S.2.2.1 34 v = nI (szA S 34 v) ∧ szA S 34 v ≤ 16) : gM_inView ka (nI A) (nI n) S = some (bif vwM S (slc (S.2.2.2 ka) A n) w nv then 1 else 0, S) := by
  have h8 : (8 : Int32) = nI 8 := rfl
  have e := g_view_loop (S := S) ha hA hw hw8 hnv hv8 hz sm_fuel 0 (-1) (Nat.zero_le _) (by rw [sm_fuel_eq]; omega) (Or.inl rfl)
  rw [Nat.add_zero, Nat.sub_zero] at e
  have e0 : gM_inView ka (nI A) (nI n) S = gM_inView_12 sm_fuel ka (nI A) (nI n) (-1) (8 * S.1 49) S := rfl
  rw [e0, hw, h8, pk_mul]
  rw [e]
  unfold vwM
  generalize bstV S (slc (S.2.2.2 ka) A n) (8 * w) nv (-1) = z
  by_cases h1 : z < 0
  · rw [if_pos h1, if_pos h1]; rfl
  · rw [if_neg h1, if_neg h1]
    by_cases h2 : S.2.2.1 35 z.toNatClampNeg = 0
    · rw [if_pos h2, h2]; rfl
    · have h3 : (S.2.2.1 35 z.toNatClampNeg == 0) = false := by simpa using h2
      rw [if_neg h2, h3]; rfl
