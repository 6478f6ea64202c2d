-- the reference's code over its state, method by method
theorem g_in (v a b : Int64) (S : MS) : gM_in v a b S = some (if a ≤ v ∧ v ≤ b then 1 else 0, S) := by
  unfold gM_in
  by_cases h1 : v < a
  · rw [if_pos ((lg_cmp_lt v a).mpr h1), if_neg]
    intro q
    have := q.1
    rw [Int64.lt_iff_toInt_lt] at h1
    rw [Int64.le_iff_toInt_le] at this
    omega
  · rw [if_neg (fun q => h1 ((lg_cmp_lt v a).mp q))]
    have h1' : a ≤ v := by rw [Int64.lt_iff_toInt_lt] at h1; rw [Int64.le_iff_toInt_le]; omega
    by_cases h2 : b < v
    · rw [if_pos ((lg_cmp_gt v b).mpr h2), if_neg]
      intro q
      have := q.2
      rw [Int64.lt_iff_toInt_lt] at h2
      rw [Int64.le_iff_toInt_le] at this
      omega
    · rw [if_neg (fun q => h2 ((lg_cmp_gt v b).mp q)), if_pos ⟨h1', by rw [Int64.lt_iff_toInt_lt] at h2; rw [Int64.le_iff_toInt_le]; omega⟩]
theorem mc_some {α β : Type} (r : α) (S : MS) (f : α → MS → Option β) : mc (some (r, S)) f = f r S := rfl
-- a row of longs, of ints
def la (k : Nat) : Prop := k < 66 ∧ (mT k).1 = 3 ∧ (mT k).2.1 = 1
theorem rJ {S : MS} {k i : Nat} (hk : la k) (hi : i < (mT k).2.2.1) : mRJ S k 1 (nI i) = some (S.2.2.2 k i) := by
  have hl := mT_len k hk.1
  unfold mRJ
  rw [if_pos ⟨hk, nI_cl hi (Nat.le_refl _) (by omega)⟩, nI_clamp (by omega)]
theorem rI {S : MS} {k t i : Nat} (hk : k < 66 ∧ (mT k).1 = 2 ∧ (mT k).2.1 = t) (hi : i < (mT k).2.2.1) : mRI S k t (nI i) = some (S.2.2.1 k i) := by
  have hl := mT_len k hk.1
  unfold mRI
  rw [if_pos ⟨hk, nI_cl hi (Nat.le_refl _) (by omega)⟩, nI_clamp (by omega)]
theorem wJ {S : MS} {k i : Nat} (hk : la k) (hi : i < (mT k).2.2.1) (v : Int64) : mWJ S k 1 (nI i) v = some (sB S k i v) := by
  have hl := mT_len k hk.1
  unfold mWJ
  rw [if_pos ⟨hk, nI_cl hi (Nat.le_refl _) (by omega)⟩, nI_clamp (by omega)]
theorem wI {S : MS} {k t i : Nat} (hk : k < 66 ∧ (mT k).1 = 2 ∧ (mT k).2.1 = t) (hi : i < (mT k).2.2.1) (v : Int32) : mWI S k t (nI i) v = some (sA S k i v) := by
  have hl := mT_len k hk.1
  unfold mWI
  rw [if_pos ⟨hk, nI_cl hi (Nat.le_refl _) (by omega)⟩, nI_clamp (by omega)]
-- a piece of a row
def slc (f : Nat → Int64) (at_ n : Nat) : List Int64 := (List.range n).map (fun i => f (at_ + i))
theorem slc_len (f : Nat → Int64) (a n : Nat) : (slc f a n).length = n := by simp [slc]
theorem slc_get {f : Nat → Int64} {a n i : Nat} (h : i < n) : (slc f a n).getD i 0 = f (a + i) := by simp [slc, List.getD, h]
theorem g_begins_loop {S : MS} {ka kb A B n m : Nat} (ha : la ka) (hb : la kb) (hA : A + n ≤ (mT ka).2.2.1) (hB : B + m ≤ (mT kb).2.2.1) (hmn : m ≤ n) : ∀ (fu i : Nat), i ≤ m → m + 1 ≤ i + fu → (∀ j, j < i → S.2.2.2 ka (A + j) = S.2.2.2 kb (B + j)) → gM_begins_16 fu ka (nI A) kb (nI B) (nI m) 1 (nI i) S = some (if slc (S.2.2.2 kb) B m <+: slc (S.2.2.2 ka) A n then 1 else 0, S) := by
  have hla := mT_len ka ha.1
  have hlb := mT_len kb hb.1
  intro fu
  induction fu with
  | zero => intro i h1 h2; omega
  | succ fu ih =>
    intro i h1 h2 hp
    unfold gM_begins_16
    by_cases hi : i < m
    · rw [if_neg (by rw [nI_leI (by omega) (by omega)]; omega), if_neg (by decide), nI_add, nI_add, rJ ha (by omega), rJ hb (by omega), Option.bind_some, Option.bind_some]
      by_cases he : S.2.2.2 ka (A + i) = S.2.2.2 kb (B + i)
      · rw [if_pos ((lg_cmp_0 _ _).mpr he), sm_let, nI_1]
        exact ih (i + 1) (by omega) (by omega) (fun j hj => by
          rcases Nat.lt_or_ge j i with q | q
          · exact hp j q
          · have e : j = i := by omega
            rw [e]; exact he)
      · rw [if_neg (fun q => he ((lg_cmp_0 _ _).mp q)), sm_let, nI_1, if_neg]
        · cases fu with
          | zero => omega
          | succ fu =>
            unfold gM_begins_16
            by_cases h3 : nI m ≤ nI (i + 1)
            · rw [if_pos h3, if_pos (Or.inl rfl)]
            · rw [if_neg h3, if_pos rfl, if_pos (Or.inl rfl)]
        · intro q
          have h3 := (pfx_iff.mp q).2 i (by rw [slc_len]; exact hi)
          rw [slc_get (by omega), slc_get hi] at h3
          exact he h3
    · rw [if_pos (nI_le (by omega) (by omega)), if_pos (Or.inr rfl), if_pos]
      exact pfx_iff.mpr ⟨by rw [slc_len, slc_len]; exact hmn, fun j hj => by
        rw [slc_len] at hj
        rw [slc_get (by omega), slc_get hj]
        exact hp j (by omega)⟩
theorem g_begins {S : MS} {ka kb A B n m : Nat} (ha : la ka) (hb : la kb) (hA : A + n ≤ (mT ka).2.2.1) (hB : B + m ≤ (mT kb).2.2.1) : gM_begins ka (nI A) (nI n) kb (nI B) (nI m) S = some (if slc (S.2.2.2 kb) B m <+: slc (S.2.2.2 ka) A n then 1 else 0, S) := by
  have hla := mT_len ka ha.1
  have hlb := mT_len kb hb.1
  unfold gM_begins
  by_cases h : n < m
  · rw [if_pos (nI_lt h (by omega)), if_neg]
    · have hf : sm_fuel = 99999 + 1 := sm_fuel_eq
      rw [hf]
      unfold gM_begins_16
      by_cases h3 : nI m ≤ 0
      · rw [if_pos h3, if_pos (Or.inl rfl)]
      · rw [if_neg h3, if_pos rfl, if_pos (Or.inl rfl)]
    · intro q
      have h3 := (pfx_iff.mp q).1
      rw [slc_len, slc_len] at h3
      omega
  · rw [if_neg (nI_nlt (by omega) (by omega))]
    exact g_begins_loop ha hb hA hB (by omega) sm_fuel 0 (Nat.zero_le _) (by rw [sm_fuel_eq]; omega) (fun j hj => absurd hj (Nat.not_lt_zero _))
theorem g_limit (n : Int32) (S : MS) : gM_limit n S = some (if 100 ≤ n ∧ n ≤ 1000 then (S.1 5, sI (sI S 0 0) 5 n) else (-2, sI S 0 0)) := by
  have e1 : ((100 : Int64) ≤ n.toInt64 ∧ n.toInt64 ≤ 1000) ↔ (100 ≤ n ∧ n ≤ 1000) := by
    rw [Int64.le_iff_toInt_le, Int64.le_iff_toInt_le, Int32.le_iff_toInt_le, Int32.le_iff_toInt_le, Int32.toInt_toInt64]
    rfl
  unfold gM_limit
  simp only [sm_let, g_in, mc_some]
  by_cases h : 100 ≤ n ∧ n ≤ 1000
  · rw [if_pos (e1.mpr h), if_neg (by decide), if_pos h]
    rfl
  · rw [if_neg (fun q => h (e1.mp q)), if_pos rfl, if_neg h]
theorem g_tick (n : Int64) (S : MS) : gM_tick n S = some (if n < 0 ∨ ¬ n ≤ 4611686018427387904 - S.2.1 then (-2, sI S 0 0) else (S.2.1 + n, sC (sI S 0 0) (S.2.1 + n))) := by
  unfold gM_tick
  simp only [sm_let, lg_cmp_lt, lg_cmp_le]
  by_cases h : n < 0
  · rw [if_pos h, if_pos (Or.inl h)]
  · rw [if_neg h]
    by_cases h2 : n ≤ 4611686018427387904 - S.2.1
    · rw [if_pos (show n ≤ 4611686018427387904 - (sI S 0 0).2.1 from h2), if_neg (fun q => q.elim h (fun q => q h2))]
      rfl
    · rw [if_neg (show ¬ n ≤ 4611686018427387904 - (sI S 0 0).2.1 from h2), if_pos (Or.inr h2)]
-- the order of two names: -1, 0, 1
def ordN (xs ys : List Int64) : Int32 := if xs = ys then 0 else if lessN xs ys = true then -1 else 1
theorem lessN_irr (xs : List Int64) : lessN xs xs = false := by
  induction xs with
  | nil => rfl
  | cons x xs ih => simp [lessN, ih]
theorem slc_drop {f : Nat → Int64} {a n i : Nat} (h : i ≤ n) : (slc f a n).drop i = slc f (a + i) (n - i) := by
  apply List.ext_getElem
  · simp [slc]
  · intro j h1 h2
    simp [slc]
    congr 1
    omega
theorem slc_c {f : Nat → Int64} {a n : Nat} : slc f a (n + 1) = f a :: slc f (a + 1) n := by
  apply List.ext_getElem
  · simp [slc]
  · intro j h1 h2
    cases j with
    | zero => simp [slc]
    | succ j =>
      simp [slc]
      congr 1
      omega
theorem slc_0 {f : Nat → Int64} {a : Nat} : slc f a 0 = [] := rfl
theorem ordN_c {x y : Int64} {xs ys : List Int64} : ordN (x :: xs) (y :: ys) = if x = y then ordN xs ys else if x < y then -1 else 1 := by
  unfold ordN
  by_cases h : x = y
  · simp [h, lessN]
  · simp [h, lessN]
theorem g_order_loop {S : MS} {ka kb A B n m : Nat} (ha : la ka) (hb : la kb) (hA : A + n ≤ (mT ka).2.2.1) (hB : B + m ≤ (mT kb).2.2.1) : ∀ (fu i : Nat), i ≤ n → i ≤ m → n + 1 ≤ i + fu → gM_order_3 fu ka (nI A) (nI n) kb (nI B) (nI m) (nI i) S = some (ordN (slc (S.2.2.2 ka) (A + i) (n - i)) (slc (S.2.2.2 kb) (B + i) (m - i)), S) := by
  have hla := mT_len ka ha.1
  have hlb := mT_len kb hb.1
  have h62 : ∀ i, i ≤ n → i ≤ m → (i = n ∨ i = m) → gM_order_62 (nI n) (nI m) S = some (ordN (slc (S.2.2.2 ka) (A + i) (n - i)) (slc (S.2.2.2 kb) (B + i) (m - i)), S) := by
    intro i h1 h2 h3
    unfold gM_order_62
    by_cases g1 : m ≤ n
    · rw [if_pos (nI_le g1 (by omega))]
      by_cases g2 : n ≤ m
      · rw [if_pos (nI_le g2 (by omega))]
        have e1 : n - i = 0 := by omega
        have e2 : m - i = 0 := by omega
        rw [e1, e2, slc_0, slc_0]
        rfl
      · rw [if_neg (by rw [nI_leI (by omega) (by omega)]; exact g2)]
        obtain ⟨j, hj⟩ : ∃ j, n - i = j + 1 := ⟨n - i - 1, by omega⟩
        have e2 : m - i = 0 := by omega
        rw [hj, e2, slc_c, slc_0]
        simp [ordN, lessN]
    · rw [if_neg (by rw [nI_leI (by omega) (by omega)]; exact g1)]
      obtain ⟨j, hj⟩ : ∃ j, m - i = j + 1 := ⟨m - i - 1, by omega⟩
      have e2 : n - i = 0 := by omega
      rw [hj, e2, slc_c, slc_0]
      simp [ordN, lessN]
  intro fu
  induction fu with
  | zero => intro i h1 h2 h3; omega
  | succ fu ih =>
    intro i h1 h2 h3
    unfold gM_order_3
    by_cases hi : i = n
    · rw [if_pos (nI_le (by omega) (by omega))]
      exact h62 i h1 h2 (Or.inl hi)
    · rw [if_neg (by rw [nI_leI (by omega) (by omega)]; omega)]
      by_cases hj : i = m
      · rw [if_pos (nI_le (by omega) (by omega))]
        exact h62 i h1 h2 (Or.inr hj)
      · rw [if_neg (by rw [nI_leI (by omega) (by omega)]; omega), nI_add, nI_add, rJ ha (by omega), rJ hb (by omega)]
        simp only [Option.bind_some]
        obtain ⟨n', hn'⟩ : ∃ j, n - i = j + 1 := ⟨n - i - 1, by omega⟩
        obtain ⟨m', hm'⟩ : ∃ j, m - i = j + 1 := ⟨m - i - 1, by omega⟩
        rw [hn', hm', slc_c, slc_c, ordN_c]
        by_cases he : S.2.2.2 ka (A + i) = S.2.2.2 kb (B + i)
        · rw [if_pos ((lg_cmp_eq _ _).mpr he), if_pos he, sm_let, nI_1, ih (i + 1) (by omega) (by omega) (by omega)]
          rw [show n - (i + 1) = n' by omega, show m - (i + 1) = m' by omega]
          rfl
        · rw [if_neg (fun q => he ((lg_cmp_eq _ _).mp q)), if_neg he]
          by_cases hlt : S.2.2.2 ka (A + i) < S.2.2.2 kb (B + i)
          · rw [if_pos hlt, if_neg]
            intro q
            have q2 := (lg_cmp_ge _ _).mp q
            rw [Int64.lt_iff_toInt_lt] at hlt
            rw [Int64.le_iff_toInt_le] at q2
            omega
          · rw [if_neg hlt, if_pos]
            apply (lg_cmp_ge _ _).mpr
            rw [Int64.lt_iff_toInt_lt] at hlt
            rw [Int64.le_iff_toInt_le]
            omega
theorem g_order {S : MS} {ka kb A B n m : Nat} (ha : la ka) (hb : la kb) (hA : A + n ≤ (mT ka).2.2.1) (hB : B + m ≤ (mT kb).2.2.1) : gM_order ka (nI A) (nI n) kb (nI B) (nI m) S = some (ordN (slc (S.2.2.2 ka) A n) (slc (S.2.2.2 kb) B m), S) := by
  have hla := mT_len ka ha.1
  unfold gM_order
  exact g_order_loop ha hb hA hB sm_fuel 0 (Nat.zero_le _) (Nat.zero_le _) (by rw [sm_fuel_eq]; omega)
-- where a table has the ROW with an index
def plc (f : Nat → Int32) (b : Nat) (x : Int64) : Nat → Nat → Int32
  | _, 0 => -1
  | p, n + 1 => if (f (b + p)).toInt64 = x ∧ ¬ x ≤ 0 then nI p else plc f b x (p + 1) n
theorem g_place_loop {S : MS} {t : Nat} (ht : t < 4) (x : Int64) : ∀ (fu p : Nat), p ≤ 16 → 17 ≤ p + fu → gM_placeOf_3 fu (nI t) x (nI p) S = some (plc (S.2.2.1 27) (16 * t) x p (16 - p), S) := by
  intro fu
  induction fu with
  | zero => intro p h1 h2; omega
  | succ fu ih =>
    intro p h1 h2
    unfold gM_placeOf_3
    by_cases hp : p = 16
    · subst hp
      rw [if_pos (show (16 : Int32) ≤ nI 16 by decide)]
      rfl
    · have h16 : (16 : Int32) = nI 16 := rfl
      rw [if_neg (by rw [h16, nI_leI (by omega) (by omega)]; omega), h16, pk_mul, nI_add, rI (k := 27) (t := 0) ⟨by decide, rfl, rfl⟩ (show 16 * t + p < 64 by omega), Option.bind_some]
      obtain ⟨n, hn⟩ : ∃ n, 16 - p = n + 1 := ⟨15 - p, by omega⟩
      have hn2 : 16 - (p + 1) = n := by omega
      rw [hn]
      simp only [plc, lg_cmp_eq, lg_cmp_le, sm_let, nI_1, ih (p + 1) (by omega) (by omega), hn2]
      by_cases h3 : (S.2.2.1 27 (16 * t + p)).toInt64 = x
      · by_cases h4 : x ≤ 0
        · simp [h3, h4]
        · simp [h3, h4]
      · simp [h3]
theorem g_place {S : MS} {t : Nat} (ht : t < 4) (x : Int64) : gM_placeOf (nI t) x S = some (plc (S.2.2.1 27) (16 * t) x 0 16, S) := by
  unfold gM_placeOf
  exact g_place_loop ht x sm_fuel 0 (by omega) (by rw [sm_fuel_eq]; omega)
