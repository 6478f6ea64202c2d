theorem sh8 {v x : Nat} (hv : v < 2 ^ 50) (hx : x < 256) : (lN v <<< ((8 : Int32).toInt64 &&& 63)) ||| (nI x).toInt64 = lN (v * 256 + x) := by
  have h8 : (8 : Int32) = nI 8 := rfl
  rw [h8, wb_shl v (by decide), nI_l (by omega), show (2 : Nat) ^ 8 = 256 from rfl]
  exact g_or (k := 8) rfl hx (by omega)
-- the number in n octets from p on, behind v
def beV (S : MS) : Nat → Nat → Nat → Nat
  | _, 0, v => v
  | p, n + 1, v => beV S (p + 1) n (v * 256 + oc S p)
theorem beV_lt (S : MS) : ∀ (n p v j : Nat), v < 256 ^ j → beV S p n v < 256 ^ (j + n) := by
  intro n
  induction n with
  | zero => intro p v j h; exact h
  | succ n ih =>
    intro p v j h
    have h1 := ih (p + 1) (v * 256 + oc S p) (j + 1) (by
      have := oc_lt S p
      rw [Nat.pow_succ]
      omega)
    rw [show j + (n + 1) = j + 1 + n by omega]
    exact h1
theorem g_size65 {S : MS} {e m : Nat} (he : e ≤ 1200) (hm : m ≤ 4) : ∀ (fu j p v : Nat), j ≤ m → m + 1 ≤ j + fu → p ≤ e → v < 256 ^ j → p + (m - j) ≤ e → gM_size_65 fu (nI e) (lN v) (nI m) (nI j) (AB S (nI p) 0) = gM_size_90 (nI e) (lN (beV S p (m - j) v)) (AB S (nI (p + (m - j))) 0) := by
  intro fu
  induction fu with
  | zero => intro j p v h1 h2; omega
  | succ fu ih =>
    intro j p v h1 h2 hp hv hpe
    unfold gM_size_65
    by_cases hj : j = m
    · subst hj
      rw [if_pos (nI_le (Nat.le_refl _) (by omega)), Nat.sub_self]
      rfl
    · have hv2 : v < 2 ^ 50 := by
        have h3 : 256 ^ j ≤ 256 ^ 4 := Nat.pow_le_pow_right (by decide) (by omega)
        have h4 : 256 ^ 4 < 2 ^ 50 := by decide
        omega
      obtain ⟨d, hd⟩ : ∃ d, m - j = d + 1 := ⟨m - j - 1, by omega⟩
      rw [if_neg (by rw [nI_leI (by omega) (by omega)]; omega), g_octet 0 (by omega) he, if_pos (by omega), mc_some]
      simp only [sm_let]
      rw [sh8 hv2 (oc_lt S p), nI_1, ih (j + 1) (p + 1) (v * 256 + oc S p) (by omega) (by omega) (by omega) (by have := oc_lt S p; rw [Nat.pow_succ]; omega) (by omega), hd, show m - (j + 1) = d by omega, show p + 1 + d = p + (d + 1) by omega]
      rfl
-- once bad, it stays so, and the place stays within
theorem g_size65b {S : MS} {e m : Nat} {b : Int32} (he : e ≤ 1200) (hm : m ≤ 4) (hb : b ≠ 0) : ∀ (fu j p : Nat) (v : Int64), j ≤ m → m + 1 ≤ j + fu → p ≤ e → ∃ p', p' ≤ e ∧ gM_size_65 fu (nI e) v (nI m) (nI j) (AB S (nI p) b) = some (nI p', AB S (nI p') b) := by
  intro fu
  induction fu with
  | zero => intro j p v h1 h2; omega
  | succ fu ih =>
    intro j p v h1 h2 hp
    unfold gM_size_65
    by_cases hj : j = m
    · subst hj
      rw [if_pos (nI_le (Nat.le_refl _) (by omega))]
      exact ⟨p, hp, g_size90b v hb⟩
    · rw [if_neg (by rw [nI_leI (by omega) (by omega)]; omega), g_octet b (by omega) he]
      by_cases hpe : p < e
      · rw [if_pos hpe, mc_some]
        simp only [sm_let]
        rw [nI_1]
        exact ih (j + 1) (p + 1) _ (by omega) (by omega) (by omega)
      · rw [if_neg hpe, if_neg hb, mc_some]
        simp only [sm_let]
        rw [nI_1]
        exact ih (j + 1) p _ (by omega) (by omega) hp
theorem g_size65x {S : MS} {e m : Nat} (he : e ≤ 1200) (hm : m ≤ 4) : ∀ (fu j p : Nat) (v : Int64), j ≤ m → m + 1 ≤ j + fu → p ≤ e → ¬ p + (m - j) ≤ e → ∃ p', p' ≤ e ∧ gM_size_65 fu (nI e) v (nI m) (nI j) (AB S (nI p) 0) = some (nI p', AB S (nI p') 1) := by
  intro fu
  induction fu with
  | zero => intro j p v h1 h2; omega
  | succ fu ih =>
    intro j p v h1 h2 hp hx
    unfold gM_size_65
    rw [if_neg (by rw [nI_leI (by omega) (by omega)]; omega), g_octet 0 (by omega) he]
    by_cases hpe : p < e
    · rw [if_pos hpe, mc_some]
      simp only [sm_let]
      rw [nI_1]
      exact ih (j + 1) (p + 1) _ (by omega) (by omega) (by omega) (by omega)
    · rw [if_neg hpe, if_pos rfl, mc_some]
      simp only [sm_let]
      rw [nI_1]
      exact g_size65b he hm (by decide) fu (j + 1) p _ (by omega) (by omega) hp
-- a LENGTH: where the field ends, and where it begins
def rdSize (S : MS) (p e : Nat) : Option (Nat × Nat) :=
  if p < e then
    if oc S p < 128 then (if oc S p ≤ e - (p + 1) then some (p + 1 + oc S p, p + 1) else none)
    else if 1 ≤ oc S p - 128 ∧ oc S p - 128 ≤ 4 ∧ p + 1 + (oc S p - 128) ≤ e then
      (if beV S (p + 1) (oc S p - 128) 0 ≤ e - (p + 1 + (oc S p - 128)) then some (p + 1 + (oc S p - 128) + beV S (p + 1) (oc S p - 128) 0, p + 1 + (oc S p - 128)) else none)
    else none
  else none
theorem l_of {n : Nat} (h : n < 2 ^ 31) : (nI n).toInt64 = lN n := nI_l h
theorem g_size_b {S : MS} {p e : Nat} {b : Int32} (hp : p ≤ e) (he : e ≤ 1200) (hb : b ≠ 0) : ∃ p', p' ≤ e ∧ gM_size (nI e) (AB S (nI p) b) = some (nI p', AB S (nI p') b) := by
  have key : ∀ (x : Nat) (q : Nat), x < 256 → q ≤ e → ∃ p', p' ≤ e ∧ (if (lg_cmp (nI x).toInt64 (128 : Int64)) < 0 then gM_size_90 (nI e) (nI x).toInt64 (AB S (nI q) b) else sm_let (((nI x).toInt64.toInt32) - (128 : Int32)) fun x4 => mc (gM_in (x4.toInt64) (1 : Int64) (4 : Int64) (AB S (nI q) b)) fun x5 S6 => if x5 = 0 then (sm_let (S6.1 45) fun x7 => if x7 = 0 then (sm_let (sI S6 45 (1 : Int32)) fun S11 => sm_let (S11.1 44) fun x12 => some (x12, S11)) else sm_let (S6.1 45) fun x8 => sm_let (sI S6 45 x8) fun S9 => sm_let (S9.1 44) fun x10 => some (x10, S9)) else gM_size_65 sm_fuel (nI e) (0 : Int64) x4 (0 : Int32) S6) = some (nI p', AB S (nI p') b) := by
    intro x q hx hq
    by_cases h1 : lg_cmp (nI x).toInt64 (128 : Int64) < 0
    · rw [if_pos h1]
      exact ⟨q, hq, g_size90b _ hb⟩
    · rw [if_neg h1]
      simp only [sm_let, g_in, mc_some, AB_45, AB_44, AB_b]
      by_cases h2 : (1 : Int64) ≤ ((nI x).toInt64.toInt32 - 128).toInt64 ∧ ((nI x).toInt64.toInt32 - 128).toInt64 ≤ 4
      · rw [if_pos h2, if_neg (by decide)]
        have h3 : 128 ≤ x := by
          rcases Nat.lt_or_ge x 128 with g | g
          · exact absurd ((lg_cmp_lt _ _).mpr (by rw [l_of (by omega)]; exact (pk_lLT (b := 128) (by omega) (by decide)).mpr g)) h1
          · exact g
        have h4 : (nI x).toInt64.toInt32 - 128 = nI (x - 128) := by
          rw [l_of (by omega), lN_i, show (128 : Int32) = nI 128 from rfl, pk_sub h3]
        rw [h4]
        rw [h4, l_of (by omega)] at h2
        have h5 : x - 128 ≤ 4 := (pk_lLE (b := 4) (by omega) (by decide)).mp h2.2
        exact g_size65b he h5 hb sm_fuel 0 q 0 (Nat.zero_le _) (by rw [sm_fuel_eq]; omega) hq
      · rw [if_neg h2, if_pos rfl, if_neg hb]
        exact ⟨q, hq, rfl⟩
  unfold gM_size
  rw [g_octet b (by omega) he]
  by_cases h : p < e
  · rw [if_pos h, mc_some]
    exact key (oc S p) (p + 1) (oc_lt S p) (by omega)
  · rw [if_neg h, if_neg hb, mc_some]
    exact key 0 p (by decide) hp
