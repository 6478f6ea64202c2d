theorem some2 {a b c d : Nat} (h : some (a, b) = some (c, d)) : a = c ∧ b = d := by
  have h2 := Option.some.inj h
  exact ⟨congrArg Prod.fst h2, congrArg Prod.snd h2⟩
theorem rdSize_in {S : MS} {p e to a : Nat} (h : rdSize S p e = some (to, a)) : p < a ∧ a ≤ to ∧ to ≤ e := by
  unfold rdSize at h
  split at h
  · split at h
    · split at h
      · obtain ⟨h1, h2⟩ := some2 h; omega
      · cases h
    · split at h
      · split at h
        · obtain ⟨h1, h2⟩ := some2 h; omega
        · cases h
      · cases h
  · cases h
-- what size() does behind its first octet x
noncomputable def sz2 (S : MS) (e q x : Nat) : Option (Int32 × MS) := if lg_cmp (nI x).toInt64 (128 : Int64) < 0 then gM_size_90 (nI e) (nI x).toInt64 (AB S (nI q) 0) else mc (gM_in ((nI x).toInt64.toInt32 - (128 : Int32)).toInt64 (1 : Int64) (4 : Int64) (AB S (nI q) 0)) fun x5 S6 => if x5 = 0 then (if S6.1 45 = 0 then some ((sI S6 45 (1 : Int32)).1 44, sI S6 45 (1 : Int32)) else some ((sI S6 45 (S6.1 45)).1 44, sI S6 45 (S6.1 45))) else gM_size_65 sm_fuel (nI e) (0 : Int64) ((nI x).toInt64.toInt32 - (128 : Int32)) (0 : Int32) S6
theorem sz2_lo {S : MS} {e q x : Nat} (h : x < 128) (hq : q ≤ e) (he : e ≤ 1200) : sz2 S e q x = some (if x ≤ e - q then (nI (q + x), AB S (nI q) 0) else (nI q, AB S (nI q) 1)) := by
  unfold sz2
  have c1 : lg_cmp (nI x).toInt64 (128 : Int64) < 0 := (lg_cmp_lt _ _).mpr (by rw [l_of (by omega)]; exact (pk_lLT (b := 128) (by omega) (by decide)).mpr h)
  rw [if_pos c1, l_of (by omega)]
  exact g_size90 hq he (by omega)
theorem sz2_hi {S : MS} {e q x : Nat} (h : ¬ x < 128) (hx : x < 256) : sz2 S e q x = if 1 ≤ x - 128 ∧ x - 128 ≤ 4 then gM_size_65 sm_fuel (nI e) (lN 0) (nI (x - 128)) (nI 0) (AB S (nI q) 0) else some (nI q, AB S (nI q) 1) := by
  unfold sz2
  have c1 : ¬ lg_cmp (nI x).toInt64 (128 : Int64) < 0 := fun q => h (by
    have q2 := (lg_cmp_lt _ _).mp q
    rw [l_of (by omega)] at q2
    exact (pk_lLT (b := 128) (by omega) (by decide)).mp q2)
  have h4 : (nI x).toInt64.toInt32 - 128 = nI (x - 128) := by
    rw [l_of (by omega), lN_i, show (128 : Int32) = nI 128 from rfl, pk_sub (by omega)]
  have c2 : ((1 : Int64) ≤ lN (x - 128) ∧ lN (x - 128) ≤ 4) ↔ (1 ≤ x - 128 ∧ x - 128 ≤ 4) := and_congr (pk_lLE (a := 1) (by decide) (by omega)) (pk_lLE (b := 4) (by omega) (by decide))
  have z1 : lN 0 = 0 := rfl
  rw [if_neg c1, h4, l_of (by omega), g_in, mc_some]
  by_cases h5 : 1 ≤ x - 128 ∧ x - 128 ≤ 4
  · rw [if_pos (c2.mpr h5), if_pos h5, if_neg (by decide), z1, nI_0]
  · rw [if_neg (fun q => h5 (c2.mp q)), if_neg h5, if_pos rfl, AB_45, if_pos rfl, AB_b, AB_44]
theorem g_size_eq {S : MS} {p e : Nat} (hp : p ≤ e) (he : e ≤ 1200) : gM_size (nI e) (AB S (nI p) 0) = if p < e then sz2 S e (p + 1) (oc S p) else some (nI p, AB S (nI p) 1) := by
  by_cases h : p < e
  · rw [if_pos h]
    unfold gM_size
    rw [g_octet 0 (by omega) he, if_pos h, mc_some]
    rfl
  · rw [if_neg h]
    unfold gM_size
    rw [g_octet 0 (by omega) he, if_neg h, if_pos rfl, mc_some]
    simp only [sm_let]
    have c1 : lg_cmp (0 : Int32).toInt64 (128 : Int64) < 0 := (lg_cmp_lt _ _).mpr (by decide)
    rw [if_pos c1]
    exact g_size90b _ (by decide)
theorem g_size {S : MS} {p e : Nat} (hp : p ≤ e) (he : e ≤ 1200) : (∃ to a, rdSize S p e = some (to, a) ∧ gM_size (nI e) (AB S (nI p) 0) = some (nI to, AB S (nI a) 0)) ∨ (rdSize S p e = none ∧ ∃ p', p' ≤ e ∧ gM_size (nI e) (AB S (nI p) 0) = some (nI p', AB S (nI p') 1)) := by
  rw [g_size_eq hp he]
  by_cases h : p < e
  · have hx := oc_lt S p
    have hr : rdSize S p e = if oc S p < 128 then (if oc S p ≤ e - (p + 1) then some (p + 1 + oc S p, p + 1) else none)
    else if 1 ≤ oc S p - 128 ∧ oc S p - 128 ≤ 4 ∧ p + 1 + (oc S p - 128) ≤ e then
      (if beV S (p + 1) (oc S p - 128) 0 ≤ e - (p + 1 + (oc S p - 128)) then some (p + 1 + (oc S p - 128) + beV S (p + 1) (oc S p - 128) 0, p + 1 + (oc S p - 128)) else none)
    else none := by unfold rdSize; rw [if_pos h]
    rw [if_pos h, hr]
    generalize oc S p = x at hx
    by_cases h1 : x < 128
    · rw [if_pos h1, sz2_lo h1 (by omega) he]
      by_cases h2 : x ≤ e - (p + 1)
      · rw [if_pos h2, if_pos h2]
        exact Or.inl ⟨_, _, rfl, rfl⟩
      · rw [if_neg h2, if_neg h2]
        exact Or.inr ⟨rfl, p + 1, by omega, rfl⟩
    · rw [if_neg h1, sz2_hi h1 hx]
      by_cases h5 : 1 ≤ x - 128 ∧ x - 128 ≤ 4
      · rw [if_pos h5]
        by_cases h6 : p + 1 + (x - 128) ≤ e
        · have c3 : 1 ≤ x - 128 ∧ x - 128 ≤ 4 ∧ p + 1 + (x - 128) ≤ e := ⟨h5.1, h5.2, h6⟩
          have e1 := g_size65 (S := S) he h5.2 sm_fuel 0 (p + 1) 0 (Nat.zero_le _) (by rw [sm_fuel_eq]; omega) (by omega) (by decide) (by omega)
          rw [Nat.sub_zero] at e1
          have hb := beV_lt S (x - 128) (p + 1) 0 0 (by decide)
          have hb2 : 256 ^ (0 + (x - 128)) ≤ 256 ^ 4 := Nat.pow_le_pow_right (by decide) (by omega)
          have hb3 : 256 ^ 4 < 2 ^ 40 := by decide
          rw [if_pos c3, e1, g_size90 (by omega) he (by omega)]
          by_cases h7 : beV S (p + 1) (x - 128) 0 ≤ e - (p + 1 + (x - 128))
          · rw [if_pos h7, if_pos h7]
            exact Or.inl ⟨_, _, rfl, rfl⟩
          · rw [if_neg h7, if_neg h7]
            exact Or.inr ⟨rfl, _, h6, rfl⟩
        · have c3 : ¬ (1 ≤ x - 128 ∧ x - 128 ≤ 4 ∧ p + 1 + (x - 128) ≤ e) := fun q => h6 q.2.2
          rw [if_neg c3]
          obtain ⟨p', g1, g2⟩ := g_size65x (S := S) he h5.2 sm_fuel 0 (p + 1) (lN 0) (Nat.zero_le _) (by rw [sm_fuel_eq]; omega) (by omega) (by omega)
          exact Or.inr ⟨rfl, p', g1, g2⟩
      · have c3 : ¬ (1 ≤ x - 128 ∧ x - 128 ≤ 4 ∧ p + 1 + (x - 128) ≤ e) := fun q => h5 ⟨q.1, q.2.1⟩
        rw [if_neg h5, if_neg c3]
        exact Or.inr ⟨rfl, p + 1, by omega, rfl⟩
  · have hr : rdSize S p e = none := by unfold rdSize; rw [if_neg h]
    rw [if_neg h, hr]
    exact Or.inr ⟨rfl, p, hp, rfl⟩
-- a FIELD: its TAG, its LENGTH
def rdField (S : MS) (t p e : Nat) : Option (Nat × Nat) := if p < e ∧ oc S p = t then rdSize S (p + 1) e else none
theorem rdField_in {S : MS} {t p e to a : Nat} (h : rdField S t p e = some (to, a)) : p < a ∧ a ≤ to ∧ to ≤ e := by
  unfold rdField at h
  split at h
  · have := rdSize_in h; omega
  · cases h
theorem g_field_b {S : MS} {t : Int32} {p e : Nat} {b : Int32} (hp : p ≤ e) (he : e ≤ 1200) (hb : b ≠ 0) : ∃ p', p' ≤ e ∧ gM_field t (nI e) (AB S (nI p) b) = some (nI p', AB S (nI p') b) := by
  unfold gM_field
  rw [g_octet b (by omega) he]
  by_cases h : p < e
  · rw [if_pos h, mc_some]
    simp only [sm_let, AB_45]
    rw [if_neg hb]
    obtain ⟨p', g1, g2⟩ := g_size_b (S := S) (p := p + 1) (by omega) he hb
    rw [g2]
    exact ⟨p', g1, rfl⟩
  · rw [if_neg h, if_neg hb, mc_some]
    simp only [sm_let, AB_45]
    rw [if_neg hb]
    obtain ⟨p', g1, g2⟩ := g_size_b (S := S) (p := p) hp he hb
    rw [g2]
    exact ⟨p', g1, rfl⟩
theorem g_field {S : MS} {t p e : Nat} (ht : t < 256) (hp : p ≤ e) (he : e ≤ 1200) : (∃ to a, rdField S t p e = some (to, a) ∧ gM_field (nI t) (nI e) (AB S (nI p) 0) = some (nI to, AB S (nI a) 0)) ∨ (rdField S t p e = none ∧ ∃ p', p' ≤ e ∧ gM_field (nI t) (nI e) (AB S (nI p) 0) = some (nI p', AB S (nI p') 1)) := by
  have e0 : gM_field (nI t) (nI e) (AB S (nI p) 0) = mc (gM_octet (nI e) (AB S (nI p) 0)) fun x1 S2 => if S2.1 45 = 0 then (if x1 = nI t then mc (gM_size (nI e) S2) fun x6 S7 => some (x6, S7) else mc (gM_size (nI e) (sI S2 45 1)) fun x9 S10 => some (x9, S10)) else mc (gM_size (nI e) S2) fun x4 S5 => some (x4, S5) := rfl
  rw [e0, g_octet 0 (by omega) he]
  by_cases h : p < e
  · rw [if_pos h, mc_some, AB_45, if_pos rfl, AB_b]
    have hx := oc_lt S p
    by_cases h2 : oc S p = t
    · have hr : rdField S t p e = rdSize S (p + 1) e := by unfold rdField; rw [if_pos ⟨h, h2⟩]
      rw [if_pos (by rw [h2]), hr]
      rcases g_size (S := S) (p := p + 1) (e := e) (by omega) he with ⟨to, a, g1, g2⟩ | ⟨g1, p', g2, g3⟩
      · rw [g2]
        exact Or.inl ⟨to, a, g1, rfl⟩
      · rw [g3]
        exact Or.inr ⟨g1, p', g2, rfl⟩
    · have hr : rdField S t p e = none := by unfold rdField; rw [if_neg (fun q => h2 q.2)]
      rw [if_neg (fun q => h2 ((nI_eq (by omega) (by omega)).mp q)), hr]
      obtain ⟨p', g1, g2⟩ := g_size_b (S := S) (p := p + 1) (b := 1) (by omega) he (by decide)
      rw [g2]
      exact Or.inr ⟨rfl, p', g1, rfl⟩
  · have hr : rdField S t p e = none := by unfold rdField; rw [if_neg (fun q => h q.1)]
    rw [if_neg h, if_pos rfl, mc_some, AB_45, if_neg (by decide), hr]
    obtain ⟨p', g1, g2⟩ := g_size_b (S := S) (p := p) (b := 1) hp he (by decide)
    rw [g2]
    exact Or.inr ⟨rfl, p', g1, rfl⟩
