theorem g_read31b {S : MS} (e n : Int32) {p : Nat} {b : Int32} (hb : b ≠ 0) : gM_read_31 e n (AB S (nI p) b) = some (0, AB S (nI p) b) := by
  unfold gM_read_31
  simp only [sm_let, AB_45]
  rw [if_neg hb]
theorem g_read_b {S : MS} {p e : Nat} {b : Int32} (hb : b ≠ 0) : gM_read (nI e) (AB S (nI p) b) = some (0, AB S (nI p) b) := by
  unfold gM_read
  simp only [sm_let, AB_45, AB_44]
  rw [if_neg hb, g_read31b _ _ hb]
-- a NUMBER field's octets from p to e: the highest as a signed byte, the number
def hiB (S : MS) (p : Nat) : Int32 := S.2.2.1 1 p
def nvA (S : MS) (p n : Nat) : Int64 := nvR S (p + 1) (n - 1) (hiB S p).toInt64
theorem g_read {S : MS} {p e : Nat} (hp : p ≤ e) (he : e ≤ 1200) : gM_read (nI e) (AB S (nI p) 0) = some (if 1 ≤ e - p ∧ e - p ≤ 9 then rdFin S e (e - p) (hiB S p) (nvA S p (e - p)) else (0, AB S (nI p) 1)) := by
  have c2 : ((1 : Int64) ≤ lN (e - p) ∧ lN (e - p) ≤ 9) ↔ (1 ≤ e - p ∧ e - p ≤ 9) := and_congr (pk_lLE (a := 1) (by decide) (by omega)) (pk_lLE (b := 9) (by omega) (by decide))
  unfold gM_read
  simp only [sm_let, AB_45, AB_44]
  rw [if_pos trivial, pk_sub hp, l_of (by omega), g_in, mc_some]
  by_cases h : 1 ≤ e - p ∧ e - p ≤ 9
  · rw [if_pos (c2.mpr h), if_neg (by decide), if_pos h]
    unfold gM_read_31
    simp only [sm_let, AB_45, AB_44]
    rw [if_pos trivial, rI (k := 1) (t := 3) ⟨by decide, rfl, rfl⟩ (show p < 1200 by omega), Option.bind_some]
    have e1 := g_read57 (S := S) (e := e) (n := e - p) (p := p) (hiB S p) h.2 (by omega) he sm_fuel 1 (hiB S p).toInt64 h.1 (by rw [sm_fuel_eq]; omega)
    exact e1
  · rw [if_neg (fun q => h (c2.mp q)), if_pos rfl, if_neg h, AB_b]
    exact g_read31b _ _ (by decide)
