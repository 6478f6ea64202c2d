theorem AB_w (S : MS) (p b w : Int32) : sI (AB S p b) 58 w = AB (sI S 58 w) p b := by
  unfold AB sI
  congr 1
  funext k
  simp only [va_up]
  by_cases h1 : k = 58
  · simp [h1]
  · simp [h1]
theorem sI_w (S : MS) (k : Nat) (a b : Int32) : sI (sI S k a) k b = sI S k b := by
  unfold sI
  congr 1
  funext j
  simp only [va_up]
  by_cases h1 : j = k
  · simp [h1]
  · simp [h1]
-- the number in n octets from p on, behind v, with a sign
def nvR (S : MS) : Nat → Nat → Int64 → Int64
  | _, 0, v => v
  | p, n + 1, v => nvR S (p + 1) n ((v <<< ((8 : Int32).toInt64 &&& 63)) ||| (nI (oc S p)).toInt64)
-- the end of read(): n octets, the highest (as a signed byte), the number
def rdFin (S : MS) (e n : Nat) (hi : Int32) (v : Int64) : Int64 × MS :=
  if n = 9 then (v, AB (sI S 58 (if hi = 0 ∧ v < 0 then 1 else 0)) (nI e) (if hi = 0 ∨ (hi = -1 ∧ v < 0) then 0 else 1)) else (v, AB (sI S 58 0) (nI e) 0)
theorem g_read127 {S : MS} {e : Nat} (hi : Int32) (v : Int64) {w : Int32} (hw : w = 0 ∨ w = 1) : gM_read_127 hi v w (AB (sI S 58 0) (nI e) 0) = some (v, AB (sI S 58 w) (nI e) (if hi = 0 ∨ (hi = -1 ∧ v < 0) then 0 else 1)) := by
  unfold gM_read_127 gM_read_151
  simp only [sm_let]
  rw [if_pos hw, AB_w, sI_w]
  by_cases h1 : hi = 0
  · rw [if_pos h1, if_neg (by decide), AB_b, if_pos (Or.inl h1)]
  · rw [if_neg h1]
    by_cases h2 : hi = -1
    · rw [if_pos h2]
      by_cases h3 : v < 0
      · rw [if_neg (fun q => by have q2 := (lg_cmp_ge _ _).mp q; rw [Int64.lt_iff_toInt_lt] at h3; rw [Int64.le_iff_toInt_le] at q2; omega), if_neg (by decide), AB_b, if_pos (Or.inr ⟨h2, h3⟩)]
      · rw [if_pos ((lg_cmp_ge _ _).mpr (by rw [Int64.lt_iff_toInt_lt] at h3; rw [Int64.le_iff_toInt_le]; omega)), if_pos trivial, AB_b, if_neg (fun q => q.elim h1 (fun q => h3 q.2))]
    · rw [if_neg h2, if_pos trivial, AB_b, if_neg (fun q => q.elim h1 (fun q => h2 q.1))]
theorem g_read57 {S : MS} {e n p : Nat} (hi : Int32) (hn : n ≤ 9) (hpe : p + n = e) (he : e ≤ 1200) : ∀ (fu j : Nat) (v : Int64), j ≤ n → n + 1 ≤ j + fu → gM_read_57 fu (nI e) (nI n) hi v (nI j) (AB S (nI p) 0) = some (rdFin S e n hi (nvR S (p + j) (n - j) v)) := by
  have h9 : (9 : Int32) = nI 9 := rfl
  intro fu
  induction fu with
  | zero => intro j v h1 h2; omega
  | succ fu ih =>
    intro j v h1 h2
    unfold gM_read_57
    by_cases hj : j = n
    · subst hj
      rw [if_pos (nI_le (Nat.le_refl _) (by omega)), Nat.sub_self]
      simp only [sm_let]
      rw [if_pos (Or.inl trivial), AB_p, AB_w]
      unfold rdFin
      have e0 : nvR S (p + j) 0 v = v := rfl
      rw [e0]
      by_cases h3 : j = 9
      · rw [if_pos (by rw [h3]; rfl), if_pos h3]
        by_cases h4 : hi = 0
        · rw [if_pos h4]
          by_cases h5 : v < 0
          · rw [if_neg (fun q => by have q2 := (lg_cmp_ge _ _).mp q; rw [Int64.lt_iff_toInt_lt] at h5; rw [Int64.le_iff_toInt_le] at q2; omega), g_read127 hi v (Or.inr rfl), if_pos (show hi = 0 ∧ v < 0 from ⟨h4, h5⟩)]
          · rw [if_pos ((lg_cmp_ge _ _).mpr (by rw [Int64.lt_iff_toInt_lt] at h5; rw [Int64.le_iff_toInt_le]; omega)), g_read127 hi v (Or.inl rfl), if_neg (show ¬ (hi = 0 ∧ v < 0) from fun q => h5 q.2)]
        · rw [if_neg h4, g_read127 hi v (Or.inl rfl), if_neg (show ¬ (hi = 0 ∧ v < 0) from fun q => h4 q.1)]
      · rw [if_neg (fun q => h3 ((nI_eq (by omega) (by omega)).mp (by rw [q, h9]))), if_neg h3]
    · rw [if_neg (by rw [nI_leI (by omega) (by omega)]; omega)]
      simp only [sm_let, AB_44]
      rw [nI_add, rI (k := 1) (t := 3) ⟨by decide, rfl, rfl⟩ (show p + j < 1200 by omega), Option.bind_some]
      obtain ⟨d, hd⟩ : ∃ d, n - j = d + 1 := ⟨n - j - 1, by omega⟩
      have e1 : (AB S (nI p) 0).2.2.1 1 (p + j) &&& 255 = nI (oc S (p + j)) := oc_and S (p + j)
      rw [e1, nI_1, ih (j + 1) _ (by omega) (by omega), hd, show n - (j + 1) = d by omega]
      rfl
