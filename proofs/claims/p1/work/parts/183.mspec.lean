-- reading: the place (44) and what is bad (45)
def AB (S : MS) (p b : Int32) : MS := sI (sI S 44 p) 45 b
theorem AB_44 (S : MS) (p b : Int32) : (AB S p b).1 44 = p := by simp [AB, sI, va_up]
theorem AB_45 (S : MS) (p b : Int32) : (AB S p b).1 45 = b := by simp [AB, sI, va_up]
theorem AB_o {S : MS} {p b : Int32} {k : Nat} (h1 : k ≠ 44) (h2 : k ≠ 45) : (AB S p b).1 k = S.1 k := by simp [AB, sI, va_up, h1, h2]
theorem AB_2 (S : MS) (p b : Int32) : (AB S p b).2 = S.2 := rfl
theorem AB_p (S : MS) (p b q : Int32) : sI (AB S p b) 44 q = AB S q b := by
  unfold AB sI
  congr 1
  funext k
  simp only [va_up]
  by_cases h1 : k = 44
  · simp [h1]
  · by_cases h2 : k = 45
    · simp [h2]
    · simp [h1, h2]
theorem AB_b (S : MS) (p b c : Int32) : sI (AB S p b) 45 c = AB S p c := by
  unfold AB sI
  congr 1
  funext k
  simp only [va_up]
  by_cases h1 : k = 45
  · simp [h1]
  · simp [h1]
theorem AB_self (S : MS) : AB S (S.1 44) (S.1 45) = S := by
  unfold AB sI
  refine Prod.ext ?_ rfl
  funext k
  simp only [va_up]
  by_cases h1 : k = 45
  · simp [h1]
  · by_cases h2 : k = 44
    · simp [h2]
    · simp [h1, h2]
-- an octet of the tape
def oc (S : MS) (p : Nat) : Nat := (S.2.2.1 1 p).toBitVec.toNat % 256
theorem oc_lt (S : MS) (p : Nat) : oc S p < 256 := Nat.mod_lt _ (by decide)
theorem oc_and (S : MS) (p : Nat) : S.2.2.1 1 p &&& 255 = nI (oc S p) := pk_and (S.2.2.1 1 p) (m := 255) 8 (by decide)
theorem g_octet {S : MS} {p e : Nat} (b : Int32) (hp : p ≤ 1200) (he : e ≤ 1200) : gM_octet (nI e) (AB S (nI p) b) = some (if p < e then (nI (oc S p), AB S (nI (p + 1)) b) else (0, AB S (nI p) (if b = 0 then 1 else b))) := by
  unfold gM_octet
  simp only [sm_let, AB_44, AB_45, AB_p, AB_b]
  by_cases h : p < e
  · rw [if_pos (nI_lt h (by omega)), if_pos h, nI_1, nI_pred, rI (k := 1) (t := 3) ⟨by decide, rfl, rfl⟩ (show p < 1200 by omega), Option.bind_some]
    show some (S.2.2.1 1 p &&& 255, _) = _
    rw [oc_and]
  · rw [if_neg (nI_nlt (by omega) (by omega)), if_neg h]
    by_cases hb : b = 0
    · rw [if_pos hb, if_pos hb]
    · rw [if_neg hb, if_neg hb]
theorem g_size90 {S : MS} {p e n : Nat} (hp : p ≤ e) (he : e ≤ 1200) (hn : n < 2 ^ 40) : gM_size_90 (nI e) (lN n) (AB S (nI p) 0) = some (if n ≤ e - p then (nI (p + n), AB S (nI p) 0) else (nI p, AB S (nI p) 1)) := by
  unfold gM_size_90 gM_size_114
  simp only [sm_let, AB_44, AB_45, AB_b]
  rw [if_pos trivial, pk_sub hp, nI_l (by omega)]
  by_cases h : n ≤ e - p
  · rw [if_pos ((lg_cmp_le _ _).mpr ((pk_lLE (by omega) (by omega)).mpr h)), if_pos h, if_pos trivial, lN_i, nI_add]
  · rw [if_neg (fun q => h ((pk_lLE (by omega) (by omega)).mp ((lg_cmp_le _ _).mp q))), if_neg h, if_neg (by decide)]
theorem g_size90b {S : MS} {p e : Nat} (n : Int64) {b : Int32} (hb : b ≠ 0) : gM_size_90 (nI e) n (AB S (nI p) b) = some (nI p, AB S (nI p) b) := by
  unfold gM_size_90 gM_size_114
  simp only [sm_let, AB_44, AB_45]
  rw [if_neg hb, if_neg hb]
