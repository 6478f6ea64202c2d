-- counting the rows of a table
theorem cnt_out {f : Nat → Int32} {a j : Nat} {v : Int32} : ∀ n, (j < a ∨ a + n ≤ j) → cnt (upd f j v) a n = cnt f a n
  | 0, _ => rfl
  | n + 1, h => by
    unfold cnt
    have e : upd f j v (a + n) = f (a + n) := by unfold upd; rw [if_neg (by omega)]
    rw [cnt_out n (by omega), e]
theorem cnt_in {f : Nat → Int32} {a j : Nat} {v : Int32} : ∀ n, a ≤ j → j < a + n → cnt (upd f j v) a n = cnt f a n - (if 0 < (f j).toInt then 1 else 0) + (if 0 < v.toInt then 1 else 0)
  | 0, h1, h2 => by omega
  | n + 1, h1, h2 => by
    unfold cnt
    by_cases hj : j = a + n
    · subst hj
      rw [cnt_out n (by omega)]
      have e : upd f (a + n) v (a + n) = v := by unfold upd; rw [if_pos rfl]
      rw [e]
      omega
    · rw [cnt_in n h1 (by omega)]
      have e : upd f j v (a + n) = f (a + n) := by unfold upd; rw [if_neg (by omega)]
      rw [e]
      omega
theorem mi_two {S : MS} (m : MI S) {t j : Nat} (ht : t < 4) (h1 : 16 * t ≤ j) (h2 : j < 16 * t + 16) {v w : Int32} (hv : 0 ≤ v.toInt) (hw : w.toInt = (S.2.2.1 26 t).toInt - (if 0 < (S.2.2.1 27 j).toInt then 1 else 0) + (if 0 < v.toInt then 1 else 0)) : MI (sA (sA S 27 j v) 26 t w) := by
  have e27 : (sA (sA S 27 j v) 26 t w).2.2.1 27 = upd (S.2.2.1 27) j v := by simp [sA, va_up]
  have e26 : (sA (sA S 27 j v) 26 t w).2.2.1 26 = upd (S.2.2.1 26) t w := by simp [sA, va_up]
  have eo : ∀ k, k ≠ 26 → k ≠ 27 → (sA (sA S 27 j v) 26 t w).2.2.1 k = S.2.2.1 k := fun k q1 q2 => by simp [sA, va_up, q1, q2]
  refine ⟨m.1, fun k i => ?_, fun t' ht' => ?_⟩
  · by_cases k1 : k = 26
    · rw [k1]; exact ⟨Int32.le_toInt _, i_hi _⟩
    · by_cases k2 : k = 27
      · rw [k2, e27]
        unfold upd
        split
        · exact ⟨hv, i_hi _⟩
        · exact m.2.1 27 i
      · rw [eo k k1 k2]; exact m.2.1 k i
  · rw [e26, e27]
    by_cases q : t' = t
    · subst q
      rw [cnt_in 16 h1 h2, ← m.2.2 t' ht', ← hw]
      unfold upd
      rw [if_pos rfl]
    · rw [cnt_out 16 (by omega), ← m.2.2 t' ht']
      unfold upd
      rw [if_neg q]
theorem fM_two {S0 S : MS} {E : List Nat} (F : fM E S0 S) (h1 : 26 ∈ E) (h2 : 27 ∈ E) (t j : Nat) (v w : Int32) : fM E S0 (sA (sA S 27 j v) 26 t w) := by
  refine ⟨F.1, fun k hk => ?_, F.2.2.1, F.2.2.2⟩
  have k1 : k ≠ 26 := fun q => hk (q ▸ h1)
  have k2 : k ≠ 27 := fun q => hk (q ▸ h2)
  have : (sA (sA S 27 j v) 26 t w).2.2.1 k = S.2.2.1 k := by simp [sA, va_up, k1, k2]
  rw [this]; exact F.2.1 k hk
-- the two writes, then the rest
theorem n_two {Rt : Type} {R : Rt → MS → Prop} {S S0 : MS} {E : List Nat} {i i' v : Int32} {wf : Int32 → Int32} {X : MS → Option (Rt × MS)} (m : MI S) (F : fM E S0 S) (h26 : 26 ∈ E) (h27 : 27 ∈ E) (h0 : 0 ≤ i'.toInt) (h1 : i'.toInt ≤ 3) (h2 : 16 * i'.toInt ≤ i.toInt) (h3 : i.toInt < 16 * i'.toInt + 16) (hv : 0 ≤ v.toInt) (hw : (wf (S.2.2.1 26 i'.toInt.toNat)).toInt = (S.2.2.1 26 i'.toInt.toNat).toInt - (if 0 < (S.2.2.1 27 i.toInt.toNat).toInt then 1 else 0) + (if 0 < v.toInt then 1 else 0)) (kk : ∀ S1, MI S1 → fM E S0 S1 → S1.1 = S.1 → nJ R (X S1)) : nJ R ((mWI S 27 0 i v).bind fun S1 => (mRI S1 26 0 i').bind fun x => (mWI S1 26 0 i' (wf x)).bind X) := by
  unfold mWI mRI
  rw [if_pos ⟨⟨by decide, by decide, by decide⟩, n_ix (L := 64) (by omega) (by omega)⟩]
  show nJ R ((if _ then some ((sA S 27 i.toInt.toNat v).2.2.1 26 i'.toInt.toNat) else none).bind _)
  rw [if_pos ⟨⟨by decide, by decide, by decide⟩, n_ix (L := 4) (by omega) (by omega)⟩]
  show nJ R ((if _ then some (sA (sA S 27 i.toInt.toNat v) 26 i'.toInt.toNat (wf ((sA S 27 i.toInt.toNat v).2.2.1 26 i'.toInt.toNat))) else none).bind X)
  rw [if_pos ⟨⟨by decide, by decide, by decide⟩, n_ix (L := 4) (by omega) (by omega)⟩]
  have e : (sA S 27 i.toInt.toNat v).2.2.1 26 i'.toInt.toNat = S.2.2.1 26 i'.toInt.toNat := by simp [sA, va_up]
  rw [e]
  exact kk _ (mi_two m (by omega) (by omega) (by omega) hv hw) (fM_two F h26 h27 _ _ _ _) rfl
theorem row_le {S : MS} (m : MI S) {t : Nat} (ht : t < 4) : 0 ≤ (S.2.2.1 26 t).toInt ∧ (S.2.2.1 26 t).toInt ≤ 16 := by
  have h1 := m.2.2 t ht
  have h2 := cnt_le (S.2.2.1 27) (16 * t) 16
  omega
theorem cnt_pos {f : Nat → Int32} {a j : Nat} : ∀ n, a ≤ j → j < a + n → 0 < (f j).toInt → 1 ≤ cnt f a n
  | 0, h1, h2, _ => by omega
  | n + 1, h1, h2, h3 => by
    unfold cnt
    have h4 := cnt_le f a n
    by_cases hj : j = a + n
    · subst hj; rw [if_pos h3]; omega
    · have := cnt_pos n h1 (by omega) h3
      split <;> omega
theorem n_letv {Rt α : Type} {R : Rt → MS → Prop} {v : α} {X : α → Option (Rt × MS)} (kk : ∀ x, x = v → nJ R (X x)) : nJ R (sm_let v X) := kk v rfl
