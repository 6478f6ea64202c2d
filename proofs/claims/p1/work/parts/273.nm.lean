theorem fR_z (k : Nat) (h5 : k ≠ 5) : (fR k).1 ≤ 0 ∧ 0 ≤ (fR k).2 := by
  by_cases hk : k < 66
  · have hb : ∀ k, k < 66 → k ≠ 5 → (fR k).1 ≤ 0 ∧ 0 ≤ (fR k).2 := by decide +kernel
    exact hb k hk h5
  · have e : fR k = iAny := by
      unfold fR
      repeat rw [if_neg (by omega)]
    rw [e]; exact ⟨by decide, by decide⟩
theorem rR_z (k : Nat) : (rR k).1 ≤ 0 ∧ 0 ≤ (rR k).2 := by
  by_cases hk : k < 66
  · have hb : ∀ k, k < 66 → (rR k).1 ≤ 0 ∧ 0 ≤ (rR k).2 := by decide +kernel
    exact hb k hk
  · have e : rR k = iAny := by
      unfold rR
      repeat rw [if_neg (by omega)]
    rw [e]; exact ⟨by decide, by decide⟩
theorem S0_MI : MI S0 := by
  refine ⟨fun k => ?_, fun k i => ?_, fun t _ => ?_⟩
  · by_cases h5 : k = 5
    · subst h5; exact ⟨by decide, by decide⟩
    · have e : (S0.1 k).toInt = 0 := by show (if k = 5 then (484 : Int32) else 0).toInt = 0; rw [if_neg h5]; rfl
      rw [e]; exact fR_z k h5
  · have e : (S0.2.2.1 k i).toInt = 0 := rfl
    rw [e]; exact rR_z k
  · have hz : ∀ (a n : Nat), cnt (S0.2.2.1 27) a n = 0 := by
      intro a n
      induction n with
      | zero => rfl
      | succ n ih => unfold cnt; rw [ih]; rfl
    rw [hz]; rfl

-- how many octets things have
def vl (X : Option (Int32 × MS)) : Int := match X with
  | some p => p.1.toInt
  | none => 0
theorem vl_of {X Y : Option (Int32 × MS)} (h : X.map Prod.fst = Y.map Prod.fst) {r : Int32} {S : MS} (e : X = some (r, S)) : vl Y = r.toInt := by
  rw [e] at h
  cases Y with
  | none => simp at h
  | some p =>
    simp at h
    show p.1.toInt = r.toInt
    rw [h]
theorem ps_ind : ∀ (n : Nat) (a0 : Int64) (a2 : Int32) (S T : MS), (gM_partSize_2 n a0 a2 S).map Prod.fst = (gM_partSize_2 n a0 a2 T).map Prod.fst
  | 0, _, _, _, _ => rfl
  | n + 1, a0, a2, S, T => by
    unfold gM_partSize_2
    by_cases c : (lg_cmp (a0 >>> (((7 : Int32) * a2).toInt64 &&& 63)) (0 : Int64)) ≤ 0
    · rw [if_pos c, if_pos c]; rfl
    · rw [if_neg c, if_neg c]; exact ps_ind n a0 (a2 + 1) S T
theorem ns_ind : ∀ (n : Nat) (a0 : Int64) (a3 : Int32) (S T : MS), (gM_numberSize_15 n a0 a3 S).map Prod.fst = (gM_numberSize_15 n a0 a3 T).map Prod.fst
  | 0, _, _, _, _ => rfl
  | n + 1, a0, a3, S, T => by
    unfold gM_numberSize_15
    by_cases c : (8 : Int32) ≤ a3
    · rw [if_pos c, if_pos c]; rfl
    · rw [if_neg c, if_neg c]
      by_cases c2 : (lg_cmp (a0 >>> ((((8 : Int32) * a3) - (1 : Int32)).toInt64 &&& 63)) (0 : Int64)) = 0
      · rw [if_pos c2, if_pos c2]; rfl
      · rw [if_neg c2, if_neg c2]
        by_cases c3 : (lg_cmp (a0 >>> ((((8 : Int32) * a3) - (1 : Int32)).toInt64 &&& 63)) (-1 : Int64)) = 0
        · rw [if_pos c3, if_pos c3]; rfl
        · rw [if_neg c3, if_neg c3]; exact ns_ind n a0 (a3 + 1) S T
theorem ns_ind0 (a0 : Int64) (a2 : Int32) (S T : MS) : (gM_numberSize a0 a2 S).map Prod.fst = (gM_numberSize a0 a2 T).map Prod.fst := by
  unfold gM_numberSize
  by_cases c : a2 = 0
  · rw [if_pos c, if_pos c]; exact ns_ind _ _ _ _ _
  · rw [if_neg c, if_neg c]
    by_cases c2 : 0 ≤ (lg_cmp a0 (0 : Int64))
    · rw [if_pos c2, if_pos c2]; exact ns_ind _ _ _ _ _
    · rw [if_neg c2, if_neg c2]; rfl
noncomputable def psz (v : Int64) : Int := vl (gM_partSize v S0)
noncomputable def nsz (v : Int64) (w : Int32) : Int := vl (gM_numberSize v w S0)
theorem xM_partSize {a0 : Int64} {S : MS} (mS : MI S) : nJ (NP S (fun r : Int32 => r.toInt = psz a0 ∧ 1 ≤ r.toInt ∧ r.toInt ≤ 9)) (gM_partSize a0 S) := by
  obtain ⟨r, S', e, rfl, q⟩ := nM_partSize (a0 := a0) mS
  exact ⟨r, S', e, rfl, (vl_of (by unfold gM_partSize; exact ps_ind _ _ _ _ _) e).symm, q⟩
theorem psz_b (v : Int64) : 1 ≤ psz v ∧ psz v ≤ 9 := by
  obtain ⟨r, S', e, rfl, q1, q2⟩ := xM_partSize (a0 := v) S0_MI
  omega
theorem xM_numberSize {a0 : Int64} {a2 : Int32} {S : MS} (mS : MI S) (p : a2.toInt = 0 ∨ a2.toInt = 1) : nJ (NP S (fun r : Int32 => r.toInt = nsz a0 a2 ∧ 1 ≤ r.toInt ∧ r.toInt ≤ 9)) (gM_numberSize a0 a2 S) := by
  have h : nJ (NP S (fun r : Int32 => 1 ≤ r.toInt ∧ r.toInt ≤ 9)) (gM_numberSize a0 a2 S) := by
    have loop : ∀ (n : Nat) (a3 : Int32), 1 ≤ a3.toInt → a3.toInt ≤ 8 → 8 - a3.toInt < (n : Int) → nJ (NP S (fun r : Int32 => 1 ≤ r.toInt ∧ r.toInt ≤ 9)) (gM_numberSize_15 n a0 a3 S) := by
      have L8 : (8 : Int32).toInt = 8 := rfl
      intro n
      induction n with
      | zero => intro a3 p0 p1 q; exfalso; omega
      | succ n ih =>
        intro a3 p0 p1 q
        unfold gM_numberSize_15
        refine n_le (fun c => ?_) (fun c => ?_)
        · exact n_rP ⟨by omega, by omega⟩
        · refine n_if (fun c2 => ?_) (fun c2 => ?_)
          · exact n_rP ⟨by omega, by omega⟩
          · refine n_if (fun c3 => ?_) (fun c3 => ?_)
            · exact n_rP ⟨by omega, by omega⟩
            · refine n_letv (fun x hx => ?_)
              have i1 : x.toInt = a3.toInt + 1 := by rw [hx]; exact i_add1 (by omega)
              exact ih _ (by omega) (by omega) (by omega)
    unfold gM_numberSize
    refine n_if (fun c => ?_) (fun c => ?_)
    · exact loop _ _ (by decide) (by decide) (by simp only [sm_fuel_eq]; decide)
    · refine n_if (fun c => ?_) (fun c => ?_)
      · exact loop _ _ (by decide) (by decide) (by simp only [sm_fuel_eq]; decide)
      · exact n_rP ⟨by decide, by decide⟩
  obtain ⟨r, S', e, rfl, q⟩ := h
  exact ⟨r, S', e, rfl, (vl_of (ns_ind0 _ _ _ _) e).symm, q⟩
theorem nsz_b (v : Int64) {w : Int32} (p : w.toInt = 0 ∨ w.toInt = 1) : 1 ≤ nsz v w ∧ nsz v w ≤ 9 := by
  obtain ⟨r, S', e, rfl, q1, q2⟩ := xM_numberSize (a0 := v) S0_MI p
  omega
def ar (n : Int) : Int := if 256 ≤ n then n + 4 else if 128 ≤ n then n + 3 else n + 2
theorem ar_b (n : Int) : n + 2 ≤ ar n ∧ ar n ≤ n + 4 := by
  unfold ar; split
  · omega
  · split <;> omega
theorem xM_around {a0 : Int32} {S : MS} (p1 : a0.toInt ≤ 2000000) : nJ (NP S (fun r : Int32 => r.toInt = ar a0.toInt)) (gM_around a0 S) := by
  have lo := i_lo a0
  have L128 : (128 : Int32).toInt = 128 := rfl
  have L256 : (256 : Int32).toInt = 256 := rfl
  have L4 : (4 : Int32).toInt = 4 := rfl
  have L3 : (3 : Int32).toInt = 3 := rfl
  have L2 : (2 : Int32).toInt = 2 := rfl
  unfold gM_around ar
  refine n_le (fun c => ?_) (fun c => ?_)
  · refine n_le (fun c2 => ?_) (fun c2 => ?_)
    · exact n_rP (by rw [if_pos (by omega), i_add (by omega) (by omega), L4])
    · exact n_rP (by rw [if_neg (by omega), if_pos (by omega), i_add (by omega) (by omega), L3])
  · exact n_rP (by rw [if_neg (by omega), if_neg (by omega), i_add (by omega) (by omega), L2])
noncomputable def nOc (g : Nat → Int64) (f : Nat) : Nat → Nat → Int
  | _, 0 => 0
  | k, m + 1 => psz (g (f + k)) + nOc g f (k + 1) m
theorem nOc_b (g : Nat → Int64) (f : Nat) : ∀ (m k : Nat), 0 ≤ nOc g f k m ∧ nOc g f k m ≤ 9 * (m : Int)
  | 0, k => by unfold nOc; omega
  | m + 1, k => by
    have h1 := nOc_b g f m (k + 1)
    have h2 := psz_b (g (f + k))
    unfold nOc
    omega
noncomputable def nmo (S : MS) (k : Nat) (f n : Int32) : Int := 1 + nOc (S.2.2.2 k) f.toInt.toNat 2 (n.toInt - 2).toNat
theorem nmo_b {S : MS} {k : Nat} {f n : Int32} (hn : n.toInt ≤ 17) : 1 ≤ nmo S k f n ∧ nmo S k f n ≤ 136 := by
  have := nOc_b (S.2.2.2 k) f.toInt.toNat (n.toInt - 2).toNat 2
  unfold nmo
  omega
set_option maxHeartbeats 4000000 in
theorem xM_nameOctets_5 {L : Nat} : ∀ (n : Nat) (a0 : Nat) (a1 a2 a3 a4 : Int32) (S : MS), MI S → rowL a0 1 L → 0 ≤ a1.toInt → a1.toInt ≤ 30000 → a1.toInt + a2.toInt ≤ (L : Int) → a2.toInt ≤ 17 → 0 ≤ a4.toInt → a4.toInt ≤ 17 → 0 ≤ a3.toInt → a3.toInt ≤ 9 * a4.toInt → 17 - a4.toInt < (n : Int) → nJ (NP S (fun r : Int32 => r.toInt = a3.toInt + nOc (S.2.2.2 a0) a1.toInt.toNat a4.toInt.toNat (a2.toInt - a4.toInt).toNat)) (gM_nameOctets_5 n a0 a1 a2 a3 a4 S) := by
  intro n
  induction n with
  | zero => intro a0 a1 a2 a3 a4 S m hr p0 p1 p2 p3 p4 p5 p6 p7 q; exfalso; omega
  | succ n ih =>
    intro a0 a1 a2 a3 a4 S m hr p0 p1 p2 p3 p4 p5 p6 p7 q
    unfold gM_nameOctets_5
    refine n_le (fun c => ?_) (fun c => ?_)
    · refine n_rP ?_
      rw [show (a2.toInt - a4.toInt).toNat = 0 by omega]
      unfold nOc; omega
    · have i1 : (a1 + a4).toInt = a1.toInt + a4.toInt := i_add (by omega) (by omega)
      refine n_rJ hr (by omega) (by omega) (fun x1 e1 => ?_)
      refine n_cP (xM_partSize m) (fun x2 q2 => ?_)
      refine n_letv (fun x4 h4 => ?_)
      refine n_letv (fun x5 h5 => ?_)
      have i4 : x4.toInt = a3.toInt + x2.toInt := by rw [h4]; exact i_add (by omega) (by omega)
      have i5 : x5.toInt = a4.toInt + 1 := by rw [h5]; exact i_add1 (by omega)
      refine n_PP (ih _ _ _ _ _ _ m hr p0 p1 p2 p3 (by omega) (by omega) (by omega) (by omega) (by omega)) (fun r hr2 => ?_)
      rw [hr2, i4, i5, show (a2.toInt - a4.toInt).toNat = (a2.toInt - (a4.toInt + 1)).toNat + 1 by omega, show (a4.toInt + 1).toNat = a4.toInt.toNat + 1 by omega]
      show _ = a3.toInt + (psz (S.2.2.2 a0 (a1.toInt.toNat + a4.toInt.toNat)) + _)
      rw [q2.1, e1, i1, show (a1.toInt + a4.toInt).toNat = a1.toInt.toNat + a4.toInt.toNat by omega]
      omega
theorem xM_nameOctets {L : Nat} {a0 : Nat} {a1 a2 : Int32} {S : MS} (m : MI S) (hr : rowL a0 1 L) (p0 : 0 ≤ a1.toInt) (p1 : a1.toInt ≤ 30000) (p2 : a1.toInt + a2.toInt ≤ (L : Int)) (p3 : a2.toInt ≤ 17) : nJ (NP S (fun r : Int32 => r.toInt = nmo S a0 a1 a2)) (gM_nameOctets a0 a1 a2 S) := by
  have L1 : (1 : Int32).toInt = 1 := rfl
  have L2 : (2 : Int32).toInt = 2 := rfl
  unfold gM_nameOctets
  exact n_PP (xM_nameOctets_5 _ _ _ _ _ _ _ m hr p0 p1 p2 p3 (by omega) (by omega) (by omega) (by omega) (by simp only [sm_fuel_eq]; omega)) (fun r q => q)
