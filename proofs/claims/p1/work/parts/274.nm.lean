noncomputable def voc (S : MS) (a : Int32) : Int := if (S.2.2.1 38 a.toInt.toNat).toInt = 5 then 0 else if (S.2.2.1 38 a.toInt.toNat).toInt ≤ 127 then (if (S.2.2.1 38 a.toInt.toNat).toInt = 4 then (S.2.2.1 41 a.toInt.toNat).toInt else if (S.2.2.1 38 a.toInt.toNat).toInt = 6 then nmo S 42 ((16 : Int32) * a) (S.2.2.1 43 a.toInt.toNat) else if (S.2.2.1 38 a.toInt.toNat).toInt = 64 then 4 else if (S.2.2.1 38 a.toInt.toNat).toInt = 70 then nsz (S.2.2.2 39 a.toInt.toNat) 1 else nsz (S.2.2.2 39 a.toInt.toNat) 0) else 0
noncomputable def roc (S : MS) (a : Int32) : Int := ar (nmo S 36 ((16 : Int32) * a) (S.2.2.1 37 a.toInt.toNat)) + ar (voc S a)
noncomputable def rso (S : MS) : Int32 → Nat → Int
  | _, 0 => 0
  | a, m + 1 => ar (roc S a) + rso S (a + 1) m
noncomputable def boc (S : MS) (a1 a2 : Int32) : Int := ar (nsz (S.1 53).toInt64 0) + ar (nsz (S.1 56).toInt64 0) + ar (nsz (S.1 57).toInt64 0) + ar (rso S a1 a2.toInt.toNat)
noncomputable def aoc (S : MS) (a1 a2 : Int32) : Int := ar (3 + ar (S.1 51).toInt + ar (boc S a1 a2))
theorem voc_b {S : MS} (m : MI S) (a : Int32) : 0 ≤ voc S a ∧ voc S a ≤ 136 := by
  have h41 := m.2.1 41 a.toInt.toNat
  have h43 := m.2.1 43 a.toInt.toNat
  rw [show rR 41 = (0, 40) from rfl] at h41
  rw [show rR 43 = (0, 16) from rfl] at h43
  have hn := nmo_b (S := S) (k := 42) (f := (16 : Int32) * a) (n := S.2.2.1 43 a.toInt.toNat) (by have := h43.2; omega)
  have h1 := nsz_b (S.2.2.2 39 a.toInt.toNat) (w := 1) (Or.inr rfl)
  have h0 := nsz_b (S.2.2.2 39 a.toInt.toNat) (w := 0) (Or.inl rfl)
  simp only at h41 h43
  unfold voc
  split
  · omega
  · split
    · split
      · omega
      · split
        · omega
        · split
          · omega
          · split <;> omega
    · omega
theorem roc_b {S : MS} (m : MI S) (a : Int32) : 4 ≤ roc S a ∧ roc S a ≤ 300 := by
  have h37 := m.2.1 37 a.toInt.toNat
  rw [show rR 37 = (0, 16) from rfl] at h37
  simp only at h37
  have hn := nmo_b (S := S) (k := 36) (f := (16 : Int32) * a) (n := S.2.2.1 37 a.toInt.toNat) (by omega)
  have hv := voc_b m a
  have h1 := ar_b (nmo S 36 ((16 : Int32) * a) (S.2.2.1 37 a.toInt.toNat))
  have h2 := ar_b (voc S a)
  unfold roc
  omega
theorem rso_b {S : MS} (m : MI S) : ∀ (k : Nat) (a : Int32), 0 ≤ rso S a k ∧ rso S a k ≤ 304 * (k : Int)
  | 0, a => by unfold rso; omega
  | k + 1, a => by
    have h1 := rso_b m k (a + 1)
    have h2 := roc_b m a
    have h3 := ar_b (roc S a)
    unfold rso
    omega
set_option maxHeartbeats 4000000 in
theorem xM_valueOctets {a1 : Int32} {S : MS} (m : MI S) (p0 : 0 ≤ a1.toInt) (p1 : a1.toInt ≤ 59) : nJ (NP S (fun r : Int32 => r.toInt = voc S a1)) (gM_valueOctets a1 S) := by
  have L0 : (0 : Int32).toInt = 0 := rfl
  have L5 : (5 : Int32).toInt = 5 := rfl
  have L4 : (4 : Int32).toInt = 4 := rfl
  have L6 : (6 : Int32).toInt = 6 := rfl
  have L64 : (64 : Int32).toInt = 64 := rfl
  have L70 : (70 : Int32).toInt = 70 := rfl
  have L127 : (127 : Int32).toInt = 127 := rfl
  have i16 : ((16 : Int32) * a1).toInt = 16 * a1.toInt := i_mul (n := 16) rfl (by omega) (by omega)
  unfold gM_valueOctets
  refine n_rI (L := 60) m (by decide) rfl (by omega) (by omega) (fun x1 e1 _ _ => ?_)
  refine n_eq (fun c => ?_) (fun c => ?_)
  · refine n_rP ?_
    unfold voc; rw [← e1, if_pos (by omega)]; rfl
  · refine n_le (fun c2 => ?_) (fun c2 => ?_)
    · refine n_eq (fun c3 => ?_) (fun c3 => ?_)
      · refine n_rI (L := 60) m (by decide) rfl (by omega) (by omega) (fun x10 e10 _ _ => ?_)
        refine n_rP ?_
        unfold voc; rw [← e1, if_neg (by omega), if_pos (by omega), if_pos (by omega), e10]
      · refine n_eq (fun c4 => ?_) (fun c4 => ?_)
        · refine n_rI (L := 60) m (by decide) rfl (by omega) (by omega) (fun x7 e7 l7 u7 => ?_)
          refine n_cP (xM_nameOctets (L := 960) m (by decide) (by omega) (by omega) (by omega) (by omega)) (fun x8 q8 => ?_)
          refine n_rP ?_
          unfold voc; rw [← e1, if_neg (by omega), if_pos (by omega), if_neg (by omega), if_pos (by omega), q8, e7]
        · refine n_eq (fun c5 => ?_) (fun c5 => ?_)
          · refine n_rP ?_
            unfold voc; rw [← e1, if_neg (by omega), if_pos (by omega), if_neg (by omega), if_neg (by omega), if_pos (by omega)]; rfl
          · refine n_rJ (L := 60) (by decide) (by omega) (by omega) (fun x2 e2 => ?_)
            refine n_eq (fun c6 => ?_) (fun c6 => ?_)
            · refine n_cP (xM_numberSize m (Or.inr rfl)) (fun x5 q5 => ?_)
              refine n_rP ?_
              unfold voc; rw [← e1, if_neg (by omega), if_pos (by omega), if_neg (by omega), if_neg (by omega), if_neg (by omega), if_pos (by omega), q5.1, e2]
            · refine n_cP (xM_numberSize m (Or.inl rfl)) (fun x5 q5 => ?_)
              refine n_rP ?_
              unfold voc; rw [← e1, if_neg (by omega), if_pos (by omega), if_neg (by omega), if_neg (by omega), if_neg (by omega), if_neg (by omega), q5.1, e2]
    · refine n_rP ?_
      unfold voc; rw [← e1, if_neg (by omega), if_neg (by omega)]; rfl
set_option maxHeartbeats 4000000 in
theorem xM_rowOctets {a1 : Int32} {S : MS} (m : MI S) (p0 : 0 ≤ a1.toInt) (p1 : a1.toInt ≤ 59) : nJ (NP S (fun r : Int32 => r.toInt = roc S a1)) (gM_rowOctets a1 S) := by
  have i16 : ((16 : Int32) * a1).toInt = 16 * a1.toInt := i_mul (n := 16) rfl (by omega) (by omega)
  have hv := voc_b m a1
  unfold gM_rowOctets
  refine n_rI (L := 60) m (by decide) rfl (by omega) (by omega) (fun x1 e1 l1 u1 => ?_)
  have hn := nmo_b (S := S) (k := 36) (f := (16 : Int32) * a1) (n := x1) (by omega)
  refine n_cP (xM_nameOctets (L := 960) m (by decide) (by omega) (by omega) (by omega) (by omega)) (fun x2 q2 => ?_)
  refine n_cP (xM_around (by omega)) (fun x4 q4 => ?_)
  refine n_cP (xM_valueOctets m p0 p1) (fun x6 q6 => ?_)
  refine n_cP (xM_around (by omega)) (fun x8 q8 => ?_)
  have b4 := ar_b x2.toInt
  have b8 := ar_b x6.toInt
  refine n_rP ?_
  rw [i_add (by omega) (by omega)]
  unfold roc
  rw [← e1, ← q2, ← q6, q4, q8]
set_option maxHeartbeats 4000000 in
theorem xM_rowsOctets_5 : ∀ (n : Nat) (a1 a2 a3 a4 : Int32) (S : MS), MI S → 0 ≤ a1.toInt → 0 ≤ a2.toInt → a1.toInt + a2.toInt ≤ 60 → 0 ≤ a4.toInt → a4.toInt ≤ a1.toInt + a2.toInt → 0 ≤ a3.toInt → a3.toInt ≤ 304 * a4.toInt → 60 - a4.toInt < (n : Int) → nJ (NP S (fun r : Int32 => r.toInt = a3.toInt + rso S a4 (a1.toInt + a2.toInt - a4.toInt).toNat)) (gM_rowsOctets_5 n a1 a2 a3 a4 S) := by
  intro n
  induction n with
  | zero => intro a1 a2 a3 a4 S m p0 p1 p2 p3 p4 p5 p6 q; exfalso; omega
  | succ n ih =>
    intro a1 a2 a3 a4 S m p0 p1 p2 p3 p4 p5 p6 q
    have i1 : (a1 + a2).toInt = a1.toInt + a2.toInt := i_add (by omega) (by omega)
    unfold gM_rowsOctets_5
    refine n_le (fun c => ?_) (fun c => ?_)
    · refine n_rP ?_
      rw [show (a1.toInt + a2.toInt - a4.toInt).toNat = 0 by omega]
      unfold rso; omega
    · have hb := roc_b m a4
      refine n_cP (xM_rowOctets m p3 (by omega)) (fun x1 q1 => ?_)
      refine n_cP (xM_around (by omega)) (fun x3 q3 => ?_)
      have b3 := ar_b x1.toInt
      refine n_letv (fun x5 h5 => ?_)
      refine n_letv (fun x6 h6 => ?_)
      have i5 : x5.toInt = a3.toInt + x3.toInt := by rw [h5]; exact i_add (by omega) (by omega)
      have i6 : x6.toInt = a4.toInt + 1 := by rw [h6]; exact i_add1 (by omega)
      refine n_PP (ih _ _ _ _ _ m p0 p1 p2 (by omega) (by omega) (by omega) (by omega) (by omega)) (fun r hr => ?_)
      rw [hr, i5, i6, show (a1.toInt + a2.toInt - a4.toInt).toNat = (a1.toInt + a2.toInt - (a4.toInt + 1)).toNat + 1 by omega]
      show _ = a3.toInt + (ar (roc S a4) + rso S (a4 + 1) _)
      rw [← q1, ← q3, ← h6]
      omega
theorem xM_rowsOctets {a1 a2 : Int32} {S : MS} (m : MI S) (p0 : 0 ≤ a1.toInt) (p1 : 0 ≤ a2.toInt) (p2 : a1.toInt + a2.toInt ≤ 60) : nJ (NP S (fun r : Int32 => r.toInt = rso S a1 a2.toInt.toNat)) (gM_rowsOctets a1 a2 S) := by
  have L0 : (0 : Int32).toInt = 0 := rfl
  unfold gM_rowsOctets
  refine n_PP (xM_rowsOctets_5 _ _ _ _ _ _ m p0 p1 p2 (by omega) (by omega) (by omega) (by omega) (by simp only [sm_fuel_eq]; omega)) (fun r q => ?_)
  rw [q, L0, show (a1.toInt + a2.toInt - a1.toInt).toNat = a2.toInt.toNat by omega]
  omega
theorem boc_b {S : MS} (m : MI S) (a1 a2 : Int32) (h : a2.toInt ≤ 60) : 0 ≤ boc S a1 a2 ∧ boc S a1 a2 ≤ 19000 := by
  have h1 := nsz_b (S.1 53).toInt64 (w := 0) (Or.inl rfl)
  have h2 := nsz_b (S.1 56).toInt64 (w := 0) (Or.inl rfl)
  have h3 := nsz_b (S.1 57).toInt64 (w := 0) (Or.inl rfl)
  have h4 := rso_b m a2.toInt.toNat a1
  have b1 := ar_b (nsz (S.1 53).toInt64 0)
  have b2 := ar_b (nsz (S.1 56).toInt64 0)
  have b3 := ar_b (nsz (S.1 57).toInt64 0)
  have b4 := ar_b (rso S a1 a2.toInt.toNat)
  unfold boc
  omega
set_option maxHeartbeats 4000000 in
theorem xM_bodyOctets {a1 a2 : Int32} {S : MS} (m : MI S) (p0 : 0 ≤ a1.toInt) (p1 : 0 ≤ a2.toInt) (p2 : a1.toInt + a2.toInt ≤ 60) : nJ (NP S (fun r : Int32 => r.toInt = boc S a1 a2)) (gM_bodyOctets a1 a2 S) := by
  have h4 := rso_b m a2.toInt.toNat a1
  unfold gM_bodyOctets
  refine n_let ?_
  refine n_cP (xM_numberSize m (Or.inl rfl)) (fun x2 q2 => ?_)
  refine n_cP (xM_around (by omega)) (fun x4 q4 => ?_)
  refine n_let ?_
  refine n_cP (xM_numberSize m (Or.inl rfl)) (fun x7 q7 => ?_)
  refine n_cP (xM_around (by omega)) (fun x9 q9 => ?_)
  refine n_let ?_
  refine n_cP (xM_numberSize m (Or.inl rfl)) (fun x12 q12 => ?_)
  refine n_cP (xM_around (by omega)) (fun x14 q14 => ?_)
  refine n_cP (xM_rowsOctets m p0 p1 p2) (fun x16 q16 => ?_)
  refine n_cP (xM_around (by omega)) (fun x18 q18 => ?_)
  have b1 := ar_b x2.toInt
  have b2 := ar_b x7.toInt
  have b3 := ar_b x12.toInt
  have b4 := ar_b x16.toInt
  refine n_rP ?_
  have i1 : (x4 + x9).toInt = x4.toInt + x9.toInt := i_add (by omega) (by omega)
  have i2 : (x4 + x9 + x14).toInt = (x4 + x9).toInt + x14.toInt := i_add (by omega) (by omega)
  rw [i_add (by omega) (by omega), i2, i1]
  unfold boc
  rw [← q2.1, ← q7.1, ← q12.1, ← q16, q4, q9, q14, q18]
set_option maxHeartbeats 4000000 in
theorem xM_allOctets {a1 a2 : Int32} {S : MS} (m : MI S) (p0 : 0 ≤ a1.toInt) (p1 : 0 ≤ a2.toInt) (p2 : a1.toInt + a2.toInt ≤ 60) : nJ (NP S (fun r : Int32 => r.toInt = aoc S a1 a2)) (gM_allOctets a1 a2 S) := by
  have L3 : (3 : Int32).toInt = 3 := rfl
  have hb := boc_b m a1 a2 (by omega)
  have r51 := mi_f m 51 rfl
  unfold gM_allOctets
  refine n_let ?_
  refine n_cP (xM_around (by omega)) (fun x2 q2 => ?_)
  refine n_cP (xM_bodyOctets m p0 p1 p2) (fun x4 q4 => ?_)
  refine n_cP (xM_around (by omega)) (fun x6 q6 => ?_)
  have b2 := ar_b (S.1 51).toInt
  have b6 := ar_b x4.toInt
  have i1 : ((3 : Int32) + x2).toInt = (3 : Int32).toInt + x2.toInt := i_add (by omega) (by omega)
  have i2 : ((3 : Int32) + x2 + x6).toInt = ((3 : Int32) + x2).toInt + x6.toInt := i_add (by omega) (by omega)
  refine n_cP (xM_around (by omega)) (fun x8 q8 => ?_)
  refine n_rP ?_
  rw [q8, i2, i1, L3, q2, q6, q4]
  rfl
