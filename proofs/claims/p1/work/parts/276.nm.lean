set_option maxHeartbeats 4000000 in
theorem wM_writeValue_121 {g : Int} {S0 : MS} {a1 : Int32} (h0 : 0 ≤ a1.toInt) (h1 : a1.toInt ≤ 59) : ∀ (n : Nat) (a3 : Int32) (S : MS), MI S → fM [63, 64] S0 S → -1 ≤ a3.toInt → a3.toInt ≤ 3 → (S.1 64).toInt + a3.toInt + 1 = g → g ≤ 2400 → a3.toInt + 1 < (n : Int) → nJ (NW [63, 64] S0 (fun (_ : Unit) (S' : MS) => (S'.1 64).toInt = g)) (gM_writeValue_121 n a1 a3 S) := by
  have L0 : (0 : Int32).toInt = 0 := rfl
  have Lm : (-1 : Int32).toInt = -1 := rfl
  intro n
  induction n with
  | zero => intro a3 S m F p0 p1 p2 p3 q; exfalso; omega
  | succ n ih =>
    intro a3 S m F p0 p1 p2 p3 q
    unfold gM_writeValue_121
    refine n_lt (fun c => ?_) (fun c => ?_)
    · exact n_rW m F (by omega)
    · refine n_rJ (L := 60) (by decide) (by omega) (by omega) (fun x1 _ => ?_)
      refine n_cW F (wM_put m (by omega)) (by decide) (fun _ S5 m5 F5 _ q5 => ?_)
      refine n_letv (fun x6 h6 => ?_)
      have i6 : x6.toInt = a3.toInt - 1 := by rw [h6, i_add (by rw [Lm]; omega) (by rw [Lm]; omega), Lm]; omega
      clear h6 Lm
      exact ih _ _ m5 F5 (by omega) (by omega) (by omega) p3 (by omega)
set_option maxHeartbeats 4000000 in
theorem wM_writeValue_45 {g : Int} {S0 : MS} {a1 : Int32} (h0 : 0 ≤ a1.toInt) (h1 : a1.toInt ≤ 59) : ∀ (n : Nat) (a3 : Int32) (S : MS), MI S → fM [63, 64] S0 S → 0 ≤ a3.toInt → a3.toInt ≤ (S0.2.2.1 41 a1.toInt.toNat).toInt → (S.1 64).toInt + (S0.2.2.1 41 a1.toInt.toNat).toInt - a3.toInt = g → g ≤ 2400 → 40 - a3.toInt < (n : Int) → nJ (NW [63, 64] S0 (fun (_ : Unit) (S' : MS) => (S'.1 64).toInt = g)) (gM_writeValue_45 n a1 a3 S) := by
  have L1 : (1 : Int32).toInt = 1 := rfl
  intro n
  induction n with
  | zero =>
    intro a3 S m F p0 p1 p2 p3 q
    exfalso
    have := m.2.1 41 a1.toInt.toNat
    rw [show rR 41 = (0, 40) from rfl, F.2.1 41 (by decide)] at this
    simp only at this
    omega
  | succ n ih =>
    intro a3 S m F p0 p1 p2 p3 q
    unfold gM_writeValue_45
    refine n_rI (L := 60) m (by decide) rfl (by omega) (by omega) (fun x1 e1 l1 u1 => ?_)
    rw [F.2.1 41 (by decide)] at e1
    rw [← e1] at p1 p2
    refine n_le (fun c => ?_) (fun c => ?_)
    · exact n_rW m F (by omega)
    · have i1 : ((40 : Int32) * a1).toInt = 40 * a1.toInt := i_mul (n := 40) rfl (by omega) (by omega)
      have i2 : ((40 : Int32) * a1 + a3).toInt = ((40 : Int32) * a1).toInt + a3.toInt := i_add (by omega) (by omega)
      refine n_rI (L := 2400) m (by decide) rfl (by omega) (by omega) (fun x2 _ _ _ => ?_)
      refine n_cW F (wM_put m (by omega)) (by decide) (fun _ S5 m5 F5 _ q5 => ?_)
      refine n_letv (fun x6 h6 => ?_)
      have i6 : x6.toInt = a3.toInt + 1 := by rw [h6]; exact i_add1 (by omega)
      exact ih _ _ m5 F5 (by omega) (by rw [← e1]; omega) (by rw [← e1]; omega) p3 (by omega)
set_option maxHeartbeats 4000000 in
theorem wM_writeValue {a1 : Int32} {S : MS} (m : MI S) (p0 : 0 ≤ a1.toInt) (p1 : a1.toInt ≤ 59) (p : (S.1 64).toInt + ar (voc S a1) ≤ 2300) : nJ (NW [63, 64] S (fun (_ : Unit) (S' : MS) => (S'.1 64).toInt = (S.1 64).toInt + ar (voc S a1))) (gM_writeValue a1 S) := by
  have L0 : (0 : Int32).toInt = 0 := rfl
  have L5 : (5 : Int32).toInt = 5 := rfl
  have L4 : (4 : Int32).toInt = 4 := rfl
  have L3 : (3 : Int32).toInt = 3 := rfl
  have L6 : (6 : Int32).toInt = 6 := rfl
  have L64 : (64 : Int32).toInt = 64 := rfl
  have L70 : (70 : Int32).toInt = 70 := rfl
  have L127 : (127 : Int32).toInt = 127 := rfl
  have i16 : ((16 : Int32) * a1).toInt = 16 * a1.toInt := i_mul (n := 16) rfl (by omega) (by omega)
  have vb := voc_b m a1
  have ab := ar_b (voc S a1)
  have F0 := fM_rf [63, 64] S
  unfold gM_writeValue
  refine n_rI (L := 60) m (by decide) rfl (by omega) (by omega) (fun x1 e1 _ _ => ?_)
  refine n_eq (fun c => ?_) (fun c => ?_)
  · have hv : voc S a1 = 0 := by unfold voc; rw [← e1, if_pos (by omega)]
    refine n_cW F0 (wM_head m (by omega)) (by decide) (fun _ S3 m3 F3 _ q3 => ?_)
    exact n_rW m3 F3 (by rw [hv]; rw [L0] at q3; omega)
  · refine n_le (fun c2 => ?_) (fun c2 => ?_)
    · refine n_eq (fun c3 => ?_) (fun c3 => ?_)
      · refine n_rI (L := 60) m (by decide) rfl (by omega) (by omega) (fun x12 e12 l12 u12 => ?_)
        have hv : voc S a1 = x12.toInt := by unfold voc; rw [← e1, if_neg (by omega), if_pos (by omega), if_pos (by omega), e12]
        refine n_cW F0 (wM_head m (by omega)) (by decide) (fun _ S3 m3 F3 _ q3 => ?_)
        rw [hv] at ab p ⊢
        exact wM_writeValue_45 p0 p1 sm_fuel 0 S3 m3 F3 (by omega) (by rw [← e12]; omega) (by rw [← e12]; omega) (by omega) (by simp only [sm_fuel_eq]; omega)
      · refine n_eq (fun c4 => ?_) (fun c4 => ?_)
        · refine n_rI (L := 60) m (by decide) rfl (by omega) (by omega) (fun x9 e9 l9 u9 => ?_)
          have hv : voc S a1 = nmo S 42 ((16 : Int32) * a1) x9 := by unfold voc; rw [← e1, if_neg (by omega), if_pos (by omega), if_neg (by omega), if_pos (by omega), e9]
          rw [hv] at p ⊢
          refine n_cW F0 (wM_names (L := 960) m (by decide) (by decide) (by omega) (by omega) (by omega) (by omega) (by omega) (by omega)) (by decide) (fun _ S3 m3 F3 _ q3 => ?_)
          exact n_rW m3 F3 q3
        · refine n_eq (fun c5 => ?_) (fun c5 => ?_)
          · have hv : voc S a1 = 4 := by unfold voc; rw [← e1, if_neg (by omega), if_pos (by omega), if_neg (by omega), if_neg (by omega), if_pos (by omega)]
            rw [hv] at ab p ⊢
            refine n_cW F0 (wM_head m (by omega)) (by decide) (fun _ S3 m3 F3 _ q3 => ?_)
            rw [L4] at q3
            exact wM_writeValue_121 p0 p1 sm_fuel 3 S3 m3 F3 (by omega) (by omega) (by omega) (by omega) (by simp only [sm_fuel_eq]; omega)
          · refine n_rJ (L := 60) (by decide) (by omega) (by omega) (fun x4 e4 => ?_)
            have hv : voc S a1 = nsz x4 (isL x1) := by
              unfold voc isL
              rw [← e1, if_neg (by omega), if_pos (by omega), if_neg (by omega), if_neg (by omega), if_neg (by omega), ← e4]
              by_cases c7 : x1 = 70
              · rw [if_pos (by rw [c7]; rfl), if_pos c7]
              · rw [if_neg (fun q => c7 (Int32.toInt_inj.mp (by rw [q]; rfl))), if_neg c7]
            rw [hv] at ab p ⊢
            refine n_cW F0 (wM_writeNumber m (by have := nsz_b x4 (isL_b x1); omega)) (by decide) (fun _ S3 m3 F3 _ q3 => ?_)
            exact n_rW m3 F3 q3
    · have hv : voc S a1 = 0 := by unfold voc; rw [← e1, if_neg (by omega), if_neg (by omega)]
      refine n_cW F0 (wM_head m (by omega)) (by decide) (fun _ S3 m3 F3 _ q3 => ?_)
      exact n_rW m3 F3 (by rw [hv]; rw [L0] at q3; omega)
theorem fM_wk {E E' : List Nat} {S S' : MS} (f : fM E S S') (h : ∀ k ∈ E, k ∈ E') : fM E' S S' := fM_tr (fM_rf E' S) f h
set_option maxHeartbeats 4000000 in
theorem wM_write_137 {T : Int} {S0 : MS} {a1 a2 : Int32} (h0 : 0 ≤ a1.toInt) (h1 : 0 ≤ a2.toInt) (h2 : a1.toInt + a2.toInt ≤ 60) (hT : T ≤ 2300) : ∀ (n : Nat) (a3 : Int32) (S : MS), MI S → fM [63, 64] S0 S → 0 ≤ a3.toInt → a3.toInt ≤ a1.toInt + a2.toInt → (S.1 64).toInt + rso S0 a3 (a1.toInt + a2.toInt - a3.toInt).toNat = T → 60 - a3.toInt < (n : Int) → nJ (NW [63, 64, 65] S0 (fun (_ : Unit) (_ : MS) => True)) (gM_write_137 n a1 a2 a3 S) := by
  have i1 : (a1 + a2).toInt = a1.toInt + a2.toInt := i_add (by omega) (by omega)
  intro n
  induction n with
  | zero => intro a3 S m F p0 p1 p2 q; exfalso; omega
  | succ n ih =>
    intro a3 S m F p0 p1 p2 q
    have r64 := mi_f m 64 rfl
    unfold gM_write_137
    refine n_le (fun c => ?_) (fun c => ?_)
    · refine n_let ?_
      refine n_sI (E := [63, 64, 65]) (S0 := S0) m (fM_wk F (by decide)) (by decide) rfl (by omega) (by omega) (fun S2 m2 F2 _ _ _ => ?_)
      exact n_rW m2 F2 trivial
    · have i16 : ((16 : Int32) * a3).toInt = 16 * a3.toInt := i_mul (n := 16) rfl (by omega) (by omega)
      rw [show (a1.toInt + a2.toInt - a3.toInt).toNat = (a1.toInt + a2.toInt - (a3.toInt + 1)).toNat + 1 by omega] at p2
      have p2' : (S.1 64).toInt + (ar (roc S a3) + rso S0 (a3 + 1) (a1.toInt + a2.toInt - (a3.toInt + 1)).toNat) = T := by rw [roc_fr F]; exact p2
      have rb := rso_fr F (a1.toInt + a2.toInt - (a3.toInt + 1)).toNat (a3 + 1)
      have rb2 := rso_b m (a1.toInt + a2.toInt - (a3.toInt + 1)).toNat (a3 + 1)
      have ob := roc_b m a3
      have oa := ar_b (roc S a3)
      refine n_cP (xM_rowOctets m p0 (by omega)) (fun x3 q3 => ?_)
      refine n_cW F (wM_head m (by omega)) (by decide) (fun _ S6 m6 F6 f6 q6 => ?_)
      rw [q3] at q6
      refine n_rI (L := 60) m6 (by decide) rfl (by omega) (by omega) (fun x7 e7 l7 u7 => ?_)
      rw [f6.2.1 37 (by decide)] at e7
      have ro : roc S a3 = ar (nmo S 36 ((16 : Int32) * a3) x7) + ar (voc S a3) := by unfold roc; rw [← e7]
      have vb := ar_b (voc S a3)
      have vb0 := voc_b m a3
      refine n_cW F6 (wM_names (L := 960) m6 (by decide) (by decide) (by omega) (by omega) (by omega) (by omega) (by omega) (by rw [nmo_fr f6 (by decide)]; omega)) (by decide) (fun _ S9 m9 F9 f9 q9 => ?_)
      rw [nmo_fr f6 (by decide)] at q9
      have v9 : voc S9 a3 = voc S a3 := by rw [voc_fr f9, voc_fr f6]
      refine n_cW F9 (wM_writeValue m9 p0 (by omega) (by rw [v9]; omega)) (by decide) (fun _ S11 m11 F11 f11 q11 => ?_)
      rw [v9] at q11
      refine n_letv (fun x12 h12 => ?_)
      have i12 : x12.toInt = a3.toInt + 1 := by rw [h12]; exact i_add1 (by omega)
      refine ih _ _ m11 F11 (by omega) (by omega) ?_ (by omega)
      rw [i12, h12]; omega
set_option maxHeartbeats 4000000 in
theorem wM_write_51 {T : Int} {S0 : MS} {a1 a2 : Int32} (h0 : 0 ≤ a1.toInt) (h1 : 0 ≤ a2.toInt) (h2 : a1.toInt + a2.toInt ≤ 60) (hT : T ≤ 2300) (h3 : (S0.1 50).toInt + (S0.1 51).toInt ≤ 1200) : ∀ (n : Nat) (a3 : Int32) (S : MS), MI S → fM [63, 64] S0 S → 0 ≤ a3.toInt → a3.toInt ≤ (S0.1 51).toInt → (S.1 64).toInt + (S0.1 51).toInt - a3.toInt + ar (boc S0 a1 a2) = T → 1200 - a3.toInt < (n : Int) → nJ (NW [63, 64, 65] S0 (fun (_ : Unit) (_ : MS) => True)) (gM_write_51 n a1 a2 a3 S) := by
  intro n
  induction n with
  | zero =>
    intro a3 S m F p0 p1 p2 q
    exfalso
    have := mi_f m 51 rfl
    rw [F.1 51 (by decide)] at this
    omega
  | succ n ih =>
    intro a3 S m F p0 p1 p2 q
    have r50 := mi_f m 50 rfl
    have r51 := mi_f m 51 rfl
    have r64 := mi_f m 64 rfl
    have q50 : (S.1 50).toInt = (S0.1 50).toInt := by rw [F.1 50 (by decide)]
    have q51 : (S.1 51).toInt = (S0.1 51).toInt := by rw [F.1 51 (by decide)]
    have bb := boc_b m a1 a2 (by omega)
    have be := boc_fr F a1 a2
    have ba := ar_b (boc S0 a1 a2)
    unfold gM_write_51
    refine n_let ?_
    refine n_le (fun c => ?_) (fun c => ?_)
    · have n1 := nsz_b (S.1 53).toInt64 (w := 0) (Or.inl rfl)
      have n2 := nsz_b (S.1 56).toInt64 (w := 0) (Or.inl rfl)
      have n3 := nsz_b (S.1 57).toInt64 (w := 0) (Or.inl rfl)
      have b1 := ar_b (nsz (S.1 53).toInt64 0)
      have b2 := ar_b (nsz (S.1 56).toInt64 0)
      have b3 := ar_b (nsz (S.1 57).toInt64 0)
      have b4 := ar_b (rso S a1 a2.toInt.toNat)
      have b5 := rso_b m a2.toInt.toNat a1
      have bd : boc S a1 a2 = ar (nsz (S.1 53).toInt64 0) + ar (nsz (S.1 56).toInt64 0) + ar (nsz (S.1 57).toInt64 0) + ar (rso S a1 a2.toInt.toNat) := rfl
      refine n_cP (xM_bodyOctets m h0 h1 h2) (fun x2 q2 => ?_)
      refine n_cW F (wM_head m (by omega)) (by decide) (fun _ S5 m5 F5 f5 q5 => ?_)
      rw [q2, be] at q5
      refine n_let ?_
      refine n_cW F5 (wM_writeNumber m5 (by omega)) (by decide) (fun _ S8 m8 F8 f8 q8 => ?_)
      rw [show isL 2 = 0 from rfl, f5.1 53 (by decide)] at q8
      refine n_let ?_
      refine n_cW F8 (wM_writeNumber m8 (by omega)) (by decide) (fun _ S11 m11 F11 f11 q11 => ?_)
      rw [show isL 2 = 0 from rfl, f8.1 56 (by decide), f5.1 56 (by decide)] at q11
      refine n_let ?_
      refine n_cW F11 (wM_writeNumber m11 (by omega)) (by decide) (fun _ S14 m14 F14 f14 q14 => ?_)
      rw [show isL 2 = 0 from rfl, f11.1 57 (by decide), f8.1 57 (by decide), f5.1 57 (by decide)] at q14
      refine n_cP (xM_rowsOctets m14 h0 h1 h2) (fun x15 q15 => ?_)
      rw [rso_fr F14, ← rso_fr F] at q15
      refine n_cW F14 (wM_head m14 (by omega)) (by decide) (fun _ S18 m18 F18 f18 q18 => ?_)
      rw [q15] at q18
      refine wM_write_137 h0 h1 h2 hT sm_fuel a1 S18 m18 F18 h0 (by omega) ?_ (by simp only [sm_fuel_eq]; omega)
      rw [show (a1.toInt + a2.toInt - a1.toInt).toNat = a2.toInt.toNat by omega, ← rso_fr F]
      omega
    · refine n_let ?_
      have i1 : (S.1 50 + a3).toInt = (S.1 50).toInt + a3.toInt := i_add (by omega) (by omega)
      refine n_rI (L := 1200) m (by decide) rfl (by omega) (by omega) (fun x20 _ _ _ => ?_)
      refine n_cW F (wM_put m (by omega)) (by decide) (fun _ S22 m22 F22 f22 q22 => ?_)
      refine n_letv (fun x23 h23 => ?_)
      have i23 : x23.toInt = a3.toInt + 1 := by rw [h23]; exact i_add1 (by omega)
      exact ih _ _ m22 F22 (by omega) (by omega) (by omega) (by omega)
set_option maxHeartbeats 4000000 in
theorem wM_write {a1 a2 : Int32} {S : MS} (m : MI S) (h0 : 0 ≤ a1.toInt) (h1 : 0 ≤ a2.toInt) (h2 : a1.toInt + a2.toInt ≤ 60) (h3 : (S.1 50).toInt + (S.1 51).toInt ≤ 1200) (h4 : aoc S a1 a2 ≤ 1000) : nJ (NW [63, 64, 65] S (fun (_ : Unit) (_ : MS) => True)) (gM_write a1 a2 S) := by
  have L0 : (0 : Int32).toInt = 0 := rfl
  have L3 : (3 : Int32).toInt = 3 := rfl
  unfold gM_write
  refine n_sI m (fM_rf [63, 64] S) (by decide) rfl (by omega) (by omega) (fun S1 m1 F1 v1 g1 e1 => ?_)
  have q64 : (S1.1 64).toInt = 0 := by rw [v1]; rfl
  have q51 : (S1.1 51).toInt = (S.1 51).toInt := by rw [g1 51 (by decide)]
  have q50 : (S1.1 50).toInt = (S.1 50).toInt := by rw [g1 50 (by decide)]
  have be := boc_fr F1 a1 a2
  have bb := boc_b m1 a1 a2 (by omega)
  have r51 := mi_f m1 51 rfl
  have b1 := ar_b (S1.1 51).toInt
  have b2 := ar_b (boc S1 a1 a2)
  have b3 := ar_b (3 + ar (S.1 51).toInt + ar (boc S a1 a2))
  have ao : aoc S a1 a2 = ar (3 + ar (S.1 51).toInt + ar (boc S a1 a2)) := rfl
  rw [q51] at b1
  rw [be] at b2
  refine n_let ?_
  refine n_cP (xM_around (by omega)) (fun x3 q3 => ?_)
  rw [q51] at q3
  refine n_cP (xM_bodyOctets m1 h0 h1 h2) (fun x5 q5 => ?_)
  rw [be] at q5 bb
  refine n_cP (xM_around (by omega)) (fun x7 q7 => ?_)
  rw [q5] at q7
  have i1 : ((3 : Int32) + x3).toInt = (3 : Int32).toInt + x3.toInt := i_add (by omega) (by omega)
  have i2 : ((3 : Int32) + x3 + x7).toInt = ((3 : Int32) + x3).toInt + x7.toInt := i_add (by omega) (by omega)
  have b8 := ar_b ((3 : Int32) + x3 + x7).toInt
  refine n_cW F1 (wM_head m1 (by omega)) (by decide) (fun _ S10 m10 F10 f10 q10 => ?_)
  refine n_let ?_
  refine n_cW F10 (wM_writeNumber m10 (by omega)) (by decide) (fun _ S13 m13 F13 f13 q13 => ?_)
  have nb := nsz_b (S10.1 48).toInt64 (isL_b 2)
  have nb2 := ar_b (nsz (S10.1 48).toInt64 (isL 2))
  refine n_let ?_
  have t51 : (S13.1 51).toInt = (S.1 51).toInt := by rw [F13.1 51 (by decide)]
  have b9 := ar_b (S13.1 51).toInt
  refine n_cW F13 (wM_head m13 (by omega)) (by decide) (fun _ S16 m16 F16 f16 q16 => ?_)
  have q512 := t51
  refine wM_write_51 (T := (S16.1 64).toInt + (S.1 51).toInt - 0 + ar (boc S a1 a2)) h0 h1 h2 (by omega) h3 sm_fuel 0 S16 m16 F16 (by omega) (by omega) (by omega) (by simp only [sm_fuel_eq]; omega)
