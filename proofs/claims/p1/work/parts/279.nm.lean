def EQ : List Nat := [0, 2, 7, 17, 18, 19, 20, 21, 26, 27, 36, 37, 38, 39, 40, 41, 42, 43, 44, 45, 46, 47, 48, 49, 50, 51, 52, 53, 54, 55, 56, 57, 58, 59, 60, 61, 62, 63, 64, 65]
def EG : List Nat := [0, 2, 7, 47, 56, 57, 63, 64, 65]
theorem cM_fr {S S' : MS} (f : fM EG S S') (t : Int) : ∀ n : Nat, cM S' t n = cM S t n
  | 0 => rfl
  | n + 1 => by
    unfold cM mkI
    rw [cM_fr f t n, obN_fr f (by decide) (by decide) (by decide) (by decide) (by decide) (by decide), f.2.1 16 (by decide), f.2.1 15 (by decide), f.2.1 38 (by decide), f.2.2.1 39 (by decide)]
theorem good_fr {S S' : MS} (f : fM EG S S') {q : Nat} (g : good S q) : good S' q := by
  unfold good gp at g ⊢
  rw [obN_fr f (by decide) (by decide) (by decide) (by decide) (by decide) (by decide), f.2.1 38 (by decide), f.2.1 11 (by decide), f.2.1 15 (by decide), f.2.2.1 36 (by decide), f.2.1 10 (by decide), f.2.1 16 (by decide), f.2.2.1 39 (by decide), f.2.1 26 (by decide)]
  simp only [cM_fr f]
  exact g
def QB (S : MS) : Prop := (S.1 2).toInt = 0 ∧ 0 ≤ (S.1 49).toInt ∧ (S.1 50).toInt + (S.1 51).toInt ≤ 1200 ∧ JJ S
theorem QB_fr {E : List Nat} {S S' : MS} (f : fM E S S') (h2 : 2 ∉ E) (h49 : 49 ∉ E) (h50 : 50 ∉ E) (h51 : 51 ∉ E) (h8 : 8 ∉ E) (h11 : 11 ∉ E) (h15 : 15 ∉ E) (h16 : 16 ∉ E) (q : QB S) : QB S' := by
  unfold QB
  rw [f.1 2 h2, f.1 49 h49, f.1 50 h50, f.1 51 h51]
  exact ⟨q.1, q.2.1, q.2.2.1, jj_fr f h8 h11 h15 h16 q.2.2.2⟩
section QU
variable {S0 : MS}
set_option maxHeartbeats 4000000 in
theorem qM_315 {S : MS} (m : MI S) (F : fM EQ S0 S) (z : (S.1 2).toInt = 0) : nJ (NW EQ S0 (fun (_ : Int32) (S' : MS) => (S'.1 2).toInt = 0)) (gM_question_315 S) := by
  unfold gM_question_315
  refine n_rI (L := 8) m (by decide) rfl (by decide) (by decide) (fun x1 _ _ _ => ?_)
  refine n_wI (L := 8) m F (by decide) (by decide) (by decide) rfl (by decide) (by decide) (i_lo _) (i_hi _) (fun S2 m2 F2 g2 _ _ => ?_)
  refine n_rI (L := 8) m2 (by decide) rfl (by decide) (by decide) (fun x3 _ _ _ => ?_)
  refine n_let ?_
  refine n_if (fun _ => ?_) (fun _ => ?_)
  · refine n_wI (L := 8) m2 F2 (by decide) (by decide) (by decide) rfl (by decide) (by decide) (i_lo _) (i_hi _) (fun S5 m5 F5 g5 _ _ => ?_)
    refine n_let ?_
    exact n_rW m5 F5 (by rw [g5, g2]; exact z)
  · refine n_wI (L := 8) m2 F2 (by decide) (by decide) (by decide) rfl (by decide) (by decide) (i_lo _) (i_hi _) (fun S5 m5 F5 g5 _ _ => ?_)
    refine n_let ?_
    exact n_rW m5 F5 (by rw [g5, g2]; exact z)
set_option maxHeartbeats 4000000 in
theorem qM_257 {S : MS} {a2 : Int32} (m : MI S) (F : fM EQ S0 S) (B : QB S) (p0 : 0 ≤ a2.toInt) (p1 : a2.toInt ≤ 20) (hC : (S.1 52).toInt = 163 → (S.1 56).toInt = 0 → ∀ q : Nat, (q : Int) < (S.1 46).toInt → good S q) : nJ (NW EQ S0 (fun (_ : Int32) (S' : MS) => (S'.1 2).toInt = 0)) (gM_question_257 a2 S) := by
  have L0 : (0 : Int32).toInt = 0 := rfl
  have L163 : (163 : Int32).toInt = 163 := rfl
  have r47 := mi_f m 47 rfl
  have r5 := mi_f m 5 rfl
  unfold gM_question_257
  refine n_let ?_
  refine n_cP (xM_allOctets m p0 (by omega) (by omega)) (fun x2 q2 => ?_)
  refine n_let ?_
  refine n_le (fun c => ?_) (fun c => ?_)
  · refine n_let ?_
    refine n_cW F (wM_write m p0 (by omega) (by omega) B.2.2.1 (by omega)) (by decide) (fun _ S7 m7 F7 f7 _ => ?_)
    have B7 := QB_fr f7 (by decide) (by decide) (by decide) (by decide) (by decide) (by decide) (by decide) (by decide) B
    refine n_let ?_
    refine n_eq (fun c2 => ?_) (fun c2 => ?_)
    · refine n_let ?_
      refine n_eq (fun c3 => ?_) (fun c3 => ?_)
      · have e52 : (S7.1 52).toInt = (S.1 52).toInt := by rw [f7.1 52 (by decide)]
        have e56 : (S7.1 56).toInt = (S.1 56).toInt := by rw [f7.1 56 (by decide)]
        have hg := hC (by omega) (by omega)
        refine n_cW F7 (cM_carryOut m7 B7.2.2.2 (fun q hq => good_fr (fM_wk f7 (by decide)) (hg q (by rw [f7.1 46 (by decide)] at hq; exact hq)))) (by decide) (fun _ S11 m11 F11 f11 _ => ?_)
        exact qM_315 m11 F11 (by rw [f11.1 2 (by decide)]; exact B7.1)
      · exact qM_315 m7 F7 B7.1
    · exact qM_315 m7 F7 B7.1
  · refine n_rI (L := 8) m (by decide) rfl (by decide) (by decide) (fun x12 _ _ _ => ?_)
    refine n_wI (L := 8) m F (by decide) (by decide) (by decide) rfl (by decide) (by decide) (i_lo _) (i_hi _) (fun S13 m13 F13 g13 _ _ => ?_)
    exact n_rW m13 F13 (by rw [g13]; exact B.1)
set_option maxHeartbeats 4000000 in
theorem qM_189 {S : MS} {a2 : Int32} (m : MI S) (F : fM EQ S0 S) (B : QB S) (p0 : 0 ≤ a2.toInt) (p1 : a2.toInt ≤ 20) (hC : (S.1 52).toInt = 163 → (S.1 56).toInt = 0 → ∀ q : Nat, (q : Int) < (S.1 46).toInt → good S q) : nJ (NW EQ S0 (fun (_ : Int32) (S' : MS) => (S'.1 2).toInt = 0)) (gM_question_189 a2 S) := by
  have L0 : (0 : Int32).toInt = 0 := rfl
  have L1 : (1 : Int32).toInt = 1 := rfl
  have r47 := mi_f m 47 rfl
  have r46 := mi_f m 46 rfl
  have st : ∀ {S1 S2 : MS} {k : Nat} (f : fM [k] S1 S2), k ∈ [47, 56, 57] → QB S1 → QB S2 := by
    intro S1 S2 k f hk b
    have hk3 : k = 47 ∨ k = 56 ∨ k = 57 := by simpa using hk
    exact QB_fr f (by simp; omega) (by simp; omega) (by simp; omega) (by simp; omega) (by simp; omega) (by simp; omega) (by simp; omega) (by simp; omega) b
  unfold gM_question_189
  refine n_let ?_
  refine n_le (fun c => ?_) (fun c => ?_)
  · refine n_let ?_
    refine n_cP (xM_allOctets m p0 (by omega) (by omega)) (fun x3 q3 => ?_)
    refine n_let ?_
    refine n_le (fun c2 => ?_) (fun c2 => ?_)
    · exact qM_257 m F B p0 p1 hC
    · refine n_sI m (fM_rf [56] S) (by decide) rfl (i_lo _) (i_hi _) (fun S6 m6 f6 v6 g6 _ => ?_)
      refine n_sI m6 (fM_rf [57] S6) (by decide) rfl (i_lo _) (i_hi _) (fun S7 m7 f7 v7 g7 _ => ?_)
      have B7 := st f7 (by decide) (st f6 (by decide) B)
      have F7 := fM_tr (fM_tr F f6 (by decide)) f7 (by decide)
      have e56 : (S7.1 56).toInt = 1 := by rw [g7 56 (by decide), v6]; rfl
      have r46' := mi_f m7 46 rfl
      refine n_let ?_
      refine n_if (fun _ => ?_) (fun _ => ?_)
      · refine n_sI m7 (fM_rf [47] S7) (by decide) rfl (by omega) (by omega) (fun S11 m11 f11 _ g11 _ => ?_)
        exact qM_257 m11 (fM_tr F7 f11 (by decide)) (st f11 (by decide) B7) (by omega) (by omega) (fun _ z => by rw [g11 56 (by decide)] at z; exfalso; omega)
      · refine n_let ?_
        refine n_sI m7 (fM_rf [47] S7) (by decide) rfl (by omega) (by omega) (fun S11 m11 f11 _ g11 _ => ?_)
        exact qM_257 m11 (fM_tr F7 f11 (by decide)) (st f11 (by decide) B7) (by omega) (by omega) (fun _ z => by rw [g11 56 (by decide)] at z; exfalso; omega)
  · refine n_let ?_
    refine n_sI m (fM_rf [47] S) (by decide) rfl (by omega) (by omega) (fun S13 m13 f13 _ g13 _ => ?_)
    exact qM_257 m13 (fM_tr F f13 (by decide)) (st f13 (by decide) B) (by omega) (by omega) (fun _ z => by rw [g13 56 (by decide)] at z; exfalso; omega)
set_option maxHeartbeats 4000000 in
theorem qM_156 {a2 : Int32} (p0 : 0 ≤ a2.toInt) (p1 : a2.toInt ≤ 20) : ∀ (n : Nat) (a3 : Int32) (S : MS), MI S → fM EQ S0 S → QB S → 0 ≤ a3.toInt → a3.toInt ≤ 20 → ((S.1 56).toInt = 0 → ∀ q : Nat, (q : Int) < a3.toInt → good S q) → 20 - a3.toInt < (n : Int) → nJ (NW EQ S0 (fun (_ : Int32) (S' : MS) => (S'.1 2).toInt = 0)) (gM_question_156 n a2 a3 S) := by
  have L0 : (0 : Int32).toInt = 0 := rfl
  intro n
  induction n with
  | zero => intro a3 S m F B h0 h1 hg q; exfalso; omega
  | succ n ih =>
    intro a3 S m F B h0 h1 hg q
    have r46 := mi_f m 46 rfl
    unfold gM_question_156
    refine n_let ?_
    refine n_le (fun c => ?_) (fun c => ?_)
    · exact qM_189 m F B p0 p1 (fun _ z q hq => hg z q (by omega))
    · refine n_let ?_
      refine n_eq (fun c2 => ?_) (fun c2 => ?_)
      · refine n_cW F (cM_check m h0 (by omega) B.2.1) (by decide) (fun _ S4 m4 F4 f4 q4 => ?_)
        refine n_letv (fun x5 h5 => ?_)
        have i5 : x5.toInt = a3.toInt + 1 := by rw [h5]; exact i_add1 (by omega)
        refine ih x5 S4 m4 F4 (QB_fr f4 (by decide) (by decide) (by decide) (by decide) (by decide) (by decide) (by decide) (by decide) B) (by omega) (by omega) (fun z q' hq' => ?_) (by omega)
        have fe := fM_wk (E' := EG) f4 (by decide)
        rcases Int.lt_or_le (q' : Int) a3.toInt with hh | hh
        · exact good_fr fe (hg (by omega) q' hh)
        · rcases q4 with q4 | q4
          · exact absurd z q4
          · have : q' = a3.toInt.toNat := by omega
            rw [this]; exact good_fr fe q4
      · exact qM_189 m F B p0 p1 (fun _ z => by exfalso; omega)
end QU
set_option maxHeartbeats 4000000 in
theorem nM_question {S : MS} (mS : MI S) (j : JJ S) : nJ (NW EQ S (fun (_ : Int32) (S' : MS) => (S'.1 2).toInt = 0)) (gM_question S) := by
  have L0 : (0 : Int32).toInt = 0 := rfl
  have L20 : (20 : Int32).toInt = 20 := rfl
  have L163 : (163 : Int32).toInt = 163 := rfl
  have L165 : (165 : Int32).toInt = 165 := rfl
  have r2 := mi_f mS 2 rfl
  unfold gM_question
  refine n_sI mS (fM_rf EQ S) (by decide) rfl (i_lo _) (i_hi _) (fun S1 m1 F1 v1 g1 e1 => ?_)
  have j1 := jj_sI (g1 8 (by decide)) e1 j
  refine n_let ?_
  have q2 : (S1.1 2).toInt = (S.1 2).toInt := by rw [g1 2 (by decide)]
  refine n_sI m1 F1 (by decide) rfl (by omega) (by omega) (fun S3 m3 F3 v3 g3 e3 => ?_)
  have j3 := jj_sI (g3 8 (by decide)) e3 j1
  have z3 : (S3.1 2).toInt = 0 := by rw [v3]; rfl
  refine n_sI m3 F3 (by decide) rfl (by omega) (by omega) (fun S4 m4 F4 v4 g4 e4 => ?_)
  have j4 := jj_sI (g4 8 (by decide)) e4 j3
  have z4 : (S4.1 2).toInt = 0 := by rw [g4 2 (by decide)]; exact z3
  refine n_cW F4 (nM_readAll m4 (by omega) (by omega)) (by decide) (fun _ S6 m6 F6 f6 q6 => ?_)
  have j6 := jj_fr f6 (by decide) (by decide) (by decide) (by decide) j4
  have z6 : (S6.1 2).toInt = 0 := by rw [f6.1 2 (by decide)]; exact z4
  have r45 := mi_f m6 45 rfl
  refine n_let ?_
  refine n_eq (fun c => ?_) (fun c => ?_)
  · have B6 : QB S6 := by
      rcases q6 with q6 | q6
      · exfalso; omega
      · exact ⟨z6, q6.1, q6.2.2, j6⟩
    have st : ∀ {S1 S2 : MS} {k : Nat} (f : fM [k] S1 S2), k ∈ [47, 56, 57, 7] → QB S1 → QB S2 := by
      intro S1 S2 k f hk b
      have hk3 : k = 47 ∨ k = 56 ∨ k = 57 ∨ k = 7 := by simpa using hk
      exact QB_fr f (by simp; omega) (by simp; omega) (by simp; omega) (by simp; omega) (by simp; omega) (by simp; omega) (by simp; omega) (by simp; omega) b
    refine n_sI m6 (fM_rf [56] S6) (by decide) rfl (i_lo _) (i_hi _) (fun S8 m8 f8 v8 g8 _ => ?_)
    refine n_sI m8 (fM_rf [57] S8) (by decide) rfl (i_lo _) (i_hi _) (fun S9 m9 f9 v9 g9 _ => ?_)
    refine n_sI m9 (fM_rf [47] S9) (by decide) rfl (by omega) (by omega) (fun S10 m10 f10 v10 g10 _ => ?_)
    have B10 := st f10 (by decide) (st f9 (by decide) (st f8 (by decide) B6))
    have F10 := fM_tr (fM_tr (fM_tr F6 f8 (by decide)) f9 (by decide)) f10 (by decide)
    refine n_let ?_
    refine n_eq (fun c2 => ?_) (fun c2 => ?_)
    · refine n_cW F10 (nM_many m10 B10.2.1) (by decide) (fun _ S22 m22 F22 f22 _ => ?_)
      have e52 : (S22.1 52).toInt = (S10.1 52).toInt := by rw [f22.1 52 (by decide)]
      exact qM_189 m22 F22 (QB_fr f22 (by decide) (by decide) (by decide) (by decide) (by decide) (by decide) (by decide) (by decide) B10) (by omega) (by omega) (fun z => by exfalso; omega)
    · refine n_let ?_
      refine n_eq (fun c3 => ?_) (fun c3 => ?_)
      · refine n_let ?_
        have r46 := mi_f m10 46 rfl
        refine n_sI m10 (fM_rf [47] S10) (by decide) rfl (by omega) (by omega) (fun S16 m16 f16 v16 g16 _ => ?_)
        have B16 := st f16 (by decide) B10
        have F16 := fM_tr F10 f16 (by decide)
        have r49 := mi_f m16 49 rfl
        have b49 := B16.2.1
        have go : nJ (NW EQ S (fun (_ : Int32) (S' : MS) => (S'.1 2).toInt = 0)) (gM_question_156 sm_fuel 0 0 S16) := qM_156 (by omega) (by omega) sm_fuel 0 S16 m16 F16 B16 (by omega) (by omega) (fun _ q hq => by exfalso; omega) (by simp only [sm_fuel_eq]; omega)
        have b136 : ∀ s0 : Int32, s0.toInt ≠ 0 → nJ (NW EQ S (fun (_ : Int32) (S' : MS) => (S'.1 2).toInt = 0)) (gM_question_136 0 s0 S16) := by
          intro s0 hs
          unfold gM_question_136
          refine n_sI m16 (fM_rf [56] S16) (by decide) rfl (i_lo _) (i_hi _) (fun S17 m17 f17 v17 g17 _ => ?_)
          refine n_sI m17 (fM_rf [57] S17) (by decide) rfl (i_lo _) (i_hi _) (fun S18 m18 f18 v18 g18 _ => ?_)
          refine n_rI (L := 8) m18 (by decide) rfl (by decide) (by decide) (fun x3 _ _ _ => ?_)
          refine n_wI (L := 8) m18 (fM_rf [7] S18) (by decide) (by decide) (by decide) rfl (by decide) (by decide) (i_lo _) (i_hi _) (fun S19 m19 f19 g19 _ _ => ?_)
          have e56 : (S19.1 56).toInt = s0.toInt := by rw [g19, g18 56 (by decide), v17]
          exact qM_156 (by omega) (by omega) sm_fuel 0 S19 m19 (fM_tr (fM_tr (fM_tr F16 f17 (by decide)) f18 (by decide)) f19 (by decide)) (st f19 (by decide) (st f18 (by decide) (st f17 (by decide) B16))) (by omega) (by omega) (fun z => by exfalso; omega) (by simp only [sm_fuel_eq]; omega)
        refine n_let ?_
        refine n_rI (L := 8) m16 (by decide) rfl (by omega) (by omega) (fun x18 _ _ _ => ?_)
        refine n_if (fun _ => ?_) (fun _ => go)
        refine n_let ?_
        refine n_if (fun _ => go) (fun _ => ?_)
        refine n_let ?_
        exact n_if (fun _ => b136 6 (by decide)) (fun _ => b136 2 (by decide))
      · refine n_cW F10 (nM_find m10 B10.2.1) (by decide) (fun _ S14 m14 F14 f14 _ => ?_)
        have e52 : (S14.1 52).toInt = (S10.1 52).toInt := by rw [f14.1 52 (by decide)]
        exact qM_189 m14 F14 (QB_fr f14 (by decide) (by decide) (by decide) (by decide) (by decide) (by decide) (by decide) (by decide) B10) (by omega) (by omega) (fun z => by exfalso; omega)
  · refine n_let ?_
    refine n_rI (L := 8) m6 (by decide) rfl (by omega) (by omega) (fun x24 _ _ _ => ?_)
    refine n_wI (L := 8) m6 F6 (by decide) (by decide) (by decide) rfl (by omega) (by omega) (i_lo _) (i_hi _) (fun S25 m25 F25 g25 _ _ => ?_)
    exact n_rW m25 F25 (by rw [g25]; exact z6)
theorem jj_of {Rt : Type} {X : Option (Rt × MS)} {S' : MS} {r : Rt} (c : nJ (fun (_ : Rt) (S' : MS) => JJ S') X) (e : X = some (r, S')) : JJ S' := by
  obtain ⟨r2, S2, e2, q⟩ := c
  rw [e] at e2
  cases e2
  exact q
theorem jj_scalar {a1 a2 : Int32} {a3 a5 : Int64} {S S' : MS} {r : Int32} (mS : MI S) (j : JJ S) (e : gM_scalar a1 a2 a3 a5 S = some (r, S')) : JJ S' := jj_of (jM_scalar mS j) e
theorem jj_column {a1 a2 a3 a4 : Int32} {a5 a7 : Int64} {S S' : MS} {r : Int32} (mS : MI S) (j : JJ S) (e : gM_column a1 a2 a3 a4 a5 a7 S = some (r, S')) : JJ S' := jj_of (jM_column mS j) e
theorem jj_status {a1 a2 : Int32} {S S' : MS} {r : Int32} (mS : MI S) (j : JJ S) (e : gM_status a1 a2 S = some (r, S')) : JJ S' := jj_of (jM_status mS j) e
