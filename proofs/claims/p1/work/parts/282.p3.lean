-- p3: the name at hand
def mst (hs : Int) : Int := if hs = 0 then 2 else if hs = 1 then 39 else 4294967295
def numQ (hs v r hs' : Int) : Prop := (v = -1 ∧ r = 0 ∧ hs' = 0) ∨ (v ≠ -1 ∧ (v < 0 ∨ mst hs < v) ∧ r = -2 ∧ hs' = hs) ∨ (0 ≤ v ∧ v ≤ mst hs ∧ hs = 16 ∧ r = -4 ∧ hs' = hs) ∨ (0 ≤ v ∧ v ≤ mst hs ∧ hs ≤ 15 ∧ r = hs + 1 ∧ hs' = hs + 1)
theorem num_eq {t n r1 t1 r2 t2 : Int} (h1 : numQ t n r1 t1) (h2 : numQ t n r2 t2) : r1 = r2 ∧ t1 = t2 := by
  unfold numQ at h1 h2
  omega
section HH
variable {G : GT} {h : sm_H} {a0 tp it : Nat} {ts : Int32}
theorem hz_end {R : Int32 → sm_H → GT → Prop} {x1 : Int32} {h2 : sm_H} {G2 : GT} (W2 : Wf G2 h2) (ta : tG G2 a0 12 0) (tt : tG G2 tp 1 2) (q : CH 1 h2 a0 tp it ts) (hR : ∀ h', CH 1 h' a0 tp it 0 → R x1 h' G2) : kJ R ((sm_R (sm_get h2 (some a0) 11 1)).bind fun x3 => (sm_obj h2 x3 0).bind fun b5 => sm_cb (fX0_clear b5 h2) fun _ h4 => some (x1, h4)) := by
  refine k_kR q.1 ?_
  refine k_obj W2 tt (by decide) ?_
  refine kc_of (ch_cl (ts := 0) W2 tt q.2.1) (fun _ h4 _ c4 => ?_)
  exact k_rR (hR _ (CH_cl W2 ta q c4.1 c4.2.1 c4.2.2))
theorem hz_W {E : List (Nat × Nat)} {X : Nat → sm_H → Option (Int32 × sm_H)} {Q : Int32 → sm_H → Prop} (W : Wf G h) (ta : tG G a0 12 0) (tt : tG G tp 1 2) (q : CH 1 h a0 tp it ts) (c : kJ (RW E G h Q) (X a0 h)) (h12 : (12, 0) ∉ E) (h1 : (1, 2) ∉ E) : kJ (fun (_ : Int32) h' _ => CH 1 h' a0 tp it 0) ((sm_obj h (some a0) 11).bind fun b6 => sm_cb (X b6 h) fun x1 h2 => (sm_R (sm_get h2 (some a0) 11 1)).bind fun x3 => (sm_obj h2 x3 0).bind fun b5 => sm_cb (fX0_clear b5 h2) fun _ h4 => some (x1, h4)) := by
  refine k_obj W ta (by decide) ?_
  refine kc_of c (fun x1 h2 G2 c2 => ?_)
  obtain ⟨rfl, f2, _⟩ := c2
  exact hz_end f2.1 ta tt (CH_fr (fE_f f2) W ta tt h12 h1 q) (fun _ z => z)
theorem hz_A {E : List (Nat × Nat)} {M1 M2 : Nat} {X : Nat → sm_H → Option (Int32 × sm_H)} {Q : GT → Int32 → sm_H → Prop} (W : Wf G h) (ta : tG G a0 12 0) (tt : tG G tp 1 2) (q : CH 1 h a0 tp it ts) (c : kJ (RA h.1 h.1 E M1 M2 G h Q) (X a0 h)) (h12 : (12, 0) ∉ E) (h1 : (1, 2) ∉ E) : kJ (fun (_ : Int32) h' _ => CH 1 h' a0 tp it 0) ((sm_obj h (some a0) 11).bind fun b6 => sm_cb (X b6 h) fun x1 h2 => (sm_R (sm_get h2 (some a0) 11 1)).bind fun x3 => (sm_obj h2 x3 0).bind fun b5 => sm_cb (fX0_clear b5 h2) fun _ h4 => some (x1, h4)) := by
  refine k_obj W ta (by decide) ?_
  refine kc_of c (fun x1 h2 G2 c2 => ?_)
  obtain ⟨⟨W2, s2, -, -, g2, f2⟩, _⟩ := c2
  have la := tG_lt W ta (by decide)
  have lt := tG_lt W tt (by decide)
  have ta2 : tG G2 a0 12 0 := by unfold tG; rw [g2 a0 la (Nat.ne_of_lt la)]; exact ta
  have tt2 : tG G2 tp 1 2 := by unfold tG; rw [g2 tp lt (Nat.ne_of_lt lt)]; exact tt
  exact hz_end W2 ta2 tt2 (CH_fr (fun b hb z => f2 b hb (Nat.ne_of_lt hb) z) W ta tt h12 h1 q) (fun _ z => z)
theorem hz_scalar {a1 a2 : Int32} {a3 a5 : Int64} (W : Wf G h) (ta : tG G a0 12 0) (tt : tG G tp 1 2) (q : CH 1 h a0 tp it ts) : kJ (fun (_ : Int32) h' _ => CH 1 h' a0 tp it 0) (fX11_scalar a0 a1 a2 a3 a5 h) := by
  unfold fX11_scalar
  exact hz_A (X := fun b h => fX11_newScalar b a1 a2 a3 a5 h) W ta tt q (kX11_newScalar W ta) (by simp) (by simp)
theorem hz_table (W : Wf G h) (ta : tG G a0 12 0) (tt : tG G tp 1 2) (q : CH 1 h a0 tp it ts) : kJ (fun (_ : Int32) h' _ => CH 1 h' a0 tp it 0) (fX11_table a0 h) := by
  unfold fX11_table
  exact hz_A (X := fun b h => fX11_newTable b h) W ta tt q (kX11_newTable W ta) (by simp) (by simp)
theorem hz_identity {a1 a2 : Int32} (W : Wf G h) (ta : tG G a0 12 0) (tt : tG G tp 1 2) (q : CH 1 h a0 tp it ts) : kJ (fun (_ : Int32) h' _ => CH 1 h' a0 tp it 0) (fX11_identity a0 a1 a2 h) := by
  unfold fX11_identity
  exact hz_W (X := fun b h => fX11_becomeName b a1 a2 h) W ta tt q (kX11_becomeName W ta) (by simp) (by simp)
theorem hz_view {a1 a2 : Int32} (W : Wf G h) (ta : tG G a0 12 0) (tt : tG G tp 1 2) (p : a2 = 0 ∨ a2 = 1) (q : CH 1 h a0 tp it ts) : kJ (fun (_ : Int32) h' _ => CH 1 h' a0 tp it 0) (fX11_view a0 a1 a2 h) := by
  unfold fX11_view
  exact hz_A (X := fun b h => fX11_newView b a1 a2 h) W ta tt q (kX11_newView W ta p) (by simp) (by simp)
-- community keeps the name at hand
set_option maxHeartbeats 4000000 in
theorem hk_community {a1 : Int32} (W : Wf G h) (ta : tG G a0 12 0) (tt : tG G tp 1 2) (p : a1 = 0 ∨ a1 = 1) (q : CH 1 h a0 tp it ts) : kJ (fun (_ : Int32) h' _ => CH 1 h' a0 tp it ts) (fX11_community a0 a1 h) := by
  unfold fX11_community
  refine k_obj W ta (by decide) ?_
  refine kc_of (kt1X11_newCommunity W ta p tt q.1) (fun x1 h2 G2 c2 => ?_)
  obtain ⟨⟨W2, s2, -, -, g2, f2⟩, e2⟩ := c2
  have la := tG_lt W ta (by decide)
  have lt := tG_lt W tt (by decide)
  have ta2 : tG G2 a0 12 0 := by unfold tG; rw [g2 a0 la (Nat.ne_of_lt la)]; exact ta
  have tt2 : tG G2 tp 1 2 := by unfold tG; rw [g2 tp lt (Nat.ne_of_lt lt)]; exact tt
  have fp := f2 tp lt (Nat.ne_of_lt lt) (by rw [tt.1, tt.2]; simp)
  have q2 : CH 1 h2 a0 tp it ts := ⟨e2, kg_fr fp q.2.1, kg_fr fp q.2.2⟩
  refine k_gR (r' := 1) W2 ta2 (by decide) rfl rfl (fun x3 e3 t3 => ?_)
  refine k_obj W2 t3 (by decide) ?_
  refine kc_of (kX0_clear W2 t3) (fun _ h4 G4 c4 => ?_)
  obtain ⟨rfl, f4, _⟩ := c4
  exact k_rR (G' := G4) (CH_fr (fE_f f4) W2 ta2 tt2 (by simp) (by simp) q2)
set_option maxHeartbeats 4000000 in
theorem hz_number {a1 : Int64} (W : Wf G h) (ta : tG G a0 12 0) (tt : tG G tp 1 2) (ti : tG G it 21 2) (hl : (G it).2.1 = 16) (q : CH 1 h a0 tp it ts) (h0 : 0 ≤ ts.toInt) (h1 : ts.toInt ≤ 16) : kJ (fun (r : Int32) h' _ => ∃ ts', CH 1 h' a0 tp it ts' ∧ numQ ts.toInt a1.toInt r.toInt ts'.toInt) (fX11_number a0 a1 h) := by
  have L0 : (0 : Int32).toInt = 0 := rfl
  have L1 : (1 : Int32).toInt = 1 := rfl
  have Lm2 : (-2 : Int32).toInt = -2 := rfl
  have Lm4 : (-4 : Int32).toInt = -4 := rfl
  have J0 : (0 : Int64).toInt = 0 := rfl
  have Jm : (-1 : Int64).toInt = -1 := rfl
  unfold fX11_number
  refine k_if (fun c => ?_) (fun c => ?_)
  · have c' : a1.toInt = -1 := by rw [(lg_cmp_0 _ _).mp c]; rfl
    refine k_kR q.1 ?_
    refine k_obj W tt (by decide) ?_
    refine kc_of (ch_cl (ts := 0) W tt q.2.1) (fun _ h7 _ c7 => ?_)
    exact k_rR (G' := G) ⟨0, CH_cl W ta q c7.1 c7.2.1 c7.2.2, Or.inl ⟨c', by omega, by omega⟩⟩
  · have c' : a1.toInt ≠ -1 := fun e => c ((lg_cmp_0 _ _).mpr (Int64.toInt_inj.mp (by rw [e]; rfl)))
    refine k_l1 (fun c2 => ?_) (fun c2 => ?_)
    · exact k_rR (G' := G) ⟨ts, q, Or.inr (Or.inl ⟨c', Or.inl (by omega), by omega, rfl⟩)⟩
    · refine k_kR q.1 ?_
      refine k_obj W tt (by decide) ?_
      refine kc_of (sz_ex q.2.2) (fun r h' _ cc => ?_)
      obtain ⟨rfl, rfl⟩ := cc
      have mx : kJ (fun (x : Int64) h'' _ => h'' = h' ∧ x.toInt = mst r.toInt) (fX11_mostNumberAt r h') := by
        unfold fX11_mostNumberAt mst
        refine k_if (fun d => ?_) (fun d => ?_)
        · exact k_rR (G' := G) ⟨rfl, by rw [if_pos (by rw [d]; rfl)]; rfl⟩
        · refine k_if (fun d2 => ?_) (fun d2 => ?_)
          · exact k_rR (G' := G) ⟨rfl, by rw [if_neg (fun e => d (Int32.toInt_inj.mp (by rw [e]; rfl))), if_pos (by rw [d2]; rfl)]; rfl⟩
          · exact k_rR (G' := G) ⟨rfl, by rw [if_neg (fun e => d (Int32.toInt_inj.mp (by rw [e]; rfl))), if_neg (fun e => d2 (Int32.toInt_inj.mp (by rw [e]; rfl)))]; rfl⟩
      refine kc_of mx (fun x4 h5 _ c5 => ?_)
      obtain ⟨rfl, e4⟩ := c5
      refine k_l2 (fun c3 => ?_) (fun c3 => ?_)
      · refine k_kR q.1 ?_
        refine k_obj W tt (by decide) ?_
        by_cases hf : r.toInt ≤ 15
        · refine kc_of (ch_ad W tt ti q.2.1 q.2.2 h0 (by omega)) (fun x7 h8 _ c8 => ?_)
          obtain ⟨rfl, f, e0, e1⟩ := c8
          have q8 : CH 1 h8 a0 tp it (r + 1) := ⟨kg_fr (f.2.2.2 a0 (by rw [ta.1, ta.2]; simp)) q.1, e0, e1⟩
          rw [if_neg (by decide)]
          refine k_kR q8.1 ?_
          refine k_obj f.1 tt (by decide) ?_
          refine kc_of (sz_ex q8.2.2) (fun r2 h9 _ c9 => ?_)
          obtain ⟨rfl, rfl⟩ := c9
          have i1 : (r + 1).toInt = r.toInt + 1 := i_add1 (by omega)
          exact k_rR (G' := G) ⟨_, q8, Or.inr (Or.inr (Or.inr ⟨by omega, by omega, hf, by omega, by omega⟩))⟩
        · have full : kJ (fun (x : Int32) h'' _ => x = 0 ∧ h'' = h5) (fX0_add tp a1 h5) := by
            unfold fX0_add
            refine k_kI q.2.2 ?_
            refine k_lt (fun d => ?_) (fun d => ?_)
            · exact k_rR (G' := G) ⟨rfl, rfl⟩
            · refine k_kI q.2.2 ?_
              refine k_kR q.2.1 ?_
              refine k_len (B := 1200) W ti rfl (fun x l u => ?_)
              refine k_lt (fun d2 => ?_) (fun d2 => ?_)
              · exfalso; omega
              · exact k_rR (G' := G) ⟨rfl, rfl⟩
          refine kc_of full (fun x7 h8 _ c8 => ?_)
          obtain ⟨rfl, rfl⟩ := c8
          rw [if_pos rfl]
          exact k_rR (G' := G) ⟨r, q, Or.inr (Or.inr (Or.inl ⟨by omega, by omega, by omega, by omega, rfl⟩))⟩
      · exact k_rR (G' := G) ⟨r, q, Or.inr (Or.inl ⟨c', Or.inr (by omega), by omega, rfl⟩)⟩
end HH
set_option maxHeartbeats 4000000 in
theorem nM_numberQ {a1 : Int64} {S : MS} (mS : MI S) : nJ (NW [0, 3, 4] S (fun (r : Int32) (S' : MS) => numQ (S.1 4).toInt a1.toInt r.toInt (S'.1 4).toInt)) (gM_number a1 S) := by
  have L0 : (0 : Int32).toInt = 0 := rfl
  have L1 : (1 : Int32).toInt = 1 := rfl
  have L16 : (16 : Int32).toInt = 16 := rfl
  have Lm2 : (-2 : Int32).toInt = -2 := rfl
  have Lm4 : (-4 : Int32).toInt = -4 := rfl
  have J0 : (0 : Int64).toInt = 0 := rfl
  have Jm : (-1 : Int64).toInt = -1 := rfl
  have r4 := mi_f mS 4 rfl
  unfold gM_number
  refine n_sI mS (fM_rf [0, 3, 4] S) (by decide) rfl (i_lo _) (i_hi _) (fun S1 m1 F1 v1 g1 e1 => ?_)
  have q4 : (S1.1 4).toInt = (S.1 4).toInt := by rw [g1 4 (by decide)]
  refine n_l0 (fun c => ?_) (fun c => ?_)
  · refine n_sI m1 F1 (by decide) rfl (by omega) (by omega) (fun S4 m4 F4 v4 g4 e4 => ?_)
    exact n_rW m4 F4 (Or.inl ⟨by omega, by omega, by rw [v4]; omega⟩)
  · have b50 : ∀ s0 : Int64, s0.toInt = mst (S.1 4).toInt → nJ (NW [0, 3, 4] S (fun (r : Int32) (S' : MS) => numQ (S.1 4).toInt a1.toInt r.toInt (S'.1 4).toInt)) (gM_number_50 a1 s0 S1) := by
      intro s0 hs
      unfold gM_number_50
      refine n_cP (nM_in m1) (fun x1 q1 => ?_)
      refine n_eq (fun c2 => ?_) (fun c2 => ?_)
      · exact n_rW m1 F1 (Or.inr (Or.inl ⟨by omega, by omega, by omega, q4⟩))
      · refine n_let ?_
        refine n_eq (fun c3 => ?_) (fun c3 => ?_)
        · exact n_rW m1 F1 (Or.inr (Or.inr (Or.inl ⟨by omega, by omega, by omega, by omega, q4⟩)))
        · refine n_let ?_
          refine n_wJ (L := 16) m1 F1 (by decide) (by decide) (by omega) (by omega) (fun S5 m5 F5 g5 h5 k5 => ?_)
          refine n_let ?_
          have q5 : (S5.1 4).toInt = (S1.1 4).toInt := by rw [g5]
          have i1 : (S5.1 4 + 1).toInt = (S5.1 4).toInt + 1 := i_add1 (by omega)
          refine n_sI m5 F5 (by decide) rfl (by omega) (by omega) (fun S7 m7 F7 v7 g7 e7 => ?_)
          refine n_let ?_
          have q7 : (S7.1 4).toInt = (S.1 4).toInt + 1 := by rw [v7]; omega
          exact n_rW m7 F7 (Or.inr (Or.inr (Or.inr ⟨by omega, by omega, by omega, q7, q7⟩)))
    refine n_let ?_
    refine n_eq (fun c2 => ?_) (fun c2 => ?_)
    · exact b50 2 (by unfold mst; rw [if_pos (by omega)]; rfl)
    · refine n_let ?_
      refine n_eq (fun c3 => ?_) (fun c3 => ?_)
      · exact b50 39 (by unfold mst; rw [if_neg (by omega), if_pos (by omega)]; rfl)
      · exact b50 4294967295 (by unfold mst; rw [if_neg (by omega), if_neg (by omega)]; rfl)
