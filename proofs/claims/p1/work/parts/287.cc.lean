-- the reference's tape, communities and views against the class's
def bt (w : Int64) (k : Int32) : Int32 := vp_nar .byte (((w >>> (((8 : Int32) * k).toInt64 &&& 63)).toInt32).toInt8.toInt32)
def brel (v : Int64) (b : Int32) : Prop := ∃ n : Fin 256, v = Int64.ofNat n.val ∧ b = (Int8.ofNat n.val).toInt32
theorem br_b : ∀ n : Fin 256, (((Int8.ofNat n.val).toInt32).toInt % 256).toNat = n.val := by decide +kernel
theorem br_nar : ∀ n : Fin 256, vp_nar .byte ((Int8.ofNat n.val).toInt32) = (Int8.ofNat n.val).toInt32 := by decide +kernel
theorem brel_nar {v : Int64} {b : Int32} (h : brel v b) : vp_nar .byte b = b := by
  obtain ⟨n, -, rfl⟩ := h
  exact br_nar n
theorem brel_inj {v v' : Int64} {b b' : Int32} (h : brel v b) (h' : brel v' b') : v = v' ↔ b = b' := by
  obtain ⟨n, rfl, rfl⟩ := h
  obtain ⟨m, rfl, rfl⟩ := h'
  have hn := n.2
  have hm := m.2
  constructor
  · intro e
    have e1 := congrArg Int64.toInt e
    rw [Int64.toInt_ofNat_of_lt (by omega), Int64.toInt_ofNat_of_lt (by omega)] at e1
    have e2 : n.val = m.val := by omega
    rw [e2]
  · intro e
    have e1 := br_b n
    rw [e, br_b m] at e1
    rw [e1]
theorem sh1 : ∀ j, j < 8 → (((8 : Int32) * nI j).toInt64.toUInt64 &&& Int64.toUInt64 63) = UInt64.ofNat (8 * j) := by decide +kernel
theorem sh2 : ∀ j, j < 8 → (((8 : Int32) * nI j).toInt64 &&& 63) = Int64.ofNat (8 * j) := by decide +kernel
theorem sh3 : ∀ j, j < 8 → (UInt64.ofNat (8 * j)).toNat % 64 = 8 * j := by decide +kernel
theorem sh4 : ∀ j, j < 8 → ((Int64.ofNat (8 * j)).toBitVec.smod 64).toNat = 8 * j := by decide +kernel
theorem oct_n (w : Int64) (j : Nat) (hj : j < 8) : oct w (nI j) = Int64.ofNat ((w.toUInt64.toNat >>> (8 * j)) % 256) := by
  unfold oct
  rw [sh1 j hj]
  have s2 : (w.toUInt64 >>> UInt64.ofNat (8 * j)).toNat = w.toUInt64.toNat >>> (8 * j) := by rw [UInt64.toNat_shiftRight, sh3 j hj]
  rw [← s2]
  generalize w.toUInt64 >>> UInt64.ofNat (8 * j) = u
  apply Int64.toBitVec_inj.mp
  apply BitVec.eq_of_toNat_eq
  show (u.toBitVec &&& 255#64).toNat = (BitVec.ofNat 64 (u.toNat % 256)).toNat
  rw [BitVec.toNat_and, BitVec.toNat_ofNat, BitVec.toNat_ofNat]
  have e := Nat.and_two_pow_sub_one_eq_mod u.toBitVec.toNat 8
  have l := Nat.mod_lt u.toNat (show 0 < 256 by decide)
  rw [Nat.mod_eq_of_lt (show u.toNat % 256 < 2 ^ 64 by omega)]
  exact e
theorem bt_n (w : Int64) (j : Nat) (hj : j < 8) : bt w (nI j) = (Int8.ofNat ((w.toUInt64.toNat >>> (8 * j)) % 256)).toInt32 := by
  have key : ((w >>> Int64.ofNat (8 * j)).toInt32).toInt8 = Int8.ofNat ((w.toUInt64.toNat >>> (8 * j)) % 256) := by
    apply Int8.toBitVec_inj.mp
    show (((w.toBitVec.sshiftRight ((Int64.ofNat (8 * j)).toBitVec.smod 64).toNat).signExtend 32).signExtend 8) = BitVec.ofNat 8 ((w.toBitVec.toNat >>> (8 * j)) % 256)
    rw [sh4 j hj]
    apply BitVec.eq_of_getLsbD_eq
    intro i hi
    rw [BitVec.getLsbD_signExtend, BitVec.getLsbD_signExtend, BitVec.getLsbD_sshiftRight, BitVec.getLsbD_ofNat, show 256 = 2 ^ 8 from rfl, Nat.testBit_mod_two_pow, Nat.testBit_shiftRight]
    simp only [hi, show i < 32 by omega, show i < 64 by omega, show ¬ 64 ≤ i by omega, show 8 * j + i < 64 by omega, decide_true, decide_false, Bool.true_and, Bool.not_false, if_true]
    rfl
  unfold bt
  rw [sh2 j hj, key]
  exact br_nar ⟨_, Nat.mod_lt _ (by decide)⟩
theorem brel_w (w : Int64) (j : Nat) (hj : j < 8) : brel (oct w (nI j)) (bt w (nI j)) := ⟨⟨(w.toUInt64.toNat >>> (8 * j)) % 256, Nat.mod_lt _ (by decide)⟩, oct_n w j hj, bt_n w j hj⟩
def LT (S : MS) (ts : List Int64) : Prop := S.1 2 = nI ts.length ∧ ts.length ≤ 1200 ∧ ∀ i, i < ts.length → brel (ts.getD i 0) (S.2.2.1 1 i)
def LN (S : MS) (ns : List (List Int64)) : Prop := S.1 28 = nI ns.length ∧ ns.length ≤ 8 ∧ ∀ c, c < ns.length → S.2.2.1 30 c = nI (ns.getD c []).length ∧ (ns.getD c []).length ≤ 40 ∧ ∀ i, i < (ns.getD c []).length → brel ((ns.getD c []).getD i 0) (S.2.2.1 29 (40 * c + i))
def LV (S : MS) (n : Nat) (vc : Nat → Int32) : Prop := (∀ j, j < 8 → S.2.2.1 32 j = vc j) ∧ ∀ j, n ≤ j → vc j = 0
theorem LT_fr {E : List Nat} {S S' : MS} {ts : List Int64} (f : fM E S S') (h2 : 2 ∉ E) (h1 : 1 ∉ E) (T : LT S ts) : LT S' ts := by
  unfold LT
  rw [f.1 2 h2, f.2.1 1 h1]
  exact T
theorem LT_nil {S : MS} (h : (S.1 2).toInt = 0) : LT S [] := ⟨Int32.toInt_inj.mp (by rw [h]; rfl), by simp, fun i hi => absurd hi (by simp)⟩
theorem LN_fr {E : List Nat} {S S' : MS} {ns : List (List Int64)} (f : fM E S S') (h28 : 28 ∉ E) (h29 : 29 ∉ E) (h30 : 30 ∉ E) (N : LN S ns) : LN S' ns := by
  unfold LN
  rw [f.1 28 h28, f.2.1 29 h29, f.2.1 30 h30]
  exact N
theorem LV_fr {E : List Nat} {S S' : MS} {n : Nat} {vc : Nat → Int32} (f : fM E S S') (h32 : 32 ∉ E) (V : LV S n vc) : LV S' n vc := by
  unfold LV
  rw [f.2.1 32 h32]
  exact V
theorem gD_app {xs : List Int64} {a : Int64} {i : Nat} (hi : i < xs.length) : (xs ++ [a]).getD i 0 = xs.getD i 0 := by
  simp only [List.getD]
  rw [List.getElem?_append_left hi]
theorem gL_app {xs : List (List Int64)} {a : List Int64} {i : Nat} (hi : i < xs.length) : (xs ++ [a]).getD i [] = xs.getD i [] := by
  simp only [List.getD]
  rw [List.getElem?_append_left hi]
set_option maxHeartbeats 4000000 in
theorem nM_feed_51Q {w : Int64} {S0 : MS} : ∀ (n j : Nat) (S : MS) (ts : List Int64) (a4 : Int32), MI S → fM [0, 1, 2] S0 S → LT S ts → a4.toInt = (j : Int) - 1 → j ≤ 8 → ts.length + j ≤ 1200 → j < n → nJ (NW [0, 1, 2] S0 (fun (r : Int32) (S' : MS) => r = nI (ts.length + j) ∧ LT S' (ts ++ octs w j))) (gM_feed_51 n w a4 S) := by
  have L0 : (0 : Int32).toInt = 0 := rfl
  intro n
  induction n with
  | zero => intro j S ts a4 m F T e hj hl hm; exfalso; omega
  | succ n ih =>
    intro j S ts a4 m F T e hj hl hm
    have hs : (S.1 2).toInt = (ts.length : Int) := by rw [T.1, nI_toInt (by omega)]
    unfold gM_feed_51
    cases j with
    | zero =>
      refine n_lt (fun c => ?_) (fun c => ?_)
      · refine n_let ?_
        exact n_rW m F ⟨T.1, by simpa [octs] using T⟩
      · exfalso; omega
    | succ j =>
      refine n_lt (fun c => ?_) (fun c => ?_)
      · exfalso; omega
      · have ea : a4 = nI j := Int32.toInt_inj.mp (by rw [nI_toInt (by omega)]; omega)
        subst ea
        refine n_let ?_
        refine n_wI (L := 1200) m F (by decide) (by decide) (by decide) rfl (by omega) (by omega) (i_lo _) (i_hi _) (fun S3 m3 F3 g3 h3 k3 => ?_)
        refine n_let ?_
        have q3 : S3.1 2 = nI ts.length := by rw [g3]; exact T.1
        have i3 : (S3.1 2 + 1).toInt = (ts.length : Int) + 1 := by rw [q3, nI_1, nI_toInt (by omega)]; omega
        refine n_sI m3 F3 (by decide) rfl (by omega) (by omega) (fun S5 m5 F5 v5 g5 e5 => ?_)
        refine n_let ?_
        have er : S5.2.2.1 1 = upd (S.2.2.1 1) ts.length (bt w (nI j)) := by
          rw [e5, k3, hs]
          rfl
        have T5 : LT S5 (ts ++ [oct w (nI j)]) := by
          refine ⟨by rw [v5, q3, nI_1]; simp, by simp; omega, fun i hi => ?_⟩
          rw [er]
          simp only [List.length_append, List.length_singleton] at hi
          by_cases hi2 : i = ts.length
          · subst hi2
            have eo : (ts ++ [oct w (nI j)]).getD ts.length 0 = oct w (nI j) := by simp
            rw [eo]
            unfold upd
            rw [if_pos rfl]
            exact brel_w w j (by omega)
          · rw [gD_app (by omega)]
            unfold upd
            rw [if_neg hi2]
            exact T.2.2 i (by omega)
        obtain ⟨r, S', e', hw, hr, hT⟩ := ih j S5 _ (nI j + (-1)) m5 F5 T5 (by rw [i_sub1 (by rw [nI_toInt (by omega)]; omega), nI_toInt (by omega)]) (by omega) (by simp; omega) (by omega)
        refine ⟨r, S', e', hw, ?_, ?_⟩
        · rw [hr]; congr 1; simp; omega
        · rw [List.append_assoc] at hT
          exact hT
set_option maxHeartbeats 4000000 in
theorem nM_feedL {w : Int64} {a3 : Int32} {S : MS} {ts : List Int64} (mS : MI S) (T : LT S ts) : nJ (NW [0, 1, 2] S (fun (r : Int32) (S' : MS) => ∃ ts', feedL ts w a3 r ts' ∧ LT S' ts')) (gM_feed w a3 S) := by
  have L0 : (0 : Int32).toInt = 0 := rfl
  have L1 : (1 : Int32).toInt = 1 := rfl
  have L8 : (8 : Int64).toInt = 8 := rfl
  have J0 : (0 : Int64).toInt = 0 := rfl
  have L12 : (1200 : Int32).toInt = 1200 := rfl
  have j3 := Int32.toInt_toInt64 a3
  have tl := T.2.1
  unfold gM_feed
  refine n_sI mS (fM_rf [0, 1, 2] S) (by decide) rfl (i_lo _) (i_hi _) (fun S1 m1 F1 v1 g1 e1 => ?_)
  have T1 : LT S1 ts := by
    refine ⟨by rw [g1 2 (by decide)]; exact T.1, T.2.1, ?_⟩
    rw [e1]
    exact T.2.2
  have hs : (S1.1 2).toInt = (ts.length : Int) := by rw [T1.1, nI_toInt (by omega)]
  refine n_cP (nM_in m1) (fun x2 q2 => ?_)
  refine n_eq (fun c => ?_) (fun c => ?_)
  · exact n_rW m1 F1 ⟨ts, Or.inl ⟨by omega, rfl, rfl⟩, T1⟩
  · refine n_eq (fun c3 => ?_) (fun c3 => ?_)
    · refine n_sI m1 F1 (by decide) rfl (by omega) (by omega) (fun S6 m6 F6 v6 g6 e6 => ?_)
      exact n_rW m6 F6 ⟨[], Or.inr (Or.inl ⟨by omega, rfl, rfl⟩), LT_nil (by rw [v6]; rfl)⟩
    · refine n_let ?_
      have i1 : (S1.1 2 + a3).toInt = (ts.length : Int) + a3.toInt := by rw [i_add (by omega) (by omega), hs]
      refine n_le (fun c4 => ?_) (fun c4 => ?_)
      · refine n_let ?_
        obtain ⟨r, S', e', hw, hr, hT⟩ := nM_feed_51Q (w := w) sm_fuel a3.toInt.toNat S1 ts (a3 - 1) m1 F1 T1 (by rw [i_sub (by omega) (by omega)]; omega) (by omega) (by omega) (by simp only [sm_fuel_eq]; omega)
        exact ⟨r, S', e', hw, _, Or.inr (Or.inr (Or.inr ⟨a3.toInt.toNat, by omega, by omega, by omega, by omega, hr, rfl⟩)), hT⟩
      · exact n_rW m1 F1 ⟨ts, Or.inr (Or.inr (Or.inl ⟨by omega, by omega, by omega, rfl, rfl⟩)), T1⟩
theorem lst_ext {xs ys : List Int64} (hl : xs.length = ys.length) (h : ∀ i, i < xs.length → xs.getD i 0 = ys.getD i 0) : xs = ys := List.ext_getElem hl (fun i h1 h2 => by
  have := h i h1
  simpa [List.getD, h1, h2] using this)
theorem nm_iff {S : MS} {ts : List Int64} {ns : List (List Int64)} {i : Nat} (T : LT S ts) (N : LN S ns) (hi : i < ns.length) : (S.2.2.1 30 i = nI ts.length ∧ slI (S.2.2.1 29) (40 * i) ts.length = slI (S.2.2.1 1) 0 ts.length) ↔ ns.getD i [] = ts := by
  obtain ⟨e1, e2, e3⟩ := N.2.2 i hi
  have tl := T.2.1
  generalize ns.getD i [] = nm at e1 e2 e3 ⊢
  rw [e1, nI_eq (by omega) (by omega), slI_eq]
  constructor
  · intro q
    refine lst_ext q.1 (fun k hk => ?_)
    have hl := q.1
    refine (brel_inj (e3 k hk) (T.2.2 k (by omega))).mpr ?_
    have := q.2 k (by omega)
    rwa [Nat.zero_add] at this
  · intro e
    subst e
    refine ⟨rfl, fun k hk => ?_⟩
    rw [Nat.zero_add]
    exact (brel_inj (e3 k hk) (T.2.2 k hk)).mp rfl
theorem fst_iff {S : MS} {xs : List Int32} {n : Nat} : ∀ (m c : Nat), c + m ≤ 8 → (fstC S xs n c m < 0 ↔ ∀ i, c ≤ i → i < c + m → ¬ (S.2.2.1 30 i = nI n ∧ slI (S.2.2.1 29) (40 * i) n = xs))
  | 0, c, h => ⟨fun _ i h1 h2 => by omega, fun _ => by simp only [fstC]; decide⟩
  | m + 1, c, h => by
    simp only [fstC]
    have ih := fst_iff (S := S) (xs := xs) (n := n) m (c + 1) (by omega)
    by_cases p : S.2.2.1 30 c = nI n ∧ slI (S.2.2.1 29) (40 * c) n = xs
    · rw [if_pos p]
      exact ⟨fun q => absurd q (nI_pos (by omega)), fun q => absurd p (q c (Nat.le_refl _) (by omega))⟩
    · rw [if_neg p, ih]
      refine ⟨fun q i h1 h2 => ?_, fun q i h1 h2 => q i (by omega) (by omega)⟩
      by_cases e : i = c
      · rw [e]; exact p
      · exact q i (by omega) (by omega)
set_option maxHeartbeats 4000000 in
theorem nM_community_54Q {S0 : MS} {cm ln : Nat} {a1 : Int32} (hcm : cm < 8) (hln : ln ≤ 40) (p0 : a1.toInt = 0 ∨ a1.toInt = 1) (hb : ∀ i, i < ln → vp_nar .byte (S0.2.2.1 1 i) = S0.2.2.1 1 i) : ∀ (n k : Nat) (S : MS), MI S → fM [0, 2, 28, 29, 30, 31] S0 S → S.1 28 = nI cm → (∀ i, i < 40 * cm → S.2.2.1 29 i = S0.2.2.1 29 i) → (∀ i, i < k → S.2.2.1 29 (40 * cm + i) = S0.2.2.1 1 i) → S.2.2.1 30 = S0.2.2.1 30 → S.1 2 = 0 → k ≤ ln → ln < n + k → nJ (NW [0, 2, 28, 29, 30, 31] S0 (fun (r : Int32) (S' : MS) => r = nI cm ∧ S'.1 28 = nI (cm + 1) ∧ (∀ i, i < 40 * cm → S'.2.2.1 29 i = S0.2.2.1 29 i) ∧ (∀ i, i < ln → S'.2.2.1 29 (40 * cm + i) = S0.2.2.1 1 i) ∧ S'.2.2.1 30 = upd (S0.2.2.1 30) cm (nI ln) ∧ S'.1 2 = 0)) (gM_community_54 n a1 (nI ln) (nI k) S) := by
  have ec : (nI cm).toInt = (cm : Int) := nI_toInt (by omega)
  have el : (nI ln).toInt = (ln : Int) := nI_toInt (by omega)
  have nb := nar_r p0
  intro n
  induction n with
  | zero => intro k S m F h28 h29 hk h30 h2 hkl hm; exfalso; omega
  | succ n ih =>
    intro k S m F h28 h29 hk h30 h2 hkl hm
    have ek : (nI k).toInt = (k : Int) := nI_toInt (by omega)
    unfold gM_community_54
    refine n_le (fun c => ?_) (fun c => ?_)
    · have hkl2 : k = ln := by omega
      refine n_let ?_
      rw [h28]
      refine n_wI (L := 8) m F (by decide) (by decide) (by decide) rfl (by omega) (by omega) (by omega) (by omega) (fun S2 m2 F2 g2 h2' k2 => ?_)
      refine n_let ?_
      have e28 : S2.1 28 = nI cm := by rw [g2]; exact h28
      rw [e28]
      refine n_wI (L := 8) m2 F2 (by decide) (by decide) (by decide) rfl (by omega) (by omega) (by omega) (by omega) (fun S4 m4 F4 g4 h4 k4 => ?_)
      refine n_let ?_
      have e28' : S4.1 28 = nI cm := by rw [g4]; exact e28
      rw [e28']
      have ec1 : (nI cm + 1).toInt = (cm : Int) + 1 := by rw [nI_1, nI_toInt (by omega)]; omega
      refine n_sI m4 F4 (by decide) rfl (by omega) (by omega) (fun S6 m6 F6 v6 g6 e6 => ?_)
      refine n_let ?_
      have r29 : S6.2.2.1 29 = S.2.2.1 29 := by rw [e6, h4 29 (by decide), h2' 29 (by decide)]
      refine n_rW m6 F6 ⟨by rw [v6, nI_1, nI_pred], by rw [v6, nI_1], fun i hi => by rw [r29]; exact h29 i hi, fun i hi => by rw [r29]; exact hk i (by omega), ?_, ?_⟩
      · rw [e6, h4 30 (by decide), k2, h30, ec]
        rfl
      · rw [g6 2 (by decide), g4, g2]
        exact h2
    · refine n_let ?_
      rw [h28]
      have r1 : S.2.2.1 1 = S0.2.2.1 1 := F.2.1 1 (by decide)
      refine n_rI (L := 1200) m (by decide) rfl (by omega) (by omega) (fun x9 e9 l9 u9 => ?_)
      have i1 : ((40 : Int32) * nI cm).toInt = 40 * (cm : Int) := by rw [i_mul (n := 40) rfl (by omega) (by omega), ec]
      have i2 : ((40 : Int32) * nI cm + nI k).toInt = 40 * (cm : Int) + k := by rw [i_add (by omega) (by omega)]; omega
      refine n_wI (L := 320) m F (by decide) (by decide) (by decide) rfl (by omega) (by omega) (i_lo _) (i_hi _) (fun S10 m10 F10 g10 h10 k10 => ?_)
      refine n_let ?_
      have ex : vp_nar .byte x9 = S0.2.2.1 1 k := by
        rw [e9, ek, Int.toNat_natCast, r1]
        exact hb k (by omega)
      have e29 : S10.2.2.1 29 = upd (S.2.2.1 29) (40 * cm + k) (S0.2.2.1 1 k) := by
        rw [k10, ex, i2]
        congr 1
      rw [nI_1]
      refine ih (k + 1) S10 m10 F10 (by rw [g10]; exact h28) (fun i hi => ?_) (fun i hi => ?_) (by rw [h10 30 (by decide)]; exact h30) (by rw [g10]; exact h2) (by omega) (by omega)
      · rw [e29]
        unfold upd
        rw [if_neg (by omega)]
        exact h29 i hi
      · rw [e29]
        unfold upd
        by_cases hik : i = k
        · rw [if_pos (by omega), hik]
        · rw [if_neg (by omega)]
          exact hk i (by omega)
set_option maxHeartbeats 4000000 in
theorem nM_communityQ {a1 : Int32} {S : MS} {ts : List Int64} {ns : List (List Int64)} (mS : MI S) (p0 : a1.toInt = 0 ∨ a1.toInt = 1) (T : LT S ts) (N : LN S ns) : nJ (NW [0, 2, 28, 29, 30, 31] S (fun (r : Int32) (S' : MS) => ∃ ns', comR ts ns r ns' ∧ LT S' [] ∧ LN S' ns')) (gM_community a1 S) := by
  have L40 : (40 : Int32).toInt = 40 := rfl
  have L8 : (8 : Int32).toInt = 8 := rfl
  have tl := T.2.1
  have nl := N.2.1
  have et : (nI ts.length).toInt = (ts.length : Int) := nI_toInt (by omega)
  have en : (nI ns.length).toInt = (ns.length : Int) := nI_toInt (by omega)
  unfold gM_community
  refine n_sI mS (fM_rf [0, 2, 28, 29, 30, 31] S) (by decide) rfl (i_lo _) (i_hi _) (fun S1 m1 F1 v1 g1 e1 => ?_)
  refine n_let ?_
  have q1 : S1.1 2 = nI ts.length := by rw [g1 2 (by decide)]; exact T.1
  rw [q1]
  refine n_sI m1 F1 (by decide) rfl (by decide) (by decide) (fun S3 m3 F3 v3 g3 e3 => ?_)
  have e31 : S3.2 = S.2 := e3.trans e1
  have h28 : S3.1 28 = nI ns.length := by rw [g3 28 (by decide), g1 28 (by decide)]; exact N.1
  have T3 : LT S3 [] := LT_nil (by rw [v3]; rfl)
  have N3 : LN S3 ns := by
    refine ⟨h28, N.2.1, ?_⟩
    rw [e31]
    exact N.2.2
  refine n_le (fun c => ?_) (fun c => ?_)
  · have eg : gM_communityOf 1 (0 : Int32) (nI ts.length) S3 = some (fstC S3 (slI (S3.2.2.1 1) 0 ts.length) ts.length 0 ns.length, S3) := by
      have := g_com (S := S3) (kb := 1) (fm := 0) (n := ts.length) (cm := ns.length) ⟨by decide, rfl, rfl⟩ (show 0 + ts.length ≤ 1200 by omega) (by omega) h28 nl
      rw [nI_0] at this
      exact this
    rw [eg, mc_some]
    have hf := fst_iff (S := S3) (xs := slI (S3.2.2.1 1) 0 ts.length) (n := ts.length) ns.length 0 (by omega)
    have hq : fstC S3 (slI (S3.2.2.1 1) 0 ts.length) ts.length 0 ns.length < 0 ↔ ∀ j, j < ns.length → ns.getD j [] ≠ ts := by
      rw [hf, e31]
      exact ⟨fun z j hj e => z j (Nat.zero_le _) (by omega) ((nm_iff T N hj).mpr e), fun z j _ hj e => z j (by omega) ((nm_iff T N (by omega)).mp e)⟩
    refine n_if (fun c2 => ?_) (fun c2 => ?_)
    · refine n_let ?_
      rw [h28]
      refine n_eq (fun c3 => ?_) (fun c3 => ?_)
      · exact n_rW m3 F3 ⟨ns, Or.inr (Or.inr (Or.inl ⟨by omega, hq.mp c2, by omega, rfl, rfl⟩)), T3, N3⟩
      · obtain ⟨r, S', e', hw, hr, k28, k29, kn, k30, k2⟩ := nM_community_54Q (S0 := S3) (cm := ns.length) (ln := ts.length) (a1 := a1) (by omega) (by omega) p0 (fun i hi => by rw [e31]; exact brel_nar (T.2.2 i hi)) sm_fuel 0 S3 m3 (fM_rf _ _) h28 (fun i _ => rfl) (fun i hi => absurd hi (Nat.not_lt_zero _)) rfl v3 (Nat.zero_le _) (by simp only [sm_fuel_eq]; omega)
        rw [nI_0] at e'
        refine ⟨r, S', e', ⟨hw.1, fM_tr F3 hw.2 (by decide)⟩, ns ++ [ts], Or.inr (Or.inr (Or.inr ⟨by omega, hq.mp c2, by omega, hr, rfl⟩)), LT_nil (by rw [k2]; rfl), ⟨by rw [k28]; simp, by simp; omega, fun d hd => ?_⟩⟩
        simp only [List.length_append, List.length_singleton] at hd
        by_cases hd2 : d = ns.length
        · subst hd2
          have eo : (ns ++ [ts]).getD ns.length [] = ts := by simp
          rw [eo, k30]
          refine ⟨by unfold upd; rw [if_pos rfl], by omega, fun i hi => ?_⟩
          rw [kn i hi, e31]
          exact T.2.2 i hi
        · rw [gL_app (by omega), k30]
          obtain ⟨b1, b2, b3⟩ := N.2.2 d (by omega)
          refine ⟨by unfold upd; rw [if_neg hd2, e31]; exact b1, b2, fun i hi => ?_⟩
          rw [k29 _ (by omega), e31]
          exact b3 i hi
    · exact n_rW m3 F3 ⟨ns, Or.inr (Or.inl ⟨by omega, fun z => c2 (hq.mpr z), rfl, rfl⟩), T3, N3⟩
  · exact n_rW m3 F3 ⟨ns, Or.inl ⟨by omega, rfl, rfl⟩, T3, N3⟩
set_option maxHeartbeats 4000000 in
theorem nM_view_80Q {E : List Nat} {S0 : MS} {V : Nat → Int32} (hE : ∀ k ∈ [32, 33, 34, 35], k ∈ E) : ∀ (n : Nat) (a1 a2 a3 a4 a5 : Int32) (S : MS), MI S → fM E S0 S → S.2.2.1 32 = V → 0 ≤ a1.toInt → a1.toInt ≤ 7 → (a2.toInt = 0 ∨ a2.toInt = 1) → 0 ≤ a3.toInt → a3.toInt ≤ 16 → 0 ≤ a4.toInt → a4.toInt ≤ 63 → 0 ≤ a5.toInt → a5.toInt ≤ 16 → (V a1.toInt.toNat).toInt ≤ 7 → 16 - a5.toInt < (n : Int) → nJ (NW E S0 (fun (r : Int32) (S' : MS) => r = V a1.toInt.toNat + 1 ∧ S'.2.2.1 32 = upd V a1.toInt.toNat (V a1.toInt.toNat + 1))) (gM_view_80 n a1 a2 a3 a4 a5 S) := by
  have L1 : (1 : Int32).toInt = 1 := rfl
  intro n
  induction n with
  | zero => intro a1 a2 a3 a4 a5 S m F hV p0 p1 p2 p3 p4 p5 p6 p7 p8 p9 q; exfalso; omega
  | succ n ih =>
    intro a1 a2 a3 a4 a5 S m F hV p0 p1 p2 p3 p4 p5 p6 p7 p8 p9 q
    unfold gM_view_80
    have nb := nar_r p2
    refine n_le (fun c => ?_) (fun c => ?_)
    · refine n_wI (L := 64) m F (hE _ (by decide)) (by decide) (by decide) rfl (by omega) (by omega) (by omega) (by omega) (fun S1 m1 F1 g1 h1 k1 => ?_)
      refine n_wI (L := 64) m1 F1 (hE _ (by decide)) (by decide) (by decide) rfl (by omega) (by omega) (by omega) (by omega) (fun S2 m2 F2 g2 h2 k2 => ?_)
      have e32 : S2.2.2.1 32 = V := by rw [h2 32 (by decide), h1 32 (by decide)]; exact hV
      refine n_rI (L := 8) m2 (by decide) rfl (by omega) (by omega) (fun x3 e3 l3 u3 => ?_)
      rw [e32] at e3
      have hx : x3.toInt ≤ 7 := by rw [e3]; exact p9
      have i3 : (x3 + 1).toInt = x3.toInt + 1 := i_add1 (by omega)
      refine n_wI (L := 8) m2 F2 (hE _ (by decide)) (by decide) (by decide) rfl (by omega) (by omega) (by omega) (by omega) (fun S4 m4 F4 g4 h4 k4 => ?_)
      rw [e32, e3] at k4
      refine n_rI (L := 8) m4 (by decide) rfl (by omega) (by omega) (fun x5 e5 l5 u5 => ?_)
      refine n_rW m4 F4 ⟨?_, k4⟩
      rw [e5, k4]
      unfold upd
      rw [if_pos rfl]
    · have i1 : ((16 : Int32) * a4).toInt = 16 * a4.toInt := i_mul (n := 16) rfl (by omega) (by omega)
      have i2 : ((16 : Int32) * a4 + a5).toInt = ((16 : Int32) * a4).toInt + a5.toInt := i_add (by omega) (by omega)
      have i3 : (a5 + 1).toInt = a5.toInt + 1 := i_add1 (by omega)
      refine n_rJ (L := 16) (by decide) (by omega) (by omega) (fun x6 e6 => ?_)
      refine n_wJ (L := 1024) m F (hE _ (by decide)) (by decide) (by omega) (by omega) (fun S7 m7 F7 g7 h7 k7 => ?_)
      refine n_let ?_
      exact ih _ _ _ _ _ _ m7 F7 (by rw [h7]; exact hV) p0 p1 p2 p3 p4 p5 p6 (by omega) (by omega) p9 (by omega)
set_option maxHeartbeats 4000000 in
theorem nM_viewQ {a1 a2 hs : Int32} {S : MS} {n : Nat} {vc : Nat → Int32} (mS : MI S) (p0 : a2.toInt = 0 ∨ a2.toInt = 1) (hn : S.1 28 = nI n) (n8 : n ≤ 8) (hh : S.1 4 = hs) (V : LV S n vc) : nJ (NW [0, 4, 32, 33, 34, 35] S (fun (r : Int32) (S' : MS) => (S'.1 4).toInt = 0 ∧ ∃ vc', viewR n hs vc a1 r vc' ∧ LV S' n vc')) (gM_view a1 a2 S) := by
  have L0 : (0 : Int32).toInt = 0 := rfl
  have L1 : (1 : Int32).toInt = 1 := rfl
  have L8 : (8 : Int32).toInt = 8 := rfl
  have J0 : (0 : Int64).toInt = 0 := rfl
  have J2 : (2 : Int64).toInt = 2 := rfl
  have J16 : (16 : Int64).toInt = 16 := rfl
  have j1 := Int32.toInt_toInt64 a1
  have r4 := mi_f mS 4 rfl
  have en : (nI n).toInt = (n : Int) := nI_toInt (by omega)
  unfold gM_view
  refine n_sI mS (fM_rf [0, 4, 32, 33, 34, 35] S) (by decide) rfl (i_lo _) (i_hi _) (fun S1 m1 F1 v1 g1 h1 => ?_)
  refine n_let ?_
  have q4 : S1.1 4 = hs := by rw [g1 4 (by decide)]; exact hh
  rw [hh] at r4
  rw [q4]
  have j4 := Int32.toInt_toInt64 hs
  refine n_sI m1 F1 (by decide) rfl (by omega) (by omega) (fun S3 m3 F3 v3 g3 h3 => ?_)
  have z3 : (S3.1 4).toInt = 0 := by rw [v3]; rfl
  have e32 : S3.2.2.1 32 = S.2.2.1 32 := by rw [h3, h1]
  have V3 : LV S3 n vc := by
    unfold LV
    rw [e32]
    exact V
  refine n_let ?_
  have h28 : S3.1 28 = nI n := by rw [g3 28 (by decide), g1 28 (by decide)]; exact hn
  rw [h28]
  have i2 : (nI n - 1).toInt = (n : Int) - 1 := by rw [i_sub (by omega) (by omega)]; omega
  have j2 := Int32.toInt_toInt64 (nI n - 1)
  refine n_cP (nM_in m3) (fun x5 q5 => ?_)
  refine n_eq (fun c => ?_) (fun c => ?_)
  · exact n_rW m3 F3 ⟨z3, vc, Or.inl ⟨by omega, rfl, rfl⟩, V3⟩
  · obtain ⟨j, hj, rfl⟩ := kw_ix (i := a1) (n := n) (by omega) (by omega)
    have ej : (nI j).toInt = (j : Int) := nI_toInt (by omega)
    have ev : S3.2.2.1 32 j = vc j := V3.1 j (by omega)
    refine n_cP (nM_in m3) (fun x7 q7 => ?_)
    refine n_eq (fun c2 => ?_) (fun c2 => ?_)
    · exact n_rW m3 F3 ⟨z3, vc, Or.inr ⟨j, hj, rfl, Or.inl ⟨by omega, rfl, rfl⟩⟩, V3⟩
    · refine n_rI (L := 8) m3 (by decide) rfl (by omega) (by omega) (fun x9 e9 l9 u9 => ?_)
      have e9' : x9 = vc j := by rw [e9, ej, Int.toNat_natCast]; exact ev
      refine n_eq (fun c3 => ?_) (fun c3 => ?_)
      · exact n_rW m3 F3 ⟨z3, vc, Or.inr ⟨j, hj, rfl, Or.inr (Or.inl ⟨by omega, by rw [← e9']; omega, rfl, rfl⟩)⟩, V3⟩
      · refine n_rI (L := 8) m3 (by decide) rfl (by omega) (by omega) (fun x10 e10 l10 u10 => ?_)
        refine n_let ?_
        have ex : x10 = x9 := by rw [e9, e10]
        subst ex
        have i1 : ((8 : Int32) * nI j).toInt = 8 * (nI j).toInt := i_mul (n := 8) rfl (by omega) (by omega)
        have i3 : ((8 : Int32) * nI j + x10).toInt = ((8 : Int32) * nI j).toInt + x10.toInt := i_add (by omega) (by omega)
        have ejn : (nI j).toInt.toNat = j := by rw [ej]; exact Int.toNat_natCast j
        obtain ⟨r, S', e, hm, hr, h32⟩ := nM_view_80Q (E := [32, 33, 34, 35]) (S0 := S3) (V := S3.2.2.1 32) (by decide) sm_fuel (nI j) a2 hs ((8 : Int32) * nI j + x10) 0 S3 m3 (fM_rf _ _) rfl (by omega) (by omega) p0 (by omega) (by omega) (by omega) (by omega) (by omega) (by omega) (by rw [ejn, ev, ← e9']; omega) (by simp only [sm_fuel_eq]; omega)
        rw [ejn, ev] at hr h32
        refine ⟨r, S', e, ⟨hm.1, fM_tr F3 hm.2 (by decide)⟩, by rw [hm.2.1 4 (by decide)]; exact z3, upd vc j (vc j + 1), Or.inr ⟨j, hj, rfl, Or.inr (Or.inr ⟨by omega, by rw [← e9']; omega, hr, rfl⟩)⟩, fun k hk => ?_, fun k hk => ?_⟩
        · rw [h32]
          unfold upd
          by_cases hkj : k = j
          · rw [if_pos hkj, if_pos hkj]
          · rw [if_neg hkj, if_neg hkj]
            exact V3.1 k hk
        · unfold upd
          rw [if_neg (by omega)]
          exact V.2 k hk
