-- the reference's state: ranges of its ints, and that tRows counts tIndex
def iAny : Int × Int := (-2147483648, 2147483647)
def fR (k : Nat) : Int × Int := if k = 2 then (0, 1200) else if k = 4 then (0, 16) else if k = 5 then (100, 1000) else if k = 8 then (0, 40) else if k = 22 then (0, 4) else if k = 28 then (0, 8) else if k = 44 then (0, 1200) else if k = 45 then (0, 3) else if k = 46 then (0, 20) else if k = 47 then (0, 40) else if k = 49 then (-1, 7) else if k = 50 then (0, 1200) else if k = 51 then (0, 1200) else if k = 58 then (0, 1) else if k = 60 then (0, 16) else if k = 62 then (0, 16) else if k = 64 then (0, 2400) else if k = 65 then (0, 2400) else iAny
def rR (k : Nat) : Int × Int := if k = 10 then (0, 15) else if k = 15 then (-1, 3) else if k = 16 then (0, 1) else if k = 19 then (0, 40) else if k = 21 then (0, 16) else if k = 24 then (0, 14) else if k = 27 then (0, 2147483647) else if k = 30 then (0, 40) else if k = 31 then (0, 1) else if k = 32 then (0, 8) else if k = 34 then (0, 16) else if k = 35 then (0, 1) else if k = 37 then (0, 16) else if k = 41 then (0, 40) else if k = 43 then (0, 16) else iAny
def cnt (f : Nat → Int32) (a : Nat) : Nat → Int
  | 0 => 0
  | n + 1 => cnt f a n + (if 0 < (f (a + n)).toInt then 1 else 0)
def MI (S : MS) : Prop := (∀ k, (fR k).1 ≤ (S.1 k).toInt ∧ (S.1 k).toInt ≤ (fR k).2) ∧ (∀ k i, (rR k).1 ≤ (S.2.2.1 k i).toInt ∧ (S.2.2.1 k i).toInt ≤ (rR k).2) ∧ ∀ t, t < 4 → (S.2.2.1 26 t).toInt = cnt (S.2.2.1 27) (16 * t) 16
def fM (E : List Nat) (S S' : MS) : Prop := (∀ k, k ∉ E → S'.1 k = S.1 k) ∧ (∀ k, k ∉ E → S'.2.2.1 k = S.2.2.1 k) ∧ (∀ k, k ∉ E → S'.2.2.2 k = S.2.2.2 k) ∧ (6 ∉ E → S'.2.1 = S.2.1)
def nJ {Rt : Type} (R : Rt → MS → Prop) (X : Option (Rt × MS)) : Prop := ∃ r S', X = some (r, S') ∧ R r S'
def NP {Rt : Type} (S : MS) (Q : Rt → Prop) : Rt → MS → Prop := fun r S' => S' = S ∧ Q r
def NW {Rt : Type} (E : List Nat) (S : MS) (Q : Rt → MS → Prop) : Rt → MS → Prop := fun r S' => (MI S' ∧ fM E S S') ∧ Q r S'
abbrev rowL (k t L : Nat) : Prop := k < 66 ∧ (mT k).1 = 3 ∧ (mT k).2.1 = t ∧ (mT k).2.2.1 = L
abbrev rowI (k t L : Nat) : Prop := k < 66 ∧ (mT k).1 = 2 ∧ (mT k).2.1 = t ∧ (mT k).2.2.1 = L
theorem fM_rf (E : List Nat) (S : MS) : fM E S S := ⟨fun _ _ => rfl, fun _ _ => rfl, fun _ _ => rfl, fun _ => rfl⟩
theorem fM_tr {E E' : List Nat} {S S1 S2 : MS} (f : fM E S S1) (g : fM E' S1 S2) (hE : ∀ k ∈ E', k ∈ E) : fM E S S2 := ⟨fun k hk => (g.1 k (fun q => hk (hE k q))).trans (f.1 k hk), fun k hk => (g.2.1 k (fun q => hk (hE k q))).trans (f.2.1 k hk), fun k hk => (g.2.2.1 k (fun q => hk (hE k q))).trans (f.2.2.1 k hk), fun hk => (g.2.2.2 (fun q => hk (hE 6 q))).trans (f.2.2.2 hk)⟩
theorem mi_f {S : MS} (m : MI S) (k : Nat) {lo hi : Int} (e : fR k = (lo, hi)) : lo ≤ (S.1 k).toInt ∧ (S.1 k).toInt ≤ hi := by
  have := m.1 k
  rw [e] at this
  exact this
theorem cnt_le (f : Nat → Int32) (a : Nat) : ∀ n : Nat, 0 ≤ cnt f a n ∧ cnt f a n ≤ n
  | 0 => ⟨by simp [cnt], by simp [cnt]⟩
  | n + 1 => by
    have := cnt_le f a n
    unfold cnt
    split <;> omega
section N
variable {Rt : Type} {R : Rt → MS → Prop} {S S0 : MS} {E : List Nat}
theorem n_let {α : Type} {v : α} {X : α → Option (Rt × MS)} (kk : nJ R (X v)) : nJ R (sm_let v X) := kk
theorem n_if {p : Prop} {d : Decidable p} {X Y : Option (Rt × MS)} (k1 : p → nJ R X) (k2 : ¬ p → nJ R Y) : nJ R (if p then X else Y) := by
  by_cases hp : p
  · rw [if_pos hp]; exact k1 hp
  · rw [if_neg hp]; exact k2 hp
theorem n_le {x y : Int32} {d : Decidable (x ≤ y)} {X Y : Option (Rt × MS)} (k1 : x.toInt ≤ y.toInt → nJ R X) (k2 : y.toInt < x.toInt → nJ R Y) : nJ R (if x ≤ y then X else Y) := n_if (fun p => k1 (Int32.le_iff_toInt_le.mp p)) (fun p => k2 (by rw [Int32.le_iff_toInt_le] at p; omega))
theorem n_lt {x y : Int32} {d : Decidable (x < y)} {X Y : Option (Rt × MS)} (k1 : x.toInt < y.toInt → nJ R X) (k2 : y.toInt ≤ x.toInt → nJ R Y) : nJ R (if x < y then X else Y) := n_if (fun p => k1 (Int32.lt_iff_toInt_lt.mp p)) (fun p => k2 (by rw [Int32.lt_iff_toInt_lt] at p; omega))
theorem n_eq {x y : Int32} {d : Decidable (x = y)} {X Y : Option (Rt × MS)} (k1 : x.toInt = y.toInt → nJ R X) (k2 : x.toInt ≠ y.toInt → nJ R Y) : nJ R (if x = y then X else Y) := n_if (fun p => k1 (by rw [p])) (fun p => k2 (fun q => p (Int32.toInt_inj.mp q)))
theorem n_l0 {x y : Int64} {d : Decidable (lg_cmp x y = 0)} {X Y : Option (Rt × MS)} (k1 : x.toInt = y.toInt → nJ R X) (k2 : x.toInt ≠ y.toInt → nJ R Y) : nJ R (if lg_cmp x y = 0 then X else Y) := n_if (fun p => k1 (by rw [(lg_cmp_0 x y).mp p])) (fun p => k2 (fun q => p ((lg_cmp_0 x y).mpr (Int64.toInt_inj.mp q))))
theorem n_l1 {x y : Int64} {d : Decidable (lg_cmp x y < 0)} {X Y : Option (Rt × MS)} (k1 : x.toInt < y.toInt → nJ R X) (k2 : y.toInt ≤ x.toInt → nJ R Y) : nJ R (if lg_cmp x y < 0 then X else Y) := n_if (fun p => k1 (lg_1.mp p)) (fun p => k2 (by rw [lg_1] at p; omega))
theorem n_l2 {x y : Int64} {d : Decidable (lg_cmp x y ≤ 0)} {X Y : Option (Rt × MS)} (k1 : x.toInt ≤ y.toInt → nJ R X) (k2 : y.toInt < x.toInt → nJ R Y) : nJ R (if lg_cmp x y ≤ 0 then X else Y) := n_if (fun p => k1 (lg_2.mp p)) (fun p => k2 (by rw [lg_2] at p; omega))
theorem n_l3 {x y : Int64} {d : Decidable (0 < lg_cmp x y)} {X Y : Option (Rt × MS)} (k1 : y.toInt < x.toInt → nJ R X) (k2 : x.toInt ≤ y.toInt → nJ R Y) : nJ R (if 0 < lg_cmp x y then X else Y) := n_if (fun p => k1 (lg_3.mp p)) (fun p => k2 (by rw [lg_3] at p; omega))
theorem n_l4 {x y : Int64} {d : Decidable (0 ≤ lg_cmp x y)} {X Y : Option (Rt × MS)} (k1 : y.toInt ≤ x.toInt → nJ R X) (k2 : x.toInt < y.toInt → nJ R Y) : nJ R (if 0 ≤ lg_cmp x y then X else Y) := n_if (fun p => k1 (lg_4.mp p)) (fun p => k2 (by rw [lg_4] at p; omega))
theorem b_of {x : Int32} (h : x.toInt = 0 ∨ x.toInt = 1) : x = 0 ∨ x = 1 := by
  rcases h with h | h
  · exact Or.inl (Int32.toInt_inj.mp h)
  · exact Or.inr (Int32.toInt_inj.mp h)
theorem b_to {x : Int32} (h : x = 0 ∨ x = 1) : x.toInt = 0 ∨ x.toInt = 1 := by
  rcases h with rfl | rfl
  · exact Or.inl rfl
  · exact Or.inr rfl
theorem nar_r {x : Int32} (h : x.toInt = 0 ∨ x.toInt = 1) : 0 ≤ (vp_nar .boolean x).toInt ∧ (vp_nar .boolean x).toInt ≤ 1 := by
  rcases nar_b (b_of h) with h | h <;> rw [h] <;> decide
theorem i_mul {c x : Int32} {n : Int} (hc : c.toInt = n) (h1 : -2147483648 ≤ n * x.toInt) (h2 : n * x.toInt ≤ 2147483647) : (c * x).toInt = n * x.toInt := by
  rw [Int32.toInt_mul, hc, Int.bmod_eq_of_le (by omega) (by omega)]
-- setting
theorem n_sI {k : Nat} {v : Int32} {lo hi : Int} {X : MS → Option (Rt × MS)} (m : MI S) (F : fM E S0 S) (hk : k ∈ E) (e : fR k = (lo, hi)) (h1 : lo ≤ v.toInt) (h2 : v.toInt ≤ hi) (kk : ∀ S1, MI S1 → fM E S0 S1 → S1.1 k = v → (∀ j, j ≠ k → S1.1 j = S.1 j) → S1.2 = S.2 → nJ R (X S1)) : nJ R (sm_let (sI S k v) X) := by
  have hv : (sI S k v).1 k = v := by simp [sI, va_up]
  have hn : ∀ j, j ≠ k → (sI S k v).1 j = S.1 j := fun j hj => by simp [sI, va_up, hj]
  refine kk (sI S k v) ⟨fun j => ?_, m.2.1, m.2.2⟩ ⟨fun j hj => ?_, F.2.1, F.2.2.1, F.2.2.2⟩ hv hn rfl
  · by_cases hj : j = k
    · rw [hj, hv, e]; exact ⟨h1, h2⟩
    · rw [hn j hj]; exact m.1 j
  · rw [hn j (fun q => hj (q ▸ hk))]; exact F.1 j hj
theorem n_sC {v : Int64} {X : MS → Option (Rt × MS)} (m : MI S) (F : fM E S0 S) (hk : 6 ∈ E) (kk : ∀ S1, MI S1 → fM E S0 S1 → S1.2.1 = v → S1.1 = S.1 → S1.2.2 = S.2.2 → nJ R (X S1)) : nJ R (sm_let (sC S v) X) :=
  kk (sC S v) ⟨m.1, m.2.1, m.2.2⟩ ⟨F.1, F.2.1, F.2.2.1, fun q => absurd hk q⟩ rfl rfl rfl
theorem n_ix {i : Int32} {L : Nat} (h0 : 0 ≤ i.toInt) (h1 : i.toInt < (L : Int)) : ¬ (i < 0 ∨ L ≤ i.toNatClampNeg) := by
  intro q
  rcases q with q | q
  · rw [Int32.lt_iff_toInt_lt] at q
    have : (0 : Int32).toInt = 0 := rfl
    omega
  · unfold Int32.toNatClampNeg at q
    omega
theorem n_rI {k t L : Nat} {i : Int32} {lo hi : Int} {X : Int32 → Option (Rt × MS)} (m : MI S) (hr : rowI k t L) (e : rR k = (lo, hi)) (h0 : 0 ≤ i.toInt) (h1 : i.toInt < (L : Int)) (kk : ∀ x, x = S.2.2.1 k i.toInt.toNat → lo ≤ x.toInt → x.toInt ≤ hi → nJ R (X x)) : nJ R ((mRI S k t i).bind X) := by
  unfold mRI
  rw [if_pos ⟨⟨hr.1, hr.2.1, hr.2.2.1⟩, by rw [hr.2.2.2]; exact n_ix h0 h1⟩]
  have := m.2.1 k i.toInt.toNat
  rw [e] at this
  exact kk _ rfl this.1 this.2
theorem n_rIp {k t L : Nat} {i : Int32} {X : Int32 → Option (Rt × MS)} (hr : rowI k t L) (h0 : 0 ≤ i.toInt) (h1 : i.toInt < (L : Int)) (kk : ∀ x, nJ R (X x)) : nJ R ((mRI S k t i).bind X) := by
  unfold mRI
  rw [if_pos ⟨⟨hr.1, hr.2.1, hr.2.2.1⟩, by rw [hr.2.2.2]; exact n_ix h0 h1⟩]
  exact kk _
theorem n_rJ {k t L : Nat} {i : Int32} {X : Int64 → Option (Rt × MS)} (hr : rowL k t L) (h0 : 0 ≤ i.toInt) (h1 : i.toInt < (L : Int)) (kk : ∀ x, x = S.2.2.2 k i.toInt.toNat → nJ R (X x)) : nJ R ((mRJ S k t i).bind X) := by
  unfold mRJ
  rw [if_pos ⟨⟨hr.1, hr.2.1, hr.2.2.1⟩, by rw [hr.2.2.2]; exact n_ix h0 h1⟩]
  exact kk _ rfl
theorem n_wI {k t L : Nat} {i v : Int32} {lo hi : Int} {X : MS → Option (Rt × MS)} (m : MI S) (F : fM E S0 S) (hk : k ∈ E) (hr : rowI k t L) (h26 : k ≠ 26 ∧ k ≠ 27) (e : rR k = (lo, hi)) (h0 : 0 ≤ i.toInt) (h1 : i.toInt < (L : Int)) (hlo : lo ≤ v.toInt) (hhi : v.toInt ≤ hi) (kk : ∀ S1, MI S1 → fM E S0 S1 → S1.1 = S.1 → (∀ j, j ≠ k → S1.2.2.1 j = S.2.2.1 j) → S1.2.2.1 k = upd (S.2.2.1 k) i.toInt.toNat v → nJ R (X S1)) : nJ R ((mWI S k t i v).bind X) := by
  unfold mWI
  rw [if_pos ⟨⟨hr.1, hr.2.1, hr.2.2.1⟩, by rw [hr.2.2.2]; exact n_ix h0 h1⟩]
  have hn : ∀ j, j ≠ k → (sA S k i.toInt.toNat v).2.2.1 j = S.2.2.1 j := fun j hj => by simp [sA, va_up, hj]
  have hs : (sA S k i.toInt.toNat v).2.2.1 k = upd (S.2.2.1 k) i.toInt.toNat v := by simp [sA, va_up]
  refine kk (sA S k i.toInt.toNat v) ⟨m.1, fun j q => ?_, fun t ht => ?_⟩ ⟨F.1, fun j hj => ?_, F.2.2.1, F.2.2.2⟩ rfl hn hs
  · by_cases hj : j = k
    · rw [hj, hs, e]
      unfold upd
      split
      · exact ⟨hlo, hhi⟩
      · have := m.2.1 k q; rw [e] at this; exact this
    · rw [hn j hj]; exact m.2.1 j q
  · rw [hn 26 (fun q => h26.1 q.symm), hn 27 (fun q => h26.2 q.symm)]; exact m.2.2 t ht
  · rw [hn j (fun q => hj (q ▸ hk))]; exact F.2.1 j hj
theorem n_wJ {k t L : Nat} {i : Int32} {v : Int64} {X : MS → Option (Rt × MS)} (m : MI S) (F : fM E S0 S) (hk : k ∈ E) (hr : rowL k t L) (h0 : 0 ≤ i.toInt) (h1 : i.toInt < (L : Int)) (kk : ∀ S1, MI S1 → fM E S0 S1 → S1.1 = S.1 → S1.2.2.1 = S.2.2.1 → (∀ j, j ≠ k → S1.2.2.2 j = S.2.2.2 j) → nJ R (X S1)) : nJ R ((mWJ S k t i v).bind X) := by
  unfold mWJ
  rw [if_pos ⟨⟨hr.1, hr.2.1, hr.2.2.1⟩, by rw [hr.2.2.2]; exact n_ix h0 h1⟩]
  have hn : ∀ j, j ≠ k → (sB S k i.toInt.toNat v).2.2.2 j = S.2.2.2 j := fun j hj => by simp [sB, va_up, hj]
  refine kk (sB S k i.toInt.toNat v) ⟨m.1, m.2.1, m.2.2⟩ ⟨F.1, F.2.1, fun j hj => ?_, F.2.2.2⟩ rfl rfl hn
  rw [hn j (fun q => hj (q ▸ hk))]; exact F.2.2.1 j hj
-- calls and ends
theorem n_cP {Rs : Type} {Q : Rs → Prop} {X : Option (Rs × MS)} {f : Rs → MS → Option (Rt × MS)} (c : nJ (NP S Q) X) (kk : ∀ r, Q r → nJ R (f r S)) : nJ R (mc X f) := by
  obtain ⟨r, S', rfl, rfl, hq⟩ := c
  exact kk r hq
theorem n_cW {Rs : Type} {E' : List Nat} {Q : Rs → MS → Prop} {X : Option (Rs × MS)} {f : Rs → MS → Option (Rt × MS)} (F : fM E S0 S) (c : nJ (NW E' S Q) X) (hE : ∀ k ∈ E', k ∈ E) (kk : ∀ r S1, MI S1 → fM E S0 S1 → fM E' S S1 → Q r S1 → nJ R (f r S1)) : nJ R (mc X f) := by
  obtain ⟨r, S', rfl, ⟨m, g⟩, hq⟩ := c
  exact kk r S' m (fM_tr F g hE) g hq
theorem n_rP {Q : Rt → Prop} {v : Rt} (q : Q v) : nJ (NP S Q) (some (v, S)) := ⟨v, S, rfl, rfl, q⟩
theorem n_rW {Q : Rt → MS → Prop} {v : Rt} (m : MI S) (F : fM E S0 S) (q : Q v S) : nJ (NW E S0 Q) (some (v, S)) := ⟨v, S, rfl, ⟨m, F⟩, q⟩
theorem n_PP {Q Q' : Rt → Prop} {X : Option (Rt × MS)} (c : nJ (NP S Q) X) (q : ∀ r, Q r → Q' r) : nJ (NP S Q') X := by
  obtain ⟨r, S', e, h1, h2⟩ := c
  exact ⟨r, S', e, h1, q r h2⟩
theorem n_PW {Q : Rt → Prop} {Q' : Rt → MS → Prop} {X : Option (Rt × MS)} (m : MI S) (F : fM E S0 S) (c : nJ (NP S Q) X) (q : ∀ r, Q r → Q' r S) : nJ (NW E S0 Q') X := by
  obtain ⟨r, S', e, rfl, h2⟩ := c
  exact ⟨r, S', e, ⟨m, F⟩, q r h2⟩
theorem n_WW {E' : List Nat} {Q Q' : Rt → MS → Prop} {X : Option (Rt × MS)} (F : fM E S0 S) (c : nJ (NW E' S Q) X) (hE : ∀ k ∈ E', k ∈ E) (q : ∀ r S1, MI S1 → fM E' S S1 → Q r S1 → Q' r S1) : nJ (NW E S0 Q') X := by
  obtain ⟨r, S', e, ⟨m, g⟩, hq⟩ := c
  exact ⟨r, S', e, ⟨m, fM_tr F g hE⟩, q r S' m g hq⟩
end N
theorem i_and_n {y : Int32} {c : Nat} (hc : c < 2 ^ 31) (h : y.toBitVec.toNat ≤ c) : 0 ≤ y.toInt ∧ y.toInt ≤ (c : Int) := by
  have e : y.toInt = (y.toBitVec.toNat : Int) := BitVec.toInt_eq_toNat_of_lt (by omega)
  omega
theorem i_and255 (x : Int32) : 0 ≤ (x &&& 255).toInt ∧ (x &&& 255).toInt ≤ 255 := i_and_n (c := 255) (by decide) (by rw [Int32.toBitVec_and, BitVec.toNat_and]; exact Nat.and_le_right)
theorem i_and127 (x : Int32) : 0 ≤ (x &&& 127).toInt ∧ (x &&& 127).toInt ≤ 127 := i_and_n (c := 127) (by decide) (by rw [Int32.toBitVec_and, BitVec.toNat_and]; exact Nat.and_le_right)
