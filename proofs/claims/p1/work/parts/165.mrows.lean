-- the first code follows the code over the state
def z2 {Rt : Type} (m : Nat) (X : Option (Rt × sm_H)) (G : Option (Rt × MS)) (h : sm_H) : Prop := ∀ r S', G = some (r, S') → ∃ h', X = some (r, h') ∧ Mo h' m S' ∧ fr (inM m) h h'
def mRI (S : MS) (k t : Nat) (i : Int32) : Option Int32 := if (k < 66 ∧ (mT k).1 = 2 ∧ (mT k).2.1 = t) ∧ ¬ (i < 0 ∨ (mT k).2.2.1 ≤ i.toNatClampNeg) then some (S.2.2.1 k i.toNatClampNeg) else none
def mRJ (S : MS) (k t : Nat) (i : Int32) : Option Int64 := if (k < 66 ∧ (mT k).1 = 3 ∧ (mT k).2.1 = t) ∧ ¬ (i < 0 ∨ (mT k).2.2.1 ≤ i.toNatClampNeg) then some (S.2.2.2 k i.toNatClampNeg) else none
def mWI (S : MS) (k t : Nat) (i v : Int32) : Option MS := if (k < 66 ∧ (mT k).1 = 2 ∧ (mT k).2.1 = t) ∧ ¬ (i < 0 ∨ (mT k).2.2.1 ≤ i.toNatClampNeg) then some (sA S k i.toNatClampNeg v) else none
def mWJ (S : MS) (k t : Nat) (i : Int32) (v : Int64) : Option MS := if (k < 66 ∧ (mT k).1 = 3 ∧ (mT k).2.1 = t) ∧ ¬ (i < 0 ∨ (mT k).2.2.1 ≤ i.toNatClampNeg) then some (sB S k i.toNatClampNeg v) else none
def mc {α β : Type} (o : Option (α × MS)) (f : α → MS → Option β) : Option β := o.bind fun z => f z.1 z.2
-- the address of row k
def mR (m k : Nat) : Option Nat := some (m + (mT k).2.2.2)
section Z2
variable {Rt : Type} {m : Nat} {S : MS} {h : sm_H} {X Y : Option (Rt × sm_H)} {G G' : Option (Rt × MS)}
theorem z2_none : z2 m X (none : Option (Rt × MS)) h := fun r S' e => by cases e
theorem z2_ret (H : Mo h m S) {r : Rt} : z2 m (some (r, h)) (some (r, S)) h := fun r' S' e => by cases e; exact ⟨h, rfl, H, fr_rf h⟩
theorem z2_ite {c : Prop} {d : Decidable c} (k1 : z2 m X G h) (k2 : z2 m Y G' h) : z2 m (if c then X else Y) (if c then G else G') h := by
  by_cases hc : c
  · rw [if_pos hc, if_pos hc]; exact k1
  · rw [if_neg hc, if_neg hc]; exact k2
theorem z2_gI {k : Nat} {X : Int32 → Option (Rt × sm_H)} {G : Int32 → Option (Rt × MS)} (H : Mo h m S) (hk : k < 66) (h0 : (mT k).1 = 0) (kk : ∀ x, z2 m (X x) (G x) h) : z2 m ((sm_I (sm_get h (some m) 12 k)).bind X) (sm_let (S.1 k) G) h := by
  rw [mo_get H hk]
  unfold mV
  rw [if_pos h0]
  exact kk _
theorem z2_gJ {X : Int64 → Option (Rt × sm_H)} {G : Int64 → Option (Rt × MS)} (H : Mo h m S) (kk : ∀ x, z2 m (X x) (G x) h) : z2 m ((sm_J (sm_get h (some m) 12 6)).bind X) (sm_let S.2.1 G) h := by
  rw [mg_clock H]
  exact kk _
theorem z2_gR {k : Nat} {X : Option Nat → Option (Rt × sm_H)} (H : Mo h m S) (hk : k < 66) (h2 : 2 ≤ (mT k).1) (kk : z2 m (X (mR m k)) G h) : z2 m ((sm_R (sm_get h (some m) 12 k)).bind X) G h := by
  rw [mo_get H hk]
  unfold mV
  rw [if_neg (by omega), if_neg (by omega)]
  exact kk
theorem z2_tr {h1 : sm_H} (F : fr (inM m) h h1) (k : z2 m X G h1) : z2 m X G h := fun r S' e => by
  obtain ⟨h', e1, H', F'⟩ := k r S' e
  exact ⟨h', e1, H', fr_tr F F'⟩
theorem z2_pI {k : Nat} {v : Int32} {X : sm_H → Option (Rt × sm_H)} {G : MS → Option (Rt × MS)} (H : Mo h m S) (hk : k < 66) (h0 : (mT k).1 = 0) (kk : ∀ S1 h1, Mo h1 m S1 → z2 m (X h1) (G S1) h1) : z2 m ((sm_put h (some m) 12 k (sm_v (vI v))).bind X) (sm_let (sI S k v) G) h := by
  obtain ⟨h', e, H', F⟩ := mo_pI H hk h0 v
  rw [e]
  exact z2_tr F (kk _ _ H')
theorem z2_pZ {k : Nat} {v : Int32} {X : sm_H → Option (Rt × sm_H)} {G : MS → Option (Rt × MS)} (H : Mo h m S) (hk : k < 66) (h0 : (mT k).1 = 0) (kk : ∀ S1 h1, Mo h1 m S1 → z2 m (X h1) (G S1) h1) : z2 m (if v = 0 ∨ v = 1 then (sm_put h (some m) 12 k (sm_v (vI v))).bind X else none) (if v = 0 ∨ v = 1 then sm_let (sI S k v) G else none) h := z2_ite (z2_pI H hk h0 kk) z2_none
theorem z2_pJ {v : Int64} {X : sm_H → Option (Rt × sm_H)} {G : MS → Option (Rt × MS)} (H : Mo h m S) (kk : ∀ S1 h1, Mo h1 m S1 → z2 m (X h1) (G S1) h1) : z2 m ((sm_put h (some m) 12 6 (sm_v (vJ v))).bind X) (sm_let (sC S v) G) h := by
  obtain ⟨h', e, H', F⟩ := mo_pJ H v
  rw [e]
  exact z2_tr F (kk _ _ H')
theorem z2_in {i : Int32} {n : Nat} (hi : ¬ (i < 0 ∨ n ≤ i.toNatClampNeg)) : ∃ j, j < n ∧ i = nI j ∧ i.toNatClampNeg = j := by
  have h0 : ¬ i < 0 := fun q => hi (Or.inl q)
  obtain ⟨j, hj, rfl⟩ := nI_of h0
  have hc := nI_clamp hj
  exact ⟨j, by rw [hc] at hi; omega, rfl, hc⟩
theorem z2_aI {k t : Nat} {i : Int32} {X : Int32 → Option (Rt × sm_H)} {G : Int32 → Option (Rt × MS)} (H : Mo h m S) (kk : ∀ x, z2 m (X x) (G x) h) : z2 m ((sm_aI h (mR m k) t i).bind X) ((mRI S k t i).bind G) h := by
  unfold mRI
  by_cases hc : (k < 66 ∧ (mT k).1 = 2 ∧ (mT k).2.1 = t) ∧ ¬ (i < 0 ∨ (mT k).2.2.1 ≤ i.toNatClampNeg)
  · rw [if_pos hc]
    obtain ⟨⟨h1, h2, rfl⟩, h4⟩ := hc
    obtain ⟨j, hj, rfl, hcl⟩ := z2_in h4
    unfold mR
    rw [mo_aA H h1 h2 hj, hcl]
    exact kk _
  · rw [if_neg hc]; exact z2_none
theorem z2_aJ {k t : Nat} {i : Int32} {X : Int64 → Option (Rt × sm_H)} {G : Int64 → Option (Rt × MS)} (H : Mo h m S) (kk : ∀ x, z2 m (X x) (G x) h) : z2 m ((sm_aJ h (mR m k) t i).bind X) ((mRJ S k t i).bind G) h := by
  unfold mRJ
  by_cases hc : (k < 66 ∧ (mT k).1 = 3 ∧ (mT k).2.1 = t) ∧ ¬ (i < 0 ∨ (mT k).2.2.1 ≤ i.toNatClampNeg)
  · rw [if_pos hc]
    obtain ⟨⟨h1, h2, rfl⟩, h4⟩ := hc
    obtain ⟨j, hj, rfl, hcl⟩ := z2_in h4
    unfold mR
    rw [mo_aB H h1 h2 hj, hcl]
    exact kk _
  · rw [if_neg hc]; exact z2_none
theorem z2_sI {k t : Nat} {i v : Int32} {X : sm_H → Option (Rt × sm_H)} {G : MS → Option (Rt × MS)} (H : Mo h m S) (kk : ∀ S1 h1, Mo h1 m S1 → z2 m (X h1) (G S1) h1) : z2 m ((sm_sI h (mR m k) t i v).bind X) ((mWI S k t i v).bind G) h := by
  unfold mWI
  by_cases hc : (k < 66 ∧ (mT k).1 = 2 ∧ (mT k).2.1 = t) ∧ ¬ (i < 0 ∨ (mT k).2.2.1 ≤ i.toNatClampNeg)
  · rw [if_pos hc]
    obtain ⟨⟨h1, h2, rfl⟩, h4⟩ := hc
    obtain ⟨j, hj, rfl, hcl⟩ := z2_in h4
    obtain ⟨h', e, H', F⟩ := mo_sA H h1 h2 hj v
    unfold mR
    rw [e, hcl]
    exact z2_tr F (kk _ _ H')
  · rw [if_neg hc]; exact z2_none
theorem z2_sJ {k t : Nat} {i : Int32} {v : Int64} {X : sm_H → Option (Rt × sm_H)} {G : MS → Option (Rt × MS)} (H : Mo h m S) (kk : ∀ S1 h1, Mo h1 m S1 → z2 m (X h1) (G S1) h1) : z2 m ((sm_sJ h (mR m k) t i v).bind X) ((mWJ S k t i v).bind G) h := by
  unfold mWJ
  by_cases hc : (k < 66 ∧ (mT k).1 = 3 ∧ (mT k).2.1 = t) ∧ ¬ (i < 0 ∨ (mT k).2.2.1 ≤ i.toNatClampNeg)
  · rw [if_pos hc]
    obtain ⟨⟨h1, h2, rfl⟩, h4⟩ := hc
    obtain ⟨j, hj, rfl, hcl⟩ := z2_in h4
    obtain ⟨h', e, H', F⟩ := mo_sB H h1 h2 hj v
    unfold mR
    rw [e, hcl]
    exact z2_tr F (kk _ _ H')
  · rw [if_neg hc]; exact z2_none
theorem z2_let {α : Type} {x : α} {X : α → Option (Rt × sm_H)} {G : α → Option (Rt × MS)} (kk : ∀ x, z2 m (X x) (G x) h) : z2 m (sm_let x X) (sm_let x G) h := kk x
theorem z2_cS {R2 : Type} {o : Option (R2 × sm_H)} {p : Option (R2 × MS)} {X : R2 → sm_H → Option (Rt × sm_H)} {G : R2 → MS → Option (Rt × MS)} (hc : z2 m o p h) (kk : ∀ x S1 h1, Mo h1 m S1 → z2 m (X x h1) (G x S1) h1) : z2 m (sm_cb o X) (mc p G) h := by
  intro r S' e
  obtain ⟨⟨x, S1⟩, e1, e2⟩ := sm_bind e
  obtain ⟨h1, f1, H1, F1⟩ := hc x S1 e1
  obtain ⟨h', g1, g2, g3⟩ := kk x S1 h1 H1 r S' e2
  exact ⟨h', by rw [f1]; exact g1, g2, fr_tr F1 g3⟩
theorem z2_cV {R2 : Type} {F : Nat → Option (R2 × sm_H)} {p : Option (R2 × MS)} {X : R2 → sm_H → Option (Rt × sm_H)} {G : R2 → MS → Option (Rt × MS)} (H : Mo h m S) (hc : z2 m (F m) p h) (kk : ∀ x S1 h1, Mo h1 m S1 → z2 m (X x h1) (G x S1) h1) : z2 m ((sm_obj h (some m) 12).bind fun b => sm_cb (F b) X) (mc p G) h := by
  rw [mo_obj H]
  exact z2_cS hc kk
end Z2
