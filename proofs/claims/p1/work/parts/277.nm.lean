-- which object a row of the question names
theorem nI_t {j : Nat} (h : j < 2 ^ 31) : (nI j).toInt = (j : Int) := Int32.toInt_ofNat_of_lt h
noncomputable def obN (S : MS) (q : Nat) : Int32 := fstO S (slc (S.2.2.2 36) (16 * q) (szA S 37 q)) 2 0 (S.1 8).toInt.toNat
theorem sz_nI {S : MS} (m : MI S) (k o : Nat) {hi : Int} (e : rR k = (0, hi)) (h16 : hi ≤ 16) : S.2.2.1 k o = nI (szA S k o) ∧ szA S k o ≤ 16 := by
  have h := m.2.1 k o
  rw [e] at h
  simp only at h
  have hs : szA S k o = (S.2.2.1 k o).toInt.toNat := rfl
  refine ⟨Int32.toInt_inj.mp ?_, by omega⟩
  rw [hs, nI_t (by omega)]
  omega
theorem xM_objQ {a1 : Int32} {S : MS} (m : MI S) (p0 : 0 ≤ a1.toInt) (p1 : a1.toInt ≤ 59) {x : Int32} (ex : x = S.2.2.1 37 a1.toInt.toNat) : nJ (NP S (fun r : Int32 => r = obN S a1.toInt.toNat ∧ -1 ≤ r.toInt ∧ r.toInt ≤ 39)) (gM_objectOf 36 ((16 : Int32) * a1) x 2 S) := by
  have i16 : ((16 : Int32) * a1).toInt = 16 * a1.toInt := i_mul (n := 16) rfl (by omega) (by omega)
  have e1 : (16 : Int32) * a1 = nI (16 * a1.toInt.toNat) := Int32.toInt_inj.mp (by rw [i16, nI_t (by omega)]; omega)
  have h37 := sz_nI m 37 a1.toInt.toNat rfl (by decide)
  have r8 := mi_f m 8 rfl
  have e8 : S.1 8 = nI (S.1 8).toInt.toNat := Int32.toInt_inj.mp (by rw [nI_t (by omega)]; omega)
  have hx : x = nI (szA S 37 a1.toInt.toNat) := by rw [ex]; exact h37.1
  obtain ⟨r, S', e, hS, hb⟩ := nM_objectOf (L_a1 := 960) (a1 := 36) (a2 := (16 : Int32) * a1) (a3 := x) (a4 := 2) m (by decide) (by omega) (by omega) (by rw [hx, nI_t (by omega)]; omega) (by rw [hx, nI_t (by omega)]; omega) (by rw [hx, nI_t (by omega)]; omega)
  have g := g_obj (S := S) (ka := 36) (A := 16 * a1.toInt.toNat) (n := szA S 37 a1.toInt.toNat) (ob := (S.1 8).toInt.toNat) ⟨by decide, rfl, rfl⟩ (by show _ ≤ 960; omega) 2 e8 (by omega) (fun o _ => sz_nI m 10 o rfl (by decide))
  rw [← e1, ← hx] at g
  rw [e] at g
  cases g
  exact ⟨_, _, e, rfl, rfl, hb⟩
theorem fstO_fr {S S' : MS} (h12 : S'.2.2.1 12 = S.2.2.1 12) (h10 : S'.2.2.1 10 = S.2.2.1 10) (h9 : S'.2.2.2 9 = S.2.2.2 9) (xs : List Int64) (ac : Int32) : ∀ (n o : Nat), fstO S' xs ac o n = fstO S xs ac o n
  | 0, o => rfl
  | n + 1, o => by
    unfold fstO nmA szA
    rw [h12, h10, h9, fstO_fr h12 h10 h9 xs ac n]
theorem obN_fr {E : List Nat} {S S' : MS} (f : fM E S S') (h8 : 8 ∉ E) (h9 : 9 ∉ E) (h10 : 10 ∉ E) (h12 : 12 ∉ E) (h36 : 36 ∉ E) (h37 : 37 ∉ E) (q : Nat) : obN S' q = obN S q := by
  unfold obN szA
  rw [f.1 8 h8, f.2.2.1 36 h36, f.2.1 37 h37, fstO_fr (f.2.1 12 h12) (f.2.1 10 h10) (f.2.2.1 9 h9)]
-- which rows make a row of a table
noncomputable def mkI (S : MS) (t : Int) (r : Nat) : Int := if 0 ≤ (obN S r).toInt ∧ (S.2.2.1 16 (obN S r).toInt.toNat).toInt ≠ 0 ∧ (S.2.2.1 15 (obN S r).toInt.toNat).toInt = t ∧ (S.2.2.1 38 r).toInt = 2 ∧ 4 ≤ (S.2.2.2 39 r).toInt ∧ (S.2.2.2 39 r).toInt ≤ 5 then 1 else 0
noncomputable def cM (S : MS) (t : Int) : Nat → Int
  | 0 => 0
  | n + 1 => cM S t n + mkI S t n
theorem cM_b (S : MS) (t : Int) : ∀ n : Nat, 0 ≤ cM S t n ∧ cM S t n ≤ (n : Int)
  | 0 => by unfold cM; omega
  | n + 1 => by
    have := cM_b S t n
    unfold cM mkI
    split <;> omega
def gp (S : MS) (q : Nat) (o : Int32) : Prop := 0 ≤ (S.2.2.1 15 o.toInt.toNat).toInt → (1 ≤ (S.2.2.2 36 (16 * q + (S.2.2.1 10 o.toInt.toNat).toInt.toNat)).toInt ∧ (S.2.2.2 36 (16 * q + (S.2.2.1 10 o.toInt.toNat).toInt.toNat)).toInt ≤ 2147483647) ∧ ((S.2.2.1 16 o.toInt.toNat).toInt ≠ 0 → 4 ≤ (S.2.2.2 39 q).toInt → (S.2.2.2 39 q).toInt ≤ 5 → (S.2.2.1 26 (S.2.2.1 15 o.toInt.toNat).toInt.toNat).toInt + cM S (S.2.2.1 15 o.toInt.toNat).toInt q ≤ 15)
def good (S : MS) (q : Nat) : Prop := 0 ≤ (obN S q).toInt ∧ (S.2.2.1 38 q).toInt = (S.2.2.1 11 (obN S q).toInt.toNat).toInt ∧ gp S q (obN S q)
set_option maxHeartbeats 4000000 in
theorem cM_194 {S : MS} (m : MI S) {a1 a2 a5 : Int32} (h1 : 0 ≤ a1.toInt) (h2 : a1.toInt ≤ 19) (h3 : 0 ≤ a2.toInt) (h4 : a2.toInt ≤ 39) {P : Prop} (hP : ((S.2.2.1 16 a2.toInt.toNat).toInt ≠ 0 → 4 ≤ (S.2.2.2 39 a1.toInt.toNat).toInt → (S.2.2.2 39 a1.toInt.toNat).toInt ≤ 5 → (S.2.2.1 26 a5.toInt.toNat).toInt + cM S a5.toInt a1.toInt.toNat ≤ 15) → P) : ∀ (n : Nat) (a6 a7 a8 a9 a10 : Int32), 0 ≤ a10.toInt → a10.toInt ≤ a1.toInt → a9.toInt = (S.2.2.1 26 a5.toInt.toNat).toInt + cM S a5.toInt a10.toInt.toNat → -100 ≤ (S.2.2.1 26 a5.toInt.toNat).toInt → (S.2.2.1 26 a5.toInt.toNat).toInt ≤ 100 → 20 - a10.toInt < (n : Int) → nJ (NW [56, 57] S (fun (_ : Unit) (S' : MS) => (S'.1 56).toInt ≠ 0 ∨ P)) (gM_checkPlace_194 n a1 a2 a5 a6 a7 a8 a9 a10 S) := by
  have L0 : (0 : Int32).toInt = 0 := rfl
  have L1 : (1 : Int32).toInt = 1 := rfl
  have L2 : (2 : Int32).toInt = 2 := rfl
  have L16 : (16 : Int32).toInt = 16 := rfl
  have J4 : (4 : Int64).toInt = 4 := rfl
  have J5 : (5 : Int64).toInt = 5 := rfl
  have F0 := fM_rf [56, 57] S
  intro n
  induction n with
  | zero => intro a6 a7 a8 a9 a10 p0 p1 p2 p3 p4 q; exfalso; omega
  | succ n ih =>
    intro a6 a7 a8 a9 a10 p0 p1 p2 p3 p4 q
    have cb := cM_b S a5.toInt a10.toInt.toNat
    have hf : ∀ (v : Int32), v.toInt ≠ 0 → nJ (NW [56, 57] S (fun (_ : Unit) (S' : MS) => (S'.1 56).toInt ≠ 0 ∨ P)) (mc (gM_fail v a1 S) fun _ S6 => some ((), S6)) := by
      intro v hv
      refine n_cW F0 (nM_fail m hv) (by decide) (fun _ S6 m6 F6 _ q6 => ?_)
      exact n_rW m6 F6 (Or.inl q6)
    unfold gM_checkPlace_194
    refine n_le (fun c => ?_) (fun c => ?_)
    · have e10 : a10.toInt.toNat = a1.toInt.toNat := by omega
      rw [e10] at p2 cb
      refine n_rI (L := 40) m (by decide) rfl (by omega) (by omega) (fun x1 e1 _ _ => ?_)
      refine n_eq (fun c1 => ?_) (fun c1 => ?_)
      · have done : nJ (NW [56, 57] S (fun (_ : Unit) (S' : MS) => (S'.1 56).toInt ≠ 0 ∨ P)) (some ((), S)) := n_rW m F0 (Or.inr (hP (fun q => absurd (by rw [← e1]; omega) q)))
        refine n_if (fun _ => ?_) (fun _ => done)
        refine n_if (fun _ => hf 18 (by decide)) (fun _ => done)
      · refine n_rJ (L := 60) (by decide) (by omega) (by omega) (fun x2 e2 => ?_)
        have b345 : nJ (NW [56, 57] S (fun (_ : Unit) (S' : MS) => (S'.1 56).toInt ≠ 0 ∨ P)) (gM_checkPlace_345 a1 a6 a8 a9 x2 S) := by
          have b379 : nJ (NW [56, 57] S (fun (_ : Unit) (S' : MS) => (S'.1 56).toInt ≠ 0 ∨ P)) (gM_checkPlace_379 a1 a9 x2 S) := by
            unfold gM_checkPlace_379
            refine n_cP (nM_in m) (fun x qx => ?_)
            refine n_eq (fun c3 => ?_) (fun c3 => ?_)
            · exact n_rW m F0 (Or.inr (hP (fun _ z1 z2 => by rw [← e2] at z1 z2; omega)))
            · refine n_lt (fun c4 => ?_) (fun c4 => ?_)
              · exact n_rW m F0 (Or.inr (hP (fun _ _ _ => by omega)))
              · exact hf 13 (by decide)
          unfold gM_checkPlace_345
          refine n_cP (nM_in m) (fun x qx => ?_)
          refine n_if (fun _ => b379) (fun _ => ?_)
          refine n_if (fun _ => ?_) (fun _ => hf 12 (by decide))
          exact n_if (fun _ => b379) (fun _ => hf 12 (by decide))
        refine n_if (fun _ => b345) (fun _ => ?_)
        exact n_if (fun _ => hf 12 (by decide)) (fun _ => b345)
    · refine n_rI (L := 60) m (by decide) rfl (by omega) (by omega) (fun x7 e7 _ _ => ?_)
      refine n_cP (xM_objQ m p0 (by omega) e7) (fun x8 q8 => ?_)
      have nx : ∀ (v : Int32), v.toInt = mkI S a5.toInt a10.toInt.toNat → nJ (NW [56, 57] S (fun (_ : Unit) (S' : MS) => (S'.1 56).toInt ≠ 0 ∨ P)) (sm_let (a9 + v) fun x10 => sm_let (a10 + (1 : Int32)) fun x11 => gM_checkPlace_194 n a1 a2 a5 a6 a7 a8 x10 x11 S) := by
        intro v hv
        have hm : 0 ≤ mkI S a5.toInt a10.toInt.toNat ∧ mkI S a5.toInt a10.toInt.toNat ≤ 1 := by unfold mkI; split <;> omega
        refine n_letv (fun y h9 => ?_)
        refine n_letv (fun z h10 => ?_)
        have i9 : y.toInt = a9.toInt + v.toInt := by rw [h9]; exact i_add (by omega) (by omega)
        have i10 : z.toInt = a10.toInt + 1 := by rw [h10]; exact i_add1 (by omega)
        refine ih _ _ _ _ _ (by omega) (by omega) ?_ p3 p4 (by omega)
        rw [i10, show (a10.toInt + 1).toNat = a10.toInt.toNat + 1 by omega, i9, hv, p2]
        show _ = _ + (cM S a5.toInt a10.toInt.toNat + mkI S a5.toInt a10.toInt.toNat)
        omega
      refine n_lt (fun c1 => ?_) (fun c1 => ?_)
      · exact nx 0 (by unfold mkI; rw [← q8.1, if_neg (fun z => by omega)]; rfl)
      · refine n_rI (L := 40) m (by decide) rfl (by omega) (by omega) (fun x12 e12 _ _ => ?_)
        refine n_eq (fun c2 => ?_) (fun c2 => ?_)
        · exact nx 0 (by unfold mkI; rw [← q8.1, ← e12, if_neg (fun z => by omega)]; rfl)
        · refine n_rI (L := 40) m (by decide) rfl (by omega) (by omega) (fun x15 e15 _ _ => ?_)
          refine n_eq (fun c3 => ?_) (fun c3 => ?_)
          · refine n_rI (L := 60) m (by decide) rfl (by omega) (by omega) (fun x18 e18 _ _ => ?_)
            refine n_eq (fun c4 => ?_) (fun c4 => ?_)
            · refine n_rJ (L := 60) (by decide) (by omega) (by omega) (fun x21 e21 => ?_)
              refine n_cP (nM_in m) (fun x22 q22 => ?_)
              refine n_eq (fun c5 => ?_) (fun c5 => ?_)
              · exact nx 0 (by unfold mkI; rw [← q8.1, ← e12, ← e15, ← e18, ← e21, if_neg (fun z => by omega)]; rfl)
              · exact nx 1 (by unfold mkI; rw [← q8.1, ← e12, ← e15, ← e18, ← e21, if_pos ⟨by omega, by omega, by omega, by omega, by omega, by omega⟩]; rfl)
            · exact nx 0 (by unfold mkI; rw [← q8.1, ← e12, ← e15, ← e18, if_neg (fun z => by omega)]; rfl)
          · exact nx 0 (by unfold mkI; rw [← q8.1, ← e12, ← e15, if_neg (fun z => by omega)]; rfl)
