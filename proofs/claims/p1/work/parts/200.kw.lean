-- the class's cells by kinds: G gives every address of the class its kind (code, length of a row, region); code 0: not the class's
abbrev GT : Type := Nat → Nat × Nat × Nat
abbrev FTy : Type := (Int × Int) ⊕ Unit ⊕ (Bool × Nat × Nat)
def iA : FTy := .inl (-2147483648, 2147483647)
def iR (lo hi : Int) : FTy := .inl (lo, hi)
def lT : FTy := .inr (.inl ())
def rT (c r : Nat) : FTy := .inr (.inr (false, c, r))
def nT (c r : Nat) : FTy := .inr (.inr (true, c, r))
def tG (G : GT) (b c r : Nat) : Prop := (G b).1 = c ∧ (G b).2.2 = r
def tN (G : GT) (x : Option Nat) (c r : Nat) : Prop := ∀ b, x = some b → tG G b c r
def fok (G : GT) (ρ : Nat) (ty : FTy) (v : Value) : Prop := match ty with
  | .inl q => ∃ i : Int32, v = .int i ∧ q.1 ≤ i.toInt ∧ i.toInt ≤ q.2
  | .inr (.inl _) => ∃ j : Int64, v = .long j
  | .inr (.inr q) => ∃ x : Option Nat, v = va_rf x ∧ (q.1 = false → x ≠ none) ∧ tN G x q.2.1 (if q.2.2 = 9 then ρ else q.2.2)
def FTs (c : Nat) : List FTy := [[], [rT 21 9, iR 0 1200], [rT 10 0, rT 4 0], [rT 1 3, iR 0 1, rT 29 0, rT 22 0, iA], [rT 1 0, rT 27 0, nT 3 0, iA, iA, iA, iA, iA, iR 0 20], [rT 1 0, rT 11 0], [rT 1 1, rT 11 0, iR 0 1200], [rT 1 0, rT 27 0, iR 0 40, iA, iA, iA], [rT 1 0, rT 24 0, rT 20 0, nT 9 0, iA, iA], [rT 1 0, iA, iA, lT, lT, nT 8 0, rT 28 0], [rT 24 0, rT 24 0, rT 25 0, iR 0 40, iR 0 4], [rT 1 0, iA, lT], [rT 1 1, rT 1 2, rT 10 0, rT 26 0, rT 4 0, rT 6 0, rT 2 0, rT 7 0, rT 20 0, rT 1 0, rT 11 0, rT 11 0, rT 11 0, rT 11 0, iA, iA, lT]].getD c []
def aB (c : Nat) : Nat := if c = 24 then 40 else if c = 25 then 4 else if c = 27 then 40 else 1200
def eT (c : Nat) : Nat := [9, 8, 3, 5, 11, 1].getD (c - 24) 0
def dok (G : GT) (c : Nat) (d : (Nat → Int32) ⊕ (Nat → Int64) ⊕ (Nat → UInt32) ⊕ (Nat → UInt64) ⊕ (Nat → Option Nat)) : Prop :=
  if c = 21 then ∃ f, d = .inr (.inl f) else if c = 22 then ∃ f, d = .inl f ∧ ∀ i, f i = 0 ∨ f i = 1 else if c < 24 then ∃ f, d = .inl f else ∃ f, d = .inr (.inr (.inr (.inr f))) ∧ ∀ i, tN G (f i) (eT c) 0
def okc (G : GT) (T : Nat × Nat × Nat) (e : sm_E) : Prop :=
  if T.1 < 20 then ∃ vs, e = .inr (T.1 - 1, vs) ∧ vs.length = (FTs T.1).length ∧ ∀ (k : Nat) (ty : FTy), (FTs T.1)[k]? = some ty → ∃ v, vs[k]? = some v ∧ fok G T.2.2 ty v
  else T.1 < 30 ∧ ∃ d, e = .inl (T.1 - 20, T.2.1, d) ∧ T.2.1 ≤ aB T.1 ∧ dok G T.1 d
def Wf (G : GT) (h : sm_H) : Prop := ∀ a, (G a).1 ≠ 0 → a < h.1 ∧ ∃ e, h.2.2 a = some e ∧ okc G (G a) e
-- a code answers, and R holds of what it answers
def kJ {Rt : Type} (R : Rt → sm_H → GT → Prop) (X : Option (Rt × sm_H)) : Prop := ∃ r h' G', X = some (r, h') ∧ R r h' G'
-- it only reads
def RP {Rt : Type} (G : GT) (h : sm_H) (Q : Rt → Prop) : Rt → sm_H → GT → Prop := fun r h' G' => h' = h ∧ G' = G ∧ Q r
-- it writes cells of the kinds in E, and makes none
def fE (E : List (Nat × Nat)) (G : GT) (h h1 : sm_H) : Prop := Wf G h1 ∧ h1.1 = h.1 ∧ h1.2.1 = h.2.1 ∧ ∀ a, ((G a).1, (G a).2.2) ∉ E → h1.2.2 a = h.2.2 a
def RW {Rt : Type} (E : List (Nat × Nat)) (G : GT) (h : sm_H) (Q : Rt → sm_H → Prop) : Rt → sm_H → GT → Prop := fun r h' G' => G' = G ∧ fE E G h h' ∧ Q r h'
-- it makes cells too; x: the one that is being made
def RA {Rt : Type} (N x : Nat) (E : List (Nat × Nat)) (M1 M2 : Nat) (G : GT) (h : sm_H) (Q : GT → Rt → sm_H → Prop) : Rt → sm_H → GT → Prop := fun r h' G' => (Wf G' h' ∧ h.1 ≤ h'.1 ∧ h'.1 ≤ M1 ∧ h'.2.1 ≤ M2 ∧ (∀ a, a < N → a ≠ x → G' a = G a) ∧ ∀ a, a < N → a ≠ x → ((G a).1, (G a).2.2) ∉ E → h'.2.2 a = h.2.2 a) ∧ Q G' r h'
def one (G : GT) (h : sm_H) (a : Nat) (h1 : sm_H) : Prop := Wf G h1 ∧ h1.1 = h.1 ∧ h1.2.1 = h.2.1 ∧ ∀ b, b ≠ a → h1.2.2 b = h.2.2 b
theorem i_lo (x : Int32) : -2147483648 ≤ x.toInt := Int32.le_toInt x
theorem i_hi (x : Int32) : x.toInt ≤ 2147483647 := by have := Int32.toInt_lt x; omega
theorem tG_lt {G : GT} {h : sm_H} {a c r : Nat} (W : Wf G h) (t : tG G a c r) (hc : c ≠ 0) : a < h.1 := (W a (by rw [t.1]; exact hc)).1
theorem tN_s {G : GT} {b c r : Nat} (t : tG G b c r) : tN G (some b) c r := fun b' e => by cases e; exact t
theorem tN_n {G : GT} {c r : Nat} : tN G none c r := fun b' e => by cases e
section K
variable {Rt : Type} {R : Rt → sm_H → GT → Prop} {G : GT} {h : sm_H} {a c r ci k : Nat}
theorem kw_obj (W : Wf G h) (t : tG G a (ci + 1) r) (hl : ci < 19) : ∃ vs, h.2.2 a = some (.inr (ci, vs)) ∧ vs.length = (FTs (ci + 1)).length ∧ ∀ (k : Nat) (ty : FTy), (FTs (ci + 1))[k]? = some ty → ∃ v, vs[k]? = some v ∧ fok G r ty v := by
  obtain ⟨-, e, he, ho⟩ := W a (by rw [t.1]; omega)
  unfold okc at ho
  rw [t.1, t.2, if_pos (by omega)] at ho
  obtain ⟨vs, rfl, h1, h2⟩ := ho
  exact ⟨vs, he, h1, h2⟩
theorem kw_get (W : Wf G h) (t : tG G a (ci + 1) r) (hl : ci < 19) {ty : FTy} (hf : (FTs (ci + 1))[k]? = some ty) : ∃ v, sm_get h (some a) ci k = some v ∧ fok G r ty v := by
  obtain ⟨vs, he, -, h2⟩ := kw_obj W t hl
  obtain ⟨v, h3, h4⟩ := h2 k ty hf
  exact ⟨v, by rw [pu_get he, h3], h4⟩
theorem kw_arr {tt : Nat} (W : Wf G h) (t : tG G a (20 + tt) r) : ∃ d, h.2.2 a = some (.inl (tt, (G a).2.1, d)) ∧ (G a).2.1 ≤ aB (20 + tt) ∧ dok G (20 + tt) d := by
  obtain ⟨-, e, he, ho⟩ := W a (by rw [t.1]; omega)
  unfold okc at ho
  rw [t.1, if_neg (by omega)] at ho
  obtain ⟨-, d, rfl, h1, h2⟩ := ho
  refine ⟨d, ?_, h1, h2⟩
  rw [he, show 20 + tt - 20 = tt by omega]
theorem kw_30 {tt : Nat} (W : Wf G h) (t : tG G a (20 + tt) r) : 20 + tt < 30 := by
  obtain ⟨-, e, he, ho⟩ := W a (by rw [t.1]; omega)
  unfold okc at ho
  rw [t.1, if_neg (by omega)] at ho
  exact ho.1
theorem aB_le (c : Nat) : aB c ≤ 1200 := by unfold aB; repeat (split <;> try omega)
-- reading
theorem k_gI {lo hi : Int} {X : Int32 → Option (Rt × sm_H)} (W : Wf G h) (t : tG G a (ci + 1) r) (hl : ci < 19) (hf : (FTs (ci + 1))[k]? = some (.inl (lo, hi))) (kk : ∀ x, sm_get h (some a) ci k = some (.int x) → lo ≤ x.toInt → x.toInt ≤ hi → kJ R (X x)) : kJ R ((sm_I (sm_get h (some a) ci k)).bind X) := by
  obtain ⟨v, e, x, rfl, h1, h2⟩ := kw_get W t hl hf
  have := kk x e h1 h2
  rw [e]; exact this
theorem k_gJ {X : Int64 → Option (Rt × sm_H)} (W : Wf G h) (t : tG G a (ci + 1) r) (hl : ci < 19) (hf : (FTs (ci + 1))[k]? = some (.inr (.inl ()))) (kk : ∀ x, sm_get h (some a) ci k = some (.long x) → kJ R (X x)) : kJ R ((sm_J (sm_get h (some a) ci k)).bind X) := by
  obtain ⟨v, e, x, rfl⟩ := kw_get W t hl hf
  have := kk x e
  rw [e]; exact this
theorem k_gR {c' rg r' : Nat} {X : Option Nat → Option (Rt × sm_H)} (W : Wf G h) (t : tG G a (ci + 1) r) (hl : ci < 19) (hf : (FTs (ci + 1))[k]? = some (.inr (.inr (false, c', rg)))) (hr : (if rg = 9 then r else rg) = r') (kk : ∀ b, sm_get h (some a) ci k = some (va_rf (some b)) → tG G b c' r' → kJ R (X (some b))) : kJ R ((sm_R (sm_get h (some a) ci k)).bind X) := by
  obtain ⟨v, e, x, rfl, h1, h2⟩ := kw_get W t hl hf
  cases x with
  | none => exact absurd rfl (h1 rfl)
  | some b =>
    have := kk b e (by rw [← hr]; exact h2 b rfl)
    rw [e]; exact this
theorem k_gN {c' rg r' : Nat} {X : Option Nat → Option (Rt × sm_H)} (W : Wf G h) (t : tG G a (ci + 1) r) (hl : ci < 19) (hf : (FTs (ci + 1))[k]? = some (.inr (.inr (true, c', rg)))) (hr : (if rg = 9 then r else rg) = r') (kk : ∀ x, sm_get h (some a) ci k = some (va_rf x) → tN G x c' r' → kJ R (X x)) : kJ R ((sm_R (sm_get h (some a) ci k)).bind X) := by
  obtain ⟨v, e, x, rfl, h1, h2⟩ := kw_get W t hl hf
  have := kk x e (by rw [← hr]; exact h2)
  rw [e, pu_Rf]; exact this
theorem k_kI {q : Option Nat} {x : Int32} {X : Int32 → Option (Rt × sm_H)} (e : sm_get h q ci k = some (.int x)) (kk : kJ R (X x)) : kJ R ((sm_I (sm_get h q ci k)).bind X) := by rw [e]; exact kk
theorem k_kJ {q : Option Nat} {x : Int64} {X : Int64 → Option (Rt × sm_H)} (e : sm_get h q ci k = some (.long x)) (kk : kJ R (X x)) : kJ R ((sm_J (sm_get h q ci k)).bind X) := by rw [e]; exact kk
theorem k_kR {q x : Option Nat} {X : Option Nat → Option (Rt × sm_H)} (e : sm_get h q ci k = some (va_rf x)) (kk : kJ R (X x)) : kJ R ((sm_R (sm_get h q ci k)).bind X) := by rw [e, pu_Rf]; exact kk
theorem k_obj {X : Nat → Option (Rt × sm_H)} (W : Wf G h) (t : tG G a (ci + 1) r) (hl : ci < 19) (kk : kJ R (X a)) : kJ R ((sm_obj h (some a) ci).bind X) := by
  obtain ⟨vs, he, -, -⟩ := kw_obj W t hl
  rw [pu_obj he]; exact kk
theorem k_objR {fs : List Value} {X : Nat → Option (Rt × sm_H)} (e : h.2.2 a = some (.inr (ci, fs))) (kk : kJ R (X a)) : kJ R ((sm_obj h (some a) ci).bind X) := by rw [pu_obj e]; exact kk
theorem k_len {tt B : Nat} {X : Int32 → Option (Rt × sm_H)} (W : Wf G h) (t : tG G a (20 + tt) r) (hB : aB (20 + tt) = B) (kk : ∀ x : Int32, x.toInt = ((G a).2.1 : Int) → (G a).2.1 ≤ B → kJ R (X x)) : kJ R ((sm_len h (some a) tt).bind X) := by
  obtain ⟨d, he, h1, -⟩ := kw_arr W t
  have h9 := aB_le (20 + tt)
  have := kk (nI (G a).2.1) (by unfold nI; rw [Int32.toInt_ofNat_of_lt (by omega)]) (by omega)
  rw [pu_len he]; exact this
theorem kw_ix {i : Int32} {n : Nat} (h0 : 0 ≤ i.toInt) (h1 : i.toInt < (n : Int)) : ∃ j, j < n ∧ i = nI j := by
  obtain ⟨j, hj, rfl⟩ := nI_of (x := i) (by rw [Int32.lt_iff_toInt_lt]; simp; omega)
  refine ⟨j, ?_, rfl⟩
  unfold nI at h1
  rw [Int32.toInt_ofNat_of_lt hj] at h1
  omega
theorem k_aI {tt : Nat} {i : Int32} {X : Int32 → Option (Rt × sm_H)} (W : Wf G h) (t : tG G a (20 + tt) r) (ht : tt = 0 ∨ tt = 3) (h0 : 0 ≤ i.toInt) (h1 : i.toInt < ((G a).2.1 : Int)) (kk : ∀ x, kJ R (X x)) : kJ R ((sm_aI h (some a) tt i).bind X) := by
  obtain ⟨d, he, h2, h3⟩ := kw_arr W t
  have h9 := aB_le (20 + tt)
  unfold dok at h3
  rw [if_neg (by omega), if_neg (by omega), if_pos (by omega)] at h3
  obtain ⟨f, rfl⟩ := h3
  obtain ⟨j, hj, rfl⟩ := kw_ix h0 h1
  rw [pu_aI he hj (by omega)]
  exact kk _
theorem k_aZ {i : Int32} {X : Int32 → Option (Rt × sm_H)} (W : Wf G h) (t : tG G a 22 r) (h0 : 0 ≤ i.toInt) (h1 : i.toInt < ((G a).2.1 : Int)) (kk : ∀ x, x = 0 ∨ x = 1 → kJ R (X x)) : kJ R ((sm_aI h (some a) 2 i).bind X) := by
  obtain ⟨d, he, h2, h3⟩ := kw_arr (tt := 2) W t
  have h9 := aB_le (20 + 2)
  unfold dok at h3
  rw [if_neg (by omega), if_pos (by omega)] at h3
  obtain ⟨f, rfl, h4⟩ := h3
  obtain ⟨j, hj, rfl⟩ := kw_ix h0 h1
  rw [pu_aI he hj (by omega)]
  exact kk _ (h4 j)
theorem k_aJ {i : Int32} {X : Int64 → Option (Rt × sm_H)} (W : Wf G h) (t : tG G a 21 r) (h0 : 0 ≤ i.toInt) (h1 : i.toInt < ((G a).2.1 : Int)) (kk : ∀ x, kJ R (X x)) : kJ R ((sm_aJ h (some a) 1 i).bind X) := by
  obtain ⟨d, he, h2, h3⟩ := kw_arr (tt := 1) W t
  have h9 := aB_le (20 + 1)
  unfold dok at h3
  rw [if_pos (by omega)] at h3
  obtain ⟨f, rfl⟩ := h3
  obtain ⟨j, hj, rfl⟩ := kw_ix h0 h1
  rw [pu_aJ he hj (by omega)]
  exact kk _
theorem k_aR {tt c' : Nat} {i : Int32} {X : Option Nat → Option (Rt × sm_H)} (W : Wf G h) (t : tG G a (20 + tt) r) (ht : 4 ≤ tt) (hc : eT (20 + tt) = c') (h0 : 0 ≤ i.toInt) (h1 : i.toInt < ((G a).2.1 : Int)) (kk : ∀ x, tN G x c' 0 → kJ R (X x)) : kJ R ((sm_aR h (some a) tt i).bind X) := by
  obtain ⟨d, he, h2, h3⟩ := kw_arr W t
  have h9 := aB_le (20 + tt)
  unfold dok at h3
  rw [if_neg (by omega), if_neg (by omega), if_neg (by omega)] at h3
  obtain ⟨f, rfl, h4⟩ := h3
  obtain ⟨j, hj, rfl⟩ := kw_ix h0 h1
  rw [pu_aR he hj (by omega)]
  exact kk _ (by rw [← hc]; exact h4 j)
-- conditions
theorem k_if {p : Prop} {d : Decidable p} {X Y : Option (Rt × sm_H)} (k1 : p → kJ R X) (k2 : ¬ p → kJ R Y) : kJ R (if p then X else Y) := by
  by_cases hp : p
  · rw [if_pos hp]; exact k1 hp
  · rw [if_neg hp]; exact k2 hp
theorem k_le {x y : Int32} {d : Decidable (x ≤ y)} {X Y : Option (Rt × sm_H)} (k1 : x.toInt ≤ y.toInt → kJ R X) (k2 : y.toInt < x.toInt → kJ R Y) : kJ R (if x ≤ y then X else Y) := k_if (fun p => k1 (Int32.le_iff_toInt_le.mp p)) (fun p => k2 (by rw [Int32.le_iff_toInt_le] at p; omega))
theorem k_lt {x y : Int32} {d : Decidable (x < y)} {X Y : Option (Rt × sm_H)} (k1 : x.toInt < y.toInt → kJ R X) (k2 : y.toInt ≤ x.toInt → kJ R Y) : kJ R (if x < y then X else Y) := k_if (fun p => k1 (Int32.lt_iff_toInt_lt.mp p)) (fun p => k2 (by rw [Int32.lt_iff_toInt_lt] at p; omega))
theorem k_let {α : Type} {v : α} {X : α → Option (Rt × sm_H)} (kk : ∀ x, kJ R (X x)) : kJ R (sm_let v X) := kk v
theorem k_leteq {α : Type} {v : α} {X : α → Option (Rt × sm_H)} (kk : ∀ x, x = v → kJ R (X x)) : kJ R (sm_let v X) := kk v rfl
theorem i_add1 {x : Int32} (h1 : x.toInt < 2147483647) : (x + 1).toInt = x.toInt + 1 := by
  have := Int32.le_toInt x
  rw [Int32.toInt_add, show (1 : Int32).toInt = 1 from rfl, Int.bmod_eq_of_le (by omega) (by omega)]
theorem i_sub1 {x : Int32} (h1 : -2147483648 < x.toInt) : (x + (-1)).toInt = x.toInt - 1 := by
  have := Int32.toInt_lt x
  rw [Int32.toInt_add, show (-1 : Int32).toInt = -1 from rfl, Int.bmod_eq_of_le (by omega) (by omega)]; omega
theorem i_sub {x y : Int32} (h1 : -2147483648 ≤ x.toInt - y.toInt) (h2 : x.toInt - y.toInt ≤ 2147483647) : (x - y).toInt = x.toInt - y.toInt := by
  rw [Int32.toInt_sub, Int.bmod_eq_of_le (by omega) (by omega)]
theorem i_add {x y : Int32} (h1 : -2147483648 ≤ x.toInt + y.toInt) (h2 : x.toInt + y.toInt ≤ 2147483647) : (x + y).toInt = x.toInt + y.toInt := by
  rw [Int32.toInt_add, Int.bmod_eq_of_le (by omega) (by omega)]
theorem k_add {v w : Int32} {X : Int32 → Option (Rt × sm_H)} (h1 : -2147483648 ≤ v.toInt + w.toInt) (h2 : v.toInt + w.toInt ≤ 2147483647) (kk : ∀ x, x.toInt = v.toInt + w.toInt → kJ R (X x)) : kJ R (sm_let (v + w) X) := kk _ (i_add h1 h2)
theorem k_sub {v w : Int32} {X : Int32 → Option (Rt × sm_H)} (h1 : -2147483648 ≤ v.toInt - w.toInt) (h2 : v.toInt - w.toInt ≤ 2147483647) (kk : ∀ x, x.toInt = v.toInt - w.toInt → kJ R (X x)) : kJ R (sm_let (v - w) X) := kk _ (i_sub h1 h2)
-- ends
theorem k_rP {Q : Rt → Prop} {v : Rt} (q : Q v) : kJ (RP G h Q) (some (v, h)) := ⟨v, h, G, rfl, rfl, rfl, q⟩
theorem fE_rf {E : List (Nat × Nat)} (W : Wf G h) : fE E G h h := ⟨W, rfl, rfl, fun _ _ => rfl⟩
theorem k_rW {E : List (Nat × Nat)} {Q : Rt → sm_H → Prop} {v : Rt} (W : Wf G h) (q : Q v h) : kJ (RW E G h Q) (some (v, h)) := ⟨v, h, G, rfl, rfl, fE_rf W, q⟩
theorem k_rA {N x M1 M2 : Nat} {E : List (Nat × Nat)} {Q : GT → Rt → sm_H → Prop} {v : Rt} (W : Wf G h) (h1 : h.1 ≤ M1) (h2 : h.2.1 ≤ M2) (q : Q G v h) : kJ (RA N x E M1 M2 G h Q) (some (v, h)) := ⟨v, h, G, rfl, ⟨W, Nat.le_refl _, h1, h2, fun _ _ _ => rfl, fun _ _ _ _ => rfl⟩, q⟩
-- from one kind to another
theorem k_PW {E : List (Nat × Nat)} {Q : Rt → Prop} {Q' : Rt → sm_H → Prop} {X : Option (Rt × sm_H)} (W : Wf G h) (c : kJ (RP G h Q) X) (q : ∀ r, Q r → Q' r h) : kJ (RW E G h Q') X := by
  obtain ⟨r, h', G', e, rfl, rfl, hq⟩ := c
  exact ⟨r, h', G', e, rfl, fE_rf W, q r hq⟩
theorem k_PP {Q Q' : Rt → Prop} {X : Option (Rt × sm_H)} (c : kJ (RP G h Q) X) (q : ∀ r, Q r → Q' r) : kJ (RP G h Q') X := by
  obtain ⟨r, h', G', e, rfl, rfl, hq⟩ := c
  exact ⟨r, h', G', e, rfl, rfl, q r hq⟩
theorem k_WW {E E' : List (Nat × Nat)} {Q Q' : Rt → sm_H → Prop} {X : Option (Rt × sm_H)} (c : kJ (RW E' G h Q) X) (hE : ∀ p ∈ E', p ∈ E) (q : ∀ r h1, fE E' G h h1 → Q r h1 → Q' r h1) : kJ (RW E G h Q') X := by
  obtain ⟨r, h', G', e, rfl, f, hq⟩ := c
  exact ⟨r, h', G', e, rfl, ⟨f.1, f.2.1, f.2.2.1, fun a ha => f.2.2.2 a (fun q => ha (hE _ q))⟩, q _ _ f hq⟩
theorem k_WA {N x M1 M2 : Nat} {E E' : List (Nat × Nat)} {Q : Rt → sm_H → Prop} {Q' : GT → Rt → sm_H → Prop} {X : Option (Rt × sm_H)} (c : kJ (RW E' G h Q) X) (hE : ∀ p ∈ E', p ∈ E) (h1 : h.1 ≤ M1) (h2 : h.2.1 ≤ M2) (q : ∀ r h1, fE E' G h h1 → Q r h1 → Q' G r h1) : kJ (RA N x E M1 M2 G h Q') X := by
  obtain ⟨r, h', G', e, rfl, f, hq⟩ := c
  exact ⟨r, h', G', e, ⟨f.1, by rw [f.2.1]; exact Nat.le_refl _, by rw [f.2.1]; exact h1, by rw [f.2.2.1]; exact h2, fun _ _ _ => rfl, fun a _ _ ha => f.2.2.2 a (fun q => ha (hE _ q))⟩, q _ _ f hq⟩
theorem k_PA {N x M1 M2 : Nat} {E : List (Nat × Nat)} {Q : Rt → Prop} {Q' : GT → Rt → sm_H → Prop} {X : Option (Rt × sm_H)} (W : Wf G h) (c : kJ (RP G h Q) X) (h1 : h.1 ≤ M1) (h2 : h.2.1 ≤ M2) (q : ∀ r, Q r → Q' G r h) : kJ (RA N x E M1 M2 G h Q') X := by
  obtain ⟨r, h', G', e, rfl, rfl, hq⟩ := c
  exact ⟨r, h', G', e, ⟨W, Nat.le_refl _, h1, h2, fun _ _ _ => rfl, fun _ _ _ _ => rfl⟩, q r hq⟩
-- a step, then the rest
theorem fE_tr {E E' : List (Nat × Nat)} {h1 h2 : sm_H} (f : fE E' G h h1) (hE : ∀ p ∈ E', p ∈ E) (g : fE E G h1 h2) : fE E G h h2 := ⟨g.1, g.2.1.trans f.2.1, g.2.2.1.trans f.2.2.1, fun a ha => (g.2.2.2 a ha).trans (f.2.2.2 a (fun q => ha (hE _ q)))⟩
theorem k_nW {E E' : List (Nat × Nat)} {Q : Rt → sm_H → Prop} {X : Option (Rt × sm_H)} {h1 : sm_H} (f : fE E' G h h1) (hE : ∀ p ∈ E', p ∈ E) (c : kJ (RW E G h1 Q) X) : kJ (RW E G h Q) X := by
  obtain ⟨r, h', G', e, rfl, g, hq⟩ := c
  exact ⟨r, h', G', e, rfl, fE_tr f hE g, hq⟩
theorem k_nA {N x M1 M2 : Nat} {E E' : List (Nat × Nat)} {Q : GT → Rt → sm_H → Prop} {X : Option (Rt × sm_H)} {h1 : sm_H} (f : fE E' G h h1) (hE : ∀ p ∈ E', p ∈ E) (c : kJ (RA N x E M1 M2 G h1 Q) X) : kJ (RA N x E M1 M2 G h Q) X := by
  obtain ⟨r, h', G', e, g, hq⟩ := c
  exact ⟨r, h', G', e, ⟨g.1, by rw [← f.2.1]; exact g.2.1, g.2.2.1, g.2.2.2.1, g.2.2.2.2.1, fun a h1 h2 ha => (g.2.2.2.2.2 a h1 h2 ha).trans (f.2.2.2 a (fun q => ha (hE _ q)))⟩, hq⟩
theorem one_fE {h1 : sm_H} (o : one G h a h1) (t : tG G a c r) : fE [(c, r)] G h h1 := ⟨o.1, o.2.1, o.2.2.1, fun b hb => o.2.2.2 b (fun e => hb (by rw [e, t.1, t.2]; exact List.mem_singleton.mpr rfl))⟩
theorem k_W {E : List (Nat × Nat)} {Q : Rt → sm_H → Prop} {m : Option sm_H} {ex : sm_H → Prop} {X : sm_H → Option (Rt × sm_H)} (t : tG G a c r) (hE : (c, r) ∈ E) (hs : ∃ h1, m = some h1 ∧ one G h a h1 ∧ ex h1) (kk : ∀ h1, one G h a h1 → ex h1 → kJ (RW E G h1 Q) (X h1)) : kJ (RW E G h Q) (m.bind X) := by
  obtain ⟨h1, rfl, o, q⟩ := hs
  exact k_nW (one_fE o t) (fun p hp => by rw [List.mem_singleton.mp hp]; exact hE) (kk h1 o q)
theorem k_A {N x M1 M2 : Nat} {E : List (Nat × Nat)} {Q : GT → Rt → sm_H → Prop} {m : Option sm_H} {ex : sm_H → Prop} {X : sm_H → Option (Rt × sm_H)} (t : tG G a c r) (hE : (c, r) ∈ E) (hs : ∃ h1, m = some h1 ∧ one G h a h1 ∧ ex h1) (kk : ∀ h1, one G h a h1 → ex h1 → kJ (RA N x E M1 M2 G h1 Q) (X h1)) : kJ (RA N x E M1 M2 G h Q) (m.bind X) := by
  obtain ⟨h1, rfl, o, q⟩ := hs
  exact k_nA (one_fE o t) (fun p hp => by rw [List.mem_singleton.mp hp]; exact hE) (kk h1 o q)
theorem k_cP {Rs : Type} {Q : Rs → Prop} {X : Option (Rs × sm_H)} {f : Rs → sm_H → Option (Rt × sm_H)} (c : kJ (RP G h Q) X) (kk : ∀ r, Q r → kJ R (f r h)) : kJ R (sm_cb X f) := by
  obtain ⟨r, h', G', rfl, rfl, rfl, hq⟩ := c
  exact kk r hq
theorem k_cWW {Rs : Type} {E E' : List (Nat × Nat)} {Q' : Rs → sm_H → Prop} {Q : Rt → sm_H → Prop} {X : Option (Rs × sm_H)} {f : Rs → sm_H → Option (Rt × sm_H)} (c : kJ (RW E' G h Q') X) (hE : ∀ p ∈ E', p ∈ E) (kk : ∀ r h1, fE E' G h h1 → Q' r h1 → kJ (RW E G h1 Q) (f r h1)) : kJ (RW E G h Q) (sm_cb X f) := by
  obtain ⟨r, h', G', rfl, rfl, g, hq⟩ := c
  exact k_nW g hE (kk r h' g hq)
theorem k_cWA {Rs : Type} {N x M1 M2 : Nat} {E E' : List (Nat × Nat)} {Q' : Rs → sm_H → Prop} {Q : GT → Rt → sm_H → Prop} {X : Option (Rs × sm_H)} {f : Rs → sm_H → Option (Rt × sm_H)} (c : kJ (RW E' G h Q') X) (hE : ∀ p ∈ E', p ∈ E) (kk : ∀ r h1, fE E' G h h1 → Q' r h1 → kJ (RA N x E M1 M2 G h1 Q) (f r h1)) : kJ (RA N x E M1 M2 G h Q) (sm_cb X f) := by
  obtain ⟨r, h', G', rfl, rfl, g, hq⟩ := c
  exact k_nA g hE (kk r h' g hq)
end K
