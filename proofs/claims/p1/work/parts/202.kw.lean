section K3
variable {Rt : Type} {R : Rt → sm_H → GT → Prop} {G : GT} {h : sm_H} {a c r ci k : Nat}
theorem k_ltl {p q s t : Int32} {d : Decidable (p < q)} {X : Int32 → Option (Rt × sm_H)} (kk : ∀ x : Int32, ((p.toInt < q.toInt ∧ x.toInt = s.toInt) ∨ (q.toInt ≤ p.toInt ∧ x.toInt = t.toInt)) → kJ R (X x)) : kJ R (sm_let (if p < q then s else t) X) := by
  refine kk _ ?_
  by_cases hp : p < q
  · rw [if_pos hp]; exact Or.inl ⟨Int32.lt_iff_toInt_lt.mp hp, rfl⟩
  · rw [if_neg hp]; rw [Int32.lt_iff_toInt_lt] at hp; exact Or.inr ⟨by omega, rfl⟩
theorem lg_cases (x y : Int64) : (x.toInt < y.toInt ∧ lg_cmp x y = -1) ∨ (x.toInt = y.toInt ∧ lg_cmp x y = 0) ∨ (y.toInt < x.toInt ∧ lg_cmp x y = 1) := by
  unfold lg_cmp
  by_cases h1 : x > y
  · rw [if_pos h1]; exact Or.inr (Or.inr ⟨Int64.lt_iff_toInt_lt.mp h1, rfl⟩)
  · rw [if_neg h1]
    have h1' : ¬ y.toInt < x.toInt := fun q => h1 (Int64.lt_iff_toInt_lt.mpr q)
    by_cases h2 : x = y
    · rw [if_pos h2]; exact Or.inr (Or.inl ⟨by rw [h2], rfl⟩)
    · rw [if_neg h2]
      have h2' : x.toInt ≠ y.toInt := fun q => h2 (Int64.toInt_inj.mp q)
      exact Or.inl ⟨by omega, rfl⟩
theorem lg_1 {x y : Int64} : lg_cmp x y < 0 ↔ x.toInt < y.toInt := by
  rcases lg_cases x y with ⟨h1, h2⟩ | ⟨h1, h2⟩ | ⟨h1, h2⟩ <;> rw [h2]
  · exact ⟨fun _ => h1, fun _ => by decide⟩
  · exact ⟨fun q => absurd q (by decide), fun q => by omega⟩
  · exact ⟨fun q => absurd q (by decide), fun q => by omega⟩
theorem lg_2 {x y : Int64} : lg_cmp x y ≤ 0 ↔ x.toInt ≤ y.toInt := by
  rcases lg_cases x y with ⟨h1, h2⟩ | ⟨h1, h2⟩ | ⟨h1, h2⟩ <;> rw [h2]
  · exact ⟨fun _ => by omega, fun _ => by decide⟩
  · exact ⟨fun _ => by omega, fun _ => by decide⟩
  · exact ⟨fun q => absurd q (by decide), fun q => by omega⟩
theorem lg_3 {x y : Int64} : 0 < lg_cmp x y ↔ y.toInt < x.toInt := by
  rcases lg_cases x y with ⟨h1, h2⟩ | ⟨h1, h2⟩ | ⟨h1, h2⟩ <;> rw [h2]
  · exact ⟨fun q => absurd q (by decide), fun q => by omega⟩
  · exact ⟨fun q => absurd q (by decide), fun q => by omega⟩
  · exact ⟨fun _ => h1, fun _ => by decide⟩
theorem lg_4 {x y : Int64} : 0 ≤ lg_cmp x y ↔ y.toInt ≤ x.toInt := by
  rcases lg_cases x y with ⟨h1, h2⟩ | ⟨h1, h2⟩ | ⟨h1, h2⟩ <;> rw [h2]
  · exact ⟨fun q => absurd q (by decide), fun q => by omega⟩
  · exact ⟨fun _ => by omega, fun _ => by decide⟩
  · exact ⟨fun _ => by omega, fun _ => by decide⟩
theorem k_l1 {x y : Int64} {d : Decidable (lg_cmp x y < 0)} {X Y : Option (Rt × sm_H)} (k1 : x.toInt < y.toInt → kJ R X) (k2 : y.toInt ≤ x.toInt → kJ R Y) : kJ R (if lg_cmp x y < 0 then X else Y) := k_if (fun p => k1 (lg_1.mp p)) (fun p => k2 (by rw [lg_1] at p; omega))
theorem k_l2 {x y : Int64} {d : Decidable (lg_cmp x y ≤ 0)} {X Y : Option (Rt × sm_H)} (k1 : x.toInt ≤ y.toInt → kJ R X) (k2 : y.toInt < x.toInt → kJ R Y) : kJ R (if lg_cmp x y ≤ 0 then X else Y) := k_if (fun p => k1 (lg_2.mp p)) (fun p => k2 (by rw [lg_2] at p; omega))
theorem k_l3 {x y : Int64} {d : Decidable (0 < lg_cmp x y)} {X Y : Option (Rt × sm_H)} (k1 : y.toInt < x.toInt → kJ R X) (k2 : x.toInt ≤ y.toInt → kJ R Y) : kJ R (if 0 < lg_cmp x y then X else Y) := k_if (fun p => k1 (lg_3.mp p)) (fun p => k2 (by rw [lg_3] at p; omega))
theorem k_l4 {x y : Int64} {d : Decidable (0 ≤ lg_cmp x y)} {X Y : Option (Rt × sm_H)} (k1 : y.toInt ≤ x.toInt → kJ R X) (k2 : x.toInt < y.toInt → kJ R Y) : kJ R (if 0 ≤ lg_cmp x y then X else Y) := k_if (fun p => k1 (lg_4.mp p)) (fun p => k2 (by rw [lg_4] at p; omega))
theorem kw_tab {b : Nat} (W : Wf G h) (t : tG G a 9 r) (e : sm_get h (some a) 8 5 = some (va_rf (some b))) : tG G b 8 0 := by
  obtain ⟨v, e1, x, rfl, h1, h2⟩ := kw_get (ci := 8) (k := 5) (ty := nT 8 0) W t (by decide) rfl
  rw [e] at e1
  cases x with
  | none => cases e1
  | some b' => cases e1; exact h2 b rfl
theorem kw_at {x : Int32} (W : Wf G h) (t : tG G a 6 r) (e : sm_get h (some a) 5 2 = some (.int x)) : 0 ≤ x.toInt ∧ x.toInt ≤ 1200 := by
  obtain ⟨v, e1, y, rfl, h1, h2⟩ := kw_get (ci := 5) (k := 2) (ty := iR 0 1200) W t (by decide) rfl
  rw [e] at e1
  cases e1
  exact ⟨h1, h2⟩
theorem kw_cnt {x : Int32} (W : Wf G h) (t : tG G a 4 r) (e : sm_get h (some a) 3 8 = some (.int x)) : 0 ≤ x.toInt ∧ x.toInt ≤ 20 := by
  obtain ⟨v, e1, y, rfl, h1, h2⟩ := kw_get (ci := 3) (k := 8) (ty := iR 0 20) W t (by decide) rfl
  rw [e] at e1
  cases e1
  exact ⟨h1, h2⟩
theorem at_ex {n : Nat} (W : Wf G h) (t : tG G a 6 r) (hn : 1200 < (n : Int)) : ∃ x : Int32, sm_get h (some a) 5 2 = some (.int x) ∧ 1200 - x.toInt < (n : Int) := by
  obtain ⟨v, e1, y, rfl, h1, h2⟩ := kw_get (ci := 5) (k := 2) (ty := iR 0 1200) W t (by decide) rfl
  exact ⟨y, e1, by have : (0 : Int) ≤ y.toInt := h1; omega⟩
theorem at_no {X : Option (Rt × sm_H)} (W : Wf G h) (t : tG G a 6 r) (m : ∃ x : Int32, sm_get h (some a) 5 2 = some (.int x) ∧ 1200 - x.toInt < ((0 : Nat) : Int)) : kJ R X := by
  obtain ⟨x, e, hm⟩ := m
  have := kw_at W t e
  omega
theorem nar_b {v : Int32} (hv : v = 0 ∨ v = 1) : vp_nar .boolean v = 0 ∨ vp_nar .boolean v = 1 := by
  rcases hv with rfl | rfl
  · left; rfl
  · right; rfl
theorem nw_ok {x : Int32} (h1 : 0 ≤ x.toInt) (h2 : x.toInt ≤ 1000000) : ¬ (x < 0 ∨ 1000000 < x) := by
  rw [Int32.lt_iff_toInt_lt, Int32.lt_iff_toInt_lt, show (0 : Int32).toInt = 0 from rfl, show (1000000 : Int32).toInt = 1000000 from rfl]
  omega
end K3
