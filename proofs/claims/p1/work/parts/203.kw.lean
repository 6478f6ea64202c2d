-- what stays when G grows
theorem fa_m {G G' : GT} (hm : ∀ b, (G b).1 ≠ 0 → G' b = G b) {c r : Nat} (hc : c < 13) {vs : List Value} (f : fa G r (FTs c) vs) : fa G' r (FTs c) vs := by
  have h1 : ∀ (ts : List FTy), (∀ q, (.inr (.inr q) : FTy) ∈ ts → q.2.1 ≠ 0) → ∀ vs, fa G r ts vs → fa G' r ts vs := by
    intro ts
    induction ts with
    | nil => intro _ vs f; cases vs with
      | nil => trivial
      | cons v vs => exact f
    | cons ty ts ih =>
      intro hq vs f
      cases vs with
      | nil => exact f
      | cons v vs =>
        refine ⟨?_, ih (fun q hh => hq q (List.mem_cons_of_mem _ hh)) vs f.2⟩
        match ty, hq, f.1 with
        | .inl q, _, h3 => exact h3
        | .inr (.inl _), _, h3 => exact h3
        | .inr (.inr q), hq, h3 =>
          obtain ⟨x, e1, e2, e3⟩ := h3
          exact ⟨x, e1, e2, tN_m hm (hq q (List.mem_cons_self ..)) e3⟩
  refine h1 _ (fun q hq => ?_) vs f
  obtain ⟨k, hk, e⟩ := List.getElem_of_mem hq
  exact FTs_c c hc k (Nat.lt_of_lt_of_le hk (FTs_l c hc)) q (by rw [List.getElem?_eq_getElem hk, e])
section K4
variable {Rt : Type} {G G1 : GT} {h h1 : sm_H} {a c r x : Nat}
theorem fA_m {E : List (Nat × Nat)} {c1 c2 : Nat} (f : fA x E c1 c2 G h G1 h1) (W : Wf G h) (hx : (G x).1 = 0) : ∀ b, (G b).1 ≠ 0 → G1 b = G b := fun b hb => f.2.2.2.2.1 b (W b hb).1 (fun q => hb (by rw [q]; exact hx))
theorem z_top (W : Wf G h) : (G h.1).1 = 0 := by
  rcases Nat.eq_zero_or_pos (G h.1).1 with q | q
  · exact q
  · exact absurd (W h.1 (by omega)).1 (by omega)
theorem tg_nw {y : Nat} (g : ∀ b, b ≠ y → G1 b = G b) (hn : a ≠ y) (t : tG G a c r) : tG G1 a c r := by
  unfold tG; rw [g a hn]; exact t
theorem dk_R (tt : Nat) (ht : 4 ≤ tt) (G' : GT) : dok G' (20 + tt) (.inr (.inr (.inr (.inr (fun _ => none))))) := by
  unfold dok
  rw [if_neg (by omega), if_neg (by omega), if_neg (by omega)]
  exact ⟨_, rfl, fun _ => tN_n⟩
theorem dk_I (G' : GT) : dok G' (20 + 0) (.inl (fun _ => 0)) := by
  unfold dok
  rw [if_neg (by omega), if_neg (by omega), if_pos (by omega)]
  exact ⟨_, rfl⟩
theorem dk_Z (G' : GT) : dok G' (20 + 2) (.inl (fun _ => 0)) := by
  unfold dok
  rw [if_neg (by omega), if_pos (by omega)]
  exact ⟨_, rfl, fun _ => Or.inl rfl⟩
theorem dk_J (G' : GT) : dok G' (20 + 1) (.inr (.inl (fun _ => 0))) := by
  unfold dok
  rw [if_pos (by omega)]
  exact ⟨_, rfl⟩
theorem cl_le {x : Int32} {R : Nat} (h1 : x.toInt ≤ (R : Int)) : x.toNatClampNeg ≤ R := by
  unfold Int32.toNatClampNeg
  omega
end K4
set_option maxHeartbeats 4000000 in
theorem kX0_init {ρ R : Nat} {G : GT} {a0 : Nat} {a1 : Int32} {h : sm_H} (Wh : Wf G h) (l : a0 < h.1) (z : (G a0).1 = 0) (e : h.2.2 a0 = some (.inr (0, [.null, .int 0]))) (p0 : a1.toInt ≤ (R : Int)) (p1 : R ≤ 1200) : kJ (RA h.1 a0 [] (h.1 + 1) (h.2.1 + R) G h (fun (G : GT) (_ : Unit) (_ : sm_H) => tG G a0 1 ρ)) (fX0_init a0 a1 h) := by
  have L0 : (0 : Int32).toInt = 0 := rfl
  unfold fX0_init
  refine k_ltl (fun x1 q1 => ?_)
  rw [if_neg (nw_ok (by omega) (by omega))]
  have hc : x1.toNatClampNeg ≤ R := cl_le (by omega)
  refine k_nwa (ρ := ρ) Wh (Nat.le_refl _) (by decide) (show x1.toNatClampNeg ≤ 1200 by omega) dk_J (fun h2 G2 s2 u2 g2 gG2 W2 t2 l2 => ?_)
  have e2 := (g2 a0 (by omega)).trans e
  have z2 : (G2 a0).1 = 0 := by rw [gG2 a0 (by omega)]; exact z
  refine k_raw W2 z2 (Or.inl rfl) e2 (by decide) (fun h3 s3 u3 e3 g3 W3 => ?_)
  have e3' : h3.2.2 a0 = some (.inr (0, [.ref h.1, .int 0])) := e3
  exact k_rN (ci := 0) (r := ρ) W3 z2 (by omega) (by decide) e3' ⟨⟨some h.1, rfl, fun _ => by simp, tN_s t2⟩, ⟨0, rfl, by decide, by decide⟩, trivial⟩ (by omega) (by omega) (fun _ _ t _ => t)
