-- writing, and making
def fA (x : Nat) (E : List (Nat × Nat)) (c1 c2 : Nat) (G : GT) (h : sm_H) (G1 : GT) (h1 : sm_H) : Prop := Wf G1 h1 ∧ h.1 ≤ h1.1 ∧ h1.1 ≤ h.1 + c1 ∧ h1.2.1 ≤ h.2.1 + c2 ∧ (∀ a, a < h.1 → a ≠ x → G1 a = G a) ∧ ∀ a, a < h.1 → a ≠ x → ((G a).1, (G a).2.2) ∉ E → h1.2.2 a = h.2.2 a
theorem tN_m {G G' : GT} (hm : ∀ b, (G b).1 ≠ 0 → G' b = G b) {x : Option Nat} {c r : Nat} (hc : c ≠ 0) (t : tN G x c r) : tN G' x c r := fun b e => by
  have h1 := t b e
  unfold tG at h1 ⊢
  rw [hm b (by rw [h1.1]; exact hc)]
  exact h1
def ftc (o : Option FTy) : Bool := match o with
  | some (.inr (.inr q)) => decide (q.2.1 ≠ 0)
  | _ => true
theorem FTs_c : ∀ c, c < 13 → ∀ k, k < 17 → ∀ q, (FTs c)[k]? = some (.inr (.inr q)) → q.2.1 ≠ 0 := by
  intro c hc k hk
  have h1 : ∀ c, c < 13 → ∀ k, k < 17 → ftc ((FTs c)[k]?) = true := by decide +kernel
  intro q e
  have h2 := h1 c hc k hk
  rw [e] at h2
  exact of_decide_eq_true h2
theorem FTs_l : ∀ c, c < 13 → (FTs c).length ≤ 17 := by decide +kernel
theorem FTs_0 {c : Nat} (hc : 13 ≤ c) : FTs c = [] := by
  unfold FTs
  rw [List.getD_eq_getElem?_getD, List.getElem?_eq_none (by simpa using hc)]; rfl
theorem eT_0 : ∀ c, 24 ≤ c → c < 30 → eT c ≠ 0 := by
  intro c h1 h2
  have h3 : ∀ k, k < 6 → ([9, 8, 3, 5, 11, 1] : List Nat).getD k 0 ≠ 0 := by decide
  exact h3 (c - 24) (by omega)
theorem okm {G G' : GT} (hm : ∀ b, (G b).1 ≠ 0 → G' b = G b) {T : Nat × Nat × Nat} {e : sm_E} (o : okc G T e) : okc G' T e := by
  unfold okc at o ⊢
  by_cases h1 : T.1 < 20
  · rw [if_pos h1] at o ⊢
    obtain ⟨vs, rfl, hl, hv⟩ := o
    refine ⟨vs, rfl, hl, fun k ty hk => ?_⟩
    obtain ⟨v, h2, h3⟩ := hv k ty hk
    refine ⟨v, h2, ?_⟩
    match ty, hk, h3 with
    | .inl q, _, h3 => exact h3
    | .inr (.inl _), _, h3 => exact h3
    | .inr (.inr q), hk, h3 =>
      obtain ⟨x, e1, e2, e3⟩ := h3
      refine ⟨x, e1, e2, tN_m hm ?_ e3⟩
      by_cases hc : T.1 < 13
      · have hk2 : k < (FTs T.1).length := by
          rcases Nat.lt_or_ge k (FTs T.1).length with hh | hh
          · exact hh
          · rw [List.getElem?_eq_none hh] at hk; cases hk
        exact FTs_c _ hc k (Nat.lt_of_lt_of_le hk2 (FTs_l _ hc)) q hk
      · rw [FTs_0 (by omega)] at hk; cases hk
  · rw [if_neg h1] at o ⊢
    obtain ⟨hT, d, rfl, hl, hd⟩ := o
    refine ⟨hT, d, rfl, hl, ?_⟩
    unfold dok at hd ⊢
    by_cases h2 : T.1 = 21
    · rw [if_pos h2] at hd ⊢; exact hd
    · rw [if_neg h2] at hd ⊢
      by_cases h3 : T.1 = 22
      · rw [if_pos h3] at hd ⊢; exact hd
      · rw [if_neg h3] at hd ⊢
        by_cases h4 : T.1 < 24
        · rw [if_pos h4] at hd ⊢; exact hd
        · rw [if_neg h4] at hd ⊢
          obtain ⟨f, rfl, hf⟩ := hd
          exact ⟨f, rfl, fun i => tN_m hm (eT_0 _ (by omega) hT) (hf i)⟩
section K2
variable {Rt : Type} {R : Rt → sm_H → GT → Prop} {G : GT} {h : sm_H} {a c r ci k : Nat}
theorem Wf_hu {e : sm_E} (W : Wf G h) (he : okc G (G a) e) : Wf G (hu h a e) := fun b hb => by
  obtain ⟨h1, e1, h2, h3⟩ := W b hb
  by_cases hab : b = a
  · subst hab
    exact ⟨h1, e, hu_at _ _ _, he⟩
  · exact ⟨h1, e1, by rw [hu_ne hab]; exact h2, h3⟩
theorem one_hu {e : sm_E} (W : Wf G h) (he : okc G (G a) e) : one G h a (hu h a e) := ⟨Wf_hu W he, rfl, rfl, fun b hb => hu_ne hb⟩
theorem kw_put (W : Wf G h) (t : tG G a (ci + 1) r) (hl : ci < 19) {ty : FTy} (hf : (FTs (ci + 1))[k]? = some ty) {v : Value} (hv : fok G r ty v) : ∃ h1, sm_put h (some a) ci k v = some h1 ∧ one G h a h1 ∧ ∀ j, sm_get h1 (some a) ci j = if j = k then some v else sm_get h (some a) ci j := by
  obtain ⟨vs, he, h1, h2⟩ := kw_obj W t hl
  have hk : k < vs.length := by
    rcases Nat.lt_or_ge k (FTs (ci + 1)).length with hh | hh
    · omega
    · rw [List.getElem?_eq_none hh] at hf; cases hf
  refine ⟨_, pu_put he hk v, one_hu W ?_, fun j => ?_⟩
  · unfold okc
    rw [t.1, t.2, if_pos (by omega)]
    refine ⟨vs.set k v, rfl, by simpa using h1, fun k' ty' hk' => ?_⟩
    by_cases hkk : k' = k
    · subst hkk
      rw [hf] at hk'
      cases hk'
      exact ⟨v, by simp [hk], hv⟩
    · obtain ⟨v', h3, h4⟩ := h2 k' ty' hk'
      exact ⟨v', by rw [List.getElem?_set_ne (fun q => hkk q.symm)]; exact h3, h4⟩
  · rw [pu_get (hu_at _ _ _), pu_get he]
    by_cases hj : j = k
    · subst hj; simp [hk]
    · rw [if_neg hj, List.getElem?_set_ne (fun q => hj q.symm)]
theorem w_putI {lo hi : Int} {v : Int32} (W : Wf G h) (t : tG G a (ci + 1) r) (hl : ci < 19) (hf : (FTs (ci + 1))[k]? = some (.inl (lo, hi))) (h1 : lo ≤ v.toInt) (h2 : v.toInt ≤ hi) : ∃ h1, sm_put h (some a) ci k (sm_v (vI v)) = some h1 ∧ one G h a h1 ∧ ∀ j, sm_get h1 (some a) ci j = if j = k then some (.int v) else sm_get h (some a) ci j := kw_put (v := .int v) W t hl hf ⟨v, rfl, h1, h2⟩
theorem w_putJ {v : Int64} (W : Wf G h) (t : tG G a (ci + 1) r) (hl : ci < 19) (hf : (FTs (ci + 1))[k]? = some (.inr (.inl ()))) : ∃ h1, sm_put h (some a) ci k (sm_v (vJ v)) = some h1 ∧ one G h a h1 ∧ ∀ j, sm_get h1 (some a) ci j = if j = k then some (.long v) else sm_get h (some a) ci j := kw_put (v := .long v) W t hl hf ⟨v, rfl⟩
theorem sm_vR (x : Option Nat) : sm_v (vR x) = va_rf x := by cases x <;> rfl
theorem w_putR {nl : Bool} {c' rg r' : Nat} {x : Option Nat} (W : Wf G h) (t : tG G a (ci + 1) r) (hl : ci < 19) (hf : (FTs (ci + 1))[k]? = some (.inr (.inr (nl, c', rg)))) (hr : (if rg = 9 then r else rg) = r') (hn : nl = false → x ≠ none) (hx : tN G x c' r') : ∃ h1, sm_put h (some a) ci k (sm_v (vR x)) = some h1 ∧ one G h a h1 ∧ ∀ j, sm_get h1 (some a) ci j = if j = k then some (va_rf x) else sm_get h (some a) ci j := by
  rw [sm_vR]
  exact kw_put W t hl hf ⟨x, rfl, hn, by rw [← hr] at hx; exact hx⟩
theorem w_arr {tt : Nat} {d : (Nat → Int32) ⊕ (Nat → Int64) ⊕ (Nat → UInt32) ⊕ (Nat → UInt64) ⊕ (Nat → Option Nat)} (W : Wf G h) (t : tG G a (20 + tt) r) (h2 : (G a).2.1 ≤ aB (20 + tt)) (hd : dok G (20 + tt) d) : one G h a (hu h a (.inl (tt, (G a).2.1, d))) := one_hu W (by
  unfold okc
  rw [t.1, if_neg (by omega)]
  exact ⟨kw_30 W t, d, by rw [show 20 + tt - 20 = tt by omega], h2, hd⟩)
theorem w_sI {tt : Nat} {i v : Int32} (W : Wf G h) (t : tG G a (20 + tt) r) (ht : tt = 0 ∨ tt = 3) (h0 : 0 ≤ i.toInt) (h1 : i.toInt < ((G a).2.1 : Int)) : ∃ h1, sm_sI h (some a) tt i v = some h1 ∧ one G h a h1 ∧ True := by
  obtain ⟨d, he, h2, h3⟩ := kw_arr W t
  have h9 := aB_le (20 + tt)
  unfold dok at h3
  rw [if_neg (by omega), if_neg (by omega), if_pos (by omega)] at h3
  obtain ⟨f, rfl⟩ := h3
  obtain ⟨j, hj, rfl⟩ := kw_ix h0 h1
  refine ⟨_, pu_sI he hj (by omega) v, w_arr W t h2 ?_, trivial⟩
  unfold dok
  rw [if_neg (by omega), if_neg (by omega), if_pos (by omega)]
  exact ⟨_, rfl⟩
theorem w_sZ {i v : Int32} (W : Wf G h) (t : tG G a 22 r) (hv : v = 0 ∨ v = 1) (h0 : 0 ≤ i.toInt) (h1 : i.toInt < ((G a).2.1 : Int)) : ∃ h1, sm_sI h (some a) 2 i v = some h1 ∧ one G h a h1 ∧ True := by
  obtain ⟨d, he, h2, h3⟩ := kw_arr (tt := 2) W t
  have h9 := aB_le (20 + 2)
  unfold dok at h3
  rw [if_neg (by omega), if_pos (by omega)] at h3
  obtain ⟨f, rfl, hf⟩ := h3
  obtain ⟨j, hj, rfl⟩ := kw_ix h0 h1
  refine ⟨_, pu_sI he hj (by omega) v, w_arr (tt := 2) W t h2 ?_, trivial⟩
  unfold dok
  rw [if_neg (by omega), if_pos (by omega)]
  refine ⟨_, rfl, fun i => ?_⟩
  unfold upd
  split
  · exact hv
  · exact hf i
theorem w_sJ {i : Int32} {v : Int64} (W : Wf G h) (t : tG G a 21 r) (h0 : 0 ≤ i.toInt) (h1 : i.toInt < ((G a).2.1 : Int)) : ∃ h1, sm_sJ h (some a) 1 i v = some h1 ∧ one G h a h1 ∧ True := by
  obtain ⟨d, he, h2, h3⟩ := kw_arr (tt := 1) W t
  have h9 := aB_le (20 + 1)
  unfold dok at h3
  rw [if_pos (by omega)] at h3
  obtain ⟨f, rfl⟩ := h3
  obtain ⟨j, hj, rfl⟩ := kw_ix h0 h1
  refine ⟨_, pu_sJ he hj (by omega) v, w_arr (tt := 1) W t h2 ?_, trivial⟩
  unfold dok
  rw [if_pos (by omega)]
  exact ⟨_, rfl⟩
theorem w_sR {tt ci : Nat} {i : Int32} {v : Option Nat} (W : Wf G h) (t : tG G a (20 + tt) r) (ht : 4 ≤ tt) (hl : ci < 19) (hc : eT (20 + tt) = ci + 1) (h0 : 0 ≤ i.toInt) (h1 : i.toInt < ((G a).2.1 : Int)) (hv : tN G v (ci + 1) 0) : ∃ h1, sm_sR h (some a) tt ci i v = some h1 ∧ one G h a h1 ∧ True := by
  obtain ⟨d, he, h2, h3⟩ := kw_arr W t
  have h9 := aB_le (20 + tt)
  unfold dok at h3
  rw [if_neg (by omega), if_neg (by omega), if_neg (by omega)] at h3
  obtain ⟨f, rfl, hf⟩ := h3
  obtain ⟨j, hj, rfl⟩ := kw_ix h0 h1
  have hok : sm_ok h ci v = true := by
    cases v with
    | none => rfl
    | some b =>
      obtain ⟨vs, e1, -, -⟩ := kw_obj W (hv b rfl) hl
      simp [sm_ok, e1]
  refine ⟨_, pu_sR he hj (by omega) hok, w_arr W t h2 ?_, trivial⟩
  unfold dok
  rw [if_neg (by omega), if_neg (by omega), if_neg (by omega)]
  refine ⟨_, rfl, fun i => ?_⟩
  unfold va_up
  split
  · rw [hc]; exact hv
  · exact hf i
-- what stays
theorem kg_fr {h1 : sm_H} {q : Option Value} (f : h1.2.2 a = h.2.2 a) (e : sm_get h (some a) ci k = q) : sm_get h1 (some a) ci k = q := by
  rw [← e]; unfold sm_get; simp only [f]
theorem tg_ne {b c' r' : Nat} (t : tG G a c r) (t' : tG G b c' r') (hn : (c, r) ≠ (c', r')) : a ≠ b := fun e => hn (by subst e; rw [← t.1, ← t.2, ← t'.1, ← t'.2])
theorem tg_z {b : Nat} (t : tG G a c r) (hc : c ≠ 0) (z : (G b).1 = 0) : a ≠ b := fun e => hc (by rw [← t.1, e, z])
theorem tg_up {x : Nat} {E : List (Nat × Nat)} {c1 c2 : Nat} {G1 : GT} {h1 : sm_H} (f : fA x E c1 c2 G h G1 h1) (W : Wf G h) (t : tG G a c r) (hc : c ≠ 0) (hx : a ≠ x) : tG G1 a c r := by
  unfold tG
  rw [f.2.2.2.2.1 a (tG_lt W t hc) hx]
  exact t
theorem tg_upl {x : Nat} {E : List (Nat × Nat)} {c1 c2 : Nat} {G1 : GT} {h1 : sm_H} (f : fA x E c1 c2 G h G1 h1) (W : Wf G h) (t : tG G a c r) (hc : c ≠ 0) (hx : a ≠ x) : (G1 a).2.1 = (G a).2.1 := by
  rw [f.2.2.2.2.1 a (tG_lt W t hc) hx]
-- making
theorem k_st {N x M1 M2 : Nat} {E : List (Nat × Nat)} {Q : GT → Rt → sm_H → Prop} {X : Option (Rt × sm_H)} {G1 : GT} {h1 : sm_H} (hs : h.1 ≤ h1.1) (hg : ∀ a, a < N → a ≠ x → G1 a = G a) (hh : ∀ a, a < N → a ≠ x → ((G a).1, (G a).2.2) ∉ E → h1.2.2 a = h.2.2 a) (c : kJ (RA N x E M1 M2 G1 h1 Q) X) : kJ (RA N x E M1 M2 G h Q) X := by
  obtain ⟨r, h', G', e, g, hq⟩ := c
  refine ⟨r, h', G', e, ⟨g.1, Nat.le_trans hs g.2.1, g.2.2.1, g.2.2.2.1, fun a p1 p2 => (g.2.2.2.2.1 a p1 p2).trans (hg a p1 p2), fun a p1 p2 p3 => ?_⟩, hq⟩
  rw [g.2.2.2.2.2 a p1 p2 (by rw [hg a p1 p2]; exact p3), hh a p1 p2 p3]
theorem k_new {N x M1 M2 n : Nat} {E : List (Nat × Nat)} {Q : GT → Rt → sm_H → Prop} {fs : List Value} {X : sm_H → Option (Rt × sm_H)} (W : Wf G h) (hN : N ≤ h.1) (hn : fs.length = n) (kk : ∀ h1, h1.1 = h.1 + 1 → h1.2.1 = h.2.1 + n → h1.2.2 h.1 = some (.inr (ci, fs)) → (∀ b, b ≠ h.1 → h1.2.2 b = h.2.2 b) → Wf G h1 → (G h.1).1 = 0 → kJ (RA N x E M1 M2 G h1 Q) (X h1)) : kJ (RA N x E M1 M2 G h Q) (sm_let (sm_new h ci fs) X) := by
  have hz : (G h.1).1 = 0 := by
    rcases Nat.eq_zero_or_pos (G h.1).1 with q | q
    · exact q
    · exact absurd (W h.1 (by omega)).1 (by omega)
  have hf : ∀ b, b ≠ h.1 → (sm_new h ci fs).2.2 b = h.2.2 b := fun b hb => by simp [sm_new, va_up, hb]
  refine k_st (h1 := sm_new h ci fs) (by simp [sm_new]) (fun _ _ _ => rfl) (fun b p1 p2 _ => hf b (by omega)) ?_
  refine kk _ rfl (by simp [sm_new, hn]) (by simp [sm_new, va_up]) hf (fun b hb => ?_) hz
  obtain ⟨p1, e, p2, p3⟩ := W b hb
  exact ⟨by simp [sm_new]; omega, e, by rw [hf b (by omega)]; exact p2, p3⟩
theorem k_nwa {N x M1 M2 tt n ρ : Nat} {E : List (Nat × Nat)} {Q : GT → Rt → sm_H → Prop} {d : (Nat → Int32) ⊕ (Nat → Int64) ⊕ (Nat → UInt32) ⊕ (Nat → UInt64) ⊕ (Nat → Option Nat)} {X : sm_H → Option (Rt × sm_H)} (W : Wf G h) (hN : N ≤ h.1) (ht : tt < 10) (hn : n ≤ aB (20 + tt)) (hd : ∀ G', dok G' (20 + tt) d) (kk : ∀ h1 G1, h1.1 = h.1 + 1 → h1.2.1 = h.2.1 + n → (∀ b, b ≠ h.1 → h1.2.2 b = h.2.2 b) → (∀ b, b ≠ h.1 → G1 b = G b) → Wf G1 h1 → tG G1 h.1 (20 + tt) ρ → (G1 h.1).2.1 = n → kJ (RA N x E M1 M2 G1 h1 Q) (X h1)) : kJ (RA N x E M1 M2 G h Q) (sm_let (sm_nwa h tt n d) X) := by
  have hf : ∀ b, b ≠ h.1 → (sm_nwa h tt n d).2.2 b = h.2.2 b := fun b hb => by simp [sm_nwa, va_up, hb]
  have hg : ∀ b, b ≠ h.1 → (fun b => if b = h.1 then (20 + tt, n, ρ) else G b) b = G b := fun b hb => by simp [hb]
  refine k_st (h1 := sm_nwa h tt n d) (G1 := fun b => if b = h.1 then (20 + tt, n, ρ) else G b) (by simp [sm_nwa]) (fun b p1 p2 => hg b (by omega)) (fun b p1 p2 _ => hf b (by omega)) ?_
  refine kk _ _ rfl rfl hf hg (fun b hb => ?_) (by simp [tG]) (by simp)
  by_cases hb2 : b = h.1
  · subst hb2
    refine ⟨by simp [sm_nwa], _, by simp [sm_nwa, va_up]; rfl, ?_⟩
    simp only [if_pos rfl]
    unfold okc
    rw [if_neg (by simp)]
    exact ⟨by simp; omega, d, by simp, hn, hd _⟩
  · simp only [if_neg hb2] at hb ⊢
    obtain ⟨p1, e, p2, p3⟩ := W b hb
    refine ⟨by simp [sm_nwa]; omega, e, by rw [hf b hb2]; exact p2, okm (fun b' hb' => hg b' ?_) p3⟩
    have := (W b' hb').1; omega
theorem k_cA {Rs : Type} {N x y M1 M2 c1 c2 : Nat} {E E' : List (Nat × Nat)} {Q' : GT → Rs → sm_H → Prop} {Q : GT → Rt → sm_H → Prop} {X : Option (Rs × sm_H)} {f : Rs → sm_H → Option (Rt × sm_H)} (hN : N ≤ h.1) (hy : N ≤ y) (hE : ∀ p ∈ E', p ∈ E) (c : kJ (RA h.1 y E' (h.1 + c1) (h.2.1 + c2) G h Q') X) (kk : ∀ r h1 G1, fA y E' c1 c2 G h G1 h1 → Q' G1 r h1 → kJ (RA N x E M1 M2 G1 h1 Q) (f r h1)) : kJ (RA N x E M1 M2 G h Q) (sm_cb X f) := by
  obtain ⟨r, h1, G1, rfl, g, hq⟩ := c
  exact k_st g.2.1 (fun a p1 p2 => g.2.2.2.2.1 a (by omega) (by omega)) (fun a p1 p2 p3 => g.2.2.2.2.2 a (by omega) (by omega) (fun q => p3 (hE _ q))) (kk r h1 G1 g hq)
theorem k_tA {N x M1 M2 c1 c2 : Nat} {E E' : List (Nat × Nat)} {Q' Q : GT → Rt → sm_H → Prop} {X : Option (Rt × sm_H)} (hN : N ≤ h.1) (hE : ∀ p ∈ E', p ∈ E) (h1 : h.1 + c1 ≤ M1) (h2 : h.2.1 + c2 ≤ M2) (c : kJ (RA h.1 h.1 E' (h.1 + c1) (h.2.1 + c2) G h Q') X) (q : ∀ r h1 G1, fA h.1 E' c1 c2 G h G1 h1 → Q' G1 r h1 → Q G1 r h1) : kJ (RA N x E M1 M2 G h Q) X := by
  obtain ⟨r, h', G1, rfl, g, hq⟩ := c
  exact ⟨r, h', G1, rfl, ⟨g.1, g.2.1, by have := g.2.2.1; omega, by have := g.2.2.2.1; omega, fun a p1 p2 => g.2.2.2.2.1 a (by omega) (by omega), fun a p1 p2 p3 => g.2.2.2.2.2 a (by omega) (by omega) (fun q => p3 (hE _ q))⟩, q r h' G1 g hq⟩
-- the object that is being made
theorem k_raw {N x M1 M2 y : Nat} {E : List (Nat × Nat)} {Q : GT → Rt → sm_H → Prop} {fs : List Value} {v : Value} {X : sm_H → Option (Rt × sm_H)} (W : Wf G h) (z : (G y).1 = 0) (hy : y = x ∨ N ≤ y) (e : h.2.2 y = some (.inr (ci, fs))) (hk : k < fs.length) (kk : ∀ h1, h1.1 = h.1 → h1.2.1 = h.2.1 → h1.2.2 y = some (.inr (ci, fs.set k v)) → (∀ b, b ≠ y → h1.2.2 b = h.2.2 b) → Wf G h1 → kJ (RA N x E M1 M2 G h1 Q) (X h1)) : kJ (RA N x E M1 M2 G h Q) ((sm_put h (some y) ci k v).bind X) := by
  rw [pu_put e hk v]
  refine k_st (h1 := hu h y (.inr (ci, fs.set k v))) (Nat.le_refl _) (fun _ _ _ => rfl) (fun b p1 p2 _ => hu_ne (by omega)) ?_
  refine kk _ rfl rfl (hu_at _ _ _) (fun b hb => hu_ne hb) (fun b hb => ?_)
  obtain ⟨p1, e1, p2, p3⟩ := W b hb
  exact ⟨p1, e1, by rw [hu_ne (fun q => hb (by rw [q]; exact z))]; exact p2, p3⟩
def fa (G : GT) (r : Nat) : List FTy → List Value → Prop
  | [], [] => True
  | ty :: ts, v :: vs => fok G r ty v ∧ fa G r ts vs
  | _, _ => False
theorem fa_ok : ∀ (ts : List FTy) (vs : List Value), fa G r ts vs → vs.length = ts.length ∧ ∀ (k : Nat) (ty : FTy), ts[k]? = some ty → ∃ v, vs[k]? = some v ∧ fok G r ty v
  | [], [], _ => ⟨rfl, fun k ty h => by simp at h⟩
  | ty :: ts, v :: vs, h => by
    obtain ⟨h1, h2⟩ := fa_ok ts vs h.2
    refine ⟨by simp [h1], fun k ty' hk => ?_⟩
    cases k with
    | zero => simp at hk; subst hk; exact ⟨v, rfl, h.1⟩
    | succ k => simpa using h2 k ty' (by simpa using hk)
  | [], _ :: _, h => h.elim
  | _ :: _, [], h => h.elim
theorem k_rN {N x M1 M2 : Nat} {E : List (Nat × Nat)} {Q : GT → Rt → sm_H → Prop} {v : Rt} {vs : List Value} (W : Wf G h) (z : (G x).1 = 0) (hx : x < h.1) (hl : ci < 12) (e : h.2.2 x = some (.inr (ci, vs))) (hf : fa G r (FTs (ci + 1)) vs) (h1 : h.1 ≤ M1) (h2 : h.2.1 ≤ M2) (q : ∀ G', (∀ b, b ≠ x → G' b = G b) → tG G' x (ci + 1) r → Wf G' h → Q G' v h) : kJ (RA N x E M1 M2 G h Q) (some (v, h)) := by
  have hg : ∀ b, b ≠ x → (fun b => if b = x then (ci + 1, 0, r) else G b) b = G b := fun b hb => by simp [hb]
  have hm : ∀ b, (G b).1 ≠ 0 → (fun b => if b = x then (ci + 1, 0, r) else G b) b = G b := fun b hb => hg b (fun q => hb (by rw [q]; exact z))
  have W' : Wf (fun b => if b = x then (ci + 1, 0, r) else G b) h := fun b hb => by
    by_cases hb2 : b = x
    · subst hb2
      refine ⟨hx, _, e, ?_⟩
      simp only [if_pos rfl]
      refine okm hm ?_
      unfold okc
      rw [if_pos (by simp; omega)]
      exact ⟨vs, by simp, fa_ok _ _ hf⟩
    · simp only [if_neg hb2] at hb ⊢
      obtain ⟨p1, e1, p2, p3⟩ := W b hb
      exact ⟨p1, e1, p2, okm hm p3⟩
  exact ⟨v, h, _, rfl, ⟨W', Nat.le_refl _, h1, h2, fun b _ p2 => hg b p2, fun _ _ _ _ => rfl⟩, q _ hg (by simp [tG]) W'⟩
end K2
