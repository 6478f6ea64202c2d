-- pure rows: the picture of the heap, read and written
def hu (h : sm_H) (a : Nat) (e : sm_E) : sm_H := (h.1, h.2.1, va_up h.2.2 a (some e))
theorem hu_1 (h : sm_H) (a : Nat) (e : sm_E) : (hu h a e).1 = h.1 := rfl
theorem hu_2 (h : sm_H) (a : Nat) (e : sm_E) : (hu h a e).2.1 = h.2.1 := rfl
theorem hu_at (h : sm_H) (a : Nat) (e : sm_E) : (hu h a e).2.2 a = some e := by simp [hu, va_up]
theorem hu_ne {h : sm_H} {a b : Nat} {e : sm_E} (hb : b ≠ a) : (hu h a e).2.2 b = h.2.2 b := by simp [hu, va_up, hb]
-- the same but for what p names
def fr (p : Nat → Prop) (h h' : sm_H) : Prop := h'.1 = h.1 ∧ h'.2.1 = h.2.1 ∧ ∀ c, ¬ p c → h'.2.2 c = h.2.2 c
theorem fr_rf {p : Nat → Prop} (h : sm_H) : fr p h h := ⟨rfl, rfl, fun _ _ => rfl⟩
theorem fr_tr {p : Nat → Prop} {h h1 h2 : sm_H} (a : fr p h h1) (b : fr p h1 h2) : fr p h h2 := ⟨b.1.trans a.1, b.2.1.trans a.2.1, fun c hc => (b.2.2 c hc).trans (a.2.2 c hc)⟩
theorem fr_wk {p q : Nat → Prop} {h h1 : sm_H} (a : fr p h h1) (hpq : ∀ c, p c → q c) : fr q h h1 := ⟨a.1, a.2.1, fun c hc => a.2.2 c (fun x => hc (hpq c x))⟩
theorem fr_hu {p : Nat → Prop} {h : sm_H} {a : Nat} {e : sm_E} (ha : p a) : fr p h (hu h a e) := ⟨rfl, rfl, fun c hc => hu_ne (fun x => hc (x ▸ ha))⟩
theorem pu_get {h : sm_H} {a ci : Nat} {fs : List Value} (ho : h.2.2 a = some (.inr (ci, fs))) (k : Nat) : sm_get h (some a) ci k = fs[k]? := by simp [sm_get, ho]
theorem pu_put {h : sm_H} {a ci : Nat} {fs : List Value} (ho : h.2.2 a = some (.inr (ci, fs))) {k : Nat} (hk : k < fs.length) (v : Value) : sm_put h (some a) ci k v = some (hu h a (.inr (ci, fs.set k v))) := by simp [sm_put, ho, hk, hu]
theorem pu_obj {h : sm_H} {a ci : Nat} {fs : List Value} (ho : h.2.2 a = some (.inr (ci, fs))) : sm_obj h (some a) ci = some a := by simp [sm_obj, ho]
theorem pu_arr {h : sm_H} {a t : Nat} {x : vp_A} (ho : h.2.2 a = some (.inl (t, x))) : sm_arr h (some a) t = some (a, x) := by simp [sm_arr, ho]
theorem pu_len {h : sm_H} {a t : Nat} {x : vp_A} (ho : h.2.2 a = some (.inl (t, x))) : sm_len h (some a) t = some (nI x.1) := by simp [sm_len, pu_arr ho]; rfl
theorem nI_cl {i n N : Nat} (hi : i < n) (hn : n ≤ N) (hN : N < 2 ^ 31) : ¬ (nI i < 0 ∨ n ≤ (nI i).toNatClampNeg) := by
  rw [nI_clamp (by omega)]
  intro q
  rcases q with q | q
  · exact nI_pos (by omega) q
  · omega
theorem pu_aI {h : sm_H} {a t n : Nat} {f : Nat → Int32} (ho : h.2.2 a = some (.inl (t, n, .inl f))) {i : Nat} (hi : i < n) (hn : n < 2 ^ 31) : sm_aI h (some a) t (nI i) = some (f i) := by
  simp only [sm_aI, pu_arr ho]
  rw [if_neg (nI_cl hi (Nat.le_refl _) hn), nI_clamp (by omega)]
theorem pu_aJ {h : sm_H} {a t n : Nat} {f : Nat → Int64} (ho : h.2.2 a = some (.inl (t, n, .inr (.inl f)))) {i : Nat} (hi : i < n) (hn : n < 2 ^ 31) : sm_aJ h (some a) t (nI i) = some (f i) := by
  simp only [sm_aJ, pu_arr ho]
  rw [if_neg (nI_cl hi (Nat.le_refl _) hn), nI_clamp (by omega)]
theorem pu_aR {h : sm_H} {a t n : Nat} {f : Nat → Option Nat} (ho : h.2.2 a = some (.inl (t, n, .inr (.inr (.inr (.inr f)))))) {i : Nat} (hi : i < n) (hn : n < 2 ^ 31) : sm_aR h (some a) t (nI i) = some (f i) := by
  simp only [sm_aR, pu_arr ho]
  rw [if_neg (nI_cl hi (Nat.le_refl _) hn), nI_clamp (by omega)]
theorem pu_sI {h : sm_H} {a t n : Nat} {f : Nat → Int32} (ho : h.2.2 a = some (.inl (t, n, .inl f))) {i : Nat} (hi : i < n) (hn : n < 2 ^ 31) (v : Int32) : sm_sI h (some a) t (nI i) v = some (hu h a (.inl (t, n, .inl (upd f i v)))) := by
  simp only [sm_sI, pu_arr ho]
  rw [if_neg (nI_cl hi (Nat.le_refl _) hn), nI_clamp (by omega)]
  rfl
theorem pu_sJ {h : sm_H} {a t n : Nat} {f : Nat → Int64} (ho : h.2.2 a = some (.inl (t, n, .inr (.inl f)))) {i : Nat} (hi : i < n) (hn : n < 2 ^ 31) (v : Int64) : sm_sJ h (some a) t (nI i) v = some (hu h a (.inl (t, n, .inr (.inl (vp_updL f i v))))) := by
  simp only [sm_sJ, pu_arr ho]
  rw [if_neg (nI_cl hi (Nat.le_refl _) hn), nI_clamp (by omega)]
  rfl
theorem pu_sR {h : sm_H} {a t ci n : Nat} {f : Nat → Option Nat} (ho : h.2.2 a = some (.inl (t, n, .inr (.inr (.inr (.inr f)))))) {i : Nat} (hi : i < n) (hn : n < 2 ^ 31) {v : Option Nat} (hv : sm_ok h ci v = true) : sm_sR h (some a) t ci (nI i) v = some (hu h a (.inl (t, n, .inr (.inr (.inr (.inr (va_up f i v))))))) := by
  simp only [sm_sR, pu_arr ho]
  rw [if_neg (fun q => q.elim (nI_cl hi (Nat.le_refl _) hn) (fun q => by rw [hv] at q; cases q)), nI_clamp (by omega)]
  rfl
theorem pu_I (x : Int32) : sm_I (some (.int x)) = some x := rfl
theorem pu_J (x : Int64) : sm_J (some (.long x)) = some x := rfl
theorem pu_R (x : Nat) : sm_R (some (.ref x)) = some (some x) := rfl
theorem pu_Rn : sm_R (some .null) = some none := rfl
theorem pu_Rf (x : Option Nat) : sm_R (some (va_rf x)) = some x := by cases x <;> rfl
theorem pu_cb {α β : Type} (r : α) (h : sm_H) (f : α → sm_H → Option β) : sm_cb (some (r, h)) f = f r h := rfl
theorem lg_cmp_0 (x y : Int64) : lg_cmp x y = 0 ↔ x = y := by
  unfold lg_cmp
  by_cases h1 : y < x
  · simp [h1]
    intro e
    subst e
    exact absurd h1 (by simp [Int64.lt_iff_toInt_lt])
  · by_cases h2 : x = y
    · simp [h1, h2]
    · simp [h1, h2]
-- a chain: at a, its row at b, with room for cap, holding xs
def chn (h : sm_H) (a b cap : Nat) (xs : List Int64) : Prop := h.2.2 a = some (.inr (0, [.ref b, .int (nI xs.length)])) ∧ xs.length ≤ cap ∧ cap ≤ 2000 ∧ ∃ g : Nat → Int64, h.2.2 b = some (.inl (1, cap, .inr (.inl g))) ∧ ∀ i, i < xs.length → g i = xs.getD i 0
theorem chn_ne {h : sm_H} {a b cap : Nat} {xs : List Int64} (H : chn h a b cap xs) : a ≠ b := by
  intro e
  obtain ⟨h1, -, -, g, h2, -⟩ := H
  rw [e, h2] at h1
  cases h1
theorem chn_fr {p : Nat → Prop} {h h' : sm_H} {a b cap : Nat} {xs : List Int64} (H : chn h a b cap xs) (F : fr p h h') (ha : ¬ p a) (hb : ¬ p b) : chn h' a b cap xs := by
  obtain ⟨h1, h2, h3, g, h4, h5⟩ := H
  exact ⟨by rw [F.2.2 a ha]; exact h1, h2, h3, g, by rw [F.2.2 b hb]; exact h4, h5⟩
theorem ch_size {h : sm_H} {a b cap : Nat} {xs : List Int64} (H : chn h a b cap xs) : fX0_size a h = some (nI xs.length, h) := by
  unfold fX0_size
  rw [pu_get H.1]
  rfl
-- what at() answers
def chAt (xs : List Int64) (i : Int32) : Int64 := if i < 0 ∨ nI xs.length ≤ i then -1 else xs.getD i.toNatClampNeg 0
theorem chAt_in {xs : List Int64} {i : Nat} (hi : i < xs.length) (hl : xs.length < 2 ^ 31) : chAt xs (nI i) = xs.getD i 0 := by
  unfold chAt
  rw [if_neg, nI_clamp (by omega)]
  intro q
  rcases q with q | q
  · exact nI_pos (by omega) q
  · exact absurd q (nI_ge hi hl)
theorem ch_at {h : sm_H} {a b cap : Nat} {xs : List Int64} (H : chn h a b cap xs) (i : Int32) : fX0_at a i h = some (chAt xs i, h) := by
  obtain ⟨h1, h2, h3, g, h4, h5⟩ := H
  unfold fX0_at chAt
  by_cases hi : i < 0
  · simp [hi]
  · obtain ⟨j, hj, rfl⟩ := nI_of hi
    simp only [hi, false_or, if_false, pu_get h1]
    by_cases hl : nI xs.length ≤ nI j
    · simp [sm_I, hl]
    · have hjl : j < xs.length := by
        rw [nI_leI (by omega) hj] at hl
        omega
      have hc : ¬ nI cap ≤ nI j := by rw [nI_leI (by omega) hj]; omega
      have e1 := pu_aJ h4 (i := j) (by omega) (by omega)
      have e2 := pu_len h4
      simp [sm_I, sm_R, hl, e1, e2, hc, h5 j hjl, nI_clamp hj]
theorem ch_add {h : sm_H} {a b cap : Nat} {xs : List Int64} (H : chn h a b cap xs) (v : Int64) (hl : xs.length < cap) : ∃ h', fX0_add a v h = some (1, h') ∧ chn h' a b cap (xs ++ [v]) ∧ fr (fun c => c = a ∨ c = b) h h' := by
  have hne := chn_ne H
  obtain ⟨h1, h2, h3, g, h4, h5⟩ := H
  have n0 : ¬ nI xs.length < 0 := nI_pos (by omega)
  have n1 : nI xs.length < nI cap := nI_lt hl (by omega)
  have e1 := pu_sJ h4 (i := xs.length) hl (by omega) v
  have e2 := pu_len h4
  have o2 : (hu h b (.inl (1, cap, .inr (.inl (vp_updL g xs.length v))))).2.2 a = some (.inr (0, [.ref b, .int (nI xs.length)])) := by rw [hu_ne hne]; exact h1
  have e3 := pu_put o2 (k := 1) (by simp) (.int (nI xs.length + 1))
  refine ⟨hu (hu h b (.inl (1, cap, .inr (.inl (vp_updL g xs.length v))))) a (.inr (0, [.ref b, .int (nI xs.length + 1)])), ?_, ⟨?_, ?_, h3, vp_updL g xs.length v, ?_, ?_⟩, fr_tr (fr_hu (Or.inr rfl)) (fr_hu (Or.inl rfl))⟩
  · unfold fX0_add
    simp only [pu_get h1]
    simp only [List.getElem?_cons_succ, List.getElem?_cons_zero, sm_I, sm_R, Option.bind_some, n0, if_false, e2, n1, if_true, e1, pu_get o2, sm_v, e3]
    rfl
  · rw [hu_at, nI_1, List.length_append]; rfl
  · rw [List.length_append]; exact hl
  · rw [hu_ne (Ne.symm hne), hu_at]
  · intro i hi
    rw [List.length_append] at hi
    by_cases hx : i = xs.length
    · subst hx
      simp [vp_updL]
    · have hi' : i < xs.length := by simp at hi; omega
      simp [vp_updL, hx, h5 i hi', List.getElem?_append_left hi']
theorem ch_addF {h : sm_H} {a b cap : Nat} {xs : List Int64} (H : chn h a b cap xs) (v : Int64) (hl : ¬ xs.length < cap) : fX0_add a v h = some (0, h) := by
  obtain ⟨h1, h2, h3, g, h4, h5⟩ := H
  have n0 : ¬ nI xs.length < 0 := nI_pos (by omega)
  have n1 : ¬ nI xs.length < nI cap := nI_nlt (by omega) (by omega)
  have e2 := pu_len h4
  unfold fX0_add
  simp only [pu_get h1]
  simp only [List.getElem?_cons_succ, List.getElem?_cons_zero, sm_I, sm_R, Option.bind_some, n0, if_false, e2, n1]
theorem ch_clear {h : sm_H} {a b cap : Nat} {xs : List Int64} (H : chn h a b cap xs) : ∃ h', fX0_clear a h = some ((), h') ∧ chn h' a b cap [] ∧ fr (fun c => c = a) h h' := by
  have hne := chn_ne H
  obtain ⟨h1, h2, h3, g, h4, h5⟩ := H
  refine ⟨hu h a (.inr (0, [.ref b, .int 0])), ?_, ⟨hu_at _ _ _, Nat.zero_le _, h3, g, by rw [hu_ne (Ne.symm hne)]; exact h4, fun i hi => absurd hi (by simp)⟩, fr_hu rfl⟩
  unfold fX0_clear
  rw [pu_put h1 (by simp)]
  rfl
theorem ch_copy_loop {a b cap a2 b2 cap2 : Nat} {ys : List Int64} (hne : a2 ≠ a) (hne2 : a2 ≠ b) (hne3 : b2 ≠ a) (hne4 : b2 ≠ b) : ∀ (n i : Nat) (h : sm_H) (xs : List Int64), chn h a b cap xs → chn h a2 b2 cap2 ys → i ≤ ys.length → ys.length + 1 ≤ i + n → ∃ h', fX0_copy_13 n a (some a2) (nI i) h = some ((), h') ∧ chn h' a b cap ((xs ++ ys.drop i).take (max cap xs.length)) ∧ fr (fun c => c = a ∨ c = b) h h' := by
  intro n
  induction n with
  | zero => intro i h xs H H2 h1 h2; omega
  | succ n ih =>
    intro i h xs H H2 h1 h2
    have hcap := H.2.1
    have hl2 : ys.length ≤ 2000 := Nat.le_trans H2.2.1 H2.2.2.1
    unfold fX0_copy_13
    rw [pu_get H2.1]
    simp only [List.getElem?_cons_succ, List.getElem?_cons_zero, sm_I, Option.bind_some]
    by_cases hi : i < ys.length
    · rw [if_neg (by rw [nI_leI (by omega) (by omega)]; omega)]
      rw [pu_obj H2.1, Option.bind_some, ch_at H2, pu_cb, pu_obj H.1, Option.bind_some, chAt_in hi (by omega)]
      by_cases hx : xs.length < cap
      · obtain ⟨h', e1, H', F⟩ := ch_add H (ys.getD i 0) hx
        have H2' := chn_fr H2 F (by intro q; rcases q with q | q; exact hne q; exact hne2 q) (by intro q; rcases q with q | q; exact hne3 q; exact hne4 q)
        rw [e1, pu_cb, sm_let, nI_1]
        obtain ⟨h'', e2, H'', F2⟩ := ih (i + 1) h' _ H' H2' (by omega) (by omega)
        refine ⟨h'', e2, ?_, fr_tr F F2⟩
        have hd : ys.drop i = ys.getD i 0 :: ys.drop (i + 1) := by
          rw [List.drop_eq_getElem_cons hi]
          simp [List.getD, hi]
        rw [hd]
        rw [List.append_assoc] at H''
        rw [show max cap xs.length = max cap (xs ++ [ys.getD i 0]).length by simp; omega]
        exact H''
      · rw [ch_addF H _ hx, pu_cb, sm_let, nI_1]
        obtain ⟨h'', e2, H'', F2⟩ := ih (i + 1) h _ H H2 (by omega) (by omega)
        refine ⟨h'', e2, ?_, F2⟩
        have e3 : (xs ++ ys.drop (i + 1)).take (max cap xs.length) = (xs ++ ys.drop i).take (max cap xs.length) := by
          have e4 : max cap xs.length = xs.length := by omega
          rw [e4, List.take_left, List.take_left]
        rw [← e3]
        exact H''
    · have hie : i = ys.length := by omega
      subst hie
      rw [if_pos (nI_le (Nat.le_refl _) (by omega))]
      refine ⟨h, rfl, ?_, fr_rf h⟩
      rw [List.drop_length, List.append_nil, List.take_of_length_le (by omega)]
      exact H
theorem ch_copy {h : sm_H} {a b cap a2 b2 cap2 : Nat} {xs ys : List Int64} (H : chn h a b cap xs) (H2 : chn h a2 b2 cap2 ys) (hne : a2 ≠ a) (hne4 : b2 ≠ b) : ∃ h', fX0_copy a (some a2) h = some ((), h') ∧ chn h' a b cap (ys.take cap) ∧ fr (fun c => c = a ∨ c = b) h h' := by
  have hab := chn_ne H
  have hne2 : a2 ≠ b := by
    intro e
    obtain ⟨-, -, -, g, h4, -⟩ := H
    rw [← e, H2.1] at h4
    cases h4
  have hne3 : b2 ≠ a := by
    intro e
    obtain ⟨-, -, -, g, h4, -⟩ := H2
    rw [e, H.1] at h4
    cases h4
  obtain ⟨h1, h2, h3, g, h4, h5⟩ := H
  have Hc : chn (hu h a (.inr (0, [.ref b, .int 0]))) a b cap [] := ⟨hu_at _ _ _, Nat.zero_le _, h3, g, by rw [hu_ne (Ne.symm hab)]; exact h4, fun i hi => absurd hi (by simp)⟩
  have F1 : fr (fun c => c = a ∨ c = b) h (hu h a (.inr (0, [.ref b, .int 0]))) := fr_hu (Or.inl rfl)
  have H2' := chn_fr H2 F1 (by intro q; rcases q with q | q; exact hne q; exact hne2 q) (by intro q; rcases q with q | q; exact hne3 q; exact hne4 q)
  have hl2 : ys.length ≤ 2000 := Nat.le_trans H2.2.1 H2.2.2.1
  obtain ⟨h', e1, H', F⟩ := ch_copy_loop hne hne2 hne3 hne4 sm_fuel 0 _ [] Hc H2' (Nat.zero_le _) (by rw [sm_fuel_eq]; omega)
  refine ⟨h', ?_, by simpa using H', fr_tr F1 F⟩
  unfold fX0_copy
  rw [if_neg (by intro q; exact hne (Option.some.inj q)), pu_put h1 (by simp)]
  exact e1
