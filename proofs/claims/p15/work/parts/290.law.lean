-- both sides in one heap, with a field of the class's object
def PI (x m : Nat) (G : GT) (h : sm_H) (S : MS) (v : Int64) : Prop := (Wf G h ∧ tG G x 12 0) ∧ (Mo h m S ∧ MI S ∧ JJ S ∧ ∀ c, inM m c → (G c).1 = 0 ∧ c < h.1) ∧ sm_get h (some x) 11 16 = some (.long v)
def lJ (sz : Nat) (X : Option (Unit × sm_H)) : Prop := ∃ h', X = some ((), h') ∧ h'.1 - sz ≤ 600000 ∧ h'.2.1 ≤ 7302250
theorem mo_same {h h' : sm_H} {m : Nat} {S : MS} (H : Mo h m S) (e : ∀ c, inM m c → h'.2.2 c = h.2.2 c) : Mo h' m S := by
  refine ⟨by rw [e m ⟨Nat.le_refl _, by omega⟩]; exact H.1, fun k hk h2 => ?_⟩
  have ho := mT_off k hk h2
  rw [e _ ⟨by omega, by omega⟩]
  exact H.2 k hk h2
section LW
variable {Rs : Type} {sz x m : Nat} {G : GT} {h : sm_H} {S : MS} {v : Int64} {X : Option (Rs × sm_H)} {f : Rs → sm_H → Option (Unit × sm_H)} {E : List (Nat × Nat)}
theorem l_let {α : Type} {w : α} {Y : α → Option (Unit × sm_H)} (kk : ∀ z, lJ sz (Y z)) : lJ sz (sm_let w Y) := kk w
theorem l_if {p : Prop} {d : Decidable p} {Y Z : Option (Unit × sm_H)} (k1 : p → lJ sz Y) (k2 : ¬ p → lJ sz Z) : lJ sz (if p then Y else Z) := by
  by_cases hp : p
  · rw [if_pos hp]; exact k1 hp
  · rw [if_neg hp]; exact k2 hp
theorem l_ox {Y : Nat → Option (Unit × sm_H)} (H : PI x m G h S v) (kk : lJ sz (Y x)) : lJ sz ((sm_obj h (some x) 11).bind Y) := by
  obtain ⟨vs, he, -, -⟩ := kw_obj (ci := 11) H.1.1 H.1.2 (by decide)
  rw [pu_obj he]; exact kk
theorem l_om {Y : Nat → Option (Unit × sm_H)} (H : PI x m G h S v) (kk : lJ sz (Y m)) : lJ sz ((sm_obj h (some m) 12).bind Y) := by
  rw [mo_obj H.2.1.1]; exact kk
theorem l_cP {Q : Rs → Prop} (c : kJ (RP G h Q) X) (kk : ∀ r, lJ sz (f r h)) : lJ sz (sm_cb X f) := by
  obtain ⟨r, h', G', rfl, rfl, rfl, _⟩ := c
  exact kk r
theorem pi_w {h1 : sm_H} (H : PI x m G h S v) (F : fE E G h h1) (hz : ∀ r, (0, r) ∉ E) {w : Int64} (q : sm_get h1 (some x) 11 16 = some (.long w)) : PI x m G h1 S w :=
  ⟨⟨F.1, H.1.2⟩, ⟨mo_same H.2.1.1 (fun c hc => F.2.2.2 c (by rw [(H.2.1.2.2.2 c hc).1]; exact hz _)), H.2.1.2.1, H.2.1.2.2.1, fun c hc => ⟨(H.2.1.2.2.2 c hc).1, by rw [F.2.1]; exact (H.2.1.2.2.2 c hc).2⟩⟩, q⟩
theorem l_cW {Q : Rs → sm_H → Prop} (H : PI x m G h S v) (c : kJ (RW E G h Q) X) (hz : ∀ r, (0, r) ∉ E) (h12 : (12, 0) ∉ E) (kk : ∀ r h', PI x m G h' S v → h'.1 = h.1 → h'.2.1 = h.2.1 → lJ sz (f r h')) : lJ sz (sm_cb X f) := by
  obtain ⟨r, h', G', rfl, rfl, F, _⟩ := c
  exact kk r h' (pi_w H F hz (kg_fr (F.2.2.2 x (by rw [H.1.2.1, H.1.2.2]; exact h12)) H.2.2)) F.2.1 F.2.2.1
-- the object is written: what the field is then is told by Q
theorem l_cK {P : Rs → Int64 → Prop} {Q : Rs → sm_H → Prop} (H : PI x m G h S v) (c : kJ (RW E G h Q) X) (hz : ∀ r, (0, r) ∉ E) (t : kJ (fun r h' _ => ∃ w, sm_get h' (some x) 11 16 = some (.long w) ∧ P r w) X) (kk : ∀ r h' w, PI x m G h' S w → P r w → h'.1 = h.1 → h'.2.1 = h.2.1 → lJ sz (f r h')) : lJ sz (sm_cb X f) := by
  obtain ⟨r, h', G', rfl, rfl, F, _⟩ := c
  obtain ⟨r2, h2, G2, e2, w, q2, p2⟩ := t
  cases e2
  exact kk r h' w (pi_w H F hz q2) p2 F.2.1 F.2.2.1
theorem pi_a {h1 : sm_H} {G1 : GT} {c1 c2 : Nat} (H : PI x m G h S v) (F : fA h.1 E c1 c2 G h G1 h1) (hz : ∀ r, (0, r) ∉ E) (q : sm_get h1 (some x) 11 16 = some (.long v)) : PI x m G1 h1 S v := by
  have lx := tG_lt H.1.1 H.1.2 (by decide)
  have g := F.2.2.2.2.1
  refine ⟨⟨F.1, tg_up F H.1.1 H.1.2 (by decide) (Nat.ne_of_lt lx)⟩, ⟨mo_same H.2.1.1 (fun c hc => ?_), H.2.1.2.1, H.2.1.2.2.1, fun c hc => ?_⟩, q⟩
  · have hc2 := H.2.1.2.2.2 c hc
    exact F.2.2.2.2.2 c hc2.2 (Nat.ne_of_lt hc2.2) (by rw [hc2.1]; exact hz _)
  · have hc2 := H.2.1.2.2.2 c hc
    exact ⟨by rw [g c hc2.2 (Nat.ne_of_lt hc2.2)]; exact hc2.1, Nat.lt_of_lt_of_le hc2.2 F.2.1⟩
theorem l_cA {c1 c2 : Nat} {Q : GT → Rs → sm_H → Prop} (H : PI x m G h S v) (c : kJ (RA h.1 h.1 E (h.1 + c1) (h.2.1 + c2) G h Q) X) (hz : ∀ r, (0, r) ∉ E) (h12 : (12, 0) ∉ E) (kk : ∀ r h' G', PI x m G' h' S v → h'.1 ≤ h.1 + c1 → h'.2.1 ≤ h.2.1 + c2 → h.1 ≤ h'.1 → lJ sz (f r h')) : lJ sz (sm_cb X f) := by
  obtain ⟨r, h', G', rfl, F, _⟩ := c
  have lx := tG_lt H.1.1 H.1.2 (by decide)
  exact kk r h' G' (pi_a H F hz (kg_fr (F.2.2.2.2.2 x lx (Nat.ne_of_lt lx) (by rw [H.1.2.1, H.1.2.2]; exact h12)) H.2.2)) F.2.2.1 F.2.2.2.1 F.2.1
theorem l_cAK {c1 c2 : Nat} {Q : GT → Rs → sm_H → Prop} (H : PI x m G h S v) (c : kJ (RA h.1 h.1 E (h.1 + c1) (h.2.1 + c2) G h Q) X) (hz : ∀ r, (0, r) ∉ E) (t : kJ (fun _ h' _ => sm_get h' (some x) 11 16 = some (.long v)) X) (kk : ∀ r h' G', PI x m G' h' S v → h'.1 ≤ h.1 + c1 → h'.2.1 ≤ h.2.1 + c2 → h.1 ≤ h'.1 → lJ sz (f r h')) : lJ sz (sm_cb X f) := by
  obtain ⟨r, h', G', rfl, F, _⟩ := c
  obtain ⟨r2, h2, G2, e2, q2⟩ := t
  cases e2
  exact kk r h' G' (pi_a H F hz q2) F.2.2.1 F.2.2.2.1 F.2.1
theorem l_r {E' : List Nat} {Q : Rs → MS → Prop} {g : Option (Rs × MS)} (H : PI x m G h S v) (z : z2 m X g h) (c : nJ (NW E' S Q) g) (hj : ∀ r S', g = some (r, S') → fM E' S S' → JJ S') (kk : ∀ r h' S', PI x m G h' S' v → h'.1 = h.1 → h'.2.1 = h.2.1 → fM E' S S' → Q r S' → lJ sz (f r h')) : lJ sz (sm_cb X f) := by
  obtain ⟨r, S', e, ⟨mi, F⟩, q⟩ := c
  obtain ⟨h', rfl, H', fr'⟩ := z r S' e
  have hn : ∀ b, (G b).1 ≠ 0 → h'.2.2 b = h.2.2 b := fun b hb => fr'.2.2 b (fun hc => hb (H.2.1.2.2.2 b hc).1)
  have hw : Wf G h' := fun b hb => by
    obtain ⟨p1, e1, p2, p3⟩ := H.1.1 b hb
    exact ⟨by rw [fr'.1]; exact p1, e1, by rw [hn b hb]; exact p2, p3⟩
  exact kk r h' S' ⟨⟨hw, H.1.2⟩, ⟨H', mi, hj r S' e F, fun c hc => ⟨(H.2.1.2.2.2 c hc).1, by rw [fr'.1]; exact (H.2.1.2.2.2 c hc).2⟩⟩, kg_fr (hn x (by rw [H.1.2.1]; decide)) H.2.2⟩ fr'.1 fr'.2.1 F q
end LW
theorem fk_of {Rs : Type} {x : Nat} {G : GT} {h : sm_H} {v : Int64} {X : Option (Rs × sm_H)} {E : List (Nat × Nat)} (c : kJ (RW E G h (fun _ h' => sm_get h' (some x) 11 16 = some (.long v))) X) : kJ (fun _ h' _ => ∃ w, sm_get h' (some x) 11 16 = some (.long w) ∧ w = v) X := by
  obtain ⟨r, h', G', e, rfl, F, q⟩ := c
  exact ⟨r, h', G', e, v, q, rfl⟩
-- community: the field stays
theorem fk_community {G : GT} {h : sm_H} {a0 : Nat} {v : Int64} {a1 : Int32} (W : Wf G h) (ta : tG G a0 12 0) (p : a1 = 0 ∨ a1 = 1) (q : sm_get h (some a0) 11 16 = some (.long v)) : kJ (fun (_ : Int32) h' _ => sm_get h' (some a0) 11 16 = some (.long v)) (fX11_community a0 a1 h) := by
  unfold fX11_community
  refine k_obj W ta (by decide) ?_
  refine kc_of (kf16X11_newCommunity W ta p q) (fun x1 h2 G2 c2 => ?_)
  obtain ⟨⟨W2, s2, -, -, g2, f2⟩, e2⟩ := c2
  have la := tG_lt W ta (by decide)
  have ta2 : tG G2 a0 12 0 := by unfold tG; rw [g2 a0 la (Nat.ne_of_lt la)]; exact ta
  refine k_gR (r' := 1) W2 ta2 (by decide) rfl rfl (fun x3 e3 t3 => ?_)
  refine k_obj W2 t3 (by decide) ?_
  refine kc_of (kX0_clear W2 t3) (fun _ h4 G4 c4 => ?_)
  obtain ⟨rfl, f4, _⟩ := c4
  exact k_rR (G' := G4) (kg_fr (f4.2.2.2 a0 (by rw [ta2.1, ta2.2]; simp)) e2)
theorem l_nn {sz : Nat} {p : Prop} {d : Decidable p} {Y : Option (Unit × sm_H)} (hp : ¬ p) (kk : lJ sz Y) : lJ sz (if p then none else Y) := by rw [if_neg hp]; exact kk
theorem l_letv {sz : Nat} {α : Type} {w : α} {Y : α → Option (Unit × sm_H)} (kk : ∀ z, z = w → lJ sz (Y z)) : lJ sz (sm_let w Y) := kk w rfl
theorem l_lets {sz : Nat} {α : Type} {w : α} {Y : α → Option (Unit × sm_H)} (kk : lJ sz (Y w)) : lJ sz (sm_let w Y) := kk
