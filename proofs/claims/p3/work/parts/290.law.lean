-- both sides in one heap, with the size v of the class's tape
def PI (x m tp it : Nat) (G : GT) (h : sm_H) (S : MS) (v : Int) : Prop := (Wf G h ∧ tG G x 12 0 ∧ tG G tp 1 2 ∧ tG G it 21 2 ∧ (G it).2.1 = 16) ∧ (Mo h m S ∧ MI S ∧ JJ S ∧ ∀ c, inM m c → (G c).1 = 0 ∧ c < h.1) ∧ ∃ ts, CH 1 h x tp it ts ∧ ts.toInt = v
def lJ (sz : Nat) (X : Option (Unit × sm_H)) : Prop := ∃ h', X = some ((), h') ∧ h'.1 - sz ≤ 600000 ∧ h'.2.1 ≤ 7302250
theorem mo_same {h h' : sm_H} {m : Nat} {S : MS} (H : Mo h m S) (e : ∀ c, inM m c → h'.2.2 c = h.2.2 c) : Mo h' m S := by
  refine ⟨by rw [e m ⟨Nat.le_refl _, by omega⟩]; exact H.1, fun k hk h2 => ?_⟩
  have ho := mT_off k hk h2
  rw [e _ ⟨by omega, by omega⟩]
  exact H.2 k hk h2
section LW
variable {Rs : Type} {sz x m tp it : Nat} {G : GT} {h : sm_H} {S : MS} {v : Int} {X : Option (Rs × sm_H)} {f : Rs → sm_H → Option (Unit × sm_H)} {E : List (Nat × Nat)}
theorem l_let {α : Type} {w : α} {Y : α → Option (Unit × sm_H)} (kk : ∀ z, lJ sz (Y z)) : lJ sz (sm_let w Y) := kk w
theorem l_if {p : Prop} {d : Decidable p} {Y Z : Option (Unit × sm_H)} (k1 : p → lJ sz Y) (k2 : ¬ p → lJ sz Z) : lJ sz (if p then Y else Z) := by
  by_cases hp : p
  · rw [if_pos hp]; exact k1 hp
  · rw [if_neg hp]; exact k2 hp
theorem l_ox {Y : Nat → Option (Unit × sm_H)} (H : PI x m tp it G h S v) (kk : lJ sz (Y x)) : lJ sz ((sm_obj h (some x) 11).bind Y) := by
  obtain ⟨vs, he, -, -⟩ := kw_obj (ci := 11) H.1.1 H.1.2.1 (by decide)
  rw [pu_obj he]; exact kk
theorem l_om {Y : Nat → Option (Unit × sm_H)} (H : PI x m tp it G h S v) (kk : lJ sz (Y m)) : lJ sz ((sm_obj h (some m) 12).bind Y) := by
  rw [mo_obj H.2.1.1]; exact kk
theorem l_cP {Q : Rs → Prop} (c : kJ (RP G h Q) X) (kk : ∀ r, lJ sz (f r h)) : lJ sz (sm_cb X f) := by
  obtain ⟨r, h', G', rfl, rfl, rfl, _⟩ := c
  exact kk r
theorem pi_w {h1 : sm_H} (H : PI x m tp it G h S v) (F : fE E G h h1) (hz : ∀ r, (0, r) ∉ E) {w : Int} (q : ∃ ts, CH 1 h1 x tp it ts ∧ ts.toInt = w) : PI x m tp it G h1 S w := by
  refine ⟨⟨F.1, H.1.2⟩, ⟨mo_same H.2.1.1 (fun c hc => F.2.2.2 c (by rw [(H.2.1.2.2.2 c hc).1]; exact hz _)), H.2.1.2.1, H.2.1.2.2.1, fun c hc => ⟨(H.2.1.2.2.2 c hc).1, by rw [F.2.1]; exact (H.2.1.2.2.2 c hc).2⟩⟩, q⟩
theorem l_cW {Q : Rs → sm_H → Prop} (H : PI x m tp it G h S v) (c : kJ (RW E G h Q) X) (hz : ∀ r, (0, r) ∉ E) (h12 : (12, 0) ∉ E) (h11 : (1, 2) ∉ E) (kk : ∀ r h', PI x m tp it G h' S v → h'.1 = h.1 → h'.2.1 = h.2.1 → lJ sz (f r h')) : lJ sz (sm_cb X f) := by
  obtain ⟨r, h', G', rfl, rfl, F, _⟩ := c
  obtain ⟨ts, q, e⟩ := H.2.2
  exact kk r h' (pi_w H F hz ⟨ts, CH_fr (fE_f F) H.1.1 H.1.2.1 H.1.2.2.1 h12 h11 q, e⟩) F.2.1 F.2.2.1
-- the object itself is written, but not its field 'tape'
theorem l_cK (H : PI x m tp it G h S v) (c : ∀ ts, CH 1 h x tp it ts → kJ (RW E G h (fun _ h' => sm_get h' (some x) 11 1 = some (va_rf (some tp)))) X) (hz : ∀ r, (0, r) ∉ E) (h11 : (1, 2) ∉ E) (kk : ∀ r h', PI x m tp it G h' S v → h'.1 = h.1 → h'.2.1 = h.2.1 → lJ sz (f r h')) : lJ sz (sm_cb X f) := by
  obtain ⟨ts, q, e⟩ := H.2.2
  obtain ⟨r, h', G', rfl, rfl, F, q1⟩ := c ts q
  have fp := F.2.2.2 tp (by rw [H.1.2.2.1.1, H.1.2.2.1.2]; exact h11)
  exact kk r h' (pi_w H F hz ⟨ts, ⟨q1, kg_fr fp q.2.1, kg_fr fp q.2.2⟩, e⟩) F.2.1 F.2.2.1
-- the tape is written: what it is then is told by itself
theorem l_cZ {Q : Rs → sm_H → Prop} {R' : Rs → sm_H → GT → Prop} {P : Rs → Int → Prop} (H : PI x m tp it G h S v) (c : kJ (RW E G h Q) X) (hz : ∀ r, (0, r) ∉ E) (t : ∀ ts, CH 1 h x tp it ts → ts.toInt = v → kJ R' X) (ht : ∀ r h' G', R' r h' G' → ∃ ts, CH 1 h' x tp it ts ∧ P r ts.toInt) (kk : ∀ r h' w, PI x m tp it G h' S w → P r w → h'.1 = h.1 → h'.2.1 = h.2.1 → lJ sz (f r h')) : lJ sz (sm_cb X f) := by
  obtain ⟨r, h', G', rfl, rfl, F, _⟩ := c
  obtain ⟨ts, q, e⟩ := H.2.2
  obtain ⟨r2, h2, G2, e2, q2⟩ := t ts q e
  cases e2
  obtain ⟨ts', q', p'⟩ := ht _ _ _ q2
  exact kk r h' ts'.toInt (pi_w H F hz ⟨ts', q', rfl⟩) p' F.2.1 F.2.2.1
theorem pi_a {h1 : sm_H} {G1 : GT} {c1 c2 : Nat} (H : PI x m tp it G h S v) (F : fA h.1 E c1 c2 G h G1 h1) (hz : ∀ r, (0, r) ∉ E) {w : Int} (q : ∃ ts, CH 1 h1 x tp it ts ∧ ts.toInt = w) : PI x m tp it G1 h1 S w := by
  have lx := tG_lt H.1.1 H.1.2.1 (by decide)
  have lt := tG_lt H.1.1 H.1.2.2.1 (by decide)
  have li := tG_lt H.1.1 H.1.2.2.2.1 (by decide)
  have g := F.2.2.2.2.1
  refine ⟨⟨F.1, tg_up F H.1.1 H.1.2.1 (by decide) (Nat.ne_of_lt lx), tg_up F H.1.1 H.1.2.2.1 (by decide) (Nat.ne_of_lt lt), tg_up F H.1.1 H.1.2.2.2.1 (by decide) (Nat.ne_of_lt li), by rw [g it li (Nat.ne_of_lt li)]; exact H.1.2.2.2.2⟩, ⟨mo_same H.2.1.1 (fun c hc => ?_), H.2.1.2.1, H.2.1.2.2.1, fun c hc => ?_⟩, q⟩
  · have hc2 := H.2.1.2.2.2 c hc
    exact F.2.2.2.2.2 c hc2.2 (Nat.ne_of_lt hc2.2) (by rw [hc2.1]; exact hz _)
  · have hc2 := H.2.1.2.2.2 c hc
    exact ⟨by rw [g c hc2.2 (Nat.ne_of_lt hc2.2)]; exact hc2.1, Nat.lt_of_lt_of_le hc2.2 F.2.1⟩
theorem fA_f {h1 : sm_H} {G1 : GT} {c1 c2 : Nat} (F : fA h.1 E c1 c2 G h G1 h1) : ∀ b, b < h.1 → ((G b).1, (G b).2.2) ∉ E → h1.2.2 b = h.2.2 b := fun b hb q => F.2.2.2.2.2 b hb (Nat.ne_of_lt hb) q
theorem l_cA {c1 c2 : Nat} {Q : GT → Rs → sm_H → Prop} (H : PI x m tp it G h S v) (c : kJ (RA h.1 h.1 E (h.1 + c1) (h.2.1 + c2) G h Q) X) (hz : ∀ r, (0, r) ∉ E) (h12 : (12, 0) ∉ E) (h11 : (1, 2) ∉ E) (kk : ∀ r h' G', PI x m tp it G' h' S v → h'.1 ≤ h.1 + c1 → h'.2.1 ≤ h.2.1 + c2 → h.1 ≤ h'.1 → lJ sz (f r h')) : lJ sz (sm_cb X f) := by
  obtain ⟨r, h', G', rfl, F, _⟩ := c
  obtain ⟨ts, q, e⟩ := H.2.2
  exact kk r h' G' (pi_a H F hz ⟨ts, CH_fr (fA_f F) H.1.1 H.1.2.1 H.1.2.2.1 h12 h11 q, e⟩) F.2.2.1 F.2.2.2.1 F.2.1
theorem l_cAZ {c1 c2 : Nat} {Q : GT → Rs → sm_H → Prop} {R' : Rs → sm_H → GT → Prop} (H : PI x m tp it G h S v) (c : kJ (RA h.1 h.1 E (h.1 + c1) (h.2.1 + c2) G h Q) X) (hz : ∀ r, (0, r) ∉ E) (t : ∀ ts, CH 1 h x tp it ts → kJ R' X) (ht : ∀ r h' G', R' r h' G' → CH 1 h' x tp it 0) (kk : ∀ r h' G', PI x m tp it G' h' S 0 → h'.1 ≤ h.1 + c1 → h'.2.1 ≤ h.2.1 + c2 → h.1 ≤ h'.1 → lJ sz (f r h')) : lJ sz (sm_cb X f) := by
  obtain ⟨r, h', G', rfl, F, _⟩ := c
  obtain ⟨ts, q, e⟩ := H.2.2
  obtain ⟨r2, h2, G2, e2, q2⟩ := t ts q
  cases e2
  exact kk r h' G' (pi_a H F hz ⟨0, ht _ _ _ q2, rfl⟩) F.2.2.1 F.2.2.2.1 F.2.1
-- a call of the reference
theorem l_r {E' : List Nat} {Q : Rs → MS → Prop} {g : Option (Rs × MS)} (H : PI x m tp it G h S v) (z : z2 m X g h) (c : nJ (NW E' S Q) g) (hj : ∀ r S', g = some (r, S') → fM E' S S' → JJ S') (kk : ∀ r h' S', PI x m tp it G h' S' v → h'.1 = h.1 → h'.2.1 = h.2.1 → fM E' S S' → Q r S' → lJ sz (f r h')) : lJ sz (sm_cb X f) := by
  obtain ⟨r, S', e, ⟨mi, F⟩, q⟩ := c
  obtain ⟨h', rfl, H', fr'⟩ := z r S' e
  have hn : ∀ b, (G b).1 ≠ 0 → h'.2.2 b = h.2.2 b := fun b hb => fr'.2.2 b (fun hc => hb (H.2.1.2.2.2 b hc).1)
  have hw : Wf G h' := fun b hb => by
    obtain ⟨p1, e1, p2, p3⟩ := H.1.1 b hb
    exact ⟨by rw [fr'.1]; exact p1, e1, by rw [hn b hb]; exact p2, p3⟩
  obtain ⟨ts, qc, ev⟩ := H.2.2
  have ex := hn x (by rw [H.1.2.1.1]; decide)
  have et := hn tp (by rw [H.1.2.2.1.1]; decide)
  refine kk r h' S' ⟨⟨hw, H.1.2⟩, ⟨H', mi, hj r S' e F, fun c hc => ⟨(H.2.1.2.2.2 c hc).1, by rw [fr'.1]; exact (H.2.1.2.2.2 c hc).2⟩⟩, ts, ⟨kg_fr ex qc.1, kg_fr et qc.2.1, kg_fr et qc.2.2⟩, ev⟩ fr'.1 fr'.2.1 F q
end LW
theorem l_nn {sz : Nat} {p : Prop} {d : Decidable p} {Y : Option (Unit × sm_H)} (hp : ¬ p) (kk : lJ sz Y) : lJ sz (if p then none else Y) := by rw [if_neg hp]; exact kk
theorem l_letv {sz : Nat} {α : Type} {w : α} {Y : α → Option (Unit × sm_H)} (kk : ∀ z, z = w → lJ sz (Y z)) : lJ sz (sm_let w Y) := kk w rfl
theorem l_lets {sz : Nat} {α : Type} {w : α} {Y : α → Option (Unit × sm_H)} (kk : lJ sz (Y w)) : lJ sz (sm_let w Y) := kk
theorem l_cAK {sz x m tp it : Nat} {Rs : Type} {G : GT} {h : sm_H} {S : MS} {v : Int} {X : Option (Rs × sm_H)} {f : Rs → sm_H → Option (Unit × sm_H)} {E : List (Nat × Nat)} {c1 c2 : Nat} {Q : GT → Rs → sm_H → Prop} (H : PI x m tp it G h S v) (c : kJ (RA h.1 h.1 E (h.1 + c1) (h.2.1 + c2) G h Q) X) (hz : ∀ r, (0, r) ∉ E) (t : ∀ ts, CH 1 h x tp it ts → kJ (fun _ h' _ => CH 1 h' x tp it ts) X) (kk : ∀ r h' G', PI x m tp it G' h' S v → h'.1 ≤ h.1 + c1 → h'.2.1 ≤ h.2.1 + c2 → h.1 ≤ h'.1 → lJ sz (f r h')) : lJ sz (sm_cb X f) := by
  obtain ⟨r, h', G', rfl, F, _⟩ := c
  obtain ⟨ts, q, e⟩ := H.2.2
  obtain ⟨r2, h2, G2, e2, q2⟩ := t ts q
  cases e2
  exact kk r h' G' (pi_a H F hz ⟨ts, q2, e⟩) F.2.2.1 F.2.2.2.1 F.2.1
theorem l_cAZ2 {sz x m tp it : Nat} {Rs : Type} {G : GT} {h : sm_H} {S : MS} {v : Int} {X : Option (Rs × sm_H)} {f : Rs → sm_H → Option (Unit × sm_H)} {E : List (Nat × Nat)} {c1 c2 : Nat} {Q : GT → Rs → sm_H → Prop} (H : PI x m tp it G h S v) (c : kJ (RA h.1 h.1 E (h.1 + c1) (h.2.1 + c2) G h Q) X) (hz : ∀ r, (0, r) ∉ E) (t : ∀ ts, CH 1 h x tp it ts → kJ (fun _ h' _ => CH 1 h' x tp it 0) X) (kk : ∀ r h' G', PI x m tp it G' h' S 0 → h'.1 ≤ h.1 + c1 → h'.2.1 ≤ h.2.1 + c2 → h.1 ≤ h'.1 → lJ sz (f r h')) : lJ sz (sm_cb X f) := l_cAZ H c hz t (fun _ _ _ q => q) kk
