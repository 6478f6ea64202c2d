-- both sides in one heap: D = tape, size of the name at hand, names of the communities, sizes of their views
abbrev CD : Type := List Int64 × Int32 × List (List Int64) × (Nat → Int32)
def HP (h : sm_H) (x tp it hp hi ca : Nat) (D : CD) : Prop := HT h x tp it D.1 ∧ CH 1 h x hp hi D.2.1 ∧ CM h x ca D.2.2.1 D.2.2.2
def KC (S : MS) (D : CD) : Prop := LT S D.1 ∧ S.1 4 = D.2.1 ∧ LN S D.2.2.1 ∧ LV S D.2.2.1.length D.2.2.2
def PT (G : GT) (x tp it hp hi : Nat) : Prop := tG G x 12 0 ∧ (tG G tp 1 1 ∧ tG G it 21 1 ∧ (G it).2.1 = 1200) ∧ tG G hp 1 2 ∧ tG G hi 21 2 ∧ (G hi).2.1 = 16
def PI (x m tp it hp hi ca : Nat) (G : GT) (h : sm_H) (S : MS) (D : CD) : Prop := (Wf G h ∧ PT G x tp it hp hi) ∧ (Mo h m S ∧ MI S ∧ JJ S ∧ ∀ c, inM m c → (G c).1 = 0 ∧ c < h.1) ∧ HP h x tp it hp hi ca D
def lJ (sz : Nat) (X : Option (Unit × sm_H)) : Prop := ∃ h', X = some ((), h') ∧ h'.1 - sz ≤ 600000 ∧ h'.2.1 ≤ 7302250
theorem mo_same {h h' : sm_H} {m : Nat} {S : MS} (H : Mo h m S) (e : ∀ c, inM m c → h'.2.2 c = h.2.2 c) : Mo h' m S := by
  refine ⟨by rw [e m ⟨Nat.le_refl _, by omega⟩]; exact H.1, fun k hk h2 => ?_⟩
  have ho := mT_off k hk h2
  rw [e _ ⟨by omega, by omega⟩]
  exact H.2 k hk h2
theorem RA_W {Rs : Type} {G : GT} {h : sm_H} {E : List (Nat × Nat)} {Q : Rs → sm_H → Prop} {X : Option (Rs × sm_H)} (c : kJ (RW E G h Q) X) : kJ (RA h.1 h.1 E (h.1 + 0) (h.2.1 + 0) G h (fun _ => Q)) X := by
  obtain ⟨r, h', G', e, rfl, F, q⟩ := c
  exact ⟨r, h', _, e, ⟨F.1, Nat.le_of_eq F.2.1.symm, Nat.le_of_eq F.2.1, Nat.le_of_eq F.2.2.1, fun _ _ _ => rfl, fun a _ _ k => F.2.2.2 a k⟩, q⟩
theorem l_nn {sz : Nat} {p : Prop} {d : Decidable p} {Y : Option (Unit × sm_H)} (hp : ¬ p) (kk : lJ sz Y) : lJ sz (if p then none else Y) := by rw [if_neg hp]; exact kk
theorem l_letv {sz : Nat} {α : Type} {w : α} {Y : α → Option (Unit × sm_H)} (kk : ∀ z, z = w → lJ sz (Y z)) : lJ sz (sm_let w Y) := kk w rfl
theorem l_lets {sz : Nat} {α : Type} {w : α} {Y : α → Option (Unit × sm_H)} (kk : lJ sz (Y w)) : lJ sz (sm_let w Y) := kk
section LW
variable {Rs : Type} {sz x m tp it hp hi ca c1 c2 : Nat} {G : GT} {h : sm_H} {S : MS} {D : CD} {X : Option (Rs × sm_H)} {f : Rs → sm_H → Option (Unit × sm_H)} {E : List (Nat × Nat)} {Q : GT → Rs → sm_H → Prop}
theorem l_let {α : Type} {w : α} {Y : α → Option (Unit × sm_H)} (kk : ∀ z, lJ sz (Y z)) : lJ sz (sm_let w Y) := kk w
theorem l_if {p : Prop} {d : Decidable p} {Y Z : Option (Unit × sm_H)} (k1 : p → lJ sz Y) (k2 : ¬ p → lJ sz Z) : lJ sz (if p then Y else Z) := by
  by_cases hp : p
  · rw [if_pos hp]; exact k1 hp
  · rw [if_neg hp]; exact k2 hp
theorem l_ox {Y : Nat → Option (Unit × sm_H)} (H : PI x m tp it hp hi ca G h S D) (kk : lJ sz (Y x)) : lJ sz ((sm_obj h (some x) 11).bind Y) := by
  obtain ⟨vs, he, -, -⟩ := kw_obj (ci := 11) H.1.1 H.1.2.1 (by decide)
  rw [pu_obj he]; exact kk
theorem l_om {Y : Nat → Option (Unit × sm_H)} (H : PI x m tp it hp hi ca G h S D) (kk : lJ sz (Y m)) : lJ sz ((sm_obj h (some m) 12).bind Y) := by
  rw [mo_obj H.2.1.1]; exact kk
theorem l_cP {Q : Rs → Prop} (c : kJ (RP G h Q) X) (kk : ∀ r, lJ sz (f r h)) : lJ sz (sm_cb X f) := by
  obtain ⟨r, h', G', rfl, rfl, rfl, _⟩ := c
  exact kk r
theorem pt_up {h1 : sm_H} {G1 : GT} (W : Wf G h) (F : fA h.1 E c1 c2 G h G1 h1) (t : PT G x tp it hp hi) : PT G1 x tp it hp hi := by
  obtain ⟨t1, ⟨t2, t3, l3⟩, t4, t5, l5⟩ := t
  have up : ∀ {a c r : Nat}, tG G a c r → c ≠ 0 → tG G1 a c r := fun {a c r} t hc => tg_up F W t hc (Nat.ne_of_lt (tG_lt W t hc))
  have li := tG_lt W t3 (by decide)
  have lj := tG_lt W t5 (by decide)
  exact ⟨up t1 (by decide), ⟨up t2 (by decide), up t3 (by decide), by rw [F.2.2.2.2.1 it li (Nat.ne_of_lt li)]; exact l3⟩, up t4 (by decide), up t5 (by decide), by rw [F.2.2.2.2.1 hi lj (Nat.ne_of_lt lj)]; exact l5⟩
theorem l_cD {P : Rs → CD → Prop} (H : PI x m tp it hp hi ca G h S D) (c : kJ (RA h.1 h.1 E (h.1 + c1) (h.2.1 + c2) G h Q) X) (hz : ∀ r, (0, r) ∉ E) (t : ∀ r h' G', X = some (r, h') → fA h.1 E c1 c2 G h G' h' → ∃ D', HP h' x tp it hp hi ca D' ∧ P r D') (kk : ∀ r h' G' D', PI x m tp it hp hi ca G' h' S D' → P r D' → h'.1 ≤ h.1 + c1 → h'.2.1 ≤ h.2.1 + c2 → h.1 ≤ h'.1 → lJ sz (f r h')) : lJ sz (sm_cb X f) := by
  obtain ⟨r, h', G', e, F, _⟩ := c
  obtain ⟨D', q, p⟩ := t r h' G' e F
  rw [e, pu_cb]
  refine kk r h' G' D' ⟨⟨F.1, pt_up H.1.1 F H.1.2⟩, ⟨mo_same H.2.1.1 (fun c hc => ?_), H.2.1.2.1, H.2.1.2.2.1, fun c hc => ?_⟩, q⟩ p F.2.2.1 F.2.2.2.1 F.2.1
  · have hc2 := H.2.1.2.2.2 c hc
    exact F.2.2.2.2.2 c hc2.2 (Nat.ne_of_lt hc2.2) (by rw [hc2.1]; exact hz _)
  · have hc2 := H.2.1.2.2.2 c hc
    exact ⟨by rw [F.2.2.2.2.1 c hc2.2 (Nat.ne_of_lt hc2.2)]; exact hc2.1, Nat.lt_of_lt_of_le hc2.2 F.2.1⟩
theorem fA_B {h1 : sm_H} {G1 : GT} (F : fA h.1 E c1 c2 G h G1 h1) : frB E G h h1 := fun b hb k => F.2.2.2.2.2 b hb (Nat.ne_of_lt hb) k
def KT : List (Nat × Nat) := [(1, 1), (21, 1)]
def KM : List (Nat × Nat) := [(26, 0), (3, 0), (1, 3), (21, 3), (29, 0), (22, 0)]
theorem tq_T {h1 : sm_H} {G1 : GT} (H : PI x m tp it hp hi ca G h S D) (F : fA h.1 E c1 c2 G h G1 h1) (hx : ∀ k, k < 15 → sm_get h1 (some x) 11 k = sm_get h (some x) 11 k) (k : ∀ p ∈ KT, p ∉ E) : HT h1 x tp it D.1 := HT_fr H.1.1 H.1.2.2.1.1 H.1.2.2.1.2.1 (fA_B F) (hx 0 (by decide)) (k _ (by decide)) (k _ (by decide)) H.2.2.1
theorem tq_H {h1 : sm_H} {G1 : GT} (H : PI x m tp it hp hi ca G h S D) (F : fA h.1 E c1 c2 G h G1 h1) (hx : ∀ k, k < 15 → sm_get h1 (some x) 11 k = sm_get h (some x) 11 k) (k : (1, 2) ∉ E) : CH 1 h1 x hp hi D.2.1 := HH_fr H.1.1 H.1.2.2.2.1 (fA_B F) (hx 1 (by decide)) k H.2.2.2.1
theorem tq_M {h1 : sm_H} {G1 : GT} (H : PI x m tp it hp hi ca G h S D) (F : fA h.1 E c1 c2 G h G1 h1) (hx : ∀ k, k < 15 → sm_get h1 (some x) 11 k = sm_get h (some x) 11 k) (k : ∀ p ∈ KM, p ∉ E) : CM h1 x ca D.2.2.1 D.2.2.2 := CM_fr H.1.1 H.1.2.1 (fA_B F) (hx 3 (by decide)) (hx 14 (by decide)) (k _ (by decide)) (k _ (by decide)) (k _ (by decide)) (k _ (by decide)) (k _ (by decide)) (k _ (by decide)) H.2.2.2.2
theorem tq_x {h1 : sm_H} {G1 : GT} (H : PI x m tp it hp hi ca G h S D) (F : fA h.1 E c1 c2 G h G1 h1) (k : (12, 0) ∉ E) : ∀ k, k < 15 → sm_get h1 (some x) 11 k = sm_get h (some x) 11 k := fun _ _ => kg_fr (frB_at (fA_B F) H.1.1 H.1.2.1 (by decide) k) rfl
theorem l_K (H : PI x m tp it hp hi ca G h S D) (c : kJ (RA h.1 h.1 E (h.1 + c1) (h.2.1 + c2) G h Q) X) (hz : ∀ r, (0, r) ∉ E) (k0 : (12, 0) ∉ E) (k1 : ∀ p ∈ KT, p ∉ E) (k2 : (1, 2) ∉ E) (k3 : ∀ p ∈ KM, p ∉ E) (kk : ∀ r h' G', PI x m tp it hp hi ca G' h' S D → h'.1 ≤ h.1 + c1 → h'.2.1 ≤ h.2.1 + c2 → h.1 ≤ h'.1 → lJ sz (f r h')) : lJ sz (sm_cb X f) :=
  l_cD (P := fun _ D' => D' = D) H c hz (fun r h' G' e F => ⟨D, ⟨tq_T H F (tq_x H F k0) k1, tq_H H F (tq_x H F k0) k2, tq_M H F (tq_x H F k0) k3⟩, rfl⟩) (fun r h' G' D' H' p => by rw [p] at H'; exact kk r h' G' H')
-- limit, tick: the object is written, but not the fields below 15
theorem l_L (H : PI x m tp it hp hi ca G h S D) (c : kJ (RA h.1 h.1 E (h.1 + c1) (h.2.1 + c2) G h Q) X) (hz : ∀ r, (0, r) ∉ E) (t : kJ (fun _ h' _ => ∀ k, k < 15 → sm_get h' (some x) 11 k = sm_get h (some x) 11 k) X) (k1 : ∀ p ∈ KT, p ∉ E) (k2 : (1, 2) ∉ E) (k3 : ∀ p ∈ KM, p ∉ E) (kk : ∀ r h' G', PI x m tp it hp hi ca G' h' S D → h'.1 ≤ h.1 + c1 → h'.2.1 ≤ h.2.1 + c2 → h.1 ≤ h'.1 → lJ sz (f r h')) : lJ sz (sm_cb X f) := by
  refine l_cD (P := fun _ D' => D' = D) H c hz (fun r h' G' e F => ?_) (fun r h' G' D' H' p => by rw [p] at H'; exact kk r h' G' H')
  obtain ⟨r2, h2, G2, e2, hx⟩ := t
  rw [e] at e2
  cases e2
  exact ⟨D, ⟨tq_T H F hx k1, tq_H H F hx k2, tq_M H F hx k3⟩, rfl⟩
-- the tape is emptied
theorem l_T0 (H : PI x m tp it hp hi ca G h S D) (c : kJ (RA h.1 h.1 E (h.1 + c1) (h.2.1 + c2) G h Q) X) (hz : ∀ r, (0, r) ∉ E) (t : ∀ ts, CH 0 h x tp it ts → kJ (fun _ h' _ => CH 0 h' x tp it 0) X) (k0 : (12, 0) ∉ E) (k2 : (1, 2) ∉ E) (k3 : ∀ p ∈ KM, p ∉ E) (kk : ∀ r h' G', PI x m tp it hp hi ca G' h' S ([], D.2) → h'.1 ≤ h.1 + c1 → h'.2.1 ≤ h.2.1 + c2 → h.1 ≤ h'.1 → lJ sz (f r h')) : lJ sz (sm_cb X f) := by
  refine l_cD (P := fun _ D' => D' = ([], D.2)) H c hz (fun r h' G' e F => ?_) (fun r h' G' D' H' p => by rw [p] at H'; exact kk r h' G' H')
  have T := H.2.2.1
  obtain ⟨r2, h2, G2, e2, q⟩ := t _ ⟨T.1, chn_g0 T.2, chn_g1 T.2⟩
  rw [e] at e2
  cases e2
  have tu := pt_up H.1.1 F H.1.2
  have aH := tq_H H F (tq_x H F k0) k2
  have aM := tq_M H F (tq_x H F k0) k3
  exact ⟨([], D.2), ⟨⟨q.1, chn_nil F.1 tu.2.1.1 tu.2.1.2.1 tu.2.1.2.2 q⟩, aH, aM⟩, rfl⟩
-- the name at hand is emptied
theorem l_H0 (H : PI x m tp it hp hi ca G h S D) (c : kJ (RA h.1 h.1 E (h.1 + c1) (h.2.1 + c2) G h Q) X) (hz : ∀ r, (0, r) ∉ E) (t : kJ (fun _ h' _ => CH 1 h' x hp hi 0) X) (k0 : (12, 0) ∉ E) (k1 : ∀ p ∈ KT, p ∉ E) (k3 : ∀ p ∈ KM, p ∉ E) (kk : ∀ r h' G', PI x m tp it hp hi ca G' h' S (D.1, 0, D.2.2) → h'.1 ≤ h.1 + c1 → h'.2.1 ≤ h.2.1 + c2 → h.1 ≤ h'.1 → lJ sz (f r h')) : lJ sz (sm_cb X f) := by
  refine l_cD (P := fun _ D' => D' = (D.1, 0, D.2.2)) H c hz (fun r h' G' e F => ?_) (fun r h' G' D' H' p => by rw [p] at H'; exact kk r h' G' H')
  obtain ⟨r2, h2, G2, e2, q⟩ := t
  rw [e] at e2
  cases e2
  have aT := tq_T H F (tq_x H F k0) k1
  have aM := tq_M H F (tq_x H F k0) k3
  exact ⟨(D.1, 0, D.2.2), ⟨aT, q, aM⟩, rfl⟩
-- a call of the reference
theorem l_r {E' : List Nat} {Q : Rs → MS → Prop} {g : Option (Rs × MS)} (H : PI x m tp it hp hi ca G h S D) (z : z2 m X g h) (c : nJ (NW E' S Q) g) (hj : ∀ r S', g = some (r, S') → fM E' S S' → JJ S') (kk : ∀ r h' S', PI x m tp it hp hi ca G h' S' D → h'.1 = h.1 → h'.2.1 = h.2.1 → fM E' S S' → Q r S' → lJ sz (f r h')) : lJ sz (sm_cb X f) := by
  obtain ⟨r, S', e, ⟨mi, F⟩, q⟩ := c
  obtain ⟨h', rfl, H', fr'⟩ := z r S' e
  have hn : ∀ b, (G b).1 ≠ 0 → h'.2.2 b = h.2.2 b := fun b hb => fr'.2.2 b (fun hc => hb (H.2.1.2.2.2 b hc).1)
  have hw : Wf G h' := fun b hb => by
    obtain ⟨p1, e1, p2, p3⟩ := H.1.1 b hb
    exact ⟨by rw [fr'.1]; exact p1, e1, by rw [hn b hb]; exact p2, p3⟩
  have kx := hn x (by rw [H.1.2.1.1]; decide)
  have T := H.2.2.1
  have Hh := H.2.2.2.1
  obtain ⟨cs, C⟩ := H.2.2.2.2
  have tci := fun i hi => cm_cs (i := i) H.1.1 H.1.2.1 C hi
  have tca := cm_ca H.1.1 H.1.2.1 C
  have at1 : ∀ {a c r : Nat}, tG G a c r → c ≠ 0 → h'.2.2 a = h.2.2 a := fun {a c r} t hc => hn a (by rw [t.1]; exact hc)
  obtain ⟨⟨e3, e14, l8⟩, ⟨ff, hf, hv⟩, inj, hc⟩ := C
  refine kk r h' S' ⟨⟨hw, H.1.2⟩, ⟨H', mi, hj r S' e F, fun c hc => ⟨(H.2.1.2.2.2 c hc).1, by rw [fr'.1]; exact (H.2.1.2.2.2 c hc).2⟩⟩, ⟨kg_fr kx T.1, chn_eq T.2 (at1 H.1.2.2.1.1 (by decide)) (at1 H.1.2.2.1.2.1 (by decide))⟩, ⟨kg_fr kx Hh.1, kg_fr (at1 H.1.2.2.2.1 (by decide)) Hh.2.1, kg_fr (at1 H.1.2.2.2.1 (by decide)) Hh.2.2⟩, cs, ⟨kg_fr kx e3, kg_fr kx e14, l8⟩, ⟨ff, (at1 tca (by decide)).trans hf, hv⟩, inj, fun i hi => ?_⟩ fr'.1 fr'.2.1 F q
  obtain ⟨nc, nb, vr, ir, ⟨e0, e2, e3', e4⟩, ec, ⟨d1, l1⟩, d2, l2⟩ := hc i hi
  have tc := tci i hi
  have fc := at1 tc (by decide)
  have tn : tG G nc 1 3 := kw_ref (ci := 2) (k := 0) H.1.1 tc (by decide) rfl rfl e0
  have tb : tG G nb 21 3 := kw_ref (ci := 0) (k := 0) H.1.1 tn (by decide) rfl rfl (chn_g0 ec)
  have tv : tG G vr 29 0 := kw_ref (ci := 2) (k := 2) H.1.1 tc (by decide) rfl rfl e2
  have ti : tG G ir 22 0 := kw_ref (ci := 2) (k := 3) H.1.1 tc (by decide) rfl rfl e3'
  exact ⟨nc, nb, vr, ir, ⟨kg_fr fc e0, kg_fr fc e2, kg_fr fc e3', kg_fr fc e4⟩, chn_eq ec (at1 tn (by decide)) (at1 tb (by decide)), ⟨d1, (at1 tv (by decide)).trans l1⟩, d2, (at1 ti (by decide)).trans l2⟩
end LW
section LX
variable {sz x m tp it hp hi ca c1 c2 : Nat} {G : GT} {h : sm_H} {S : MS} {D : CD} {f : Int32 → sm_H → Option (Unit × sm_H)} {E : List (Nat × Nat)} {Q : GT → Int32 → sm_H → Prop}
theorem l_N {a1 : Int64} (H : PI x m tp it hp hi ca G h S D) (K : KC S D) (c : kJ (RA h.1 h.1 E (h.1 + c1) (h.2.1 + c2) G h Q) (fX11_number x a1 h)) (hz : ∀ r, (0, r) ∉ E) (k0 : (12, 0) ∉ E) (k1 : ∀ p ∈ KT, p ∉ E) (k3 : ∀ p ∈ KM, p ∉ E) (kk : ∀ r h' G' D', PI x m tp it hp hi ca G' h' S D' → (∃ hs', D' = (D.1, hs', D.2.2) ∧ numQ D.2.1.toInt a1.toInt r.toInt hs'.toInt) → h'.1 ≤ h.1 + c1 → h'.2.1 ≤ h.2.1 + c2 → h.1 ≤ h'.1 → lJ sz (f r h')) : lJ sz (sm_cb (fX11_number x a1 h) f) := by
  refine l_cD H c hz (fun r h' G' e F => ?_) kk
  have r4 := mi_f H.2.1.2.1 4 rfl
  rw [K.2.1] at r4
  obtain ⟨r2, h2, G2, e2, hs', q, p⟩ := hz_number (a1 := a1) H.1.1 H.1.2.1 H.1.2.2.2.1 H.1.2.2.2.2.1 H.1.2.2.2.2.2 H.2.2.2.1 (by omega) (by omega)
  rw [e] at e2
  cases e2
  have aT := tq_T H F (tq_x H F k0) k1
  have aM := tq_M H F (tq_x H F k0) k3
  exact ⟨(D.1, hs', D.2.2), ⟨aT, q, aM⟩, hs', rfl, p⟩
theorem l_F {a1 : Int64} {a3 : Int32} (H : PI x m tp it hp hi ca G h S D) (c : kJ (RA h.1 h.1 E (h.1 + c1) (h.2.1 + c2) G h Q) (fX11_feed x a1 a3 h)) (hz : ∀ r, (0, r) ∉ E) (k0 : (12, 0) ∉ E) (k2 : (1, 2) ∉ E) (k3 : ∀ p ∈ KM, p ∉ E) (kk : ∀ r h' G' D', PI x m tp it hp hi ca G' h' S D' → (∃ ts', D' = (ts', D.2) ∧ feedL D.1 a1 a3 r ts') → h'.1 ≤ h.1 + c1 → h'.2.1 ≤ h.2.1 + c2 → h.1 ≤ h'.1 → lJ sz (f r h')) : lJ sz (sm_cb (fX11_feed x a1 a3 h) f) := by
  refine l_cD H c hz (fun r h' G' e F => ?_) kk
  obtain ⟨r2, h2, ts', e2, p, q⟩ := xf_feed (w := a1) (a3 := a3) ⟨tg_ne H.1.2.1 H.1.2.2.1.1 (by simp), tg_ne H.1.2.1 H.1.2.2.1.2.1 (by simp)⟩ H.2.2.1
  rw [e] at e2
  cases e2
  have aH := tq_H H F (tq_x H F k0) k2
  have aM := tq_M H F (tq_x H F k0) k3
  exact ⟨(ts', D.2), ⟨q, aH, aM⟩, ts', rfl, p⟩
theorem l_C {a1 : Int32} (H : PI x m tp it hp hi ca G h S D) (K : KC S D) (pa : a1 = 0 ∨ a1 = 1) (c : kJ (RA h.1 h.1 E (h.1 + c1) (h.2.1 + c2) G h Q) (fX11_community x a1 h)) (hz : ∀ r, (0, r) ∉ E) (kk : ∀ r h' G' D', PI x m tp it hp hi ca G' h' S D' → (∃ ns', D' = ([], D.2.1, ns', D.2.2.2) ∧ comR D.1 D.2.2.1 r ns') → h'.1 ≤ h.1 + c1 → h'.2.1 ≤ h.2.1 + c2 → h.1 ≤ h'.1 → lJ sz (f r h')) : lJ sz (sm_cb (fX11_community x a1 h) f) := by
  refine l_cD H c hz (fun r h' G' e F => ?_) kk
  obtain ⟨r2, h2, ns', e2, p, q, qc⟩ := xc_community H.1.1 H.1.2.1 H.1.2.2.1.1 H.1.2.2.1.2.1 pa H.2.2.1 H.2.2.2.2 (K.2.2.2.2 _ (Nat.le_refl _))
  rw [e] at e2
  cases e2
  obtain ⟨r3, h3, G3, e3, q1⟩ := hk_community H.1.1 H.1.2.1 H.1.2.2.2.1 pa H.2.2.2.1
  rw [e] at e3
  cases e3
  exact ⟨([], D.2.1, ns', D.2.2.2), ⟨q, q1, qc⟩, ns', rfl, p⟩
theorem l_V {a1 a2 : Int32} (H : PI x m tp it hp hi ca G h S D) (K : KC S D) (pa : a2 = 0 ∨ a2 = 1) (c : kJ (RA h.1 h.1 E (h.1 + c1) (h.2.1 + c2) G h Q) (fX11_view x a1 a2 h)) (hz : ∀ r, (0, r) ∉ E) (k0 : (12, 0) ∉ E) (k1 : ∀ p ∈ KT, p ∉ E) (k3 : (26, 0) ∉ E) (k4 : (1, 3) ∉ E) (k5 : (21, 3) ∉ E) (kk : ∀ r h' G' D', PI x m tp it hp hi ca G' h' S D' → (∃ vc', D' = (D.1, 0, D.2.2.1, vc') ∧ viewR D.2.2.1.length D.2.1 D.2.2.2 a1 r vc') → h'.1 ≤ h.1 + c1 → h'.2.1 ≤ h.2.1 + c2 → h.1 ≤ h'.1 → lJ sz (f r h')) : lJ sz (sm_cb (fX11_view x a1 a2 h) f) := by
  refine l_cD H c hz (fun r h' G' e F => ?_) kk
  have r4 := mi_f H.2.1.2.1 4 rfl
  rw [K.2.1] at r4
  obtain ⟨cs, C⟩ := H.2.2.2.2
  have l8 := C.1.2.2
  obtain ⟨r2, h2, G2, e2, vc', p, V⟩ := xv_view (a1 := a1) H.1.1 H.1.2.1 H.1.2.2.2.1 pa H.2.2.2.1 r4.2 C (fun j hj => by
    have := H.2.1.2.1.2.1 32 j
    rw [K.2.2.2.1 j (by omega)] at this
    exact this)
  rw [e] at e2
  cases e2
  obtain ⟨r3, h3, G3, e3, q1⟩ := hz_view (a1 := a1) H.1.1 H.1.2.1 H.1.2.2.2.1 pa H.2.2.2.1
  rw [e] at e3
  cases e3
  have hx := tq_x H F k0
  have tci := fun i hi => cm_cs (i := i) H.1.1 H.1.2.1 C hi
  have tca := cm_ca H.1.1 H.1.2.1 C
  have up : ∀ {a c r : Nat}, tG G a c r → c ≠ 0 → tG G' a c r := fun {a c r} t hc => tg_up F H.1.1 t hc (Nat.ne_of_lt (tG_lt H.1.1 t hc))
  obtain ⟨⟨e3, e14, _⟩, ⟨ff, hf, hv⟩, inj, hc⟩ := C
  have aT := tq_T H F hx k1
  refine ⟨(D.1, 0, D.2.2.1, vc'), ⟨aT, q1, cs, ⟨(hx 3 (by decide)).trans e3, (hx 14 (by decide)).trans e14, l8⟩, ⟨ff, (frB_at (fA_B F) H.1.1 tca (by decide) k3).trans hf, hv⟩, inj, fun i hi => ?_⟩, vc', rfl, p⟩
  obtain ⟨nc, nb, vr, ir, ⟨g0, g2, g3, g4⟩, ec, ⟨d1, l1⟩, d2, l2⟩ := hc i hi
  have tc := tci i hi
  have tn : tG G nc 1 3 := kw_ref (ci := 2) (k := 0) H.1.1 tc (by decide) rfl rfl g0
  have tb : tG G nb 21 3 := kw_ref (ci := 0) (k := 0) H.1.1 tn (by decide) rfl rfl (chn_g0 ec)
  have tv : tG G vr 29 0 := kw_ref (ci := 2) (k := 2) H.1.1 tc (by decide) rfl rfl g2
  have tr : tG G ir 22 0 := kw_ref (ci := 2) (k := 3) H.1.1 tc (by decide) rfl rfl g3
  have lv := len_cell (tt := 9) H.1.1 tv l1
  have li := len_cell (tt := 2) H.1.1 tr l2
  have bv := tG_lt H.1.1 tv (by decide)
  have bi := tG_lt H.1.1 tr (by decide)
  exact ⟨nc, nb, vr, ir, ⟨((V i hi).1 0 (by decide)).trans g0, ((V i hi).1 2 (by decide)).trans g2, ((V i hi).1 3 (by decide)).trans g3, (V i hi).2⟩, chn_eq ec (frB_at (fA_B F) H.1.1 tn (by decide) k4) (frB_at (fA_B F) H.1.1 tb (by decide) k5), cell_len (tt := 9) F.1 (up tv (by decide)) (by rw [F.2.2.2.2.1 vr bv (Nat.ne_of_lt bv)]; exact lv), cell_len (tt := 2) F.1 (up tr (by decide)) (by rw [F.2.2.2.2.1 ir bi (Nat.ne_of_lt bi)]; exact li)⟩
end LX
-- what stays of the coupling
section LK
variable {E : List Nat} {S S1 : MS} {D D1 : CD}
theorem kc_fr (f : fM E S S1) (k : ∀ i ∈ [1, 2, 4, 28, 29, 30, 32], i ∉ E) (K : KC S D) : KC S1 D := ⟨LT_fr f (k 2 (by decide)) (k 1 (by decide)) K.1, (f.1 4 (k 4 (by decide))).trans K.2.1, LN_fr f (k 28 (by decide)) (k 29 (by decide)) (k 30 (by decide)) K.2.2.1, LV_fr f (k 32 (by decide)) K.2.2.2⟩
theorem kc_t0 (f : fM E S S1) (k : ∀ i ∈ [4, 28, 29, 30, 32], i ∉ E) (q : (S1.1 2).toInt = 0) (K : KC S D) : KC S1 ([], D.2) := ⟨LT_nil q, (f.1 4 (k 4 (by decide))).trans K.2.1, LN_fr f (k 28 (by decide)) (k 29 (by decide)) (k 30 (by decide)) K.2.2.1, LV_fr f (k 32 (by decide)) K.2.2.2⟩
theorem kc_h0 (f : fM E S S1) (k : ∀ i ∈ [1, 2, 28, 29, 30, 32], i ∉ E) (q : (S1.1 4).toInt = 0) (K : KC S D) : KC S1 (D.1, 0, D.2.2) := ⟨LT_fr f (k 2 (by decide)) (k 1 (by decide)) K.1, Int32.toInt_inj.mp (by rw [q]; rfl), LN_fr f (k 28 (by decide)) (k 29 (by decide)) (k 30 (by decide)) K.2.2.1, LV_fr f (k 32 (by decide)) K.2.2.2⟩
theorem kc_n {a1 : Int64} {r r2 : Int32} (f : fM E S S1) (k : ∀ i ∈ [1, 2, 28, 29, 30, 32], i ∉ E) (p : ∃ hs', D1 = (D.1, hs', D.2.2) ∧ numQ D.2.1.toInt a1.toInt r.toInt hs'.toInt) (q : numQ (S.1 4).toInt a1.toInt r2.toInt (S1.1 4).toInt) (K : KC S D) : r = r2 ∧ KC S1 D1 := by
  obtain ⟨hs', rfl, p⟩ := p
  rw [K.2.1] at q
  have e := num_eq p q
  exact ⟨Int32.toInt_inj.mp e.1, LT_fr f (k 2 (by decide)) (k 1 (by decide)) K.1, Int32.toInt_inj.mp e.2.symm, LN_fr f (k 28 (by decide)) (k 29 (by decide)) (k 30 (by decide)) K.2.2.1, LV_fr f (k 32 (by decide)) K.2.2.2⟩
theorem kc_f {a1 : Int64} {a3 r r2 : Int32} (f : fM E S S1) (k : ∀ i ∈ [4, 28, 29, 30, 32], i ∉ E) (p : ∃ ts', D1 = (ts', D.2) ∧ feedL D.1 a1 a3 r ts') (q : ∃ ts', feedL D.1 a1 a3 r2 ts' ∧ LT S1 ts') (K : KC S D) : r = r2 ∧ KC S1 D1 := by
  obtain ⟨ts', rfl, p⟩ := p
  obtain ⟨ts2, q, T⟩ := q
  have e := feedL_eq p q
  refine ⟨e.1, ?_, (f.1 4 (k 4 (by decide))).trans K.2.1, LN_fr f (k 28 (by decide)) (k 29 (by decide)) (k 30 (by decide)) K.2.2.1, LV_fr f (k 32 (by decide)) K.2.2.2⟩
  show LT S1 ts'
  rw [e.2]
  exact T
theorem kc_c {r r2 : Int32} (f : fM E S S1) (k : ∀ i ∈ [4, 32], i ∉ E) (p : ∃ ns', D1 = ([], D.2.1, ns', D.2.2.2) ∧ comR D.1 D.2.2.1 r ns') (q : ∃ ns', comR D.1 D.2.2.1 r2 ns' ∧ LT S1 [] ∧ LN S1 ns') (K : KC S D) : r = r2 ∧ KC S1 D1 := by
  obtain ⟨ns', rfl, p⟩ := p
  obtain ⟨ns2, q, T, N⟩ := q
  have e := comR_eq p q
  have hl : D.2.2.1.length ≤ ns'.length := by
    rcases p with ⟨_, _, rfl⟩ | ⟨_, _, _, rfl⟩ | ⟨_, _, _, _, rfl⟩ | ⟨_, _, _, _, rfl⟩ <;> simp
  have V := LV_fr f (k 32 (by decide)) K.2.2.2
  refine ⟨e.1, T, (f.1 4 (k 4 (by decide))).trans K.2.1, ?_, V.1, fun j hj => V.2 j (Nat.le_trans hl hj)⟩
  show LN S1 ns'
  rw [e.2]
  exact N
theorem kc_v {a1 r r2 : Int32} (f : fM E S S1) (k : ∀ i ∈ [1, 2, 28, 29, 30], i ∉ E) (p : ∃ vc', D1 = (D.1, 0, D.2.2.1, vc') ∧ viewR D.2.2.1.length D.2.1 D.2.2.2 a1 r vc') (q : (S1.1 4).toInt = 0 ∧ ∃ vc', viewR D.2.2.1.length D.2.1 D.2.2.2 a1 r2 vc' ∧ LV S1 D.2.2.1.length vc') (K : KC S D) : r = r2 ∧ KC S1 D1 := by
  obtain ⟨vc', rfl, p⟩ := p
  obtain ⟨q4, vc2, q, V⟩ := q
  have e := viewR_eq K.2.2.1.2.1 p q
  refine ⟨e.1, LT_fr f (k 2 (by decide)) (k 1 (by decide)) K.1, Int32.toInt_inj.mp (by rw [q4]; rfl), LN_fr f (k 28 (by decide)) (k 29 (by decide)) (k 30 (by decide)) K.2.2.1, ?_⟩
  show LV S1 _ vc'
  rw [e.2]
  exact V
end LK
-- limit and tick write no field below 15
theorem lk_limit {G : GT} {h : sm_H} {x : Nat} {a1 : Int32} (W : Wf G h) (ta : tG G x 12 0) : kJ (fun (_ : Int32) h' _ => ∀ k, k < 15 → sm_get h' (some x) 11 k = sm_get h (some x) 11 k) (fX11_limit x a1 h) := by
  unfold fX11_limit
  refine k_if (fun c => ?_) (fun c => ?_)
  · exact k_rR (G' := G) (fun _ _ => rfl)
  · refine k_if (fun c2 => ?_) (fun c2 => ?_)
    · refine k_gI W ta (by decide) rfl (fun x1 _ _ _ => ?_)
      refine k_WR (w_putI (ci := 11) (k := 15) (lo := -2147483648) (hi := 2147483647) W ta (by decide) rfl (i_lo _) (i_hi _)) (fun h2 o2 x2 => ?_)
      exact k_rR (G' := G) (fun k hk => (x2 k).trans (if_neg (by omega)))
    · exact k_rR (G' := G) (fun _ _ => rfl)
theorem lk_tick {G : GT} {h : sm_H} {x : Nat} {a1 : Int64} (W : Wf G h) (ta : tG G x 12 0) : kJ (fun (_ : Int64) h' _ => ∀ k, k < 15 → sm_get h' (some x) 11 k = sm_get h (some x) 11 k) (fX11_tick x a1 h) := by
  unfold fX11_tick
  refine k_if (fun c => ?_) (fun c => ?_)
  · exact k_rR (G' := G) (fun _ _ => rfl)
  · refine k_gJ W ta (by decide) rfl (fun x1 e1 => ?_)
    refine k_if (fun c2 => ?_) (fun c2 => ?_)
    · refine k_kJ e1 ?_
      refine k_WR (w_putJ (ci := 11) (k := 16) W ta (by decide) rfl) (fun h3 o3 x3 => ?_)
      have e3 := (x3 16).trans (if_pos rfl)
      refine k_gR (r' := 0) o3.1 ta (by decide) rfl rfl (fun x4 _ t4 => ?_)
      refine k_kJ e3 ?_
      refine k_WR (w_putJ (ci := 10) (k := 2) o3.1 t4 (by decide) rfl) (fun h6 o6 x6 => ?_)
      have e6 := kg_fr (o6.2.2.2 _ (tg_ne ta t4 (by simp))) e3
      refine k_kJ e6 ?_
      exact k_rR (G' := G) (fun k hk => (kg_fr (o6.2.2.2 _ (tg_ne ta t4 (by simp))) rfl).trans ((x3 k).trans (if_neg (by omega))))
    · exact k_rR (G' := G) (fun _ _ => rfl)
