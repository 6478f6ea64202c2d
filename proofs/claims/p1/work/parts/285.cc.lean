-- p12, p13: the tape as a list, the communities with their names and views
theorem va_inj {b : Nat} {x : Option Nat} (e : va_rf (some b) = va_rf x) : x = some b := by
  cases x with
  | none =>
    have e' : Value.ref b = Value.null := e
    cases e'
  | some c =>
    have e' : Value.ref b = Value.ref c := e
    cases e'
    rfl
theorem kw_ref {G : GT} {h : sm_H} {a ci k r c' rg r' b : Nat} {nl : Bool} (W : Wf G h) (t : tG G a (ci + 1) r) (hl : ci < 19) (hf : (FTs (ci + 1))[k]? = some (.inr (.inr (nl, c', rg)))) (hr : (if rg = 9 then r else rg) = r') (e : sm_get h (some a) ci k = some (va_rf (some b))) : tG G b c' r' := by
  obtain ⟨v, e2, x, rfl, -, h2⟩ := kw_get W t hl hf
  rw [e] at e2
  have e3 := va_inj (Option.some.inj e2)
  rw [← hr]
  exact h2 b e3
theorem chn_g0 {h : sm_H} {a b cap : Nat} {xs : List Int64} (H : chn h a b cap xs) : sm_get h (some a) 0 0 = some (va_rf (some b)) := by rw [pu_get H.1]; rfl
theorem chn_g1 {h : sm_H} {a b cap : Nat} {xs : List Int64} (H : chn h a b cap xs) : sm_get h (some a) 0 1 = some (.int (nI xs.length)) := by rw [pu_get H.1]; rfl
theorem chn_eq {h h1 : sm_H} {a b cap : Nat} {xs : List Int64} (H : chn h a b cap xs) (ea : h1.2.2 a = h.2.2 a) (eb : h1.2.2 b = h.2.2 b) : chn h1 a b cap xs := by
  obtain ⟨q1, q2, q3, g, q4, q5⟩ := H
  exact ⟨by rw [ea]; exact q1, q2, q3, g, by rw [eb]; exact q4, q5⟩
theorem cell_len {G : GT} {h : sm_H} {a tt r n : Nat} (W : Wf G h) (t : tG G a (20 + tt) r) (hl : (G a).2.1 = n) : ∃ d, h.2.2 a = some (.inl (tt, n, d)) := by
  obtain ⟨d, hd, -, -⟩ := kw_arr W t
  exact ⟨d, by rw [hd, hl]⟩
theorem len_cell {G : GT} {h : sm_H} {a tt r n : Nat} {d : (Nat → Int32) ⊕ (Nat → Int64) ⊕ (Nat → UInt32) ⊕ (Nat → UInt64) ⊕ (Nat → Option Nat)} (W : Wf G h) (t : tG G a (20 + tt) r) (e : h.2.2 a = some (.inl (tt, n, d))) : (G a).2.1 = n := by
  obtain ⟨d', hd, -, -⟩ := kw_arr W t
  rw [e] at hd
  simp only [Option.some.injEq, Sum.inl.injEq, Prod.mk.injEq] at hd
  exact hd.2.1.symm
theorem chn_nil {G : GT} {h : sm_H} {x tp it ρ kf : Nat} (W : Wf G h) (tt : tG G tp 1 ρ) (ti : tG G it 21 ρ) (hl : (G it).2.1 = 1200) (q : CH kf h x tp it 0) : chn h tp it 1200 [] := by
  obtain ⟨vs, he, h1, -⟩ := kw_obj (ci := 0) W tt (by decide)
  have e0 := q.2.1
  have e1 := q.2.2
  rw [pu_get he] at e0 e1
  have h2 : vs.length = 2 := h1
  obtain ⟨d, hd, -, h3⟩ := kw_arr (tt := 1) W ti
  unfold dok at h3
  rw [if_pos (by omega)] at h3
  obtain ⟨f, rfl⟩ := h3
  have hv : vs = [.ref it, .int 0] := by
    match vs, h2, e0, e1 with
    | [a, b], _, e0, e1 =>
      have p0 : a = va_rf (some it) := Option.some.inj e0
      have p1 : b = .int 0 := Option.some.inj e1
      rw [p0, p1]; rfl
  refine ⟨?_, Nat.zero_le _, by decide, f, by rw [hd, hl], fun i hi => absurd hi (by simp)⟩
  show h.2.2 tp = some (.inr (0, [.ref it, .int (nI 0)]))
  rw [nI_0, he, hv]
-- what the class holds: the tape; a community; the communities
def HT (h : sm_H) (x tp it : Nat) (ts : List Int64) : Prop := sm_get h (some x) 11 0 = some (va_rf (some tp)) ∧ chn h tp it 1200 ts
def cm1 (h : sm_H) (c : Nat) (nm : List Int64) (v : Int32) : Prop := ∃ nc nb vr ir, (sm_get h (some c) 2 0 = some (va_rf (some nc)) ∧ sm_get h (some c) 2 2 = some (va_rf (some vr)) ∧ sm_get h (some c) 2 3 = some (va_rf (some ir)) ∧ sm_get h (some c) 2 4 = some (.int v)) ∧ chn h nc nb 40 nm ∧ (∃ d, h.2.2 vr = some (.inl (9, 8, d))) ∧ ∃ d, h.2.2 ir = some (.inl (2, 8, d))
def CMs (h : sm_H) (x ca : Nat) (ns : List (List Int64)) (vc : Nat → Int32) (cs : Nat → Nat) : Prop := (sm_get h (some x) 11 3 = some (va_rf (some ca)) ∧ sm_get h (some x) 11 14 = some (.int (nI ns.length)) ∧ ns.length ≤ 8) ∧ (∃ f : Nat → Option Nat, h.2.2 ca = some (.inl (6, 8, .inr (.inr (.inr (.inr f))))) ∧ ∀ i, i < 8 → f i = if i < ns.length then some (cs i) else none) ∧ (∀ i j, i < ns.length → j < ns.length → cs i = cs j → i = j) ∧ ∀ i, i < ns.length → cm1 h (cs i) (ns.getD i []) (vc i)
def CM (h : sm_H) (x ca : Nat) (ns : List (List Int64)) (vc : Nat → Int32) : Prop := ∃ cs, CMs h x ca ns vc cs
def frB (E : List (Nat × Nat)) (G : GT) (h h1 : sm_H) : Prop := ∀ b, b < h.1 → ((G b).1, (G b).2.2) ∉ E → h1.2.2 b = h.2.2 b
theorem frB_at {E : List (Nat × Nat)} {G : GT} {h h1 : sm_H} {a c r : Nat} (F : frB E G h h1) (W : Wf G h) (t : tG G a c r) (hc : c ≠ 0) (k : (c, r) ∉ E) : h1.2.2 a = h.2.2 a := F a (tG_lt W t hc) (by rw [t.1, t.2]; exact k)
section CF
variable {E : List (Nat × Nat)} {G G1 : GT} {h h1 : sm_H} {x tp it ca : Nat} {ts : List Int64} {ns : List (List Int64)} {vc : Nat → Int32} {cs : Nat → Nat}
theorem HT_fr (W : Wf G h) (tt : tG G tp 1 1) (ti : tG G it 21 1) (F : frB E G h h1) (x0 : sm_get h1 (some x) 11 0 = sm_get h (some x) 11 0) (k1 : (1, 1) ∉ E) (k2 : (21, 1) ∉ E) (q : HT h x tp it ts) : HT h1 x tp it ts := ⟨x0.trans q.1, chn_eq q.2 (frB_at F W tt (by decide) k1) (frB_at F W ti (by decide) k2)⟩
theorem HH_fr {hs : Int32} (W : Wf G h) (tt : tG G tp 1 2) (F : frB E G h h1) (x1 : sm_get h1 (some x) 11 1 = sm_get h (some x) 11 1) (k1 : (1, 2) ∉ E) (q : CH 1 h x tp it hs) : CH 1 h1 x tp it hs := ⟨x1.trans q.1, kg_fr (frB_at F W tt (by decide) k1) q.2.1, kg_fr (frB_at F W tt (by decide) k1) q.2.2⟩
theorem cm1_fr {c : Nat} {nm : List Int64} {v : Int32} (W : Wf G h) (tc : tG G c 3 0) (F : frB E G h h1) (k1 : (3, 0) ∉ E) (k2 : (1, 3) ∉ E) (k3 : (21, 3) ∉ E) (k4 : (29, 0) ∉ E) (k5 : (22, 0) ∉ E) (q : cm1 h c nm v) : cm1 h1 c nm v := by
  obtain ⟨nc, nb, vr, ir, ⟨e0, e2, e3, e4⟩, ec, ⟨d1, l1⟩, d2, l2⟩ := q
  have fc := frB_at F W tc (by decide) k1
  have tn : tG G nc 1 3 := kw_ref (ci := 2) (k := 0) W tc (by decide) rfl rfl e0
  have tb : tG G nb 21 3 := kw_ref (ci := 0) (k := 0) W tn (by decide) rfl rfl (chn_g0 ec)
  have tv : tG G vr 29 0 := kw_ref (ci := 2) (k := 2) W tc (by decide) rfl rfl e2
  have ti : tG G ir 22 0 := kw_ref (ci := 2) (k := 3) W tc (by decide) rfl rfl e3
  exact ⟨nc, nb, vr, ir, ⟨kg_fr fc e0, kg_fr fc e2, kg_fr fc e3, kg_fr fc e4⟩, chn_eq ec (frB_at F W tn (by decide) k2) (frB_at F W tb (by decide) k3), ⟨d1, (frB_at F W tv (by decide) k4).trans l1⟩, d2, (frB_at F W ti (by decide) k5).trans l2⟩
theorem cm_ca (W : Wf G h) (ta : tG G x 12 0) (q : CMs h x ca ns vc cs) : tG G ca 26 0 := kw_ref (ci := 11) (k := 3) W ta (by decide) rfl rfl q.1.1
theorem cs_t {f : Nat → Option Nat} {i b : Nat} (W : Wf G h) (tc : tG G ca 26 0) (e : h.2.2 ca = some (.inl (6, 8, .inr (.inr (.inr (.inr f)))))) (hf : f i = some b) : tG G b 3 0 := by
  obtain ⟨d, hd, -, h3⟩ := kw_arr (tt := 6) W tc
  rw [e] at hd
  unfold dok at h3
  rw [if_neg (by omega), if_neg (by omega), if_neg (by omega)] at h3
  obtain ⟨f', rfl, h4⟩ := h3
  simp only [Option.some.injEq, Sum.inl.injEq, Sum.inr.injEq, Prod.mk.injEq] at hd
  obtain ⟨-, -, rfl⟩ := hd
  exact h4 i b hf
theorem cm_cs {i : Nat} (W : Wf G h) (ta : tG G x 12 0) (q : CMs h x ca ns vc cs) (hi : i < ns.length) : tG G (cs i) 3 0 := by
  obtain ⟨f, hf, hv⟩ := q.2.1
  exact cs_t W (cm_ca W ta q) hf (i := i) (by rw [hv i (by have := q.1.2.2; omega), if_pos hi])
theorem CM_fr (W : Wf G h) (ta : tG G x 12 0) (F : frB E G h h1) (x3 : sm_get h1 (some x) 11 3 = sm_get h (some x) 11 3) (x14 : sm_get h1 (some x) 11 14 = sm_get h (some x) 11 14) (k0 : (26, 0) ∉ E) (k1 : (3, 0) ∉ E) (k2 : (1, 3) ∉ E) (k3 : (21, 3) ∉ E) (k4 : (29, 0) ∉ E) (k5 : (22, 0) ∉ E) (q : CM h x ca ns vc) : CM h1 x ca ns vc := by
  obtain ⟨cs, q⟩ := q
  have tc := cm_ca W ta q
  have tci := fun i hi => cm_cs (i := i) W ta q hi
  obtain ⟨⟨e3, e14, l8⟩, ⟨f, hf, hv⟩, inj, hc⟩ := q
  exact ⟨cs, ⟨x3.trans e3, x14.trans e14, l8⟩, ⟨f, (frB_at F W tc (by decide) k0).trans hf, hv⟩, inj, fun i hi => cm1_fr W (tci i hi) F k1 k2 k3 k4 k5 (hc i hi)⟩
end CF
-- feed, exactly
def oct (w : Int64) (k : Int32) : Int64 := ((w.toUInt64 >>> (((8 : Int32) * k).toInt64.toUInt64 &&& Int64.toUInt64 63)).toInt64) &&& (255 : Int64)
def octs (w : Int64) : Nat → List Int64
  | 0 => []
  | j + 1 => oct w (nI j) :: octs w j
theorem octs_len (w : Int64) : ∀ j, (octs w j).length = j
  | 0 => rfl
  | j + 1 => by simp [octs, octs_len w j]
theorem xf_feed_49 {x tp it : Nat} {w : Int64} (hn : x ≠ tp ∧ x ≠ it) : ∀ (n j : Nat) (h : sm_H) (ts : List Int64) (a4 : Int32), HT h x tp it ts → a4.toInt = (j : Int) - 1 → j ≤ 8 → ts.length + j ≤ 1200 → j < n → ∃ h', fX11_feed_49 n x w a4 h = some (nI (ts.length + j), h') ∧ HT h' x tp it (ts ++ octs w j) := by
  intro n
  induction n with
  | zero => intro j h ts a4 H e hj hl hm; omega
  | succ n ih =>
    intro j h ts a4 H e hj hl hm
    unfold fX11_feed_49
    cases j with
    | zero =>
      have c : a4 < 0 := by rw [Int32.lt_iff_toInt_lt, show (0 : Int32).toInt = 0 from rfl]; omega
      rw [if_pos c, H.1, pu_Rf, Option.bind_some, pu_obj H.2.1, Option.bind_some, ch_size H.2, pu_cb]
      exact ⟨h, rfl, by simpa [octs] using H⟩
    | succ j =>
      have c : ¬ a4 < 0 := by rw [Int32.lt_iff_toInt_lt, show (0 : Int32).toInt = 0 from rfl]; omega
      have ea : a4 = nI j := Int32.toInt_inj.mp (by rw [nI_toInt (by omega)]; omega)
      subst ea
      obtain ⟨h', e1, H', F⟩ := ch_add H.2 (oct w (nI j)) (by omega)
      have e1' : fX0_add tp (((w.toUInt64 >>> (((8 : Int32) * nI j).toInt64.toUInt64 &&& Int64.toUInt64 63)).toInt64) &&& (255 : Int64)) h = some (1, h') := e1
      rw [if_neg c, H.1, pu_Rf, Option.bind_some, pu_obj H.2.1, Option.bind_some, e1', pu_cb]
      have Hx : HT h' x tp it (ts ++ [oct w (nI j)]) := ⟨kg_fr (F.2.2 x (fun q => q.elim hn.1 hn.2)) H.1, H'⟩
      obtain ⟨h2, e2, H2⟩ := ih j h' _ (nI j + (-1)) Hx (by rw [i_sub1 (by rw [nI_toInt (by omega)]; omega), nI_toInt (by omega)]) (by omega) (by simp; omega) (by omega)
      refine ⟨h2, ?_, ?_⟩
      · rw [show ts.length + (j + 1) = (ts ++ [oct w (nI j)]).length + j by simp; omega]
        exact e2
      · rw [List.append_assoc] at H2
        exact H2
def feedL (ts : List Int64) (w : Int64) (n : Int32) (r : Int32) (ts' : List Int64) : Prop := ((n.toInt < 0 ∨ 8 < n.toInt) ∧ r = -2 ∧ ts' = ts) ∨ (n.toInt = 0 ∧ r = 0 ∧ ts' = []) ∨ (1 ≤ n.toInt ∧ n.toInt ≤ 8 ∧ 1200 < (ts.length : Int) + n.toInt ∧ r = -4 ∧ ts' = ts) ∨ (∃ j : Nat, n.toInt = j ∧ 1 ≤ j ∧ j ≤ 8 ∧ ts.length + j ≤ 1200 ∧ r = nI (ts.length + j) ∧ ts' = ts ++ octs w j)
theorem feedL_eq {ts : List Int64} {w : Int64} {n r1 r2 : Int32} {t1 t2 : List Int64} (h1 : feedL ts w n r1 t1) (h2 : feedL ts w n r2 t2) : r1 = r2 ∧ t1 = t2 := by
  rcases h1 with ⟨a, rfl, rfl⟩ | ⟨a, rfl, rfl⟩ | ⟨a, b, c, rfl, rfl⟩ | ⟨j, a, b, c, d, rfl, rfl⟩ <;> rcases h2 with ⟨a', rfl, rfl⟩ | ⟨a', rfl, rfl⟩ | ⟨a', b', c', rfl, rfl⟩ | ⟨j', a', b', c', d', rfl, rfl⟩ <;> first | exact ⟨rfl, rfl⟩ | (exfalso; omega) | (have e : j = j' := (by omega); subst e; exact ⟨rfl, rfl⟩)
theorem xf_feed {x tp it : Nat} {w : Int64} {h : sm_H} {ts : List Int64} {a3 : Int32} (hn : x ≠ tp ∧ x ≠ it) (H : HT h x tp it ts) : ∃ r h' ts', fX11_feed x w a3 h = some (r, h') ∧ feedL ts w a3 r ts' ∧ HT h' x tp it ts' := by
  have L0 : (0 : Int32).toInt = 0 := rfl
  have L8 : (8 : Int32).toInt = 8 := rfl
  have L12 : (1200 : Int32).toInt = 1200 := rfl
  have hl : ts.length ≤ 1200 := H.2.2.1
  have hs : (nI ts.length).toInt = (ts.length : Int) := nI_toInt (by omega)
  unfold fX11_feed
  by_cases c1 : a3 < 0
  · rw [if_pos c1]
    rw [Int32.lt_iff_toInt_lt] at c1
    exact ⟨-2, h, ts, rfl, Or.inl ⟨Or.inl (by omega), rfl, rfl⟩, H⟩
  · rw [if_neg c1]
    rw [Int32.lt_iff_toInt_lt] at c1
    by_cases c2 : a3 ≤ 8
    · rw [if_pos c2]
      rw [Int32.le_iff_toInt_le] at c2
      by_cases c3 : a3 = 0
      · rw [if_pos c3, H.1, pu_Rf, Option.bind_some, pu_obj H.2.1, Option.bind_some]
        obtain ⟨h', e1, H', F⟩ := ch_clear H.2
        rw [e1, pu_cb]
        exact ⟨0, h', [], rfl, Or.inr (Or.inl ⟨by rw [c3]; rfl, rfl, rfl⟩), kg_fr (F.2.2 x hn.1) H.1, H'⟩
      · have c3' : a3.toInt ≠ 0 := fun e => c3 (Int32.toInt_inj.mp (by rw [e]; rfl))
        rw [if_neg c3, H.1, pu_Rf, Option.bind_some, pu_obj H.2.1, Option.bind_some, ch_size H.2, pu_cb]
        have i1 : (nI ts.length + a3).toInt = (ts.length : Int) + a3.toInt := by rw [i_add (by omega) (by omega), hs]
        by_cases c4 : nI ts.length + a3 ≤ 1200
        · rw [if_pos c4]
          rw [Int32.le_iff_toInt_le] at c4
          obtain ⟨h', e1, H'⟩ := xf_feed_49 (w := w) hn sm_fuel a3.toInt.toNat h ts (a3 - 1) H (by rw [i_sub (by rw [show (1 : Int32).toInt = 1 from rfl]; omega) (by rw [show (1 : Int32).toInt = 1 from rfl]; omega), show (1 : Int32).toInt = 1 from rfl]; omega) (by omega) (by omega) (by simp only [sm_fuel_eq]; omega)
          exact ⟨_, h', _, e1, Or.inr (Or.inr (Or.inr ⟨a3.toInt.toNat, by omega, by omega, by omega, by omega, rfl, rfl⟩)), H'⟩
        · rw [if_neg c4]
          rw [Int32.le_iff_toInt_le] at c4
          exact ⟨-4, h, ts, rfl, Or.inr (Or.inr (Or.inl ⟨by omega, by omega, by omega, rfl, rfl⟩)), H⟩
    · rw [if_neg c2]
      rw [Int32.le_iff_toInt_le] at c2
      exact ⟨-2, h, ts, rfl, Or.inl ⟨Or.inr (by omega), rfl, rfl⟩, H⟩
