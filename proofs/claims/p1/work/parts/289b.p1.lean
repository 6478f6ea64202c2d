-- p1: what a first call answers, on both sides; pA, pN: if the code answers, then so
def pA {Rt : Type} (P : Rt → Prop) (X : Option (Rt × sm_H)) : Prop := ∀ r h', X = some (r, h') → P r
def pN {Rt : Type} (Q : Rt → MS → Prop) (X : Option (Rt × MS)) : Prop := ∀ r S', X = some (r, S') → Q r S'
theorem bd_s {α β : Type} (a : α) (f : α → Option β) : (some a).bind f = f a := rfl
section PA
variable {Rs Rt : Type} {P : Rt → Prop} {Q : Rt → MS → Prop}
theorem pA_r {v : Rt} {h : sm_H} (q : P v) : pA P (some (v, h)) := fun r h' e => by cases e; exact q
theorem pA_cb {X : Option (Rs × sm_H)} {f : Rs → sm_H → Option (Rt × sm_H)} (kk : ∀ r h', X = some (r, h') → pA P (f r h')) : pA P (sm_cb X f) := fun r h' e => by
  obtain ⟨⟨a, b⟩, h1, h2⟩ := Option.bind_eq_some_iff.mp (show (X.bind fun z => f z.1 z.2) = some (r, h') from e)
  exact kk a b h1 r h' h2
theorem pA_bd {α : Type} {m : Option α} {f : α → Option (Rt × sm_H)} (kk : ∀ y, m = some y → pA P (f y)) : pA P (m.bind f) := fun r h' e => by
  obtain ⟨a, h1, h2⟩ := Option.bind_eq_some_iff.mp e
  exact kk a h1 r h' h2
theorem pA_if {p : Prop} {d : Decidable p} {X Y : Option (Rt × sm_H)} (k1 : p → pA P X) (k2 : ¬ p → pA P Y) : pA P (if p then X else Y) := by
  by_cases hp : p
  · rw [if_pos hp]; exact k1 hp
  · rw [if_neg hp]; exact k2 hp
theorem pA_k {R : Rt → sm_H → GT → Prop} {X : Option (Rt × sm_H)} (c : kJ R X) (q : ∀ r h' G', R r h' G' → P r) : pA P X := by
  obtain ⟨r, h', G', e, hr⟩ := c
  intro r1 h1 e1
  rw [e] at e1
  cases e1
  exact q _ _ _ hr
theorem pA_x {X : Option (Rt × sm_H)} {v : Rt} {h : sm_H} (e : X = some (v, h)) (q : P v) : pA P X := fun r h' e1 => by
  rw [e] at e1
  cases e1
  exact q
theorem pN_r {v : Rt} {S : MS} (q : Q v S) : pN Q (some (v, S)) := fun r h' e => by cases e; exact q
theorem pN_l {α : Type} {v : α} {f : α → Option (Rt × MS)} (kk : pN Q (f v)) : pN Q (sm_let v f) := kk
theorem pN_mc {X : Option (Rs × MS)} {f : Rs → MS → Option (Rt × MS)} {Q' : Rs → MS → Prop} (c : pN Q' X) (kk : ∀ r S', Q' r S' → pN Q (f r S')) : pN Q (mc X f) := fun r h' e => by
  obtain ⟨⟨a, b⟩, h1, h2⟩ := Option.bind_eq_some_iff.mp (show (X.bind fun z => f z.1 z.2) = some (r, h') from e)
  exact kk a b (c a b h1) r h' h2
theorem pN_any {X : Option (Rs × MS)} : pN (fun _ _ => True) X := fun _ _ _ => trivial
theorem pN_bd {α : Type} {m : Option α} {f : α → Option (Rt × MS)} (kk : ∀ y, m = some y → pN Q (f y)) : pN Q (m.bind f) := fun r h' e => by
  obtain ⟨a, h1, h2⟩ := Option.bind_eq_some_iff.mp e
  exact kk a h1 r h' h2
theorem pN_if {p : Prop} {d : Decidable p} {X Y : Option (Rt × MS)} (k1 : p → pN Q X) (k2 : ¬ p → pN Q Y) : pN Q (if p then X else Y) := by
  by_cases hp : p
  · rw [if_pos hp]; exact k1 hp
  · rw [if_neg hp]; exact k2 hp
theorem pN_k {R : Rt → MS → Prop} {X : Option (Rt × MS)} (c : nJ R X) (q : ∀ r S', R r S' → Q r S') : pN Q X := by
  obtain ⟨r, S', e, hr⟩ := c
  intro r1 h1 e1
  rw [e] at e1
  cases e1
  exact q _ _ hr
end PA
-- the fresh object
def FX (G : GT) (h : sm_H) (x : Nat) : Prop := (Wf G h ∧ tG G x 12 0) ∧ (∃ tp it, CH 0 h x tp it 0 ∧ tG G tp 1 1 ∧ tG G it 21 1 ∧ (G it).2.1 = 1200 ∧ ∃ rd, sm_get h (some x) 11 5 = some (va_rf (some rd)) ∧ sm_get h (some rd) 5 0 = some (va_rf (some tp))) ∧ (∃ tp it, CH 1 h x tp it 0 ∧ tG G tp 1 2 ∧ tG G it 21 2 ∧ (G it).2.1 = 16) ∧ (∃ ca, sm_get h (some x) 11 3 = some (va_rf (some ca)) ∧ sm_get h (some x) 11 14 = some (.int 0) ∧ h.2.2 ca = some (.inl (6, 8, .inr (.inr (.inr (.inr (fun _ => none))))))) ∧ FT h x ∧ FC h x ∧ FO h x ∧ sm_get h (some x) 11 15 = some (.int 484) ∧ sm_get h (some x) 11 16 = some (.long 0)
theorem ob_get {h : sm_H} {a ci k : Nat} {v : Value} (e : sm_get h (some a) ci k = some v) : sm_obj h (some a) ci = some a := by
  obtain ⟨b, fs, e1, e2, -⟩ := sm_get_some e
  cases e1
  exact pu_obj e2
theorem fr_size {h : sm_H} {a : Nat} {x : Int32} (e : sm_get h (some a) 0 1 = some (.int x)) : fX0_size a h = some (x, h) := by
  unfold fX0_size
  rw [e]
  rfl
theorem ix_40 {i : Int32} {n : Nat} (hn : n < 2 ^ 31) (c1 : ¬ i < 0) (c2 : ¬ nI n ≤ i) : ∃ j, j < n ∧ i = nI j := by
  have z : (0 : Int32).toInt = 0 := rfl
  have e : (nI n).toInt = (n : Int) := by unfold nI; exact Int32.toInt_ofNat_of_lt (by omega)
  rw [Int32.lt_iff_toInt_lt] at c1
  rw [Int32.le_iff_toInt_le, e] at c2
  exact kw_ix (by omega) (by omega)
section FR
variable {G : GT} {h : sm_H} {x : Nat}
theorem fr_thingAt {tr th io tb : Nat} {i : Int32} (e1 : h.2.2 tr = some (.inr (9, [.ref th, .ref io, .ref tb, .int 0, .int 0]))) (e2 : h.2.2 th = some (.inl (4, 40, .inr (.inr (.inr (.inr (fun _ => none))))))) : fX9_thingAt tr i h = some (none, h) := by
  unfold fX9_thingAt
  by_cases c : i < 0
  · rw [if_pos c]
  · rw [if_neg c, pu_get e1]
    show ((sm_len h (some th) 4).bind _) = _
    rw [pu_lenN e2]
    show (if nI 40 ≤ i then some (none, h) else ((sm_aR h (some th) 4 i).bind _)) = _
    by_cases c2 : nI 40 ≤ i
    · rw [if_pos c2]
    · rw [if_neg c2]
      obtain ⟨j, hj, rfl⟩ := ix_40 (by decide) c c2
      rw [pu_aR e2 hj (by decide)]
      rfl
theorem fr_tableAt {tr th io tb : Nat} {i : Int32} (e1 : h.2.2 tr = some (.inr (9, [.ref th, .ref io, .ref tb, .int 0, .int 0]))) (e2 : h.2.2 tb = some (.inl (5, 4, .inr (.inr (.inr (.inr (fun _ => none))))))) : fX9_tableAt tr i h = some (none, h) := by
  unfold fX9_tableAt
  by_cases c : i < 0
  · rw [if_pos c]
  · rw [if_neg c, pu_get e1]
    show ((sm_len h (some tb) 5).bind _) = _
    rw [pu_lenN e2]
    show (if nI 4 ≤ i then some (none, h) else ((sm_aR h (some tb) 5 i).bind _)) = _
    by_cases c2 : nI 4 ≤ i
    · rw [if_pos c2]
    · rw [if_neg c2]
      obtain ⟨j, hj, rfl⟩ := ix_40 (by decide) c c2
      rw [pu_aR e2 hj (by decide)]
      rfl
-- no table, no object
theorem fr_tab {Rt : Type} {P : Rt → Prop} {i : Int32} {f : Option Nat → sm_H → Option (Rt × sm_H)} (F : FT h x) (kk : pA P (f none h)) : pA P ((sm_R (sm_get h (some x) 11 2)).bind fun x1 => (sm_obj h x1 9).bind fun b => sm_cb (fX9_tableAt b i h) f) := by
  obtain ⟨tr, th, io, tb, e0, e1, e2, e3⟩ := F
  rw [e0, pu_Rf]
  show pA P ((sm_obj h (some tr) 9).bind fun b => sm_cb (fX9_tableAt b i h) f)
  rw [pu_obj e1, bd_s]
  rw [fr_tableAt e1 e3, pu_cb]
  exact kk
theorem fr_thg {Rt : Type} {P : Rt → Prop} {i : Int32} {f : Option Nat → sm_H → Option (Rt × sm_H)} (F : FT h x) (kk : pA P (f none h)) : pA P ((sm_R (sm_get h (some x) 11 2)).bind fun x1 => (sm_obj h x1 9).bind fun b => sm_cb (fX9_thingAt b i h) f) := by
  obtain ⟨tr, th, io, tb, e0, e1, e2, e3⟩ := F
  rw [e0, pu_Rf]
  show pA P ((sm_obj h (some tr) 9).bind fun b => sm_cb (fX9_thingAt b i h) f)
  rw [pu_obj e1, bd_s]
  rw [fr_thingAt e1 e2, pu_cb]
  exact kk
theorem c_column {a1 a2 a3 a4 : Int32} {a5 a7 : Int64} (F : FX G h x) : pA (fun r : Int32 => r = -1) (fX11_column x a1 a2 a3 a4 a5 a7 h) := by
  unfold fX11_column
  refine fr_tab F.2.2.2.2.1 ?_
  rw [if_pos rfl]
  exact pA_r rfl
theorem c_status {a1 a2 : Int32} (F : FX G h x) : pA (fun r : Int32 => r = -1) (fX11_status x a1 a2 h) := by
  unfold fX11_status
  refine fr_tab F.2.2.2.2.1 ?_
  rw [if_pos rfl]
  exact pA_r rfl
theorem c_row {a1 a2 a3 : Int32} (F : FX G h x) : pA (fun r : Int32 => r = -1) (fX11_row x a1 a2 a3 h) := by
  unfold fX11_row
  refine fr_tab F.2.2.2.2.1 ?_
  rw [if_pos rfl]
  exact pA_r rfl
theorem c_rows {a1 : Int32} (F : FX G h x) : pA (fun r : Int32 => r = -1) (fX11_rows x a1 h) := by
  unfold fX11_rows
  refine fr_tab F.2.2.2.2.1 ?_
  rw [if_pos rfl]
  exact pA_r rfl
theorem c_value {a1 a2 : Int32} {a3 : Int64} (F : FX G h x) : pA (fun r : Int32 => r = -1) (fX11_value x a1 a2 a3 h) := by
  unfold fX11_value
  refine fr_thg F.2.2.2.2.1 ?_
  rw [if_pos rfl]
  exact pA_r rfl
theorem c_told {a1 a2 : Int32} (F : FX G h x) : pA (fun r : Int64 => r = -1) (fX11_told x a1 a2 h) := by
  unfold fX11_told
  refine fr_thg F.2.2.2.2.1 ?_
  rw [if_pos rfl]
  unfold fX11_told_23
  rw [if_pos rfl]
  exact pA_r rfl
theorem c_part {a1 a2 a3 : Int32} (F : FX G h x) : pA (fun r : Int64 => r = -1) (fX11_part x a1 a2 a3 h) := by
  unfold fX11_part
  refine fr_thg F.2.2.2.2.1 ?_
  rw [if_pos rfl]
  unfold fX11_part_26
  rw [if_pos rfl]
  exact pA_r rfl
theorem fr_cell {a1 a2 a3 : Int32} (F : FX G h x) : pA (fun r : Option Nat => r = none) (fX11_cellOfTag x a1 a2 a3 h) := by
  unfold fX11_cellOfTag
  refine fr_thg F.2.2.2.2.1 ?_
  rw [if_pos rfl]
  exact pA_r rfl
theorem fr_x (F : FX G h x) : sm_obj h (some x) 11 = some x := ob_get F.2.2.2.2.2.2.2.1
theorem c_text {a1 a2 : Int32} (F : FX G h x) : pA (fun r : Int32 => r = -1) (fX11_text x a1 a2 h) := by
  unfold fX11_text
  rw [fr_x F, bd_s]
  refine pA_cb (fun r h2 e => ?_)
  have hr : pA (fun r : Int32 => r = -1) (fX11_becomeText x a1 a2 h) := by
    unfold fX11_becomeText
    rw [fr_x F, bd_s]
    refine pA_cb (fun r h2 e => ?_)
    rw [if_pos (fr_cell F _ _ e)]
    exact pA_r rfl
  have := hr r h2 e
  exact pA_bd (fun _ _ => pA_bd (fun _ _ => pA_cb (fun _ _ _ => pA_r this)))
theorem c_identity {a1 a2 : Int32} (F : FX G h x) : pA (fun r : Int32 => r = -1) (fX11_identity x a1 a2 h) := by
  unfold fX11_identity
  rw [fr_x F, bd_s]
  refine pA_cb (fun r h2 e => ?_)
  have hr : pA (fun r : Int32 => r = -1) (fX11_becomeName x a1 a2 h) := by
    unfold fX11_becomeName
    rw [fr_x F, bd_s]
    refine pA_cb (fun r h2 e => ?_)
    rw [if_pos (fr_cell F _ _ e)]
    exact pA_r rfl
  have := hr r h2 e
  exact pA_bd (fun _ _ => pA_bd (fun _ _ => pA_cb (fun _ _ _ => pA_r this)))
theorem fr_hand {a1 : Int32} (F : FX G h x) : fX11_isNameAtHand x a1 h = some (0, h) := by
  obtain ⟨hp, hi, q, -⟩ := F.2.2.1
  unfold fX11_isNameAtHand
  rw [q.1, pu_Rf]
  show ((sm_obj h (some hp) 0).bind _) = _
  rw [ob_get q.2.1, bd_s]
  rw [fr_size q.2.2, pu_cb, if_pos (by decide)]
theorem c_table (F : FX G h x) : pA (fun r : Int32 => r = -2) (fX11_table x h) := by
  unfold fX11_table
  rw [fr_x F, bd_s]
  refine pA_cb (fun r h2 e => ?_)
  have hr : pA (fun r : Int32 => r = -2) (fX11_newTable x h) := by
    unfold fX11_newTable
    rw [fr_x F, bd_s]
    rw [fr_hand F, pu_cb, if_pos rfl]
    exact pA_r rfl
  have := hr r h2 e
  exact pA_bd (fun _ _ => pA_bd (fun _ _ => pA_cb (fun _ _ _ => pA_r this)))
theorem fr_P {Rs Rt : Type} {P : Rt → Prop} {Q : Rs → Prop} {X : Option (Rs × sm_H)} {f : Rs → sm_H → Option (Rt × sm_H)} (c : kJ (RP G h Q) X) (kk : ∀ r, pA P (f r h)) : pA P (sm_cb X f) := by
  obtain ⟨r, h', G', rfl, rfl, rfl, _⟩ := c
  exact kk r
theorem c_scalar {a1 a2 : Int32} {a3 a5 : Int64} (F : FX G h x) : pA (fun r : Int32 => r = -2) (fX11_scalar x a1 a2 a3 a5 h) := by
  unfold fX11_scalar
  rw [fr_x F, bd_s]
  refine pA_cb (fun r h2 e => ?_)
  have hr : pA (fun r : Int32 => r = -2) (fX11_newScalar x a1 a2 a3 a5 h) := by
    unfold fX11_newScalar
    refine fr_P (kX11_isObjectTag F.1.1) (fun r1 => ?_)
    refine pA_if (fun _ => pA_r rfl) (fun _ => ?_)
    refine fr_P (kX11_isAccess F.1.1) (fun r2 => ?_)
    refine pA_if (fun _ => pA_r rfl) (fun _ => ?_)
    refine pA_if (fun _ => pA_r rfl) (fun _ => ?_)
    rw [fr_x F, bd_s]
    rw [fr_hand F, pu_cb, if_pos rfl]
    exact pA_r rfl
  have := hr r h2 e
  exact pA_bd (fun _ _ => pA_bd (fun _ _ => pA_cb (fun _ _ _ => pA_r this)))
theorem c_answer {a1 : Int32} (F : FX G h x) : pA (fun r : Int32 => r = -1) (fX11_answer x a1 h) := by
  obtain ⟨rp, oc, e7, e6, e1⟩ := F.2.2.2.2.2.2.1
  unfold fX11_answer
  rw [e7, pu_Rf]
  show pA _ ((sm_R (sm_get h (some rp) 6 0)).bind _)
  rw [e6, pu_Rf]
  show pA _ ((sm_obj h (some oc) 0).bind _)
  rw [ob_get e1, bd_s]
  have ha : fX0_at oc a1 h = some (-1, h) := by
    unfold fX0_at
    by_cases c : a1 < 0
    · rw [if_pos c]
    · rw [if_neg c, e1]
      show (if (0 : Int32) ≤ a1 then _ else _) = _
      rw [if_pos (by rw [Int32.lt_iff_toInt_lt] at c; rw [Int32.le_iff_toInt_le]; omega)]
  rw [ha, pu_cb]
  exact pA_r rfl
def cntN (a : Int32) : Int32 := if 0 ≤ a.toInt ∧ a.toInt ≤ 9 then 0 else -2
theorem c_count {a1 : Int32} (F : FX G h x) : pA (fun r : Int32 => r = cntN a1) (fX11_count x a1 h) := by
  obtain ⟨tr, th, io, tb, e0, e1, -, -⟩ := F.2.2.2.2.1
  obtain ⟨cn, e8, ec⟩ := F.2.2.2.2.2.1
  obtain ⟨ca, -, e14, -⟩ := F.2.2.2.1
  unfold fX11_count
  refine pA_if (fun c => ?_) (fun c0 => ?_)
  · subst c
    rw [e0, pu_Rf]
    show pA _ ((sm_obj h (some tr) 9).bind _)
    rw [pu_obj e1, bd_s]
    rw [show fX9_thingCount tr h = some (0, h) from by unfold fX9_thingCount; rw [pu_get e1]; rfl, pu_cb]
    exact pA_r (by decide)
  refine pA_if (fun c => ?_) (fun c8 => ?_)
  · subst c
    rw [e14]
    exact pA_r (by decide)
  refine pA_if (fun c => ?_) (fun c9 => ?_)
  · subst c
    rw [e0, pu_Rf]
    show pA _ ((sm_obj h (some tr) 9).bind _)
    rw [pu_obj e1, bd_s]
    rw [show fX9_tableCount tr h = some (0, h) from by unfold fX9_tableCount; rw [pu_get e1]; rfl, pu_cb]
    exact pA_r (by decide)
  have i0 : a1.toInt ≠ 0 := fun q => c0 (Int32.toInt_inj.mp q)
  have i8 : a1.toInt ≠ 8 := fun q => c8 (Int32.toInt_inj.mp q)
  have i9 : a1.toInt ≠ 9 := fun q => c9 (Int32.toInt_inj.mp q)
  have z0 : (0 : Int32).toInt = 0 := rfl
  have z8 : (nI 8).toInt = 8 := rfl
  refine pA_if (fun c => ?_) (fun c => ?_)
  · rw [Int32.le_iff_toInt_le] at c
    exact pA_r (by unfold cntN; rw [if_neg (by omega)])
  rw [Int32.le_iff_toInt_le] at c
  rw [e8, pu_Rf]
  show pA _ ((sm_len h (some cn) 0).bind _)
  rw [pu_lenN ec]
  show pA _ (if nI 8 ≤ a1 then _ else _)
  refine pA_if (fun c1 => ?_) (fun c1 => ?_)
  · rw [Int32.le_iff_toInt_le] at c1
    exact pA_r (by unfold cntN; rw [if_neg (by omega)])
  · rw [Int32.le_iff_toInt_le] at c1
    obtain ⟨j, hj, rfl⟩ := kw_ix (i := a1) (n := 8) (by omega) (by omega)
    show pA _ ((sm_aI h (some cn) 0 (nI j)).bind _)
    rw [pu_aI ec hj (by decide)]
    exact pA_r (by unfold cntN; rw [if_pos (by omega)])
theorem c_feed {a1 : Int64} {a3 : Int32} (F : FX G h x) : pA (fun r : Int32 => ∃ ts', feedL [] a1 a3 r ts') (fX11_feed x a1 a3 h) := by
  obtain ⟨tp, it, q, tt, ti, hl, -⟩ := F.2.1
  obtain ⟨r, h', ts', e, p, -⟩ := xf_feed (w := a1) (a3 := a3) ⟨tg_ne F.1.2 tt (by decide), tg_ne F.1.2 ti (by decide)⟩ ⟨q.1, chn_nil F.1.1 tt ti hl q⟩
  exact pA_x e ⟨ts', p⟩
theorem c_number {a1 : Int64} (F : FX G h x) : pA (fun r : Int32 => ∃ hs', numQ 0 a1.toInt r.toInt hs') (fX11_number x a1 h) := by
  obtain ⟨hp, hi, q, tt, ti, hl⟩ := F.2.2.1
  exact pA_k (hz_number F.1.1 F.1.2 tt ti hl q (by decide) (by decide)) (fun r h' G' c => by obtain ⟨ts', -, p⟩ := c; exact ⟨_, p⟩)
theorem fr_CM (F : FX G h x) : ∃ ca, CMs h x ca [] (fun _ => 0) (fun _ => 0) := by
  obtain ⟨ca, g3, g14, gc⟩ := F.2.2.2.1
  exact ⟨ca, ⟨g3, g14.trans (by rw [← nI_0]; rfl), Nat.zero_le _⟩, ⟨fun _ => none, gc, fun i _ => by simp⟩, fun i j hi => absurd hi (Nat.not_lt_zero _), fun i hi => absurd hi (Nat.not_lt_zero _)⟩
theorem c_community {a1 : Int32} (F : FX G h x) (p : a1 = 0 ∨ a1 = 1) : pA (fun r : Int32 => ∃ ns', comR [] [] r ns') (fX11_community x a1 h) := by
  obtain ⟨tp, it, q, tt, ti, hl, -⟩ := F.2.1
  obtain ⟨ca, c⟩ := fr_CM F
  obtain ⟨r, h', ns', e, k, -⟩ := xc_community F.1.1 F.1.2 tt ti p ⟨q.1, chn_nil F.1.1 tt ti hl q⟩ ⟨_, c⟩ rfl
  exact pA_x e ⟨ns', k⟩
theorem vw0 {hs c r : Int32} {vc vc' : Nat → Int32} (q : viewR 0 hs vc c r vc') : r = -1 := by
  rcases q with ⟨-, q, -⟩ | ⟨j, hj, -⟩
  · exact q
  · exact absurd hj (Nat.not_lt_zero _)
theorem c_view {a1 a2 : Int32} (F : FX G h x) (p : a2 = 0 ∨ a2 = 1) : pA (fun r : Int32 => r = -1) (fX11_view x a1 a2 h) := by
  obtain ⟨hp, hi, q, tt, ti, hl⟩ := F.2.2.1
  obtain ⟨ca, c⟩ := fr_CM F
  exact pA_k (xv_view (a1 := a1) F.1.1 F.1.2 tt p q (by decide) c (fun j hj => absurd hj (Nat.not_lt_zero _))) (fun r h' G' k => by obtain ⟨vc', k1, -⟩ := k; exact vw0 k1)
theorem c_limit {a1 : Int32} (F : FX G h x) : pA (fun r : Int32 => r = (limN 484 a1).1) (fX11_limit x a1 h) := pA_k (fl_limit F.1.1 F.1.2 F.2.2.2.2.2.2.2.1) (fun r h' G' c => by obtain ⟨w, -, q⟩ := c; rw [← q])
theorem c_tick {a1 : Int64} (F : FX G h x) : pA (fun r : Int64 => r = (tickN 0 a1).1) (fX11_tick x a1 h) := pA_k (fl_tick F.1.1 F.1.2 F.2.2.2.2.2.2.2.2) (fun r h' G' c => by obtain ⟨w, -, q⟩ := c; rw [← q])
-- a question with nothing on the tape
theorem fr_enter {rd : Nat} {a1 : Int32} (e2 : sm_get h (some rd) 5 2 = some (.int 0)) : fX5_enter rd a1 0 h = some (-1, h) := by
  unfold fX5_enter
  rw [e2, pu_I, bd_s, if_pos (by decide)]
theorem fr_last {rd tp : Nat} {a1 : Int32} (e0 : sm_get h (some rd) 5 0 = some (va_rf (some tp))) (e2 : sm_get h (some rd) 5 2 = some (.int 0)) (e1 : sm_get h (some tp) 0 1 = some (.int 0)) : fX5_enterLast rd a1 h = some (0, h) := by
  unfold fX5_enterLast
  rw [e0, pu_Rf]
  show ((sm_obj h (some tp) 0).bind _) = _
  rw [ob_get e1, bd_s]
  rw [fr_size e1, pu_cb, ob_get e2, bd_s]
  rw [fr_enter e2, pu_cb, e0, pu_Rf]
  show ((sm_obj h (some tp) 0).bind _) = _
  rw [ob_get e1, bd_s]
  rw [fr_size e1, pu_cb, if_neg (by decide)]
theorem fr_head {rd tp : Nat} {a1 : Option Nat} (W : Wf G h) (t : tG G rd 6 0) (t1 : tG G tp 1 1) (e0 : sm_get h (some rd) 5 0 = some (va_rf (some tp))) (e1 : sm_get h (some tp) 0 1 = some (.int 0)) : pA (fun r : Int32 => r = 1) (fX5_readHead rd a1 h) := by
  obtain ⟨h1, p, o, g⟩ := w_putI (ci := 5) (k := 2) (v := 0) W t (by decide) rfl (by decide) (by decide)
  unfold fX5_readHead
  rw [p]
  have f0 : sm_get h1 (some rd) 5 0 = some (va_rf (some tp)) := by rw [g 0, if_neg (by decide)]; exact e0
  have f2 : sm_get h1 (some rd) 5 2 = some (.int 0) := by rw [g 2, if_pos rfl]
  have f1 : sm_get h1 (some tp) 0 1 = some (.int 0) := kg_fr (o.2.2.2 tp (tg_ne t1 t (by decide))) e1
  show pA _ ((sm_obj h1 (some rd) 5).bind _)
  rw [ob_get f0, bd_s]
  rw [fr_last f0 f2 f1, pu_cb, if_pos rfl]
  exact pA_r rfl
theorem c_question (F : FX G h x) : pA (fun r : Int32 => r = 0) (fX11_question x h) := by
  obtain ⟨tp, it, q, tt, ti, hl, rd, e5, e50⟩ := F.2.1
  obtain ⟨rp, oc, e7, e6, e61⟩ := F.2.2.2.2.2.2.1
  have trp : tG G rp 7 0 := kw_ref (ci := 11) (k := 7) F.1.1 F.1.2 (by decide) rfl rfl e7
  have trd : tG G rd 6 0 := kw_ref (ci := 11) (k := 5) F.1.1 F.1.2 (by decide) rfl rfl e5
  unfold fX11_question
  rw [e7, pu_Rf]
  show pA _ ((sm_obj h (some rp) 6).bind _)
  rw [ob_get e6, bd_s]
  obtain ⟨_, h2, G2, e2, rfl, f2, -⟩ := kX6_clear F.1.1 trp
  rw [e2, pu_cb]
  have kx : h2.2.2 x = h.2.2 x := f2.2.2.2 x (by rw [F.1.2.1, F.1.2.2]; decide)
  have kd : h2.2.2 rd = h.2.2 rd := f2.2.2.2 rd (by rw [trd.1, trd.2]; decide)
  have kt : h2.2.2 tp = h.2.2 tp := f2.2.2.2 tp (by rw [tt.1, tt.2]; decide)
  have ox : sm_obj h2 (some x) 11 = some x := ob_get (kg_fr kx e5)
  rw [ox, bd_s]
  refine pA_cb (fun r h4 e4 => ?_)
  have hr : pA (fun r : Int32 => r = 1) (fX11_takeMessage x h2) := by
    unfold fX11_takeMessage
    rw [kg_fr kx e5, pu_Rf, bd_s]
    refine pA_bd (fun x2 _ => ?_)
    rw [ob_get (kg_fr kd e50), bd_s]
    refine pA_cb (fun r5 h5 e5 => ?_)
    have q5 := fr_head f2.1 trd tt (kg_fr kd e50) (kg_fr kt q.2.2) r5 h5 e5
    subst q5
    rw [if_neg (by decide)]
    exact pA_r rfl
  have hr1 := hr r h4 e4
  subst hr1
  refine pA_bd (fun _ _ => pA_bd (fun _ _ => pA_cb (fun _ _ _ => ?_)))
  rw [if_neg (by decide)]
  exact pA_bd (fun _ _ => pA_cb (fun _ _ _ => pA_r rfl))
end FR
-- the reference, on its first state
theorem in0 {a b c : Int64} {S : MS} (h : a.toInt < b.toInt ∨ c.toInt < a.toInt) : pN (fun (r : Int32) S' => r = 0 ∧ S' = S) (gM_in a b c S) := by
  unfold gM_in
  refine pN_if (fun _ => pN_r ⟨rfl, rfl⟩) (fun c1 => ?_)
  refine pN_if (fun _ => pN_r ⟨rfl, rfl⟩) (fun c2 => ?_)
  rw [lg_1] at c1
  rw [lg_3] at c2
  omega
theorem in1 {a b c : Int64} {S : MS} : pN (fun (r : Int32) S' => S' = S ∧ (r = 0 ↔ (a.toInt < b.toInt ∨ c.toInt < a.toInt))) (gM_in a b c S) := by
  unfold gM_in
  refine pN_if (fun c1 => pN_r ⟨rfl, ?_⟩) (fun c1 => ?_)
  · rw [lg_1] at c1; exact ⟨fun _ => Or.inl c1, fun _ => rfl⟩
  rw [lg_1] at c1
  refine pN_if (fun c2 => pN_r ⟨rfl, ?_⟩) (fun c2 => pN_r ⟨rfl, ?_⟩)
  · rw [lg_3] at c2; exact ⟨fun _ => Or.inr c2, fun _ => rfl⟩
  · rw [lg_3] at c2; exact ⟨fun q => absurd q (by decide), fun q => by omega⟩
theorem m1 : ((0 : Int32) - (1 : Int32)).toInt64.toInt = -1 := by decide
theorem l0 : (0 : Int64).toInt = 0 := by decide
theorem d_scalar {a1 a2 : Int32} {a3 a5 : Int64} : pN (fun (r : Int32) _ => r = -2) (gM_scalar a1 a2 a3 a5 S0) := by
  unfold gM_scalar
  refine pN_l (pN_l (pN_l ?_))
  refine pN_mc pN_any (fun _ _ _ => ?_)
  refine pN_if (fun _ => pN_r rfl) (fun _ => ?_)
  refine pN_mc pN_any (fun _ _ _ => ?_)
  refine pN_if (fun _ => pN_r rfl) (fun _ => ?_)
  refine pN_if (fun _ => pN_r rfl) (fun _ => ?_)
  refine pN_mc (in0 (Or.inl (by decide))) (fun r S' q => ?_)
  rw [if_pos q.1]
  exact pN_r rfl
theorem d_table : pN (fun (r : Int32) _ => r = -2) (gM_table S0) := by
  unfold gM_table
  refine pN_l (pN_l (pN_l ?_))
  refine pN_mc (in0 (Or.inl (by decide))) (fun r S' q => ?_)
  rw [if_pos q.1]
  exact pN_r rfl
theorem rg0 {a : Int32} {n : Int32} (hn : n = 0) : (a.toInt64).toInt < (0 : Int64).toInt ∨ ((n - (1 : Int32)).toInt64).toInt < (a.toInt64).toInt := by
  subst hn
  rw [m1, l0]
  omega
theorem d_colOf {a1 a2 a3 a4 a9 : Int32} {a5 a7 : Int64} : pN (fun (r : Int32) _ => r = -1) (gM_columnOf a1 a2 a3 a4 a5 a7 a9 S0) := by
  unfold gM_columnOf
  refine pN_l (pN_l ?_)
  refine pN_mc (in0 (rg0 rfl)) (fun r S' q => ?_)
  rw [if_pos q.1]
  exact pN_r rfl
theorem d_column {a1 a2 a3 a4 : Int32} {a5 a7 : Int64} : pN (fun (r : Int32) _ => r = -1) (gM_column a1 a2 a3 a4 a5 a7 S0) := by
  unfold gM_column
  exact pN_mc d_colOf (fun _ _ q => pN_r q)
theorem d_status {a1 a2 : Int32} : pN (fun (r : Int32) _ => r = -1) (gM_status a1 a2 S0) := by
  unfold gM_status
  exact pN_mc d_colOf (fun _ _ q => pN_r q)
theorem d_row {a1 a2 a3 : Int32} : pN (fun (r : Int32) _ => r = -1) (gM_row a1 a2 a3 S0) := by
  unfold gM_row
  refine pN_l (pN_l ?_)
  refine pN_mc (in0 (rg0 rfl)) (fun r S' q => ?_)
  rw [if_pos q.1]
  exact pN_r rfl
theorem d_rows {a1 : Int32} : pN (fun (r : Int32) _ => r = -1) (gM_rows a1 S0) := by
  unfold gM_rows
  refine pN_l (pN_l ?_)
  refine pN_mc (in0 (rg0 rfl)) (fun r S' q => ?_)
  rw [if_pos q.1]
  exact pN_r rfl
theorem d_answer {a1 : Int32} : pN (fun (r : Int32) _ => r = -1) (gM_answer a1 S0) := by
  unfold gM_answer
  refine pN_l (pN_l ?_)
  refine pN_mc (in0 (rg0 rfl)) (fun r S' q => ?_)
  rw [if_pos q.1]
  exact pN_r rfl
theorem d_inst {a1 a2 : Int32} {S : MS} (h : S.1 8 = 0) : pN (fun (r : Int32) _ => r = -1) (gM_instance a1 a2 S) := by
  unfold gM_instance
  refine pN_l ?_
  refine pN_mc (in0 (rg0 h)) (fun r S' q => ?_)
  rw [if_pos q.1]
  exact pN_r rfl
theorem d_value {a1 a2 : Int32} {a3 : Int64} : pN (fun (r : Int32) _ => r = -1) (gM_value a1 a2 a3 S0) := by
  unfold gM_value
  refine pN_l ?_
  refine pN_mc (d_inst rfl) (fun r S' q => ?_)
  rw [if_pos (by rw [q]; decide)]
  exact pN_r rfl
theorem d_text {a1 a2 : Int32} : pN (fun (r : Int32) _ => r = -1) (gM_text a1 a2 S0) := by
  unfold gM_text
  refine pN_l (pN_l (pN_l ?_))
  refine pN_mc (d_inst rfl) (fun r S' q => ?_)
  rw [if_pos (by rw [q]; decide)]
  exact pN_r rfl
theorem d_identity {a1 a2 : Int32} : pN (fun (r : Int32) _ => r = -1) (gM_identity a1 a2 S0) := by
  unfold gM_identity
  refine pN_l (pN_l (pN_l ?_))
  refine pN_mc (d_inst rfl) (fun r S' q => ?_)
  rw [if_pos (by rw [q]; decide)]
  exact pN_r rfl
theorem d_told {a1 a2 : Int32} : pN (fun (r : Int64) _ => r = -1) (gM_told a1 a2 S0) := by
  unfold gM_told
  refine pN_l ?_
  refine pN_mc (d_inst rfl) (fun r S' q => ?_)
  rw [if_neg (by rw [q]; decide)]
  exact pN_r rfl
theorem d_part {a1 a2 a3 : Int32} : pN (fun (r : Int64) _ => r = -1) (gM_part a1 a2 a3 S0) := by
  unfold gM_part
  refine pN_l ?_
  refine pN_mc (d_inst rfl) (fun r S' q => ?_)
  rw [if_pos (by rw [q]; decide)]
  exact pN_r rfl
theorem d_count {a1 : Int32} : pN (fun (r : Int32) _ => r = cntN a1) (gM_count a1 S0) := by
  unfold gM_count
  refine pN_l ?_
  have x1 : (1 : Int64).toInt = 1 := by decide
  have x7 : (7 : Int64).toInt = 7 := by decide
  refine pN_if (fun c => ?_) (fun c0 => ?_)
  · subst c
    exact pN_l (pN_r (by decide))
  refine pN_mc in1 (fun r S' q => ?_)
  have q2 := q.2
  rw [Int32.toInt_toInt64, x1, x7] at q2
  have qS := q.1
  subst qS
  refine pN_if (fun c => ?_) (fun c => ?_)
  · have c1 := q2.mp c
    refine pN_if (fun c8 => ?_) (fun c8 => ?_)
    · subst c8; exact pN_l (pN_r (by decide))
    refine pN_if (fun c9 => ?_) (fun c9 => ?_)
    · subst c9; exact pN_l (pN_r (by decide))
    have i0 : a1.toInt ≠ 0 := fun q => c0 (Int32.toInt_inj.mp q)
    have i8 : a1.toInt ≠ 8 := fun q => c8 (Int32.toInt_inj.mp q)
    have i9 : a1.toInt ≠ 9 := fun q => c9 (Int32.toInt_inj.mp q)
    exact pN_r (by unfold cntN; rw [if_neg (by omega)])
  · have c1 : ¬ (a1.toInt < 1 ∨ 7 < a1.toInt) := fun q => c (q2.mpr q)
    refine pN_bd (fun y hy => ?_)
    have : y = 0 := by
      unfold mRI at hy
      split at hy
      · cases hy; rfl
      · cases hy
    subst this
    exact pN_r (by unfold cntN; rw [if_pos (by omega)])
theorem d_feed {a1 : Int64} {a3 : Int32} : pN (fun (r : Int32) _ => ∃ ts', feedL [] a1 a3 r ts') (gM_feed a1 a3 S0) := pN_k (nM_feedL S0_MI (LT_nil rfl)) (fun r S' c => by obtain ⟨-, ts', q, -⟩ := c; exact ⟨ts', q⟩)
theorem d_number {a1 : Int64} : pN (fun (r : Int32) _ => ∃ hs', numQ 0 a1.toInt r.toInt hs') (gM_number a1 S0) := pN_k (nM_numberQ S0_MI) (fun r S' c => ⟨_, c.2⟩)
theorem S0_LN : LN S0 [] := ⟨by rfl, Nat.zero_le _, fun c hc => absurd hc (Nat.not_lt_zero _)⟩
theorem S0_LV : LV S0 0 (fun _ => 0) := ⟨fun j _ => rfl, fun j _ => rfl⟩
theorem d_community {a1 : Int32} (p : a1.toInt = 0 ∨ a1.toInt = 1) : pN (fun (r : Int32) _ => ∃ ns', comR [] [] r ns') (gM_community a1 S0) := pN_k (nM_communityQ S0_MI p (LT_nil rfl) S0_LN) (fun r S' c => by obtain ⟨-, ns', q, -⟩ := c; exact ⟨ns', q⟩)
theorem d_view {a1 a2 : Int32} (p : a2.toInt = 0 ∨ a2.toInt = 1) : pN (fun (r : Int32) _ => r = -1) (gM_view a1 a2 S0) := pN_k (nM_viewQ (n := 0) (hs := 0) (vc := fun _ => 0) S0_MI p (by rfl) (Nat.zero_le _) rfl S0_LV) (fun r S' c => by obtain ⟨-, -, vc', q, -⟩ := c; exact vw0 q)
theorem d_limit {a1 : Int32} : pN (fun (r : Int32) _ => r = (limN 484 a1).1) (gM_limit a1 S0) := pN_k (nM_limitQ S0_MI) (fun r S' c => by have q : (r, S'.1 5) = limN 484 a1 := c.2; rw [← q])
theorem d_tick {a1 : Int64} : pN (fun (r : Int64) _ => r = (tickN 0 a1).1) (gM_tick a1 S0) := pN_k (nM_tickQ S0_MI) (fun r S' c => by have q : (r, S'.2.1) = tickN 0 a1 := c.2; rw [← q])
-- reading where there is nothing
def zZ (S : MS) : Prop := S.1 44 = 0 ∧ S.1 45 ≠ 0
theorem sI_ne {S : MS} {k j : Nat} {v : Int32} (h : j ≠ k) : (sI S k v).1 j = S.1 j := by simp [sI, va_up, h]
theorem sI_at {S : MS} {k : Nat} {v : Int32} : (sI S k v).1 k = v := by simp [sI, va_up]
theorem z_octet {S : MS} (h : S.1 44 = 0) : pN (fun (r : Int32) S' => r = 0 ∧ zZ S') (gM_octet 0 S) := by
  unfold gM_octet
  refine pN_l ?_
  rw [h, if_neg (by decide)]
  refine pN_l ?_
  refine pN_if (fun c => pN_l (pN_r ⟨rfl, ?_, ?_⟩)) (fun c => pN_l (pN_l (pN_r ⟨rfl, ?_, ?_⟩)))
  · rw [sI_ne (by decide)]; exact h
  · rw [sI_at]; decide
  · rw [sI_ne (by decide)]; exact h
  · rw [sI_at]; exact c
theorem z_size {S : MS} (h : S.1 44 = 0) : pN (fun (r : Int32) S' => r = 0 ∧ zZ S') (gM_size 0 S) := by
  unfold gM_size
  refine pN_mc (z_octet h) (fun r S2 q => ?_)
  obtain ⟨rfl, q1, q2⟩ := q
  refine pN_l ?_
  rw [if_pos (by decide)]
  unfold gM_size_90
  refine pN_l ?_
  rw [if_neg q2]
  unfold gM_size_114
  refine pN_l ?_
  rw [if_neg q2]
  exact pN_l (pN_r ⟨q1, q1, q2⟩)
theorem z_field {S : MS} {a1 : Int32} (h : S.1 44 = 0) : pN (fun (r : Int32) S' => r = 0 ∧ zZ S') (gM_field a1 0 S) := by
  unfold gM_field
  refine pN_mc (z_octet h) (fun r S2 q => ?_)
  refine pN_l ?_
  rw [if_neg q.2.2]
  exact pN_mc (z_size q.2.1) (fun _ _ q => pN_r q)
theorem z_read {S : MS} {a1 : Int32} (h : zZ S) : pN (fun (_ : Int64) S' => zZ S') (gM_read a1 S) := by
  unfold gM_read
  refine pN_l (pN_l (pN_l ?_))
  rw [if_neg h.2]
  unfold gM_read_31
  refine pN_l ?_
  rw [if_neg h.2]
  exact pN_r h
theorem z_integer {S : MS} (h : S.1 44 = 0) : pN (fun (_ : Int32) S' => zZ S') (gM_integer 0 S) := by
  unfold gM_integer
  refine pN_mc (z_field h) (fun r S2 q => ?_)
  refine pN_mc (z_read q.2) (fun r S4 q => ?_)
  refine pN_l ?_
  rw [if_neg q.2]
  exact pN_r q
theorem z_44 {S : MS} {a1 s0 : Int32} (h : S.1 44 = 0) : pN (fun (_ : Unit) S' => S'.1 45 ≠ 0) (gM_readAll_44 a1 0 s0 S) := by
  unfold gM_readAll_44
  refine pN_l ?_
  refine pN_mc (z_integer (by rw [sI_ne (by decide)]; exact h)) (fun r S3 q => ?_)
  refine pN_l (pN_l ?_)
  have b4 : (sI S3 48 r).1 45 ≠ 0 := by rw [sI_ne (by decide)]; exact q.2
  rw [if_neg b4]
  unfold gM_readAll_81
  refine pN_l ?_
  rw [if_neg b4]
  refine pN_l ?_
  unfold gM_readAll_101
  refine pN_l (pN_l (pN_l (pN_l (pN_l ?_))))
  have b6 : ∀ v w : Int32, (sI (sI (sI S3 48 r) 50 v) 51 w).1 45 ≠ 0 := fun v w => by rw [sI_ne (by decide), sI_ne (by decide)]; exact b4
  rw [if_neg (b6 _ _)]
  unfold gM_readAll_141
  refine pN_l ?_
  rw [if_neg (b6 _ _)]
  exact pN_r (b6 _ _)
theorem z_all {S : MS} : pN (fun (_ : Unit) S' => S'.1 45 ≠ 0) (gM_readAll 0 S) := by
  unfold gM_readAll
  refine pN_l (pN_l (pN_l ?_))
  refine pN_mc (z_field (by rw [sI_ne (by decide), sI_at])) (fun r S5 q => ?_)
  obtain ⟨rfl, q1, q2⟩ := q
  refine pN_l ?_
  rw [if_neg q2]
  exact pN_l (z_44 q1)
theorem d_question : pN (fun (r : Int32) _ => r = 0) (gM_question S0) := by
  unfold gM_question
  refine pN_l (pN_l (pN_l (pN_l ?_)))
  refine pN_mc (z_all) (fun r S6 q => ?_)
  refine pN_l ?_
  rw [if_neg q]
  exact pN_l (pN_bd (fun _ _ => pN_bd (fun _ _ => pN_r rfl)))
-- the law
def PI (x m : Nat) (G : GT) (h : sm_H) : Prop := FX G h x ∧ Mo h m S0 ∧ ∀ c, inM m c → (G c).1 = 0 ∧ c < h.1
def lJ (sz : Nat) (X : Option (Unit × sm_H)) : Prop := ∃ h', X = some ((), h') ∧ h'.1 - sz ≤ 600000 ∧ h'.2.1 ≤ 7302249
theorem mo_same {h h' : sm_H} {m : Nat} {S : MS} (H : Mo h m S) (e : ∀ c, inM m c → h'.2.2 c = h.2.2 c) : Mo h' m S := by
  refine ⟨by rw [e m ⟨Nat.le_refl _, by omega⟩]; exact H.1, fun k hk h2 => ?_⟩
  have ho := mT_off k hk h2
  rw [e _ ⟨by omega, by omega⟩]
  exact H.2 k hk h2
theorem RA_W {Rs : Type} {G : GT} {h : sm_H} {E : List (Nat × Nat)} {Q : Rs → sm_H → Prop} {X : Option (Rs × sm_H)} (c : kJ (RW E G h Q) X) : kJ (RA h.1 h.1 E (h.1 + 0) (h.2.1 + 0) G h (fun _ => Q)) X := by
  obtain ⟨r, h', G', e, rfl, F, q⟩ := c
  exact ⟨r, h', G', e, ⟨F.1, by rw [F.2.1]; exact Nat.le_refl _, by rw [F.2.1]; exact Nat.le_refl _, by rw [F.2.2.1]; exact Nat.le_refl _, fun _ _ _ => rfl, fun a _ _ k => F.2.2.2 a k⟩, q⟩
theorem RA_P {Rs : Type} {G : GT} {h : sm_H} {Q : Rs → Prop} {X : Option (Rs × sm_H)} (W : Wf G h) (c : kJ (RP G h Q) X) : kJ (RA h.1 h.1 [] (h.1 + 0) (h.2.1 + 0) G h (fun _ _ _ => True)) X := by
  obtain ⟨r, h', G', e, rfl, rfl, q⟩ := c
  exact ⟨r, h', G', e, ⟨W, Nat.le_refl _, Nat.le_refl _, Nat.le_refl _, fun _ _ _ => rfl, fun a _ _ _ => rfl⟩, trivial⟩
theorem l_nn {sz : Nat} {p : Prop} {d : Decidable p} {Y : Option (Unit × sm_H)} (hp : ¬ p) (kk : lJ sz Y) : lJ sz (if p then none else Y) := by rw [if_neg hp]; exact kk
theorem l_letv {sz : Nat} {α : Type} {w : α} {Y : α → Option (Unit × sm_H)} (kk : ∀ z, z = w → lJ sz (Y z)) : lJ sz (sm_let w Y) := kk w rfl
theorem l_lets {sz : Nat} {α : Type} {w : α} {Y : α → Option (Unit × sm_H)} (kk : lJ sz (Y w)) : lJ sz (sm_let w Y) := kk
section LW
variable {Rs : Type} {sz x m c1 c2 : Nat} {G : GT} {h : sm_H} {X : Option (Rs × sm_H)} {f : Rs → sm_H → Option (Unit × sm_H)} {E : List (Nat × Nat)} {P : Rs → Prop}
theorem l_let {α : Type} {w : α} {Y : α → Option (Unit × sm_H)} (kk : ∀ z, lJ sz (Y z)) : lJ sz (sm_let w Y) := kk w
theorem l_if {p : Prop} {d : Decidable p} {Y Z : Option (Unit × sm_H)} (k1 : p → lJ sz Y) (k2 : ¬ p → lJ sz Z) : lJ sz (if p then Y else Z) := by
  by_cases hp : p
  · rw [if_pos hp]; exact k1 hp
  · rw [if_neg hp]; exact k2 hp
theorem l_ox {Y : Nat → Option (Unit × sm_H)} (H : PI x m G h) (kk : lJ sz (Y x)) : lJ sz ((sm_obj h (some x) 11).bind Y) := by
  rw [fr_x H.1]; exact kk
theorem l_om {S : MS} {Y : Nat → Option (Unit × sm_H)} (H : Mo h m S) (kk : lJ sz (Y m)) : lJ sz ((sm_obj h (some m) 12).bind Y) := by
  rw [mo_obj H]; exact kk
theorem l_X {Q : GT → Rs → sm_H → Prop} (H : PI x m G h) (c : kJ (RA h.1 h.1 E (h.1 + c1) (h.2.1 + c2) G h Q) X) (hz : ∀ r, (0, r) ∉ E) (p : pA P X) (kk : ∀ r h', P r → Mo h' m S0 → h.1 ≤ h'.1 → h'.1 ≤ h.1 + c1 → h'.2.1 ≤ h.2.1 + c2 → lJ sz (f r h')) : lJ sz (sm_cb X f) := by
  obtain ⟨r, h', G', rfl, F, _⟩ := c
  refine kk r h' (p r h' rfl) (mo_same H.2.1 (fun b hb => ?_)) F.2.1 F.2.2.1 F.2.2.2.1
  have hc := H.2.2 b hb
  exact F.2.2.2.2.2 b hc.2 (Nat.ne_of_lt hc.2) (by rw [hc.1]; exact hz _)
theorem l_Y {E' : List Nat} {Q : Rs → MS → Prop} {g : Option (Rs × MS)} (z : z2 m X g h) (c : nJ (NW E' S0 Q) g) (p : pN (fun r _ => P r) g) (kk : ∀ r h', P r → h'.1 = h.1 → h'.2.1 = h.2.1 → lJ sz (f r h')) : lJ sz (sm_cb X f) := by
  obtain ⟨r, S', e, -, -⟩ := c
  obtain ⟨h', rfl, -, fr'⟩ := z r S' e
  exact kk r h' (p r S' e) fr'.1 fr'.2.1
end LW
theorem u_feed {a1 : Int64} {a3 r1 r2 : Int32} (h1 : ∃ ts', feedL [] a1 a3 r1 ts') (h2 : ∃ ts', feedL [] a1 a3 r2 ts') : r1 = r2 := by
  obtain ⟨t1, q1⟩ := h1
  obtain ⟨t2, q2⟩ := h2
  exact (feedL_eq q1 q2).1
theorem u_number {v : Int} {r1 r2 : Int32} (h1 : ∃ hs', numQ 0 v r1.toInt hs') (h2 : ∃ hs', numQ 0 v r2.toInt hs') : r1 = r2 := by
  obtain ⟨t1, q1⟩ := h1
  obtain ⟨t2, q2⟩ := h2
  exact Int32.toInt_inj.mp (num_eq q1 q2).1
theorem u_community {r1 r2 : Int32} (h1 : ∃ ns', comR [] [] r1 ns') (h2 : ∃ ns', comR [] [] r2 ns') : r1 = r2 := by
  obtain ⟨t1, q1⟩ := h1
  obtain ⟨t2, q2⟩ := h2
  exact (comR_eq q1 q2).1
