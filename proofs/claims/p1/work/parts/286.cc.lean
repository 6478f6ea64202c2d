-- the class's community(), exactly
theorem pu_lenN {h : sm_H} {a t n : Nat} {d : (Nat → Int32) ⊕ (Nat → Int64) ⊕ (Nat → UInt32) ⊕ (Nat → UInt64) ⊕ (Nat → Option Nat)} (ho : h.2.2 a = some (.inl (t, n, d))) : sm_len h (some a) t = some (nI n) := pu_len ho
theorem s_new (h : sm_H) (ci : Nat) (fs : List Value) : ∃ h1, sm_new h ci fs = h1 ∧ h1.1 = h.1 + 1 ∧ h1.2.2 h.1 = some (.inr (ci, fs)) ∧ ∀ b, b ≠ h.1 → h1.2.2 b = h.2.2 b := ⟨_, rfl, rfl, by simp [sm_new, va_up], fun b hb => by simp [sm_new, va_up, hb]⟩
theorem s_nwa (h : sm_H) (tt n : Nat) (d : (Nat → Int32) ⊕ (Nat → Int64) ⊕ (Nat → UInt32) ⊕ (Nat → UInt64) ⊕ (Nat → Option Nat)) : ∃ h1, sm_nwa h tt n d = h1 ∧ h1.1 = h.1 + 1 ∧ h1.2.2 h.1 = some (.inl (tt, n, d)) ∧ ∀ b, b ≠ h.1 → h1.2.2 b = h.2.2 b := ⟨_, rfl, rfl, by simp [sm_nwa, va_up], fun b hb => by simp [sm_nwa, va_up, hb]⟩
theorem s_put {h : sm_H} {a ci : Nat} {fs : List Value} (ho : h.2.2 a = some (.inr (ci, fs))) {k : Nat} (hk : k < fs.length) (v : Value) : ∃ h1, sm_put h (some a) ci k v = some h1 ∧ h1.1 = h.1 ∧ h1.2.2 a = some (.inr (ci, fs.set k v)) ∧ ∀ b, b ≠ a → h1.2.2 b = h.2.2 b := ⟨_, pu_put ho hk v, rfl, hu_at _ _ _, fun b hb => hu_ne hb⟩
theorem x0_init40 {h : sm_H} {a : Nat} (ho : h.2.2 a = some (.inr (0, [.null, .int 0]))) (ha : a < h.1) : ∃ h', fX0_init a (40 : Int32) h = some ((), h') ∧ h'.1 = h.1 + 1 ∧ chn h' a h.1 40 [] ∧ ∀ b, b ≠ a → b ≠ h.1 → h'.2.2 b = h.2.2 b := by
  obtain ⟨h1, e1, s1, c1, f1⟩ := s_nwa h 1 40 (.inr (.inl (fun _ => 0)))
  obtain ⟨h2, e2, s2, c2, f2⟩ := s_put ((f1 a (by omega)).trans ho) (k := 0) (by simp) (sm_v (vR (some h.1)))
  refine ⟨h2, ?_, by omega, ⟨?_, Nat.zero_le _, by decide, fun _ => 0, by rw [f2 _ (by omega)]; exact c1, fun i hi => absurd hi (by simp)⟩, fun b hb hb2 => by rw [f2 b hb, f1 b hb2]⟩
  · unfold fX0_init
    rw [show (if (40 : Int32) < (0 : Int32) then (0 : Int32) else 40) = 40 from rfl]
    simp only [sm_let]
    rw [if_neg (by decide), show (40 : Int32).toNatClampNeg = 40 from rfl, e1, e2]
    rfl
  · show h2.2.2 a = some (.inr (0, [.ref h.1, .int (nI 0)]))
    rw [nI_0, c2]
    rfl
set_option maxHeartbeats 4000000 in
theorem x2_init {h : sm_H} {c tp it cap : Nat} {ts : List Int64} {a2 : Int32} (hc : h.2.2 c = some (.inr (2, [.null, .int 0, .null, .null, .int 0]))) (lc : c < h.1) (lt : tp < h.1) (li : it < h.1) (hn : c ≠ tp ∧ c ≠ it) (H : chn h tp it cap ts) (p : a2 = 0 ∨ a2 = 1) : ∃ h' nc nb vr ir d1 d2, fX2_init c (some tp) a2 h = some ((), h') ∧ h.1 ≤ h'.1 ∧ (∀ b, b < h.1 → b ≠ c → h'.2.2 b = h.2.2 b) ∧ h'.2.2 c = some (.inr (2, [.ref nc, .int a2, .ref vr, .ref ir, .int 0])) ∧ chn h' nc nb 40 (ts.take 40) ∧ h'.2.2 vr = some (.inl (9, 8, d1)) ∧ h'.2.2 ir = some (.inl (2, 8, d2)) ∧ h.1 ≤ nc ∧ h.1 ≤ nb ∧ h.1 ≤ vr ∧ h.1 ≤ ir := by
  obtain ⟨h1, e1, s1, c1, f1⟩ := s_new h 0 [.null, .int 0]
  obtain ⟨h2, e2, s2, H2, f2⟩ := x0_init40 (h := h1) (a := h.1) c1 (by omega)
  have cc2 : h2.2.2 c = some (.inr (2, [.null, .int 0, .null, .null, .int 0])) := by rw [f2 c (by omega) (by omega), f1 c (by omega)]; exact hc
  obtain ⟨h3, e3, s3, c3, f3⟩ := s_put cc2 (k := 0) (by simp) (sm_v (vR (some h.1)))
  obtain ⟨h4, e4, s4, c4, f4⟩ := s_nwa h3 9 8 (.inr (.inr (.inr (.inr (fun _ => none)))))
  obtain ⟨h5, e5, s5, c5, f5⟩ := s_put ((f4 c (by omega)).trans c3) (k := 2) (by simp) (sm_v (vR (some h3.1)))
  obtain ⟨h6, e6, s6, c6, f6⟩ := s_nwa h5 2 8 (.inl (fun _ => 0))
  obtain ⟨h7, e7, s7, c7, f7⟩ := s_put ((f6 c (by omega)).trans c5) (k := 3) (by simp) (sm_v (vR (some h5.1)))
  have up : ∀ b, b ≠ c → b < h3.1 → h7.2.2 b = h2.2.2 b := fun b hb hl => by rw [f7 b hb, f6 b (by omega), f5 b hb, f4 b (by omega), f3 b hb]
  have H7 : chn h7 h.1 h1.1 40 [] := chn_eq H2 (up _ (by omega) (by omega)) (up _ (by omega) (by omega))
  have T7 : chn h7 tp it cap ts := chn_eq H (by rw [up tp (fun q => hn.1 q.symm) (by omega), f2 tp (by omega) (by omega), f1 tp (by omega)]) (by rw [up it (fun q => hn.2 q.symm) (by omega), f2 it (by omega) (by omega), f1 it (by omega)])
  have e8 : sm_get h7 (some c) 2 0 = some (va_rf (some h.1)) := by rw [pu_get c7]; rfl
  obtain ⟨h9, e9, H9, F9⟩ := ch_copy H7 T7 (by omega) (by omega)
  have cc9 := (F9.2.2 c (fun q => q.elim (by omega) (by omega))).trans c7
  obtain ⟨h10, e10, s10, c10, f10⟩ := s_put cc9 (k := 1) (by simp) (sm_v (vI a2))
  refine ⟨h10, h.1, h1.1, h3.1, h5.1, .inr (.inr (.inr (.inr (fun _ => none)))), .inl (fun _ => 0), ?_, ?_, ?_, ?_, chn_eq H9 (f10 _ (by omega)) (f10 _ (by omega)), ?_, ?_, by omega, by omega, by omega, by omega⟩
  · unfold fX2_init
    simp only [sm_let]
    rw [e1, e2, pu_cb, e3, Option.bind_some, if_neg (by decide), show (8 : Int32).toNatClampNeg = 8 from rfl, e4, e5, Option.bind_some, if_neg (by decide), e6, e7, Option.bind_some, e8, pu_Rf, Option.bind_some, pu_obj H7.1, Option.bind_some, e9, pu_cb, if_pos p, e10]
    rfl
  · have := F9.1; omega
  · intro b hb hbc
    rw [f10 b hbc, F9.2.2 b (fun q => q.elim (by omega) (by omega)), up b hbc (by omega), f2 b (by omega) (by omega), f1 b (by omega)]
  · rw [c10]; rfl
  · rw [f10 _ (by omega), F9.2.2 _ (fun q => q.elim (by omega) (by omega)), f7 _ (by omega), f6 _ (by omega), f5 _ (by omega)]
    exact c4
  · rw [f10 _ (by omega), F9.2.2 _ (fun q => q.elim (by omega) (by omega)), f7 _ (by omega)]
    exact c6
theorem xc_named {h : sm_H} {x tp it ca cap : Nat} {ts : List Int64} {ns : List (List Int64)} {vc : Nat → Int32} {cs : Nat → Nat} (T : chn h tp it cap ts) (q : CMs h x ca ns vc cs) : ∀ (n i : Nat), i ≤ 8 → 8 < i + n → ∃ r, fX11_communityNamed_2 n x (some tp) (nI i) h = some (r, h) ∧ (r = none ↔ ∀ j, i ≤ j → j < ns.length → ns.getD j [] ≠ ts) := by
  obtain ⟨⟨e3, -, l8⟩, ⟨f, hf, hv⟩, -, hc⟩ := q
  intro n
  induction n with
  | zero => intro i h1 h2; omega
  | succ n ih =>
    intro i h1 h2
    unfold fX11_communityNamed_2
    rw [e3, pu_Rf, Option.bind_some, pu_lenN hf, Option.bind_some]
    by_cases hi : i = 8
    · subst hi
      rw [if_pos (nI_le (Nat.le_refl _) (by decide))]
      exact ⟨none, rfl, ⟨fun _ j h3 h4 => by omega, fun _ => rfl⟩⟩
    · rw [if_neg (nI_ge (by omega) (by decide)), Option.bind_some, pu_aR hf (i := i) (by omega) (by decide), Option.bind_some, hv i (by omega)]
      obtain ⟨r, e, hr⟩ := ih (i + 1) (by omega) (by omega)
      by_cases hl : i < ns.length
      · obtain ⟨nc, nb, vr, ir, ⟨g0, -, -, -⟩, ec, -, -⟩ := hc i hl
        rw [if_pos hl, if_neg (by simp), g0, pu_Rf, Option.bind_some, pu_obj ec.1, Option.bind_some, ch_same ec T, pu_cb]
        by_cases hs : ns.getD i [] = ts
        · rw [if_pos hs, if_neg (by decide)]
          exact ⟨_, rfl, ⟨fun q => (by cases q), fun q => absurd hs (q i (Nat.le_refl _) hl)⟩⟩
        · rw [if_neg hs, if_pos rfl, sm_let, nI_1]
          refine ⟨r, e, hr.trans ⟨fun q j h3 h4 => ?_, fun q j h3 h4 => q j (by omega) h4⟩⟩
          by_cases hj : j = i
          · rw [hj]; exact hs
          · exact q j (by omega) h4
      · rw [if_neg hl, if_pos rfl, sm_let, nI_1]
        exact ⟨r, e, hr.trans ⟨fun q j h3 h4 => q j (by omega) h4, fun q j h3 h4 => q j (by omega) h4⟩⟩
def comR (ts : List Int64) (ns : List (List Int64)) (r : Int32) (ns' : List (List Int64)) : Prop := (40 < ts.length ∧ r = -2 ∧ ns' = ns) ∨ (ts.length ≤ 40 ∧ ¬ (∀ j, j < ns.length → ns.getD j [] ≠ ts) ∧ r = -3 ∧ ns' = ns) ∨ (ts.length ≤ 40 ∧ (∀ j, j < ns.length → ns.getD j [] ≠ ts) ∧ ns.length = 8 ∧ r = -4 ∧ ns' = ns) ∨ (ts.length ≤ 40 ∧ (∀ j, j < ns.length → ns.getD j [] ≠ ts) ∧ ns.length < 8 ∧ r = nI ns.length ∧ ns' = ns ++ [ts])
theorem comR_eq {ts : List Int64} {ns n1 n2 : List (List Int64)} {r1 r2 : Int32} (h1 : comR ts ns r1 n1) (h2 : comR ts ns r2 n2) : r1 = r2 ∧ n1 = n2 := by
  rcases h1 with ⟨a, rfl, rfl⟩ | ⟨a, b, rfl, rfl⟩ | ⟨a, b, c, rfl, rfl⟩ | ⟨a, b, c, rfl, rfl⟩ <;> rcases h2 with ⟨a', rfl, rfl⟩ | ⟨a', b', rfl, rfl⟩ | ⟨a', b', c', rfl, rfl⟩ | ⟨a', b', c', rfl, rfl⟩ <;> first | exact ⟨rfl, rfl⟩ | (exfalso; omega) | exact absurd b' b | exact absurd b b'
set_option maxHeartbeats 4000000 in
theorem xc_new {G : GT} {h : sm_H} {x tp it ca : Nat} {ts : List Int64} {ns : List (List Int64)} {vc : Nat → Int32} {a1 : Int32} (W : Wf G h) (ta : tG G x 12 0) (tt : tG G tp 1 1) (ti : tG G it 21 1) (p : a1 = 0 ∨ a1 = 1) (T : HT h x tp it ts) (q : CM h x ca ns vc) (hz : vc ns.length = 0) : ∃ r h' ns', fX11_newCommunity x a1 h = some (r, h') ∧ comR ts ns r ns' ∧ HT h' x tp it ts ∧ CM h' x ca ns' vc := by
  obtain ⟨cs, q⟩ := q
  have tca := cm_ca W ta q
  have tci := fun i hi => cm_cs (i := i) W ta q hi
  have q0 := q
  obtain ⟨⟨e3, e14, l8⟩, ⟨f, hf, hv⟩, inj, hc⟩ := q
  have hts : ts.length ≤ 1200 := T.2.2.1
  obtain ⟨fs, hx, hlen, -⟩ := kw_obj (ci := 11) W ta (by decide)
  have hlen' : fs.length = 17 := hlen
  have lx := tG_lt W ta (by decide)
  have lca := tG_lt W tca (by decide)
  have ltp := tG_lt W tt (by decide)
  have lit := tG_lt W ti (by decide)
  unfold fX11_newCommunity
  rw [T.1, pu_Rf, Option.bind_some, pu_obj T.2.1, Option.bind_some, ch_size T.2, pu_cb]
  by_cases c1 : ts.length ≤ 40
  · rw [if_pos (show nI ts.length ≤ 40 from nI_le (b := 40) c1 (by decide)), T.1, pu_Rf, Option.bind_some, pu_obj hx, Option.bind_some]
    obtain ⟨r, e, hr⟩ := xc_named T.2 q0 sm_fuel 0 (by omega) (by simp only [sm_fuel_eq]; omega)
    have e' : fX11_communityNamed x (some tp) h = some (r, h) := e
    have hr' : r = none ↔ ∀ j, j < ns.length → ns.getD j [] ≠ ts := hr.trans ⟨fun z j hj => z j (Nat.zero_le _) hj, fun z j _ hj => z j hj⟩
    rw [e', pu_cb]
    by_cases c2 : r = none
    · rw [if_pos c2, e14, pu_I, Option.bind_some, if_neg (nI_pos (by omega)), Option.bind_some, e3, pu_Rf, Option.bind_some, pu_lenN hf, Option.bind_some]
      by_cases c3 : ns.length < 8
      · rw [if_pos (nI_lt c3 (by decide)), Option.bind_some, Option.bind_some]
        simp only [sm_let]
        obtain ⟨h13, e13, s13, c13, f13⟩ := s_new h 2 [.null, .int 0, .null, .null, .int 0]
        have g13 : sm_get h13 (some x) 11 0 = some (va_rf (some tp)) := kg_fr (f13 x (by omega)) T.1
        have T13 : chn h13 tp it 1200 ts := chn_eq T.2 (f13 tp (by omega)) (f13 it (by omega))
        obtain ⟨h15, nc, nb, vr, ir, d1, d2, e15, s15, f15, c15, H15, v15, i15, l1, l2, l3, l4⟩ := x2_init (c := h.1) c13 (by omega) (by omega) (by omega) ⟨by omega, by omega⟩ T13 p
        have up : ∀ b, b < h.1 → h15.2.2 b = h.2.2 b := fun b hb => by rw [f15 b (by omega) (by omega), f13 b (by omega)]
        have hca : h15.2.2 ca = some (.inl (6, 8, .inr (.inr (.inr (.inr f))))) := (up ca lca).trans hf
        have e16 := pu_sR (ci := 2) hca (i := ns.length) c3 (by decide) (v := some h.1) (by simp [sm_ok, c15])
        rw [e13, g13, pu_Rf, Option.bind_some, e15, pu_cb, e16, Option.bind_some]
        generalize hh : hu h15 ca (.inl (6, 8, .inr (.inr (.inr (.inr (va_up f ns.length (some h.1))))))) = h16
        have c16 : h16.2.2 ca = some (.inl (6, 8, .inr (.inr (.inr (.inr (va_up f ns.length (some h.1))))))) := by rw [← hh, hu_at]
        have f16 : ∀ b, b ≠ ca → h16.2.2 b = h15.2.2 b := fun b hb => by rw [← hh, hu_ne hb]
        have nxca : x ≠ ca := tg_ne ta tca (by simp)
        have hx16 : h16.2.2 x = some (.inr (11, fs)) := by rw [f16 x nxca, up x lx]; exact hx
        have g16 : sm_get h16 (some x) 11 14 = some (.int (nI ns.length)) := by rw [← e14, pu_get hx16, pu_get hx]
        obtain ⟨h18, e18, s18, c18, f18⟩ := s_put hx16 (k := 14) (by omega) (sm_v (vI (nI ns.length + 1)))
        have g18 : sm_get h18 (some x) 11 14 = some (.int (nI (ns.length + 1))) := by rw [pu_get c18, ← nI_1]; simp [hlen']; rfl
        have gk : ∀ k, k ≠ 14 → sm_get h18 (some x) 11 k = sm_get h (some x) 11 k := fun k hk => by rw [pu_get c18, pu_get hx, List.getElem?_set_ne (fun z => hk z.symm)]
        rw [g16, pu_I, Option.bind_some, e18, Option.bind_some, g18, pu_I, Option.bind_some]
        have un : ∀ b, b < h.1 → b ≠ x → b ≠ ca → h18.2.2 b = h.2.2 b := fun b h1 h2 h3 => by rw [f18 b h2, f16 b h3, up b h1]
        have un2 : ∀ b, h.1 ≤ b → h18.2.2 b = h15.2.2 b := fun b h1 => by rw [f18 b (by omega), f16 b (by omega)]
        refine ⟨_, h18, ns ++ [ts], rfl, Or.inr (Or.inr (Or.inr ⟨c1, hr'.mp c2, c3, ?_, rfl⟩)), ⟨(gk 0 (by decide)).trans T.1, chn_eq T.2 (un tp ltp (tg_ne tt ta (by simp)) (tg_ne tt tca (by simp))) (un it lit (tg_ne ti ta (by simp)) (tg_ne ti tca (by simp)))⟩, fun i => if i = ns.length then h.1 else cs i, ⟨(gk 3 (by decide)).trans e3, by rw [g18]; simp, by simp; omega⟩, ⟨va_up f ns.length (some h.1), by rw [f18 ca (fun z => nxca z.symm)]; exact c16, fun i hi => ?_⟩, fun i j hi hj hij => ?_, fun i hi => ?_⟩
        · rw [nI_pred]
        · simp only [va_up, List.length_append, List.length_singleton]
          by_cases hi2 : i = ns.length
          · rw [if_pos hi2, if_pos (by omega), if_pos hi2]
          · rw [if_neg hi2, hv i hi, if_neg hi2]
            by_cases hi3 : i < ns.length
            · rw [if_pos hi3, if_pos (by omega)]
            · rw [if_neg hi3, if_neg (by omega)]
        · simp only [List.length_append, List.length_singleton] at hi hj
          by_cases hi2 : i = ns.length
          · by_cases hj2 : j = ns.length
            · omega
            · have lj := tG_lt W (tci j (by omega)) (by decide)
              simp only [if_pos hi2, if_neg hj2] at hij
              omega
          · have lj := tG_lt W (tci i (by omega)) (by decide)
            by_cases hj2 : j = ns.length
            · simp only [if_neg hi2, if_pos hj2] at hij
              omega
            · simp only [if_neg hi2, if_neg hj2] at hij
              exact inj i j (by omega) (by omega) hij
        · simp only [List.length_append, List.length_singleton] at hi
          by_cases hi2 : i = ns.length
          · subst hi2
            show cm1 h18 (if ns.length = ns.length then h.1 else cs ns.length) _ _
            rw [if_pos rfl]
            have c18' := (un2 h.1 (Nat.le_refl _)).trans c15
            refine ⟨nc, nb, vr, ir, ⟨by rw [pu_get c18']; rfl, by rw [pu_get c18']; rfl, by rw [pu_get c18']; rfl, by rw [pu_get c18', hz]; rfl⟩, ?_, ⟨d1, (un2 vr (by omega)).trans v15⟩, d2, (un2 ir (by omega)).trans i15⟩
            have e9 : (ns ++ [ts]).getD ns.length [] = ts := by simp
            rw [e9]
            rw [List.take_of_length_le c1] at H15
            exact chn_eq H15 (un2 nc (by omega)) (un2 nb (by omega))
          · show cm1 h18 (if i = ns.length then h.1 else cs i) _ _
            rw [if_neg hi2]
            have e9 : (ns ++ [ts]).getD i [] = ns.getD i [] := by
              simp only [List.getD]
              rw [List.getElem?_append_left (by omega)]
            rw [e9]
            obtain ⟨nc', nb', vr', ir', ⟨g0, g2, g3, g4⟩, ec, ⟨d1', l1'⟩, d2', l2'⟩ := hc i (by omega)
            have tc := tci i (by omega)
            have fc := un (cs i) (tG_lt W tc (by decide)) (tg_ne tc ta (by simp)) (tg_ne tc tca (by simp))
            have tn : tG G nc' 1 3 := kw_ref (ci := 2) (k := 0) W tc (by decide) rfl rfl g0
            have tb : tG G nb' 21 3 := kw_ref (ci := 0) (k := 0) W tn (by decide) rfl rfl (chn_g0 ec)
            have tv : tG G vr' 29 0 := kw_ref (ci := 2) (k := 2) W tc (by decide) rfl rfl g2
            have tr : tG G ir' 22 0 := kw_ref (ci := 2) (k := 3) W tc (by decide) rfl rfl g3
            exact ⟨nc', nb', vr', ir', ⟨kg_fr fc g0, kg_fr fc g2, kg_fr fc g3, kg_fr fc g4⟩, chn_eq ec (un _ (tG_lt W tn (by decide)) (tg_ne tn ta (by simp)) (tg_ne tn tca (by simp))) (un _ (tG_lt W tb (by decide)) (tg_ne tb ta (by simp)) (tg_ne tb tca (by simp))), ⟨d1', (un _ (tG_lt W tv (by decide)) (tg_ne tv ta (by simp)) (tg_ne tv tca (by simp))).trans l1'⟩, d2', (un _ (tG_lt W tr (by decide)) (tg_ne tr ta (by simp)) (tg_ne tr tca (by simp))).trans l2'⟩
      · rw [if_neg (nI_nlt (by omega) (by omega))]
        exact ⟨_, h, ns, rfl, Or.inr (Or.inr (Or.inl ⟨c1, hr'.mp c2, by omega, rfl, rfl⟩)), T, cs, q0⟩
    · rw [if_neg c2]
      exact ⟨_, h, ns, rfl, Or.inr (Or.inl ⟨c1, fun z => c2 (hr'.mpr z), rfl, rfl⟩), T, cs, q0⟩
  · rw [if_neg (show ¬ nI ts.length ≤ 40 from nI_ge (a := 40) (by omega) (by omega))]
    exact ⟨_, h, ns, rfl, Or.inl ⟨by omega, rfl, rfl⟩, T, cs, q0⟩
set_option maxHeartbeats 4000000 in
theorem xc_community {G : GT} {h : sm_H} {x tp it ca : Nat} {ts : List Int64} {ns : List (List Int64)} {vc : Nat → Int32} {a1 : Int32} (W : Wf G h) (ta : tG G x 12 0) (tt : tG G tp 1 1) (ti : tG G it 21 1) (p : a1 = 0 ∨ a1 = 1) (T : HT h x tp it ts) (q : CM h x ca ns vc) (hz : vc ns.length = 0) : ∃ r h' ns', fX11_community x a1 h = some (r, h') ∧ comR ts ns r ns' ∧ HT h' x tp it [] ∧ CM h' x ca ns' vc := by
  obtain ⟨r, h2, ns', e, R, T2, q2⟩ := xc_new W ta tt ti p T q hz
  obtain ⟨r', h2', G2, e', ⟨W2, s2, -, -, g2, -⟩, -⟩ := kX11_newCommunity W ta p
  rw [e] at e'
  cases e'
  have la := tG_lt W ta (by decide)
  have lt := tG_lt W tt (by decide)
  have ta2 : tG G2 x 12 0 := by unfold tG; rw [g2 x la (Nat.ne_of_lt la)]; exact ta
  have tt2 : tG G2 tp 1 1 := by unfold tG; rw [g2 tp lt (Nat.ne_of_lt lt)]; exact tt
  obtain ⟨vs, hx, -, -⟩ := kw_obj (ci := 11) W ta (by decide)
  obtain ⟨h4, e4, H4, F4⟩ := ch_clear T2.2
  have F : frB [(1, 1)] G2 h2 h4 := fun b _ k => F4.2.2 b (fun z => k (by rw [z, tt2.1, tt2.2]; simp))
  have kx := F4.2.2 x (tg_ne ta2 tt2 (by simp))
  refine ⟨r, h4, ns', ?_, R, ⟨kg_fr kx T2.1, H4⟩, CM_fr W2 ta2 F (kg_fr kx rfl) (kg_fr kx rfl) (by simp) (by simp) (by simp) (by simp) (by simp) (by simp) q2⟩
  unfold fX11_community
  rw [pu_obj hx, Option.bind_some, e, pu_cb, T2.1, pu_Rf, Option.bind_some, pu_obj T2.2.1, Option.bind_some, e4, pu_cb]
-- the class's view(), exactly
set_option maxHeartbeats 4000000 in
theorem xv_addView {G : GT} {h : sm_H} {c b ρ vr ir : Nat} {v a2 : Int32} (Wh : Wf G h) (t_a0 : tG G c 3 0) (t_a1 : tG G b 1 ρ) (p0_ : a2 = 0 ∨ a2 = 1) (e2 : sm_get h (some c) 2 2 = some (va_rf (some vr))) (e3 : sm_get h (some c) 2 3 = some (va_rf (some ir))) (e4 : sm_get h (some c) 2 4 = some (.int v)) (lv : (G vr).2.1 = 8) (li : (G ir).2.1 = 8) (h0 : 0 ≤ v.toInt) (h8 : v.toInt < 8) : kJ (RA h.1 h.1 [(1, 0), (3, 0), (21, 0), (22, 0), (29, 0)] (h.1 + 2) (h.2.1 + 18) G h (fun (_ : GT) (r : Int32) (h' : sm_H) => r = 1 ∧ (∀ k, k ≠ 4 → sm_get h' (some c) 2 k = sm_get h (some c) 2 k) ∧ sm_get h' (some c) 2 4 = some (.int (v + 1)) ∧ ∀ d, tG G d 3 0 → d ≠ c → h'.2.2 d = h.2.2 d)) (fX2_addView c (some b) a2 h) := by
  have L0 : (0 : Int32).toInt = 0 := rfl
  have L16 : (16 : Int32).toInt = 16 := rfl
  have tv : tG G vr 29 0 := kw_ref (ci := 2) (k := 2) Wh t_a0 (by decide) rfl rfl e2
  have tr : tG G ir 22 0 := kw_ref (ci := 2) (k := 3) Wh t_a0 (by decide) rfl rfl e3
  unfold fX2_addView
  refine k_kI e4 ?_
  refine k_lt (fun c3_ => ?_) (fun c3_ => ?_)
  · exfalso; omega
  · refine k_kI e4 ?_
    refine k_kR e2 ?_
    refine k_len (B := 1200) Wh tv rfl (fun x4 x4l x4u => ?_)
    refine k_le (fun c7_ => ?_) (fun c7_ => ?_)
    · exfalso; omega
    · refine k_kI e4 ?_
      refine k_kR e3 ?_
      refine k_len (B := 1200) Wh tr rfl (fun x7 x7l x7u => ?_)
      refine k_lt (fun c11_ => ?_) (fun c11_ => ?_)
      · refine k_new (n := 2) Wh (by omega) rfl (fun h12_ sh12_ uh12_ eh12_ gh12_ Wh12_ zh12_ => ?_)
        refine k_cA (by omega) (by omega) (by first | decide | exact fun _ q => q) (kX0_init (ρ := 0) (R := 16) Wh12_ (by omega) zh12_ eh12_ (by first | omega | assumption | decide) (by first | omega | assumption | decide)) (fun v17_ h16_ Gh16_ fh16_ qh16_ => ?_)
        have Wh16_ := fh16_.1
        have sh16_ := fh16_.2.1
        have th16_ := fh16_.2.2.1
        have uh16_ := fh16_.2.2.2.1
        have t21_ := tg_up fh16_ Wh12_ t_a0 (by decide) (tg_z t_a0 (by decide) zh12_)
        have t22_ := tg_up fh16_ Wh12_ t_a1 (by decide) (tg_z t_a1 (by decide) zh12_)
        have t23_ := tg_up fh16_ Wh12_ tv (by decide) (tg_z tv (by decide) zh12_)
        have l23_ := tg_upl fh16_ Wh12_ tv (by decide) (tg_z tv (by decide) zh12_)
        have t24_ := tg_up fh16_ Wh12_ tr (by decide) (tg_z tr (by decide) zh12_)
        have l24_ := tg_upl fh16_ Wh12_ tr (by decide) (tg_z tr (by decide) zh12_)
        refine k_obj Wh16_ qh16_ (by decide) ?_
        refine k_cWA (kX0_copy Wh16_ qh16_ t22_) (by first | decide | exact fun _ q => q) (fun v25_ h26_ fh26_ qv25_ => ?_)
        have Wh26_ := fh26_.1
        have sh26_ := fh26_.2.1
        have uh26_ := fh26_.2.2.1
        have keep26 : ∀ d, tG G d 3 0 → h26_.2.2 d = h.2.2 d := fun d td => by
          have td' := tg_up fh16_ Wh12_ td (by decide) (tg_z td (by decide) zh12_)
          rw [fh26_.2.2.2 d (by rw [td'.1, td'.2]; simp), fh16_.2.2.2.2.2 d (tG_lt Wh12_ td (by decide)) (tg_z td (by decide) zh12_) (by rw [td.1, td.2]; simp), gh12_ d (Nat.ne_of_lt (tG_lt Wh td (by decide)))]
        refine k_kR (kg_fr (keep26 c t_a0) e2) ?_
        refine k_kI (kg_fr (keep26 c t_a0) e4) ?_
        refine k_A t23_ (by first | decide | simp) (w_sR Wh26_ t23_ (by decide) (by decide) rfl (by first | omega | decide) (by first | omega | decide) (tN_s qh16_)) (fun h30_ oh30_ _ => ?_)
        have Wh30_ := oh30_.1
        have sh30_ := oh30_.2.1
        have uh30_ := oh30_.2.2.1
        have keep30 : ∀ d, tG G d 3 0 → h30_.2.2 d = h.2.2 d := fun d td => by
          have td' := tg_up fh16_ Wh12_ td (by decide) (tg_z td (by decide) zh12_)
          rw [oh30_.2.2.2 d (tg_ne td' t23_ (by simp)), keep26 d td]
        refine k_kR (kg_fr (keep30 c t_a0) e3) ?_
        refine k_kI (kg_fr (keep30 c t_a0) e4) ?_
        refine k_A t24_ (by first | decide | simp) (w_sZ Wh30_ t24_ (nar_b (by assumption)) (by first | omega | decide) (by first | omega | decide)) (fun h33_ oh33_ _ => ?_)
        have Wh33_ := oh33_.1
        have sh33_ := oh33_.2.1
        have uh33_ := oh33_.2.2.1
        have keep33 : ∀ d, tG G d 3 0 → h33_.2.2 d = h.2.2 d := fun d td => by
          have td' := tg_up fh16_ Wh12_ td (by decide) (tg_z td (by decide) zh12_)
          rw [oh33_.2.2.2 d (tg_ne td' t24_ (by simp)), keep30 d td]
        refine k_kI (kg_fr (keep33 c t_a0) e4) ?_
        refine k_A t21_ (by first | decide | simp) (w_putI Wh33_ t21_ (by decide) rfl (i_lo _) (i_hi _)) (fun h35_ oh35_ xh35_ => ?_)
        have Wh35_ := oh35_.1
        have sh35_ := oh35_.2.1
        have uh35_ := oh35_.2.2.1
        exact k_rA Wh35_ (by omega) (by omega) ⟨rfl, fun k hk => ((xh35_ k).trans (if_neg hk)).trans (kg_fr (keep33 c t_a0) rfl), (xh35_ 4).trans (if_pos rfl), fun d td hd => (oh35_.2.2.2 d hd).trans (keep33 d td)⟩
      · exfalso; omega
theorem xv_full {h : sm_H} {c b vr : Nat} {v a2 : Int32} {d1 : (Nat → Int32) ⊕ (Nat → Int64) ⊕ (Nat → UInt32) ⊕ (Nat → UInt64) ⊕ (Nat → Option Nat)} (e2 : sm_get h (some c) 2 2 = some (va_rf (some vr))) (e4 : sm_get h (some c) 2 4 = some (.int v)) (lv : h.2.2 vr = some (.inl (9, 8, d1))) (h8 : v.toInt = 8) : fX2_addView c (some b) a2 h = some (0, h) := by
  have ev : v = nI 8 := Int32.toInt_inj.mp (by rw [h8]; rfl)
  subst ev
  unfold fX2_addView
  rw [e4, pu_I, Option.bind_some, if_neg (nI_pos (by decide)), Option.bind_some, e2, pu_Rf, Option.bind_some, pu_lenN lv, Option.bind_some, if_pos (nI_le (Nat.le_refl _) (by decide))]
theorem xv_hand {G : GT} {h : sm_H} {x hp hi : Nat} {hs : Int32} (W : Wf G h) (th : tG G hp 1 2) (q : CH 1 h x hp hi hs) (h1 : hs.toInt ≤ 16) : fX11_isNameAtHand x 16 h = some (if hs < 2 then 0 else 1, h) := by
  obtain ⟨vs, he, -, -⟩ := kw_obj (ci := 0) W th (by decide)
  have sz : fX0_size hp h = some (hs, h) := by
    unfold fX0_size
    rw [q.2.2, pu_I, Option.bind_some]
  unfold fX11_isNameAtHand
  rw [q.1, pu_Rf, Option.bind_some, pu_obj he, Option.bind_some, sz, pu_cb]
  by_cases c : hs < 2
  · rw [if_pos c, if_pos c]
  · rw [if_neg c, if_neg c, q.1, pu_Rf, Option.bind_some, pu_obj he, Option.bind_some, sz, pu_cb, if_neg (by rw [Int32.lt_iff_toInt_lt, show (16 : Int32).toInt = 16 from rfl]; omega)]
def viewR (n : Nat) (hs : Int32) (vc : Nat → Int32) (c r : Int32) (vc' : Nat → Int32) : Prop := ((c.toInt < 0 ∨ (n : Int) ≤ c.toInt) ∧ r = -1 ∧ vc' = vc) ∨ ∃ j : Nat, j < n ∧ c = nI j ∧ ((hs.toInt < 2 ∧ r = -2 ∧ vc' = vc) ∨ (2 ≤ hs.toInt ∧ (vc j).toInt = 8 ∧ r = -4 ∧ vc' = vc) ∨ (2 ≤ hs.toInt ∧ (vc j).toInt < 8 ∧ r = vc j + 1 ∧ vc' = upd vc j (vc j + 1)))
theorem viewR_eq {n : Nat} {hs c r1 r2 : Int32} {vc v1 v2 : Nat → Int32} (hn : n ≤ 8) (h1 : viewR n hs vc c r1 v1) (h2 : viewR n hs vc c r2 v2) : r1 = r2 ∧ v1 = v2 := by
  rcases h1 with ⟨a, rfl, rfl⟩ | ⟨j, a, b, h1⟩
  · rcases h2 with ⟨a', rfl, rfl⟩ | ⟨j', a', b', h2⟩
    · exact ⟨rfl, rfl⟩
    · exfalso
      have := nI_toInt (n := j') (by omega)
      rw [← b'] at this
      omega
  · rcases h2 with ⟨a', rfl, rfl⟩ | ⟨j', a', b', h2⟩
    · exfalso
      have := nI_toInt (n := j) (by omega)
      rw [← b] at this
      omega
    · have e : j = j' := (nI_eq (by omega) (by omega)).mp (b.symm.trans b')
      subst e
      rcases h1 with ⟨p, rfl, rfl⟩ | ⟨p, p', rfl, rfl⟩ | ⟨p, p', rfl, rfl⟩ <;> rcases h2 with ⟨q, rfl, rfl⟩ | ⟨q, q', rfl, rfl⟩ | ⟨q, q', rfl, rfl⟩ <;> first | exact ⟨rfl, rfl⟩ | (exfalso; omega)
def VW (h h' : sm_H) (cs : Nat → Nat) (n : Nat) (vc' : Nat → Int32) : Prop := ∀ i, i < n → (∀ k, k ≠ 4 → sm_get h' (some (cs i)) 2 k = sm_get h (some (cs i)) 2 k) ∧ sm_get h' (some (cs i)) 2 4 = some (.int (vc' i))
theorem VW_rf {h : sm_H} {x ca : Nat} {ns : List (List Int64)} {vc : Nat → Int32} {cs : Nat → Nat} (q : CMs h x ca ns vc cs) : VW h h cs ns.length vc := fun i hi => ⟨fun _ _ => rfl, by
  obtain ⟨nc, nb, vr, ir, ⟨g0, g2, g3, g4⟩, -⟩ := q.2.2.2 i hi
  exact g4⟩
theorem xv_33n {G : GT} {R : Int32 → sm_H → GT → Prop} {h : sm_H} {x : Nat} {a2 : Int32} (hR : R (-1) h G) : kJ R (fX11_newView_33 x a2 none h) := by
  unfold fX11_newView_33
  rw [if_pos rfl]
  exact ⟨_, h, G, rfl, hR⟩
set_option maxHeartbeats 4000000 in
theorem xv_33 {G : GT} {h : sm_H} {x ca hp hi j : Nat} {hs a2 : Int32} {ns : List (List Int64)} {vc : Nat → Int32} {cs : Nat → Nat} (W : Wf G h) (ta : tG G x 12 0) (th : tG G hp 1 2) (p : a2 = 0 ∨ a2 = 1) (q1 : CH 1 h x hp hi hs) (h1 : hs.toInt ≤ 16) (q : CMs h x ca ns vc cs) (hj : j < ns.length) (v0 : 0 ≤ (vc j).toInt) (v8 : (vc j).toInt ≤ 8) : kJ (fun r h' _ => ∃ vc', viewR ns.length hs vc (nI j) r vc' ∧ VW h h' cs ns.length vc') (fX11_newView_33 x a2 (some (cs j)) h) := by
  have L2 : (2 : Int32).toInt = 2 := rfl
  have tc := cm_cs W ta q hj
  obtain ⟨vs, hx, -, -⟩ := kw_obj (ci := 11) W ta (by decide)
  obtain ⟨ws, hc, -, -⟩ := kw_obj (ci := 2) W tc (by decide)
  obtain ⟨nc, nb, vr, ir, ⟨g0, g2, g3, g4⟩, ec, ⟨d1, l1⟩, d2, l2⟩ := q.2.2.2 j hj
  have tv : tG G vr 29 0 := kw_ref (ci := 2) (k := 2) W tc (by decide) rfl rfl g2
  have tr : tG G ir 22 0 := kw_ref (ci := 2) (k := 3) W tc (by decide) rfl rfl g3
  unfold fX11_newView_33
  rw [if_neg (by simp), pu_obj hx, Option.bind_some, xv_hand W th q1 h1, pu_cb]
  by_cases c : hs < 2
  · rw [if_pos c, if_pos rfl]
    rw [Int32.lt_iff_toInt_lt] at c
    exact ⟨_, h, G, rfl, vc, Or.inr ⟨j, hj, rfl, Or.inl ⟨by omega, rfl, rfl⟩⟩, VW_rf q⟩
  · rw [if_neg c, if_neg (by decide), q1.1, pu_Rf, Option.bind_some, pu_obj hc, Option.bind_some]
    rw [Int32.lt_iff_toInt_lt] at c
    by_cases c8 : (vc j).toInt = 8
    · rw [xv_full g2 g4 l1 c8, pu_cb, if_pos rfl]
      exact ⟨_, h, G, rfl, vc, Or.inr ⟨j, hj, rfl, Or.inr (Or.inl ⟨by omega, c8, rfl, rfl⟩)⟩, VW_rf q⟩
    · obtain ⟨r, h5, G5, e, ⟨W5, s5, -, -, g5, -⟩, rfl, k0, k4, kd⟩ := xv_addView W tc th p g2 g3 g4 (len_cell (tt := 9) W tv l1) (len_cell (tt := 2) W tr l2) v0 (by omega)
      have lc := tG_lt W tc (by decide)
      have tc5 : tG G5 (cs j) 3 0 := by unfold tG; rw [g5 _ lc (Nat.ne_of_lt lc)]; exact tc
      obtain ⟨ws', hc5, -, -⟩ := kw_obj (ci := 2) W5 tc5 (by decide)
      rw [e, pu_cb, if_neg (by decide), pu_obj hc5, Option.bind_some]
      have evc : fX2_viewCount (cs j) h5 = some (vc j + 1, h5) := by
        unfold fX2_viewCount
        rw [k4, pu_I, Option.bind_some]
      rw [evc, pu_cb]
      refine ⟨_, h5, G, rfl, upd vc j (vc j + 1), Or.inr ⟨j, hj, rfl, Or.inr (Or.inr ⟨by omega, by omega, rfl, rfl⟩)⟩, fun i hi => ?_⟩
      by_cases hij : i = j
      · subst hij
        exact ⟨k0, by rw [k4]; simp [upd]⟩
      · have hd := kd (cs i) (cm_cs W ta q hi) (fun z => hij (q.2.2.1 i j hi hj z))
        obtain ⟨_, _, _, _, ⟨_, _, _, g4'⟩, _⟩ := q.2.2.2 i hi
        exact ⟨fun k _ => kg_fr hd rfl, by rw [kg_fr hd g4']; simp [upd, hij]⟩
set_option maxHeartbeats 4000000 in
theorem xv_view {G : GT} {h : sm_H} {x ca hp hi : Nat} {hs a1 a2 : Int32} {ns : List (List Int64)} {vc : Nat → Int32} {cs : Nat → Nat} (W : Wf G h) (ta : tG G x 12 0) (th : tG G hp 1 2) (p : a2 = 0 ∨ a2 = 1) (q1 : CH 1 h x hp hi hs) (h1 : hs.toInt ≤ 16) (q : CMs h x ca ns vc cs) (hv : ∀ j, j < ns.length → 0 ≤ (vc j).toInt ∧ (vc j).toInt ≤ 8) : kJ (fun r h' _ => ∃ vc', viewR ns.length hs vc a1 r vc' ∧ VW h h' cs ns.length vc') (fX11_view x a1 a2 h) := by
  have L0 : (0 : Int32).toInt = 0 := rfl
  have L8 : (nI 8).toInt = 8 := rfl
  have l8 := q.1.2.2
  obtain ⟨f, hf, hfv⟩ := q.2.1
  have e3 := q.1.1
  have nv : kJ (fun r h' _ => ∃ vc', viewR ns.length hs vc a1 r vc' ∧ VW h h' cs ns.length vc') (fX11_newView x a1 a2 h) := by
    unfold fX11_newView
    refine k_lt (fun c => ?_) (fun c => ?_)
    · unfold fX11_newView_18
      rw [if_pos rfl]
      exact xv_33n (G := G) ⟨vc, Or.inl ⟨Or.inl (by omega), rfl, rfl⟩, VW_rf q⟩
    · rw [e3, pu_Rf, Option.bind_some, pu_lenN hf, Option.bind_some]
      refine k_le (fun c2 => ?_) (fun c2 => ?_)
      · unfold fX11_newView_18
        rw [if_pos rfl]
        exact xv_33n (G := G) ⟨vc, Or.inl ⟨Or.inr (by omega), rfl, rfl⟩, VW_rf q⟩
      · obtain ⟨j, hj, rfl⟩ := kw_ix (i := a1) (n := 8) (by omega) (by omega)
        have hjt := nI_toInt (n := j) (by omega)
        unfold fX11_newView_18
        rw [if_neg (by decide), e3, pu_Rf, Option.bind_some, pu_aR hf hj (by decide), Option.bind_some, hfv j hj]
        by_cases hl : j < ns.length
        · rw [if_pos hl]
          exact xv_33 W ta th p q1 h1 q hl (hv j hl).1 (hv j hl).2
        · rw [if_neg hl]
          exact xv_33n (G := G) ⟨vc, Or.inl ⟨Or.inr (by omega), rfl, rfl⟩, VW_rf q⟩
  obtain ⟨r, h2, _, e, vc', R, V⟩ := nv
  obtain ⟨r', h2', G2, e', ⟨W2, s2, -, -, g2, f2⟩, -⟩ := kX11_newView (a1 := a1) W ta p
  rw [e] at e'
  cases e'
  have la := tG_lt W ta (by decide)
  have lt := tG_lt W th (by decide)
  have ta2 : tG G2 x 12 0 := by unfold tG; rw [g2 x la (Nat.ne_of_lt la)]; exact ta
  have th2 : tG G2 hp 1 2 := by unfold tG; rw [g2 hp lt (Nat.ne_of_lt lt)]; exact th
  have q2 := CH_fr (fun b hb z => f2 b hb (Nat.ne_of_lt hb) z) W ta th (by simp) (by simp) q1
  obtain ⟨vs, hx, -, -⟩ := kw_obj (ci := 11) W ta (by decide)
  unfold fX11_view
  rw [pu_obj hx, Option.bind_some, e, pu_cb]
  refine k_kR q2.1 ?_
  refine k_obj W2 th2 (by decide) ?_
  refine kc_of (ch_cl (ts := 0) W2 th2 q2.2.1) (fun _ h4 _ c4 => ?_)
  refine k_rR (G' := G2) ⟨vc', R, fun i hi => ?_⟩
  have tci := cm_cs W ta q hi
  have li := tG_lt W tci (by decide)
  have tci2 : tG G2 (cs i) 3 0 := by unfold tG; rw [g2 (cs i) li (Nat.ne_of_lt li)]; exact tci
  have k4 := c4.1.2.2.2 (cs i) (by rw [tci2.1, tci2.2]; simp)
  exact ⟨fun k hk => (kg_fr k4 rfl).trans ((V i hi).1 k hk), kg_fr k4 (V i hi).2⟩
