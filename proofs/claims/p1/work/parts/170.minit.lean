def S0 : MS := (fun k => if k = 5 then 484 else 0, 0, fun _ _ => 0, fun _ _ => 0)
-- what is made of it so far: j rows, the limit
def mW (m j : Nat) (lim : Int32) (k : Nat) : Value := if (mT k).1 = 0 then .int (if k = 5 then lim else 0) else if (mT k).1 = 1 then .long 0 else if (mT k).2.2.2 ≤ j then .ref (m + (mT k).2.2.2) else .null
def Mp (h0 h : sm_H) (m j : Nat) (lim : Int32) (sl : Nat) : Prop := h.1 = m + 1 + j ∧ h.2.1 = sl ∧ h.2.2 m = some (.inr (12, (List.range 66).map (mW m j lim))) ∧ (∀ k, k < 66 → 2 ≤ (mT k).1 → (mT k).2.2.2 ≤ j → h.2.2 (m + (mT k).2.2.2) = some (.inl ((mT k).2.1, (mT k).2.2.1, mA S0 k))) ∧ ∀ c, ¬ inM m c → h.2.2 c = h0.2.2 c
theorem mp_row {h0 h : sm_H} {m j sl : Nat} {lim : Int32} (H : Mp h0 h m j lim sl) {k : Nat} (hk : k < 66) (h2 : 2 ≤ (mT k).1) (ho : (mT k).2.2.2 = j + 1) {x : (Nat → Int32) ⊕ (Nat → Int64) ⊕ (Nat → UInt32) ⊕ (Nat → UInt64) ⊕ (Nat → Option Nat)} (hx : x = mA S0 k) {t ln : Nat} (ht : t = (mT k).2.1) (hln : ln = (mT k).2.2.1) : ∃ h', sm_put (sm_nwa h t ln x) (some m) 12 k (sm_v (vR (some h.1))) = some h' ∧ Mp h0 h' m (j + 1) lim (sl + ln) := by
  subst hx ht hln
  obtain ⟨e1, e2, e3, e4, e5⟩ := H
  have hj := (mT_off k hk h2).2
  have hm : (sm_nwa h (mT k).2.1 (mT k).2.2.1 (mA S0 k)).2.2 m = some (.inr (12, (List.range 66).map (mW m j lim))) := by
    show va_up h.2.2 h.1 _ m = _
    rw [va_up_ne _ _ (by omega)]
    exact e3
  have e : ((List.range 66).map (mW m j lim)).set k (sm_v (vR (some h.1))) = (List.range 66).map (mW m (j + 1) lim) := by
    apply List.ext_getElem
    · simp
    · intro i h1 h2'
      simp at h1
      by_cases hi : k = i
      · subst hi
        have hv : mW m (j + 1) lim k = .ref h.1 := by
          have hh : h.1 = m + (mT k).2.2.2 := by omega
          unfold mW
          rw [if_neg (by omega), if_neg (by omega), if_pos (by omega), hh]
        simp [hv, sm_v, va_rf]
      · have hv : mW m (j + 1) lim i = mW m j lim i := by
          unfold mW
          by_cases g0 : (mT i).1 = 0
          · rw [if_pos g0, if_pos g0]
          · rw [if_neg g0, if_neg g0]
            by_cases g1 : (mT i).1 = 1
            · rw [if_pos g1, if_pos g1]
            · rw [if_neg g1, if_neg g1]
              have g2 : (mT i).2.2.2 ≠ j + 1 := fun q => hi (mT_inj k hk i h1 h2 (by omega) (by omega))
              by_cases g3 : (mT i).2.2.2 ≤ j
              · rw [if_pos g3, if_pos (by omega)]
              · rw [if_neg g3, if_neg (by omega)]
        simp [hi, hv]
  refine ⟨_, pu_put hm (by simpa using hk) _, ?_, ?_, ?_, ?_, ?_⟩
  · show h.1 + 1 = _; omega
  · show h.2.1 + _ = _; rw [e2]
  · rw [hu_at, e]
  · intro i hi g2 g3
    have gi := (mT_off i hi g2).1
    rw [hu_ne (by omega)]
    show va_up h.2.2 h.1 _ _ = _
    by_cases g4 : (mT i).2.2.2 = j + 1
    · have : i = k := mT_inj i hi k hk g2 h2 (by omega)
      subst this
      rw [show m + (mT i).2.2.2 = h.1 by omega, va_up_self]
    · rw [va_up_ne _ _ (by omega)]
      exact e4 i hi g2 (by omega)
  · intro c hc
    rw [hu_ne (fun q => hc (by rw [q]; exact ⟨Nat.le_refl _, by omega⟩))]
    show va_up h.2.2 h.1 _ _ = _
    rw [va_up_ne _ _ (fun q => hc (by rw [q]; exact ⟨by omega, by omega⟩))]
    exact e5 c hc
theorem mp_put {h0 h : sm_H} {m j sl : Nat} {lim : Int32} (H : Mp h0 h m j lim sl) {k : Nat} (hk : k < 66) (h0' : (mT k).1 = 0) {v lim' : Int32} (hv : (if k = 5 then lim' else 0) = v) (hl : k ≠ 5 → lim' = lim) : ∃ h', sm_put h (some m) 12 k (sm_v (vI v)) = some h' ∧ Mp h0 h' m j lim' sl := by
  obtain ⟨e1, e2, e3, e4, e5⟩ := H
  have e : ((List.range 66).map (mW m j lim)).set k (sm_v (vI v)) = (List.range 66).map (mW m j lim') := by
    apply List.ext_getElem
    · simp
    · intro i h1 h2'
      simp at h1
      by_cases hi : k = i
      · subst hi
        simp [mW, h0', hv, sm_v]
      · have hw : mW m j lim' i = mW m j lim i := by
          unfold mW
          by_cases g0 : (mT i).1 = 0
          · rw [if_pos g0, if_pos g0]
            by_cases g5 : i = 5
            · rw [if_pos g5, if_pos g5]
              rw [hl (fun q => hi (by omega))]
            · rw [if_neg g5, if_neg g5]
          · rw [if_neg g0, if_neg g0]
        simp [hi, hw]
  refine ⟨_, pu_put e3 (by simpa using hk) _, e1, e2, ?_, ?_, ?_⟩
  · rw [hu_at, e]
  · intro i hi g2 g3
    have gi := (mT_off i hi g2).1
    rw [hu_ne (by omega)]
    exact e4 i hi g2 g3
  · intro c hc
    rw [hu_ne (fun q => hc (by rw [q]; exact ⟨Nat.le_refl _, by omega⟩))]
    exact e5 c hc
theorem mp_end {h0 h : sm_H} {m sl : Nat} (H : Mp h0 h m 39 484 sl) : Mo h m S0 := by
  obtain ⟨e1, e2, e3, e4, e5⟩ := H
  refine ⟨?_, fun k hk h2 => e4 k hk h2 (mT_off k hk h2).2⟩
  suffices e : (List.range 66).map (mW m 39 484) = (List.range 66).map (mV m S0) by rw [e3, e]
  apply List.map_congr_left
  intro k hk
  have hk : k < 66 := List.mem_range.mp hk
  unfold mW mV
  by_cases g0 : (mT k).1 = 0
  · rw [if_pos g0, if_pos g0]; rfl
  · rw [if_neg g0, if_neg g0]
    by_cases g1 : (mT k).1 = 1
    · rw [if_pos g1, if_pos g1]; rfl
    · rw [if_neg g1, if_neg g1, if_pos]
      exact (mT_off k hk (by omega)).2
set_option maxRecDepth 100000 in
set_option maxHeartbeats 8000000 in
theorem mo_init {h : sm_H} {m : Nat} (hm : h.1 = m + 1) (ho : h.2.2 m = some (.inr (12, (List.range 66).map (mW m 0 0)))) : ∃ h', fX12_init m h = some ((), h') ∧ Mo h' m S0 ∧ h'.1 = m + 40 ∧ h'.2.1 = h.2.1 + 48594 ∧ ∀ c, ¬ inM m c → h'.2.2 c = h.2.2 c := by
  have H : Mp h h m 0 0 h.2.1 := ⟨by omega, rfl, ho, fun k hk h2 h3 => absurd (mT_off k hk h2).1 (by omega), fun _ _ => rfl⟩
  unfold fX12_init
  simp only [sm_let]
  rw [if_neg (by decide)]
  obtain ⟨h1, e1, H⟩ := mp_row H (k := 1) (x := .inl (fun _ => 0)) (t := 3) (ln := (1200 : Int32).toNatClampNeg) (by decide) (by decide) rfl rfl rfl rfl
  rw [e1, Option.bind_some]
  rw [if_neg (by decide)]
  obtain ⟨h2, e2, H⟩ := mp_row H (k := 3) (x := .inr (.inl (fun _ => 0))) (t := 1) (ln := (16 : Int32).toNatClampNeg) (by decide) (by decide) rfl rfl rfl rfl
  rw [e2, Option.bind_some]
  obtain ⟨h3, e3, H⟩ := mp_put H (k := 5) (v := (484 : Int32)) (lim' := 484) (by decide) rfl rfl (by intro q; exact absurd rfl q)
  rw [e3, Option.bind_some]
  rw [if_neg (by decide)]
  obtain ⟨h4, e4, H⟩ := mp_row H (k := 7) (x := .inl (fun _ => 0)) (t := 0) (ln := (8 : Int32).toNatClampNeg) (by decide) (by decide) rfl rfl rfl rfl
  rw [e4, Option.bind_some]
  rw [if_neg (by decide)]
  obtain ⟨h5, e5, H⟩ := mp_row H (k := 9) (x := .inr (.inl (fun _ => 0))) (t := 1) (ln := (640 : Int32).toNatClampNeg) (by decide) (by decide) rfl rfl rfl rfl
  rw [e5, Option.bind_some]
  rw [if_neg (by decide)]
  obtain ⟨h6, e6, H⟩ := mp_row H (k := 10) (x := .inl (fun _ => 0)) (t := 0) (ln := (40 : Int32).toNatClampNeg) (by decide) (by decide) rfl rfl rfl rfl
  rw [e6, Option.bind_some]
  rw [if_neg (by decide)]
  obtain ⟨h7, e7, H⟩ := mp_row H (k := 11) (x := .inl (fun _ => 0)) (t := 0) (ln := (40 : Int32).toNatClampNeg) (by decide) (by decide) rfl rfl rfl rfl
  rw [e7, Option.bind_some]
  rw [if_neg (by decide)]
  obtain ⟨h8, e8, H⟩ := mp_row H (k := 12) (x := .inl (fun _ => 0)) (t := 0) (ln := (40 : Int32).toNatClampNeg) (by decide) (by decide) rfl rfl rfl rfl
  rw [e8, Option.bind_some]
  rw [if_neg (by decide)]
  obtain ⟨h9, e9, H⟩ := mp_row H (k := 13) (x := .inr (.inl (fun _ => 0))) (t := 1) (ln := (40 : Int32).toNatClampNeg) (by decide) (by decide) rfl rfl rfl rfl
  rw [e9, Option.bind_some]
  rw [if_neg (by decide)]
  obtain ⟨h10, e10, H⟩ := mp_row H (k := 14) (x := .inr (.inl (fun _ => 0))) (t := 1) (ln := (40 : Int32).toNatClampNeg) (by decide) (by decide) rfl rfl rfl rfl
  rw [e10, Option.bind_some]
  rw [if_neg (by decide)]
  obtain ⟨h11, e11, H⟩ := mp_row H (k := 15) (x := .inl (fun _ => 0)) (t := 0) (ln := (40 : Int32).toNatClampNeg) (by decide) (by decide) rfl rfl rfl rfl
  rw [e11, Option.bind_some]
  rw [if_neg (by decide)]
  obtain ⟨h12, e12, H⟩ := mp_row H (k := 16) (x := .inl (fun _ => 0)) (t := 2) (ln := (40 : Int32).toNatClampNeg) (by decide) (by decide) rfl rfl rfl rfl
  rw [e12, Option.bind_some]
  rw [if_neg (by decide)]
  obtain ⟨h13, e13, H⟩ := mp_row H (k := 17) (x := .inr (.inl (fun _ => 0))) (t := 1) (ln := (640 : Int32).toNatClampNeg) (by decide) (by decide) rfl rfl rfl rfl
  rw [e13, Option.bind_some]
  rw [if_neg (by decide)]
  obtain ⟨h14, e14, H⟩ := mp_row H (k := 18) (x := .inl (fun _ => 0)) (t := 3) (ln := (25600 : Int32).toNatClampNeg) (by decide) (by decide) rfl rfl rfl rfl
  rw [e14, Option.bind_some]
  rw [if_neg (by decide)]
  obtain ⟨h15, e15, H⟩ := mp_row H (k := 19) (x := .inl (fun _ => 0)) (t := 0) (ln := (640 : Int32).toNatClampNeg) (by decide) (by decide) rfl rfl rfl rfl
  rw [e15, Option.bind_some]
  rw [if_neg (by decide)]
  obtain ⟨h16, e16, H⟩ := mp_row H (k := 20) (x := .inr (.inl (fun _ => 0))) (t := 1) (ln := (10240 : Int32).toNatClampNeg) (by decide) (by decide) rfl rfl rfl rfl
  rw [e16, Option.bind_some]
  rw [if_neg (by decide)]
  obtain ⟨h17, e17, H⟩ := mp_row H (k := 21) (x := .inl (fun _ => 0)) (t := 0) (ln := (640 : Int32).toNatClampNeg) (by decide) (by decide) rfl rfl rfl rfl
  rw [e17, Option.bind_some]
  rw [if_neg (by decide)]
  obtain ⟨h18, e18, H⟩ := mp_row H (k := 23) (x := .inr (.inl (fun _ => 0))) (t := 1) (ln := (64 : Int32).toNatClampNeg) (by decide) (by decide) rfl rfl rfl rfl
  rw [e18, Option.bind_some]
  rw [if_neg (by decide)]
  obtain ⟨h19, e19, H⟩ := mp_row H (k := 24) (x := .inl (fun _ => 0)) (t := 0) (ln := (4 : Int32).toNatClampNeg) (by decide) (by decide) rfl rfl rfl rfl
  rw [e19, Option.bind_some]
  rw [if_neg (by decide)]
  obtain ⟨h20, e20, H⟩ := mp_row H (k := 25) (x := .inl (fun _ => 0)) (t := 0) (ln := (4 : Int32).toNatClampNeg) (by decide) (by decide) rfl rfl rfl rfl
  rw [e20, Option.bind_some]
  rw [if_neg (by decide)]
  obtain ⟨h21, e21, H⟩ := mp_row H (k := 26) (x := .inl (fun _ => 0)) (t := 0) (ln := (4 : Int32).toNatClampNeg) (by decide) (by decide) rfl rfl rfl rfl
  rw [e21, Option.bind_some]
  rw [if_neg (by decide)]
  obtain ⟨h22, e22, H⟩ := mp_row H (k := 27) (x := .inl (fun _ => 0)) (t := 0) (ln := (64 : Int32).toNatClampNeg) (by decide) (by decide) rfl rfl rfl rfl
  rw [e22, Option.bind_some]
  rw [if_neg (by decide)]
  obtain ⟨h23, e23, H⟩ := mp_row H (k := 29) (x := .inl (fun _ => 0)) (t := 3) (ln := (320 : Int32).toNatClampNeg) (by decide) (by decide) rfl rfl rfl rfl
  rw [e23, Option.bind_some]
  rw [if_neg (by decide)]
  obtain ⟨h24, e24, H⟩ := mp_row H (k := 30) (x := .inl (fun _ => 0)) (t := 0) (ln := (8 : Int32).toNatClampNeg) (by decide) (by decide) rfl rfl rfl rfl
  rw [e24, Option.bind_some]
  rw [if_neg (by decide)]
  obtain ⟨h25, e25, H⟩ := mp_row H (k := 31) (x := .inl (fun _ => 0)) (t := 2) (ln := (8 : Int32).toNatClampNeg) (by decide) (by decide) rfl rfl rfl rfl
  rw [e25, Option.bind_some]
  rw [if_neg (by decide)]
  obtain ⟨h26, e26, H⟩ := mp_row H (k := 32) (x := .inl (fun _ => 0)) (t := 0) (ln := (8 : Int32).toNatClampNeg) (by decide) (by decide) rfl rfl rfl rfl
  rw [e26, Option.bind_some]
  rw [if_neg (by decide)]
  obtain ⟨h27, e27, H⟩ := mp_row H (k := 33) (x := .inr (.inl (fun _ => 0))) (t := 1) (ln := (1024 : Int32).toNatClampNeg) (by decide) (by decide) rfl rfl rfl rfl
  rw [e27, Option.bind_some]
  rw [if_neg (by decide)]
  obtain ⟨h28, e28, H⟩ := mp_row H (k := 34) (x := .inl (fun _ => 0)) (t := 0) (ln := (64 : Int32).toNatClampNeg) (by decide) (by decide) rfl rfl rfl rfl
  rw [e28, Option.bind_some]
  rw [if_neg (by decide)]
  obtain ⟨h29, e29, H⟩ := mp_row H (k := 35) (x := .inl (fun _ => 0)) (t := 2) (ln := (64 : Int32).toNatClampNeg) (by decide) (by decide) rfl rfl rfl rfl
  rw [e29, Option.bind_some]
  rw [if_neg (by decide)]
  obtain ⟨h30, e30, H⟩ := mp_row H (k := 36) (x := .inr (.inl (fun _ => 0))) (t := 1) (ln := (960 : Int32).toNatClampNeg) (by decide) (by decide) rfl rfl rfl rfl
  rw [e30, Option.bind_some]
  rw [if_neg (by decide)]
  obtain ⟨h31, e31, H⟩ := mp_row H (k := 37) (x := .inl (fun _ => 0)) (t := 0) (ln := (60 : Int32).toNatClampNeg) (by decide) (by decide) rfl rfl rfl rfl
  rw [e31, Option.bind_some]
  rw [if_neg (by decide)]
  obtain ⟨h32, e32, H⟩ := mp_row H (k := 38) (x := .inl (fun _ => 0)) (t := 0) (ln := (60 : Int32).toNatClampNeg) (by decide) (by decide) rfl rfl rfl rfl
  rw [e32, Option.bind_some]
  rw [if_neg (by decide)]
  obtain ⟨h33, e33, H⟩ := mp_row H (k := 39) (x := .inr (.inl (fun _ => 0))) (t := 1) (ln := (60 : Int32).toNatClampNeg) (by decide) (by decide) rfl rfl rfl rfl
  rw [e33, Option.bind_some]
  rw [if_neg (by decide)]
  obtain ⟨h34, e34, H⟩ := mp_row H (k := 40) (x := .inl (fun _ => 0)) (t := 3) (ln := (2400 : Int32).toNatClampNeg) (by decide) (by decide) rfl rfl rfl rfl
  rw [e34, Option.bind_some]
  rw [if_neg (by decide)]
  obtain ⟨h35, e35, H⟩ := mp_row H (k := 41) (x := .inl (fun _ => 0)) (t := 0) (ln := (60 : Int32).toNatClampNeg) (by decide) (by decide) rfl rfl rfl rfl
  rw [e35, Option.bind_some]
  rw [if_neg (by decide)]
  obtain ⟨h36, e36, H⟩ := mp_row H (k := 42) (x := .inr (.inl (fun _ => 0))) (t := 1) (ln := (960 : Int32).toNatClampNeg) (by decide) (by decide) rfl rfl rfl rfl
  rw [e36, Option.bind_some]
  rw [if_neg (by decide)]
  obtain ⟨h37, e37, H⟩ := mp_row H (k := 43) (x := .inl (fun _ => 0)) (t := 0) (ln := (60 : Int32).toNatClampNeg) (by decide) (by decide) rfl rfl rfl rfl
  rw [e37, Option.bind_some]
  rw [if_neg (by decide)]
  obtain ⟨h38, e38, H⟩ := mp_row H (k := 59) (x := .inr (.inl (fun _ => 0))) (t := 1) (ln := (17 : Int32).toNatClampNeg) (by decide) (by decide) rfl rfl rfl rfl
  rw [e38, Option.bind_some]
  rw [if_neg (by decide)]
  obtain ⟨h39, e39, H⟩ := mp_row H (k := 61) (x := .inr (.inl (fun _ => 0))) (t := 1) (ln := (17 : Int32).toNatClampNeg) (by decide) (by decide) rfl rfl rfl rfl
  rw [e39, Option.bind_some]
  rw [if_neg (by decide)]
  obtain ⟨h40, e40, H⟩ := mp_row H (k := 63) (x := .inl (fun _ => 0)) (t := 3) (ln := (2400 : Int32).toNatClampNeg) (by decide) (by decide) rfl rfl rfl rfl
  rw [e40, Option.bind_some]
  obtain ⟨h41, e41, H⟩ := mp_put H (k := 22) (v := (0 : Int32)) (lim' := 484) (by decide) rfl rfl (by intro _; rfl)
  rw [e41, Option.bind_some]
  obtain ⟨g1, g2, g3, g4, g5⟩ := id H
  exact ⟨_, rfl, mp_end H, by omega, by rw [g2]; rfl, g5⟩
