-- p14, p15: limit and tick, exactly
def limN (l n : Int32) : Int32 × Int32 := if n < 100 then (-2, l) else if n ≤ 1000 then (l, n) else (-2, l)
def tickN (c n : Int64) : Int64 × Int64 := if lg_cmp n 0 < 0 then (-2, c) else if lg_cmp n ((4611686018427387904 : Int64) - c) ≤ 0 then (c + n, c + n) else (-2, c)
theorem fl_limit {G : GT} {h : sm_H} {x : Nat} {v a1 : Int32} (W : Wf G h) (ta : tG G x 12 0) (e : sm_get h (some x) 11 15 = some (.int v)) : kJ (fun (r : Int32) h' _ => ∃ w, sm_get h' (some x) 11 15 = some (.int w) ∧ (r, w) = limN v a1) (fX11_limit x a1 h) := by
  unfold fX11_limit limN
  refine k_if (fun c => ?_) (fun c => ?_)
  · exact k_rR (G' := G) ⟨v, e, by rw [if_pos c]⟩
  · refine k_if (fun c2 => ?_) (fun c2 => ?_)
    · refine k_kI e ?_
      refine k_WR (w_putI (ci := 11) (k := 15) (lo := -2147483648) (hi := 2147483647) W ta (by decide) rfl (i_lo _) (i_hi _)) (fun h2 o2 x2 => ?_)
      exact k_rR (G' := G) ⟨a1, (x2 15).trans (if_pos rfl), by rw [if_neg c, if_pos c2]⟩
    · exact k_rR (G' := G) ⟨v, e, by rw [if_neg c, if_neg c2]⟩
theorem fl_tick {G : GT} {h : sm_H} {x : Nat} {v a1 : Int64} (W : Wf G h) (ta : tG G x 12 0) (e : sm_get h (some x) 11 16 = some (.long v)) : kJ (fun (r : Int64) h' _ => ∃ w, sm_get h' (some x) 11 16 = some (.long w) ∧ (r, w) = tickN v a1) (fX11_tick x a1 h) := by
  unfold fX11_tick tickN
  refine k_if (fun c => ?_) (fun c => ?_)
  · exact k_rR (G' := G) ⟨v, e, by rw [if_pos c]⟩
  · refine k_kJ e ?_
    refine k_if (fun c2 => ?_) (fun c2 => ?_)
    · refine k_kJ e ?_
      refine k_WR (w_putJ (ci := 11) (k := 16) W ta (by decide) rfl) (fun h3 o3 x3 => ?_)
      have e3 := (x3 16).trans (if_pos rfl)
      refine k_gR (r' := 0) o3.1 ta (by decide) rfl rfl (fun x4 _ t4 => ?_)
      refine k_kJ e3 ?_
      refine k_WR (w_putJ (ci := 10) (k := 2) o3.1 t4 (by decide) rfl) (fun h6 o6 x6 => ?_)
      have e6 := kg_fr (o6.2.2.2 _ (tg_ne ta t4 (by simp))) e3
      refine k_kJ e6 ?_
      exact k_rR (G' := G) ⟨_, e6, by rw [if_neg c, if_pos c2]⟩
    · exact k_rR (G' := G) ⟨v, e, by rw [if_neg c, if_neg c2]⟩
theorem nM_limitQ {a1 : Int32} {S : MS} (mS : MI S) : nJ (NW [0, 5] S (fun (r : Int32) (S' : MS) => (r, S'.1 5) = limN (S.1 5) a1)) (gM_limit a1 S) := by
  have L0 : (0 : Int32).toInt = 0 := rfl
  have L100 : (100 : Int32).toInt = 100 := rfl
  have L1000 : (1000 : Int32).toInt = 1000 := rfl
  have J100 : (100 : Int64).toInt = 100 := rfl
  have J1000 : (1000 : Int64).toInt = 1000 := rfl
  have j1 := Int32.toInt_toInt64 a1
  unfold gM_limit limN
  refine n_sI mS (fM_rf [0, 5] S) (by decide) rfl (i_lo _) (i_hi _) (fun S1 m1 F1 v1 g1 e1 => ?_)
  refine n_cP (nM_in m1) (fun x2 q2 => ?_)
  refine n_eq (fun c => ?_) (fun c => ?_)
  · refine n_rW m1 F1 ?_
    rw [g1 5 (by decide)]
    by_cases d : a1 < 100
    · rw [if_pos d]
    · rw [if_neg d]
      by_cases d2 : a1 ≤ 1000
      · rw [Int32.lt_iff_toInt_lt] at d
        rw [Int32.le_iff_toInt_le] at d2
        exfalso; omega
      · rw [if_neg d2]
  · refine n_let ?_
    refine n_sI m1 F1 (by decide) rfl (by omega) (by omega) (fun S5 m5 F5 v5 g5 e5 => ?_)
    refine n_rW m5 F5 ?_
    rw [v5, g1 5 (by decide), if_neg (by rw [Int32.lt_iff_toInt_lt]; omega), if_pos (by rw [Int32.le_iff_toInt_le]; omega)]
theorem nM_tickQ {a1 : Int64} {S : MS} (mS : MI S) : nJ (NW [0, 6] S (fun (r : Int64) (S' : MS) => (r, S'.2.1) = tickN S.2.1 a1)) (gM_tick a1 S) := by
  unfold gM_tick tickN
  refine n_sI mS (fM_rf [0, 6] S) (by decide) rfl (i_lo _) (i_hi _) (fun S1 m1 F1 v1 g1 e1 => ?_)
  have ec : S1.2.1 = S.2.1 := by rw [e1]
  refine n_if (fun c => ?_) (fun c => ?_)
  · exact n_rW m1 F1 (by rw [if_pos c, ec])
  · refine n_let ?_
    refine n_if (fun c2 => ?_) (fun c2 => ?_)
    · refine n_let ?_
      refine n_sC m1 F1 (by decide) (fun S4 m4 F4 v4 _ _ => ?_)
      refine n_let ?_
      rw [ec] at c2 v4
      exact n_rW m4 F4 (by rw [if_neg c, if_pos c2, v4])
    · rw [ec] at c2
      exact n_rW m1 F1 (by rw [if_neg c, if_neg c2, ec])
