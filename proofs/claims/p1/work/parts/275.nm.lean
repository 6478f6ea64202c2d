-- writing
theorem nmo_fr {S S' : MS} (f : fM [63, 64] S S') {k : Nat} (hk : k ≠ 63 ∧ k ≠ 64) (a n : Int32) : nmo S' k a n = nmo S k a n := by
  unfold nmo
  rw [f.2.2.1 k (by simp; omega)]
theorem voc_fr {S S' : MS} (f : fM [63, 64] S S') (a : Int32) : voc S' a = voc S a := by
  unfold voc
  rw [f.2.1 38 (by decide), f.2.1 41 (by decide), f.2.1 43 (by decide), f.2.2.1 39 (by decide), nmo_fr f (by decide)]
theorem roc_fr {S S' : MS} (f : fM [63, 64] S S') (a : Int32) : roc S' a = roc S a := by
  unfold roc
  rw [f.2.1 37 (by decide), nmo_fr f (by decide), voc_fr f]
theorem rso_fr {S S' : MS} (f : fM [63, 64] S S') : ∀ (k : Nat) (a : Int32), rso S' a k = rso S a k
  | 0, a => rfl
  | k + 1, a => by
    unfold rso
    rw [roc_fr f, rso_fr f k]
theorem boc_fr {S S' : MS} (f : fM [63, 64] S S') (a b : Int32) : boc S' a b = boc S a b := by
  unfold boc
  rw [f.1 53 (by decide), f.1 56 (by decide), f.1 57 (by decide), rso_fr f]
theorem wM_put {a1 : Int32} {S : MS} (m : MI S) (p : (S.1 64).toInt ≤ 2399) : nJ (NW [63, 64] S (fun (_ : Unit) (S' : MS) => (S'.1 64).toInt = (S.1 64).toInt + 1)) (gM_put a1 S) := by
  have L1 : (1 : Int32).toInt = 1 := rfl
  have r64 := mi_f m 64 rfl
  unfold gM_put
  refine n_let ?_
  refine n_wI (L := 2400) m (fM_rf [63, 64] S) (by decide) (by decide) (by decide) rfl (by omega) (by omega) (i_lo _) (i_hi _) (fun S2 m2 F2 g2 h2 k2 => ?_)
  refine n_let ?_
  have q2 : (S2.1 64).toInt = (S.1 64).toInt := by rw [g2]
  have i1 : (S2.1 64 + 1).toInt = (S2.1 64).toInt + 1 := i_add1 (by omega)
  refine n_sI m2 F2 (by decide) rfl (by omega) (by omega) (fun S4 m4 F4 v4 g4 h4 => ?_)
  exact n_rW m4 F4 (by rw [v4]; omega)
set_option maxHeartbeats 4000000 in
theorem wM_head {a1 a2 : Int32} {S : MS} (m : MI S) (p : (S.1 64).toInt ≤ 2396) : nJ (NW [63, 64] S (fun (_ : Unit) (S' : MS) => (S'.1 64).toInt = (S.1 64).toInt + ar a2.toInt - a2.toInt)) (gM_head a1 a2 S) := by
  have L128 : (128 : Int32).toInt = 128 := rfl
  have L256 : (256 : Int32).toInt = 256 := rfl
  unfold gM_head
  refine n_cW (fM_rf [63, 64] S) (wM_put m (by omega)) (by decide) (fun _ S2 m2 F2 _ q2 => ?_)
  refine n_lt (fun c => ?_) (fun c => ?_)
  · refine n_lt (fun c2 => ?_) (fun c2 => ?_)
    · refine n_cW F2 (wM_put m2 (by omega)) (by decide) (fun _ S4 m4 F4 _ q4 => ?_)
      refine n_rW m4 F4 ?_
      unfold ar; rw [if_neg (by omega), if_neg (by omega)]; omega
    · refine n_cW F2 (wM_put m2 (by omega)) (by decide) (fun _ S4 m4 F4 _ q4 => ?_)
      refine n_cW F4 (wM_put m4 (by omega)) (by decide) (fun _ S6 m6 F6 _ q6 => ?_)
      refine n_rW m6 F6 ?_
      unfold ar; rw [if_neg (by omega), if_pos (by omega)]; omega
  · refine n_cW F2 (wM_put m2 (by omega)) (by decide) (fun _ S4 m4 F4 _ q4 => ?_)
    refine n_cW F4 (wM_put m4 (by omega)) (by decide) (fun _ S6 m6 F6 _ q6 => ?_)
    refine n_cW F6 (wM_put m6 (by omega)) (by decide) (fun _ S8 m8 F8 _ q8 => ?_)
    refine n_rW m8 F8 ?_
    unfold ar; rw [if_pos (by omega)]; omega
set_option maxHeartbeats 4000000 in
theorem wM_writeNumber_30 {g : Int} {S0 : MS} : ∀ (n : Nat) (a2 : Int64) (a5 : Int32) (S : MS), MI S → fM [63, 64] S0 S → -1 ≤ a5.toInt → a5.toInt ≤ 8 → (S.1 64).toInt + a5.toInt + 1 = g → g ≤ 2400 → a5.toInt + 1 < (n : Int) → nJ (NW [63, 64] S0 (fun (_ : Unit) (S' : MS) => (S'.1 64).toInt = g)) (gM_writeNumber_30 n a2 a5 S) := by
  have L0 : (0 : Int32).toInt = 0 := rfl
  have Lm : (-1 : Int32).toInt = -1 := rfl
  intro n
  induction n with
  | zero => intro a2 a5 S m F p0 p1 p2 p3 q; exfalso; omega
  | succ n ih =>
    intro a2 a5 S m F p0 p1 p2 p3 q
    unfold gM_writeNumber_30
    refine n_lt (fun c => ?_) (fun c => ?_)
    · exact n_rW m F (by omega)
    · have go : ∀ (v : Int32), nJ (NW [63, 64] S0 (fun (_ : Unit) (S' : MS) => (S'.1 64).toInt = g)) (mc (gM_put v S) fun _ S5 => sm_let (a5 + (-1 : Int32)) fun x6 => gM_writeNumber_30 n a2 x6 S5) := by
        intro v
        refine n_cW F (wM_put m (by omega)) (by decide) (fun _ S5 m5 F5 _ q5 => ?_)
        refine n_letv (fun x6 h6 => ?_)
        have i6 : x6.toInt = a5.toInt - 1 := by rw [h6, i_add (by rw [Lm]; omega) (by rw [Lm]; omega), Lm]; omega
        clear h6 Lm
        exact ih _ _ _ m5 F5 (by omega) (by omega) (by omega) p3 (by omega)
      refine n_if (fun c2 => ?_) (fun c2 => ?_)
      · exact go _
      · exact go _
def isL (a : Int32) : Int32 := if a = 70 then 1 else 0
theorem isL_b (a : Int32) : (isL a).toInt = 0 ∨ (isL a).toInt = 1 := by
  unfold isL; split
  · exact Or.inr rfl
  · exact Or.inl rfl
set_option maxHeartbeats 4000000 in
theorem wM_writeNumber {a1 : Int32} {a2 : Int64} {S : MS} (m : MI S) (p : (S.1 64).toInt ≤ 2380) : nJ (NW [63, 64] S (fun (_ : Unit) (S' : MS) => (S'.1 64).toInt = (S.1 64).toInt + ar (nsz a2 (isL a1)))) (gM_writeNumber a1 a2 S) := by
  have L1 : (1 : Int32).toInt = 1 := rfl
  have main : ∀ w : Int32, (w.toInt = 0 ∨ w.toInt = 1) → nJ (NW [63, 64] S (fun (_ : Unit) (S' : MS) => (S'.1 64).toInt = (S.1 64).toInt + ar (nsz a2 w))) (gM_writeNumber_12 a1 a2 w a2 S) := by
    intro w hw
    unfold gM_writeNumber_12
    refine n_cP (xM_numberSize m hw) (fun x1 q1 => ?_)
    have b := ar_b x1.toInt
    refine n_cW (fM_rf [63, 64] S) (wM_head m (by omega)) (by decide) (fun _ S4 m4 F4 _ q4 => ?_)
    refine n_letv (fun x5 h5 => ?_)
    have i5 : x5.toInt = x1.toInt - 1 := by rw [h5, i_sub (by omega) (by omega)]; omega
    obtain ⟨r, S', e, hm, hq⟩ := wM_writeNumber_30 (g := (S.1 64).toInt + ar x1.toInt) (S0 := S) sm_fuel a2 x5 S4 m4 F4 (by omega) (by omega) (by omega) (by omega) (by simp only [sm_fuel_eq]; omega)
    exact ⟨r, S', e, hm, by rw [← q1.1]; exact hq⟩
  unfold gM_writeNumber
  refine n_if (fun c => ?_) (fun c => ?_)
  · rw [show isL a1 = 1 by unfold isL; rw [if_pos c]]; exact main 1 (Or.inr rfl)
  · rw [show isL a1 = 0 by unfold isL; rw [if_neg c]]; exact main 0 (Or.inl rfl)
set_option maxHeartbeats 4000000 in
theorem wM_names_52 {g : Int} {L : Nat} {R : Unit → MS → Prop} {S0 : MS} {K33 : Nat → Int32 → Int32 → Int32 → MS → Option (Unit × MS)} {a1 : Nat} {a2 a3 a4 : Int32} (hr : rowL a1 1 L) (p0 : 0 ≤ a2.toInt) (p1 : a2.toInt ≤ 30000) (p2 : 0 ≤ a4.toInt) (p3 : a2.toInt + a4.toInt < (L : Int)) (p4 : a4.toInt ≤ 17) (p5 : g ≤ 2400) (hK : ∀ (x : Int32) (S' : MS), x.toInt = a4.toInt + 1 → MI S' → fM [63, 64] S0 S' → (S'.1 64).toInt = g → nJ R (K33 a1 a2 a3 x S')) : ∀ (n : Nat) (a5 : Int32) (S : MS), MI S → fM [63, 64] S0 S → -1 ≤ a5.toInt → a5.toInt ≤ 8 → (S.1 64).toInt + a5.toInt + 1 = g → a5.toInt + 1 < (n : Int) → nJ R (gM_names_52 K33 n a1 a2 a3 a4 a5 S) := by
  have L0 : (0 : Int32).toInt = 0 := rfl
  have Lm : (-1 : Int32).toInt = -1 := rfl
  intro n
  induction n with
  | zero => intro a5 S m F q0 q1 q2 q; exfalso; omega
  | succ n ih =>
    intro a5 S m F q0 q1 q2 q
    unfold gM_names_52
    refine n_lt (fun c => ?_) (fun c => ?_)
    · refine n_letv (fun x1 h1 => ?_)
      exact hK x1 S (by rw [h1]; exact i_add1 (by omega)) m F (by omega)
    · have i1 : (a2 + a4).toInt = a2.toInt + a4.toInt := i_add (by omega) (by omega)
      refine n_rJ hr (by omega) (by omega) (fun x2 _ => ?_)
      have go : ∀ (v : Int32), nJ R (mc (gM_put v S) fun _ S5 => sm_let (a5 + (-1 : Int32)) fun x6 => gM_names_52 K33 n a1 a2 a3 a4 x6 S5) := by
        intro v
        refine n_cW F (wM_put m (by omega)) (by decide) (fun _ S5 m5 F5 _ q5 => ?_)
        refine n_letv (fun x6 h6 => ?_)
        have i6 : x6.toInt = a5.toInt - 1 := by rw [h6, i_add (by rw [Lm]; omega) (by rw [Lm]; omega), Lm]; omega
        clear h6 Lm
        exact ih _ _ m5 F5 (by omega) (by omega) (by omega) (by omega)
      refine n_if (fun c2 => ?_) (fun c2 => ?_)
      · exact go _
      · exact go _
set_option maxHeartbeats 4000000 in
theorem wM_names_33 {T : Int} {L : Nat} {S0 : MS} {a1 : Nat} (hr : rowL a1 1 L) (h63 : a1 ≠ 63 ∧ a1 ≠ 64) : ∀ (n : Nat) (a2 a3 a4 : Int32) (S : MS), MI S → fM [63, 64] S0 S → 0 ≤ a2.toInt → a2.toInt ≤ 30000 → a2.toInt + a3.toInt ≤ (L : Int) → a3.toInt ≤ 17 → 0 ≤ a4.toInt → a4.toInt ≤ 17 → (S.1 64).toInt + nOc (S0.2.2.2 a1) a2.toInt.toNat a4.toInt.toNat (a3.toInt - a4.toInt).toNat = T → T ≤ 2400 → 17 - a4.toInt < (n : Int) → nJ (NW [63, 64] S0 (fun (_ : Unit) (S' : MS) => (S'.1 64).toInt = T)) (gM_names_33 n a1 a2 a3 a4 S) := by
  have L1 : (1 : Int32).toInt = 1 := rfl
  intro n
  induction n with
  | zero => intro a2 a3 a4 S m F p0 p1 p2 p3 p4 p5 p6 p7 q; exfalso; omega
  | succ n ih =>
    intro a2 a3 a4 S m F p0 p1 p2 p3 p4 p5 p6 p7 q
    unfold gM_names_33
    refine n_le (fun c => ?_) (fun c => ?_)
    · rw [show (a3.toInt - a4.toInt).toNat = 0 by omega] at p6
      unfold nOc at p6
      exact n_rW m F (by omega)
    · have i1 : (a2 + a4).toInt = a2.toInt + a4.toInt := i_add (by omega) (by omega)
      refine n_rJ hr (by omega) (by omega) (fun x1 e1 => ?_)
      refine n_cP (xM_partSize m) (fun x2 q2 => ?_)
      refine n_letv (fun x4 h4 => ?_)
      have i4 : x4.toInt = x2.toInt - 1 := by rw [h4, i_sub (by omega) (by omega)]; omega
      rw [i1, show (a2.toInt + a4.toInt).toNat = a2.toInt.toNat + a4.toInt.toNat by omega, F.2.2.1 a1 (by simp; omega)] at e1
      rw [show (a3.toInt - a4.toInt).toNat = (a3.toInt - (a4.toInt + 1)).toNat + 1 by omega] at p6
      have p6' : (S.1 64).toInt + (psz x1 + nOc (S0.2.2.2 a1) a2.toInt.toNat (a4.toInt.toNat + 1) (a3.toInt - (a4.toInt + 1)).toNat) = T := by rw [e1]; exact p6
      have hb := nOc_b (S0.2.2.2 a1) a2.toInt.toNat (a3.toInt - (a4.toInt + 1)).toNat (a4.toInt.toNat + 1)
      refine wM_names_52 (g := (S.1 64).toInt + x2.toInt) hr p0 p1 p4 (by omega) p5 (by omega) (fun x S' hx m' F' hs => ?_) sm_fuel x4 S m F (by omega) (by omega) (by omega) (by simp only [sm_fuel_eq]; omega)
      refine ih _ _ _ _ m' F' p0 p1 p2 p3 (by omega) (by omega) ?_ p7 (by omega)
      rw [hx, show (a4.toInt + 1).toNat = a4.toInt.toNat + 1 by omega]
      omega
set_option maxHeartbeats 4000000 in
theorem wM_names {L : Nat} {a1 : Nat} {a2 a3 : Int32} {S : MS} (m : MI S) (hr : rowL a1 1 L) (h63 : a1 ≠ 63 ∧ a1 ≠ 64) (p0 : 0 ≤ a2.toInt) (p1 : a2.toInt ≤ 30000) (p2 : a2.toInt + a3.toInt ≤ (L : Int)) (p2' : a2.toInt + 2 ≤ (L : Int)) (p3 : a3.toInt ≤ 17) (p4 : (S.1 64).toInt + ar (nmo S a1 a2 a3) ≤ 2396) : nJ (NW [63, 64] S (fun (_ : Unit) (S' : MS) => (S'.1 64).toInt = (S.1 64).toInt + ar (nmo S a1 a2 a3))) (gM_names a1 a2 a3 S) := by
  have L2 : (2 : Int32).toInt = 2 := rfl
  have hb := nmo_b (S := S) (k := a1) (f := a2) (n := a3) p3
  have ab := ar_b (nmo S a1 a2 a3)
  have i1 : (a2 + 1).toInt = a2.toInt + 1 := i_add1 (by omega)
  unfold gM_names
  refine n_cP (xM_nameOctets m hr p0 p1 p2 p3) (fun x1 q1 => ?_)
  refine n_cW (fM_rf [63, 64] S) (wM_head m (by omega)) (by decide) (fun _ S4 m4 F4 _ q4 => ?_)
  rw [q1] at q4
  refine n_rJ hr (by omega) (by omega) (fun x5 _ => ?_)
  refine n_rJ hr (by omega) (by omega) (fun x6 _ => ?_)
  refine n_cW F4 (wM_put m4 (by omega)) (by decide) (fun _ S8 m8 F8 _ q8 => ?_)
  refine wM_names_33 hr h63 sm_fuel a2 a3 2 S8 m8 F8 p0 p1 p2 p3 (by omega) (by omega) ?_ (by omega) (by simp only [sm_fuel_eq]; omega)
  rw [q8, q4]
  show _ + ar (nmo S a1 a2 a3) - nmo S a1 a2 a3 + 1 + nOc (S.2.2.2 a1) a2.toInt.toNat 2 (a3.toInt - 2).toNat = _
  have : nmo S a1 a2 a3 = 1 + nOc (S.2.2.2 a1) a2.toInt.toNat 2 (a3.toInt - 2).toNat := rfl
  omega
