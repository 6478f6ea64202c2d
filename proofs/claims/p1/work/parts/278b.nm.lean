theorem n_two2 {Rt : Type} {R : Rt → MS → Prop} {S S0 : MS} {E : List Nat} {i i' v : Int32} {wf : Int32 → Int32} {X : MS → Option (Rt × MS)} (m : MI S) (F : fM E S0 S) (h26 : 26 ∈ E) (h27 : 27 ∈ E) (h0 : 0 ≤ i'.toInt) (h1 : i'.toInt ≤ 3) (h2 : 16 * i'.toInt ≤ i.toInt) (h3 : i.toInt < 16 * i'.toInt + 16) (hv : 0 ≤ v.toInt) (hw : (wf (S.2.2.1 26 i'.toInt.toNat)).toInt = (S.2.2.1 26 i'.toInt.toNat).toInt - (if 0 < (S.2.2.1 27 i.toInt.toNat).toInt then 1 else 0) + (if 0 < v.toInt then 1 else 0)) (kk : ∀ S1, MI S1 → fM E S0 S1 → S1.2.2.1 26 = upd (S.2.2.1 26) i'.toInt.toNat (wf (S.2.2.1 26 i'.toInt.toNat)) → nJ R (X S1)) : nJ R ((mWI S 27 0 i v).bind fun S1 => (mRI S1 26 0 i').bind fun x => (mWI S1 26 0 i' (wf x)).bind X) := by
  unfold mWI mRI
  rw [if_pos ⟨⟨by decide, by decide, by decide⟩, n_ix (L := 64) (by omega) (by omega)⟩]
  show nJ R ((if _ then some ((sA S 27 i.toInt.toNat v).2.2.1 26 i'.toInt.toNat) else none).bind _)
  rw [if_pos ⟨⟨by decide, by decide, by decide⟩, n_ix (L := 4) (by omega) (by omega)⟩]
  show nJ R ((if _ then some (sA (sA S 27 i.toInt.toNat v) 26 i'.toInt.toNat (wf ((sA S 27 i.toInt.toNat v).2.2.1 26 i'.toInt.toNat))) else none).bind X)
  rw [if_pos ⟨⟨by decide, by decide, by decide⟩, n_ix (L := 4) (by omega) (by omega)⟩]
  have e : (sA S 27 i.toInt.toNat v).2.2.1 26 i'.toInt.toNat = S.2.2.1 26 i'.toInt.toNat := by simp [sA, va_up]
  rw [e]
  exact kk _ (mi_two m (by omega) (by omega) (by omega) hv hw) (fM_two F h26 h27 _ _ _ _) (by simp [sA, va_up])
set_option maxHeartbeats 4000000 in
theorem qM_makeRow_3 {S : MS} (m : MI S) {a1 a2 : Int32} (p0 : 0 ≤ a1.toInt) (p1 : a1.toInt ≤ 3) (p2 : 1 ≤ a2.toInt) (p5 : (S.2.2.1 26 a1.toInt.toNat).toInt ≤ 15) : ∀ (n : Nat) (a3 : Int64) (a5 : Int32), 0 ≤ a5.toInt → a5.toInt ≤ 15 → cnt (S.2.2.1 27) (16 * a1.toInt.toNat) a5.toInt.toNat = a5.toInt → 16 - a5.toInt < (n : Int) → nJ (NW [17, 19, 20, 21, 26, 27] S (fun (_ : Unit) (S' : MS) => ∀ t : Nat, (S'.2.2.1 26 t).toInt = (S.2.2.1 26 t).toInt + (if t = a1.toInt.toNat then 1 else 0))) (gM_makeRow_3 n a1 a2 a3 a5 S) := by
  have L0 : (0 : Int32).toInt = 0 := rfl
  have L1 : (1 : Int32).toInt = 1 := rfl
  intro n
  induction n with
  | zero => intro a3 a5 p3 p4 p6 q; exfalso; omega
  | succ n ih =>
    intro a3 a5 p3 p4 p6 q
    have i1 : ((16 : Int32) * a1).toInt = 16 * a1.toInt := i_mul (n := 16) rfl (by omega) (by omega)
    have i2 : ((16 : Int32) * a1 + a5).toInt = ((16 : Int32) * a1).toInt + a5.toInt := i_add (by omega) (by omega)
    have i3 : (a5 + 1).toInt = a5.toInt + 1 := i_add1 (by omega)
    have hix : ((16 : Int32) * a1 + a5).toInt.toNat = 16 * a1.toInt.toNat + a5.toInt.toNat := by omega
    have rl := row_le m (t := a1.toInt.toNat) (by omega)
    unfold gM_makeRow_3
    refine n_rI (L := 64) m (by decide) rfl (by omega) (by omega) (fun x e l u => ?_)
    rw [hix] at e
    refine n_le (fun c => ?_) (fun c => ?_)
    · refine n_two2 (E := [17, 19, 20, 21, 26, 27]) (S0 := S) (wf := fun x => x + 1) m (fM_rf _ _) (by decide) (by decide) p0 p1 (by omega) (by omega) (by omega) ?_ (fun S1 m1 F1 e1 => ?_)
      · rw [hix, ← e, if_neg (by omega), if_pos (by omega), i_add1 (by omega)]
        omega
      · obtain ⟨r, S', e', ⟨mi, F'⟩, _⟩ := nM_makeRow_50 (E := [17, 19, 20, 21]) (S0 := S1) (by decide) sm_fuel a1 a3 a5 0 S1 m1 (fM_rf _ _) p0 p1 p3 p4 (by omega) (by omega) (by simp only [sm_fuel_eq]; omega)
        refine ⟨r, S', e', ⟨mi, fM_tr F1 F' (by decide)⟩, fun t => ?_⟩
        show (S'.2.2.1 26 t).toInt = _
        rw [F'.2.1 26 (by decide), e1]
        unfold upd
        by_cases ht : t = a1.toInt.toNat
        · rw [if_pos ht, if_pos ht, ht, i_add1 (by omega)]
        · rw [if_neg ht, if_neg ht]; omega
    · have hc : cnt (S.2.2.1 27) (16 * a1.toInt.toNat) (a5.toInt.toNat + 1) = a5.toInt + 1 := by
        unfold cnt
        rw [p6, ← e, if_pos (by omega)]
      have h15 : a5.toInt ≤ 14 := by
        rcases Int.lt_or_le a5.toInt 15 with hh | hh
        · omega
        · have h16 : a5.toInt.toNat + 1 = 16 := by omega
          rw [h16] at hc
          have := m.2.2 a1.toInt.toNat (by omega)
          omega
      refine n_let ?_
      exact ih _ _ (by omega) (by omega) (by rw [i3]; rw [show (a5.toInt + 1).toNat = a5.toInt.toNat + 1 by omega]; exact hc) (by omega)
theorem qM_makeRow {a1 a2 : Int32} {a3 : Int64} {S : MS} (m : MI S) (p0 : 0 ≤ a1.toInt) (p1 : a1.toInt ≤ 3) (p2 : 1 ≤ a2.toInt) (p3 : (S.2.2.1 26 a1.toInt.toNat).toInt ≤ 15) : nJ (NW [17, 19, 20, 21, 26, 27] S (fun (_ : Unit) (S' : MS) => ∀ t : Nat, (S'.2.2.1 26 t).toInt = (S.2.2.1 26 t).toInt + (if t = a1.toInt.toNat then 1 else 0))) (gM_makeRow a1 a2 a3 S) := by
  unfold gM_makeRow
  exact qM_makeRow_3 m p0 p1 p2 p3 _ _ _ (by decide) (by decide) rfl (by simp only [sm_fuel_eq]; decide)
def EC : List Nat := [17, 18, 19, 20, 21, 26, 27]
section CO
variable {S0 : MS}
theorem ob_EC {S : MS} (F : fM EC S0 S) (q : Nat) : obN S q = obN S0 q := obN_fr F (by decide) (by decide) (by decide) (by decide) (by decide) (by decide) q
set_option maxHeartbeats 4000000 in
theorem cM_carryOut_102 (j0 : JJ S0) (hg : ∀ q : Nat, (q : Int) < (S0.1 46).toInt → good S0 q) : ∀ (n : Nat) (a1 : Int32) (S : MS), MI S → fM EC S0 S → 0 ≤ a1.toInt → a1.toInt ≤ 20 → 20 - a1.toInt < (n : Int) → nJ (NW EC S0 (fun (_ : Unit) (_ : MS) => True)) (gM_carryOut_102 n a1 S) := by
  have L0 : (0 : Int32).toInt = 0 := rfl
  have L1 : (1 : Int32).toInt = 1 := rfl
  intro n
  induction n with
  | zero => intro a1 S m F p0 p1 q; exfalso; omega
  | succ n ih =>
    intro a1 S m F p0 p1 q
    have r46 := mi_f m 46 rfl
    have q46 : (S.1 46).toInt = (S0.1 46).toInt := by rw [F.1 46 (by decide)]
    have i1 : (a1 + 1).toInt = a1.toInt + 1 := i_add1 (by omega)
    have nx : ∀ S', MI S' → fM EC S0 S' → a1.toInt ≤ 19 → nJ (NW EC S0 (fun (_ : Unit) (_ : MS) => True)) (sm_let (a1 + (1 : Int32)) fun x => gM_carryOut_102 n x S') := by
      intro S' m' F' h19
      exact ih (a1 + 1) S' m' F' (by omega) (by omega) (by omega)
    unfold gM_carryOut_102
    refine n_let ?_
    refine n_le (fun c => ?_) (fun c => ?_)
    · exact n_rW m F trivial
    · have gq := hg a1.toInt.toNat (by omega)
      have i16 : ((16 : Int32) * a1).toInt = 16 * a1.toInt := i_mul (n := 16) rfl (by omega) (by omega)
      refine n_rI (L := 60) m (by decide) rfl (by omega) (by omega) (fun x2 e2 _ _ => ?_)
      refine n_cP (xM_objQ m p0 (by omega) e2) (fun x3 q3 => ?_)
      have o3 : x3 = obN S0 a1.toInt.toNat := by rw [q3.1, ob_EC F]
      have h3 : 0 ≤ x3.toInt := by rw [o3]; exact gq.1
      have b169 : ∀ s0 : Int32, -1 ≤ s0.toInt → s0.toInt ≤ 15 → (0 ≤ s0.toInt → 0 ≤ (S.2.2.1 15 x3.toInt.toNat).toInt → 0 < (S.2.2.1 27 (16 * (S.2.2.1 15 x3.toInt.toNat).toInt + s0.toInt).toNat).toInt) → nJ (NW EC S0 (fun (_ : Unit) (_ : MS) => True)) (gM_carryOut_169 (gM_carryOut_102 n) a1 x3 s0 S) := by
        intro s0 hs0 hs1 hs2
        unfold gM_carryOut_169
        refine n_le (fun c2 => ?_) (fun c2 => ?_)
        · have j1 : ((16 : Int32) * x3).toInt = 16 * x3.toInt := i_mul (n := 16) rfl (by omega) (by omega)
          have j2 : ((16 : Int32) * x3 + s0).toInt = ((16 : Int32) * x3).toInt + s0.toInt := i_add (by omega) (by omega)
          refine n_letv (fun x1 hx1 => ?_)
          have j3 : x1.toInt = 16 * x3.toInt + s0.toInt := by rw [hx1, j2, j1]
          clear j2 hx1
          have b287 : ∀ v : Int64, nJ (NW EC S0 (fun (_ : Unit) (_ : MS) => True)) (gM_carryOut_287 (gM_carryOut_102 n) a1 x3 x1 v x1 17 S) := by
            intro v
            unfold gM_carryOut_287
            refine n_wJ (L := 640) m F (by decide) (by decide) (by omega) (by omega) (fun S1 m1 F1 g1 h1 k1 => ?_)
            refine n_rI (L := 40) m1 (by decide) rfl (by omega) (by omega) (fun y2 _ _ _ => ?_)
            have fin : ∀ S', MI S' → fM EC S0 S' → nJ (NW EC S0 (fun (_ : Unit) (_ : MS) => True)) (gM_carryOut_318 (gM_carryOut_102 n) sm_fuel a1 x3 x1 0 S') := by
              intro S' m' F'
              exact nM_carryOut_318 (by decide) (fun k S'' m'' F'' hk => ih k S'' m'' F'' (by omega) (by omega) (by omega)) sm_fuel 0 S' m' F' (by omega) (by omega) (by omega) (by omega) (by omega) (by omega) (by omega) (by omega) (by simp only [sm_fuel_eq]; omega)
            refine n_if (fun _ => ?_) (fun _ => ?_)
            · refine n_rI (L := 60) m1 (by decide) rfl (by omega) (by omega) (fun y4 _ l4 u4 => ?_)
              refine n_wI (L := 640) m1 F1 (by decide) (by decide) (by decide) rfl (by omega) (by omega) (by omega) (by omega) (fun S5 m5 F5 _ _ _ => ?_)
              exact fin S5 m5 F5
            · refine n_wI (L := 640) m1 F1 (by decide) (by decide) (by decide) rfl (by omega) (by omega) (by omega) (by omega) (fun S5 m5 F5 _ _ _ => ?_)
              exact fin S5 m5 F5
          refine n_rI (L := 40) m (by decide) rfl (by omega) (by omega) (fun x2 ex2 l2 u2 => ?_)
          refine n_eq (fun c3 => ?_) (fun c3 => ?_)
          · refine n_rI (L := 40) m (by decide) rfl (by omega) (by omega) (fun y3 _ _ _ => ?_)
            refine n_if (fun _ => b287 _) (fun _ => ?_)
            refine n_rI (L := 40) m (by decide) rfl (by omega) (by omega) (fun y4 _ _ _ => ?_)
            refine n_if (fun _ => b287 _) (fun _ => ?_)
            refine n_rJ (L := 60) (by decide) (by omega) (by omega) (fun y5 _ => ?_)
            exact b287 _
          · have jt := j0.1 x3.toInt.toNat (by rw [← F.2.1 16 (by decide), ← ex2]; omega)
            rw [← F.2.1 15 (by decide)] at jt
            refine n_rJ (L := 60) (by decide) (by omega) (by omega) (fun y6 _ => ?_)
            refine n_if (fun _ => ?_) (fun _ => ?_)
            · refine n_rI (L := 40) m (by decide) rfl (by omega) (by omega) (fun y12 e12 l12 u12 => ?_)
              have hp := hs2 (by omega) jt.1
              rw [← e12] at hp jt
              refine n_cW F (nM_dropRow m (by omega) (by omega) (by omega) (by omega) hp) (by decide) (fun _ S14 m14 F14 _ _ => ?_)
              exact nx S14 m14 F14 (by omega)
            · refine n_rJ (L := 60) (by decide) (by omega) (by omega) (fun y7 _ => ?_)
              refine n_if (fun _ => nx S m F (by omega)) (fun _ => ?_)
              refine n_rJ (L := 60) (by decide) (by omega) (by omega) (fun y9 _ => ?_)
              refine n_wJ (L := 640) m F (by decide) (by decide) (by omega) (by omega) (fun S10 m10 F10 _ _ _ => ?_)
              exact nx S10 m10 F10 (by omega)
        · exact nx S m F (by omega)
      refine n_rI (L := 40) m (by decide) rfl (by omega) (by omega) (fun x5 e5 l5 u5 => ?_)
      refine n_le (fun c2 => ?_) (fun c2 => ?_)
      · refine n_rI (L := 40) m (by decide) rfl (by omega) (by omega) (fun x6 e6 l6 u6 => ?_)
        have e65 : x6 = x5 := by rw [e5, e6]
        refine n_rI (L := 40) m (by decide) rfl (by omega) (by omega) (fun x7 e7 l7 u7 => ?_)
        have j7 : ((16 : Int32) * a1 + x7).toInt = ((16 : Int32) * a1).toInt + x7.toInt := i_add (by omega) (by omega)
        refine n_rJ (L := 960) (by decide) (by omega) (by omega) (fun x8 _ => ?_)
        refine n_cP (nM_placeOf m (by rw [e65]; omega) (by rw [e65]; omega)) (fun x9 q9 => ?_)
        have q9b := plc_b q9
        refine b169 x9 (by omega) (by omega) (fun z _ => ?_)
        rcases q9 with q9 | ⟨_, _, q9⟩
        · exfalso; omega
        · rw [← e6]; exact q9
      · refine b169 0 (by omega) (by omega) (fun _ z => ?_)
        rw [← e5] at z; exfalso; omega
set_option maxHeartbeats 4000000 in
theorem cM_carryOut_2 (j0 : JJ S0) (hg : ∀ q : Nat, (q : Int) < (S0.1 46).toInt → good S0 q) : ∀ (n : Nat) (a1 : Int32) (S : MS), MI S → fM EC S0 S → 0 ≤ a1.toInt → a1.toInt ≤ 20 → (∀ t : Nat, t < 4 → (S.2.2.1 26 t).toInt = (S0.2.2.1 26 t).toInt + cM S0 (t : Int) a1.toInt.toNat) → 20 - a1.toInt < (n : Int) → nJ (NW EC S0 (fun (_ : Unit) (_ : MS) => True)) (gM_carryOut_2 n a1 S) := by
  have L0 : (0 : Int32).toInt = 0 := rfl
  have J4 : (4 : Int64).toInt = 4 := rfl
  have J5 : (5 : Int64).toInt = 5 := rfl
  intro n
  induction n with
  | zero => intro a1 S m F p0 p1 p2 q; exfalso; omega
  | succ n ih =>
    intro a1 S m F p0 p1 p2 q
    have r46 := mi_f m 46 rfl
    have q46 : (S.1 46).toInt = (S0.1 46).toInt := by rw [F.1 46 (by decide)]
    have i1 : (a1 + 1).toInt = a1.toInt + 1 := i_add1 (by omega)
    have it : (a1 + 1).toInt.toNat = a1.toInt.toNat + 1 := by omega
    unfold gM_carryOut_2
    refine n_let ?_
    refine n_le (fun c => ?_) (fun c => ?_)
    · exact cM_carryOut_102 j0 hg sm_fuel 0 S m F (by omega) (by omega) (by simp only [sm_fuel_eq]; omega)
    · have gq := hg a1.toInt.toNat (by omega)
      have i16 : ((16 : Int32) * a1).toInt = 16 * a1.toInt := i_mul (n := 16) rfl (by omega) (by omega)
      refine n_rI (L := 60) m (by decide) rfl (by omega) (by omega) (fun x2 e2 _ _ => ?_)
      refine n_cP (xM_objQ m p0 (by omega) e2) (fun x3 q3 => ?_)
      have o3 : x3 = obN S0 a1.toInt.toNat := by rw [q3.1, ob_EC F]
      have h3 : 0 ≤ x3.toInt := by rw [o3]; exact gq.1
      have same : (∀ t : Int, mkI S0 t a1.toInt.toNat = 0) → nJ (NW EC S0 (fun (_ : Unit) (_ : MS) => True)) (sm_let (a1 + (1 : Int32)) fun x => gM_carryOut_2 n x S) := by
        intro hz
        refine ih (a1 + 1) S m F (by omega) (by omega) (fun t ht => ?_) (by omega)
        rw [it, p2 t ht]
        show _ = _ + (cM S0 (t : Int) a1.toInt.toNat + mkI S0 (t : Int) a1.toInt.toNat)
        rw [hz]; omega
      refine n_rI (L := 40) m (by decide) rfl (by omega) (by omega) (fun x5 e5 l5 u5 => ?_)
      rw [F.2.1 16 (by decide)] at e5
      refine n_eq (fun c2 => ?_) (fun c2 => ?_)
      · exact same (fun t => by unfold mkI; rw [← o3, ← e5, if_neg (fun z => by omega)])
      · refine n_rJ (L := 60) (by decide) (by omega) (by omega) (fun x7 e7 => ?_)
        rw [F.2.2.1 39 (by decide)] at e7
        refine n_cP (nM_in m) (fun x8 q8 => ?_)
        refine n_eq (fun c3 => ?_) (fun c3 => ?_)
        · exact same (fun t => by unfold mkI; rw [← o3, ← e7, if_neg (fun z => by omega)])
        · have jt := j0.1 x3.toInt.toNat (by rw [← e5]; omega)
          refine n_rI (L := 40) m (by decide) rfl (by omega) (by omega) (fun x11 e11 l11 u11 => ?_)
          rw [F.2.1 15 (by decide)] at e11
          refine n_rI (L := 40) m (by decide) rfl (by omega) (by omega) (fun x12 e12 l12 u12 => ?_)
          rw [F.2.1 10 (by decide)] at e12
          have j12 : ((16 : Int32) * a1 + x12).toInt = ((16 : Int32) * a1).toInt + x12.toInt := i_add (by omega) (by omega)
          refine n_rJ (L := 960) (by decide) (by omega) (by omega) (fun x13 e13 => ?_)
          rw [F.2.2.1 36 (by decide), j12, i16, show (16 * a1.toInt + x12.toInt).toNat = 16 * a1.toInt.toNat + x12.toInt.toNat by omega] at e13
          refine n_rJ (L := 60) (by decide) (by omega) (by omega) (fun x14 _ => ?_)
          obtain ⟨-, gt, gpp⟩ := gq
          rw [← o3] at gt gpp
          have g2 := gpp jt.1
          rw [← e12, ← e13, ← e11, ← e5, ← e7] at g2
          have hl := g2.1
          have hc := g2.2 (by omega) (by omega) (by omega)
          rw [← e11] at jt
          have ht := p2 x11.toInt.toNat (by omega)
          rw [show ((x11.toInt.toNat : Nat) : Int) = x11.toInt by omega] at ht
          have j13 : x13.toInt32.toInt = x13.toInt := j_n32 (by omega) (by omega)
          refine n_cW F (qM_makeRow m (by omega) (by omega) (by omega) (by omega)) (by decide) (fun _ S16 m16 F16 _ q16 => ?_)
          refine ih (a1 + 1) S16 m16 F16 (by omega) (by omega) (fun t h4 => ?_) (by omega)
          rw [it, q16 t, p2 t h4]
          show _ = _ + (cM S0 (t : Int) a1.toInt.toNat + mkI S0 (t : Int) a1.toInt.toNat)
          have hm : mkI S0 (t : Int) a1.toInt.toNat = if t = x11.toInt.toNat then 1 else 0 := by
            unfold mkI
            rw [← o3, ← e5, ← e11, ← e7]
            by_cases hx : t = x11.toInt.toNat
            · rw [if_pos hx, if_pos ⟨h3, by omega, by omega, by omega, by omega, by omega⟩]
            · rw [if_neg hx, if_neg (fun z => hx (by omega))]
          rw [hm]; omega
theorem cM_carryOut (m : MI S0) (j0 : JJ S0) (hg : ∀ q : Nat, (q : Int) < (S0.1 46).toInt → good S0 q) : nJ (NW EC S0 (fun (_ : Unit) (_ : MS) => True)) (gM_carryOut S0) := by
  unfold gM_carryOut
  exact cM_carryOut_2 j0 hg sm_fuel 0 S0 m (fM_rf _ _) (by decide) (by decide) (fun t _ => by show _ = _ + cM S0 (t : Int) 0; unfold cM; omega) (by simp only [sm_fuel_eq]; decide)
end CO
