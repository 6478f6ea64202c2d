set_option maxHeartbeats 4000000 in
theorem cM_122 {S : MS} (m : MI S) {a1 a2 a5 : Int32} (h1 : 0 ≤ a1.toInt) (h2 : a1.toInt ≤ 19) (h3 : 0 ≤ a2.toInt) (h4 : a2.toInt ≤ 39) (h5 : 0 ≤ a5.toInt) (h6 : a5.toInt ≤ 3) {P : Prop} (hP : ((S.2.2.1 16 a2.toInt.toNat).toInt ≠ 0 → 4 ≤ (S.2.2.2 39 a1.toInt.toNat).toInt → (S.2.2.2 39 a1.toInt.toNat).toInt ≤ 5 → (S.2.2.1 26 a5.toInt.toNat).toInt + cM S a5.toInt a1.toInt.toNat ≤ 15) → P) : ∀ (n : Nat) (a3 : Int64) (a6 a7 a8 a9 a10 : Int32), 0 ≤ a10.toInt → a10.toInt ≤ 20 → a9 = S.2.2.1 26 a5.toInt.toNat → 20 - a10.toInt < (n : Int) → nJ (NW [56, 57] S (fun (_ : Unit) (S' : MS) => (S'.1 56).toInt ≠ 0 ∨ P)) (gM_checkPlace_122 n a1 a2 a3 a5 a6 a7 a8 a9 a10 S) := by
  have L0 : (0 : Int32).toInt = 0 := rfl
  have r46 := mi_f m 46 rfl
  have rl := row_le m (t := a5.toInt.toNat) (by omega)
  intro n
  induction n with
  | zero => intro a3 a6 a7 a8 a9 a10 p0 p1 p2 q; exfalso; omega
  | succ n ih =>
    intro a3 a6 a7 a8 a9 a10 p0 p1 p2 q
    unfold gM_checkPlace_122
    refine n_let ?_
    refine n_le (fun c => ?_) (fun c => ?_)
    · refine cM_194 m h1 h2 h3 h4 hP sm_fuel a6 a7 a8 a9 0 (by omega) (by omega) ?_ (by omega) (by omega) (by simp only [sm_fuel_eq]; omega)
      rw [p2]; show _ = _ + cM S a5.toInt 0; unfold cM; omega
    · have nx : ∀ (u v : Int32), nJ (NW [56, 57] S (fun (_ : Unit) (S' : MS) => (S'.1 56).toInt ≠ 0 ∨ P)) (sm_let (a10 + (1 : Int32)) fun x2 => gM_checkPlace_122 n a1 a2 a3 a5 a6 u v a9 x2 S) := by
        intro u v
        refine n_letv (fun z hz => ?_)
        have iz : z.toInt = a10.toInt + 1 := by rw [hz]; exact i_add1 (by omega)
        exact ih _ _ _ _ _ _ (by omega) (by omega) p2 (by omega)
      have b153 : ∀ s0 : Int32, nJ (NW [56, 57] S (fun (_ : Unit) (S' : MS) => (S'.1 56).toInt ≠ 0 ∨ P)) (gM_checkPlace_153 (gM_checkPlace_122 n) a1 a2 a3 a5 a6 a8 a9 a10 s0 S) := by
        intro s0
        unfold gM_checkPlace_153
        refine n_if (fun _ => ?_) (fun _ => nx _ _)
        refine n_if (fun _ => nx _ _) (fun _ => ?_)
        refine n_cP (nM_isMaking m (by omega) (by omega)) (fun x3 _ => ?_)
        exact n_if (fun _ => nx _ _) (fun _ => nx _ _)
      refine n_if (fun _ => ?_) (fun _ => b153 _)
      refine n_cP (nM_isMaking m (by omega) (by omega)) (fun x2 _ => ?_)
      exact n_if (fun _ => b153 _) (fun _ => b153 _)
set_option maxHeartbeats 4000000 in
theorem cM_checkPlace {S : MS} (m : MI S) {a1 a2 : Int32} (h1 : 0 ≤ a1.toInt) (h2 : a1.toInt ≤ 19) (h3 : 0 ≤ a2.toInt) (h4 : a2.toInt ≤ 39) : nJ (NW [56, 57] S (fun (_ : Unit) (S' : MS) => (S'.1 56).toInt ≠ 0 ∨ gp S a1.toInt.toNat a2)) (gM_checkPlace a1 a2 S) := by
  have L0 : (0 : Int32).toInt = 0 := rfl
  have L1 : (1 : Int32).toInt = 1 := rfl
  have J1 : (1 : Int64).toInt = 1 := rfl
  have JM : (2147483647 : Int64).toInt = 2147483647 := rfl
  have Jm : (-1 : Int64).toInt = -1 := rfl
  have F0 := fM_rf [56, 57] S
  have i16 : ((16 : Int32) * a1).toInt = 16 * a1.toInt := i_mul (n := 16) rfl (by omega) (by omega)
  have hf : ∀ (v : Int32), v.toInt ≠ 0 → nJ (NW [56, 57] S (fun (_ : Unit) (S' : MS) => (S'.1 56).toInt ≠ 0 ∨ gp S a1.toInt.toNat a2)) (mc (gM_fail v a1 S) fun _ S6 => some ((), S6)) := by
    intro v hv
    refine n_cW F0 (nM_fail m hv) (by decide) (fun _ S6 m6 F6 _ q6 => ?_)
    exact n_rW m6 F6 (Or.inl q6)
  have b39 : ∀ s0 : Int64, (s0.toInt = -1 ∨ s0 = S.2.2.2 36 (16 * a1.toInt.toNat + (S.2.2.1 10 a2.toInt.toNat).toInt.toNat)) → nJ (NW [56, 57] S (fun (_ : Unit) (S' : MS) => (S'.1 56).toInt ≠ 0 ∨ gp S a1.toInt.toNat a2)) (gM_checkPlace_39 a1 a2 s0 S) := by
    intro s0 hs
    unfold gM_checkPlace_39
    refine n_rI (L := 40) m (by decide) rfl (by omega) (by omega) (fun x1 e1 l1 u1 => ?_)
    refine n_le (fun c => ?_) (fun c => ?_)
    · refine n_cP (nM_in m) (fun x2 q2 => ?_)
      refine n_eq (fun c2 => ?_) (fun c2 => ?_)
      · exact hf 11 (by decide)
      · unfold gM_checkPlace_81
        refine n_le (fun c3 => ?_) (fun c3 => ?_)
        · have b102 : ∀ s : Int32, nJ (NW [56, 57] S (fun (_ : Unit) (S' : MS) => (S'.1 56).toInt ≠ 0 ∨ gp S a1.toInt.toNat a2)) (gM_checkPlace_102 a1 a2 s0 x1 s S) := by
            intro s
            unfold gM_checkPlace_102
            refine n_rI (L := 4) m (by decide) rfl (by omega) (by omega) (fun y ey _ _ => ?_)
            refine cM_122 m h1 h2 h3 h4 (by omega) (by omega) (fun hh => ?_) sm_fuel s0 s 0 0 y 0 (by omega) (by omega) ey (by simp only [sm_fuel_eq]; omega)
            rcases hs with hs | hs
            · exfalso; omega
            · intro _
              rw [← e1]
              refine ⟨?_, hh⟩
              rw [← hs]; omega
          refine n_cP (nM_placeOf m (by omega) (by omega)) (fun x _ => ?_)
          exact n_if (fun _ => b102 _) (fun _ => b102 _)
        · exfalso; omega
    · have vac : gp S a1.toInt.toNat a2 := fun z => by rw [← e1] at z; exfalso; omega
      refine n_if (fun _ => ?_) (fun _ => hf 11 (by decide))
      unfold gM_checkPlace_81
      refine n_le (fun c3 => ?_) (fun c3 => ?_)
      · exfalso; omega
      · exact n_rW m F0 (Or.inr vac)
  unfold gM_checkPlace
  refine n_rI (L := 60) m (by decide) rfl (by omega) (by omega) (fun x1 e1 _ _ => ?_)
  refine n_rI (L := 40) m (by decide) rfl (by omega) (by omega) (fun x2 e2 l2 u2 => ?_)
  refine n_if (fun c => ?_) (fun c => ?_)
  · refine n_rI (L := 40) m (by decide) rfl (by omega) (by omega) (fun x3 e3 l3 u3 => ?_)
    have i3 : ((16 : Int32) * a1 + x3).toInt = ((16 : Int32) * a1).toInt + x3.toInt := i_add (by omega) (by omega)
    refine n_rJ (L := 960) (by decide) (by omega) (by omega) (fun x4 e4 => ?_)
    refine b39 x4 (Or.inr ?_)
    rw [e4, i3, i16, show (16 * a1.toInt + x3.toInt).toNat = 16 * a1.toInt.toNat + x3.toInt.toNat by omega, e3]
  · exact b39 _ (Or.inl Jm)
set_option maxHeartbeats 4000000 in
theorem cM_check {S : MS} (m : MI S) {a1 : Int32} (h1 : 0 ≤ a1.toInt) (h2 : a1.toInt ≤ 19) (h3 : 0 ≤ (S.1 49).toInt) : nJ (NW [56, 57] S (fun (_ : Unit) (S' : MS) => (S'.1 56).toInt ≠ 0 ∨ good S a1.toInt.toNat)) (gM_check a1 S) := by
  have L0 : (0 : Int32).toInt = 0 := rfl
  have F0 := fM_rf [56, 57] S
  have i16 : ((16 : Int32) * a1).toInt = 16 * a1.toInt := i_mul (n := 16) rfl (by omega) (by omega)
  have hf : ∀ (v : Int32), v.toInt ≠ 0 → nJ (NW [56, 57] S (fun (_ : Unit) (S' : MS) => (S'.1 56).toInt ≠ 0 ∨ good S a1.toInt.toNat)) (mc (gM_fail v a1 S) fun _ S6 => some ((), S6)) := by
    intro v hv
    refine n_cW F0 (nM_fail m hv) (by decide) (fun _ S6 m6 F6 _ q6 => ?_)
    exact n_rW m6 F6 (Or.inl q6)
  unfold gM_check
  refine n_rI (L := 60) m (by decide) rfl (by omega) (by omega) (fun x1 e1 _ _ => ?_)
  refine n_cP (xM_objQ m h1 (by omega) e1) (fun x2 q2 => ?_)
  refine n_rI (L := 60) m (by decide) rfl (by omega) (by omega) (fun x4 e4 l4 u4 => ?_)
  refine n_cP (nM_inView (L_a1 := 960) m (by decide) (by omega) (by omega) (by omega) (by omega) (by omega) h3) (fun x5 _ => ?_)
  refine n_if (fun _ => hf 6 (by decide)) (fun _ => ?_)
  refine n_le (fun c => ?_) (fun c => ?_)
  · refine n_rI (L := 40) m (by decide) rfl (by omega) (by omega) (fun x7 e7 _ _ => ?_)
    refine n_rJ (L := 60) (by decide) (by omega) (by omega) (fun x8 _ => ?_)
    refine n_rI (L := 60) m (by decide) rfl (by omega) (by omega) (fun x9 e9 _ _ => ?_)
    refine n_eq (fun c2 => ?_) (fun c2 => ?_)
    · have cp : nJ (NW [56, 57] S (fun (_ : Unit) (S' : MS) => (S'.1 56).toInt ≠ 0 ∨ good S a1.toInt.toNat)) (mc (gM_checkPlace a1 x2 S) fun _ S6 => some ((), S6)) := by
        refine n_cW F0 (cM_checkPlace m h1 h2 (by omega) (by omega)) (by decide) (fun _ S6 m6 F6 _ q6 => ?_)
        refine n_rW m6 F6 ?_
        rcases q6 with q6 | q6
        · exact Or.inl q6
        · refine Or.inr ⟨by rw [← q2.1]; omega, ?_, by rw [← q2.1]; exact q6⟩
          rw [← q2.1, ← e7, ← e9]; exact c2
      have b195 : nJ (NW [56, 57] S (fun (_ : Unit) (S' : MS) => (S'.1 56).toInt ≠ 0 ∨ good S a1.toInt.toNat)) (gM_check_195 a1 x2 x8 S) := by
        unfold gM_check_195
        refine n_rJ (L := 40) (by decide) (by omega) (by omega) (fun y1 _ => ?_)
        refine n_rJ (L := 40) (by decide) (by omega) (by omega) (fun y2 _ => ?_)
        refine n_cP (nM_in m) (fun y3 _ => ?_)
        exact n_if (fun _ => hf 10 (by decide)) (fun _ => cp)
      have b136 : nJ (NW [56, 57] S (fun (_ : Unit) (S' : MS) => (S'.1 56).toInt ≠ 0 ∨ good S a1.toInt.toNat)) (gM_check_136 a1 x2 x7 x8 S) := by
        unfold gM_check_136
        refine n_rI (L := 40) m (by decide) rfl (by omega) (by omega) (fun y1 _ _ _ => ?_)
        refine n_if (fun _ => ?_) (fun _ => ?_)
        · refine n_if (fun _ => b195) (fun _ => ?_)
          refine n_if (fun _ => b195) (fun _ => ?_)
          exact n_if (fun _ => b195) (fun _ => cp)
        · refine n_if (fun _ => cp) (fun _ => ?_)
          refine n_if (fun _ => cp) (fun _ => ?_)
          refine n_cP (nM_in m) (fun y3 _ => ?_)
          exact n_if (fun _ => hf 10 (by decide)) (fun _ => cp)
      refine n_if (fun _ => ?_) (fun _ => b136)
      refine n_rI (L := 60) m (by decide) rfl (by omega) (by omega) (fun y1 _ _ _ => ?_)
      refine n_rJ (L := 40) (by decide) (by omega) (by omega) (fun y2 _ => ?_)
      refine n_rJ (L := 40) (by decide) (by omega) (by omega) (fun y3 _ => ?_)
      refine n_cP (nM_in m) (fun y4 _ => ?_)
      exact n_if (fun _ => hf 8 (by decide)) (fun _ => b136)
    · exact hf 7 (by decide)
  · exact hf 17 (by decide)
