theorem sI_self (S : MS) (k : Nat) : sI S k (S.1 k) = S := by
  unfold sI
  refine Prod.ext ?_ rfl
  funext j
  simp only [va_up]
  by_cases h : j = k
  · simp [h]
  · simp [h]
-- a NUMBER of 1 to 9 octets that fits 64 bits with its sign
def okV (S : MS) (a n : Nat) : Prop := (1 ≤ n ∧ n ≤ 9) ∧ (n = 9 → (hiB S a = 0 ∧ ¬ nvA S a n < 0) ∨ (hiB S a = -1 ∧ nvA S a n < 0))
-- an INTEGER from p on: what it is, and where it ends
def isInt (S : MS) (p e : Nat) (v : Int64) (to : Nat) : Prop := ∃ a, rdField S 2 p e = some (to, a) ∧ okV S a (to - a) ∧ v = nvA S a (to - a) ∧ (-2147483648 : Int64) ≤ v ∧ v ≤ 2147483647
theorem g_integer {S : MS} {p e : Nat} (hp : p ≤ e) (he : e ≤ 1200) : (∃ v to, isInt S p e v to ∧ p < to ∧ to ≤ e ∧ gM_integer (nI e) (AB S (nI p) 0) = some (v.toInt32, AB (sI S 58 0) (nI to) 0)) ∨ ((∀ v to, ¬ isInt S p e v to) ∧ ∃ r p' w, p' ≤ e ∧ gM_integer (nI e) (AB S (nI p) 0) = some (r, AB (sI S 58 w) (nI p') 1)) := by
  have h2 : (2 : Int32) = nI 2 := rfl
  have e0 : ∀ T : MS, gM_integer (nI e) T = mc (gM_field (nI 2) (nI e) T) fun x1 S2 => mc (gM_read x1 S2) fun x3 S4 => if S4.1 45 = 0 then (if S4.1 58 = 0 then mc (gM_in x3 (-2147483648 : Int64) (2147483647 : Int64) S4) fun x8 S9 => if x8 = 0 then some (x3.toInt32, sI S9 45 1) else some (x3.toInt32, S9) else some (x3.toInt32, sI S4 45 1)) else some (x3.toInt32, S4) := fun T => rfl
  rw [e0]
  rcases g_field (S := S) (t := 2) (p := p) (e := e) (by decide) hp he with ⟨to, a, g1, g2⟩ | ⟨g1, p', g2, g3⟩
  · have hin := rdField_in g1
    have huniq : ∀ v t2, isInt S p e v t2 → t2 = to ∧ okV S a (to - a) ∧ v = nvA S a (to - a) ∧ (-2147483648 : Int64) ≤ v ∧ v ≤ 2147483647 := by
      rintro v t2 ⟨a2, q1, q2, q3, q4⟩
      rw [g1] at q1
      obtain ⟨r1, r2⟩ := some2 q1
      subst r1 r2
      exact ⟨rfl, q2, q3, q4⟩
    rw [g2, mc_some, g_read hin.2.1 (by omega)]
    by_cases c1 : 1 ≤ to - a ∧ to - a ≤ 9
    · rw [if_pos c1]
      unfold rdFin
      by_cases c2 : to - a = 9
      · rw [if_pos c2, mc_some, AB_45]
        by_cases c3 : hiB S a = 0 ∨ (hiB S a = -1 ∧ nvA S a (to - a) < 0)
        · rw [if_pos c3, if_pos rfl, AB_o (by decide) (by decide)]
          have e58 : ∀ w : Int32, (sI S 58 w).1 58 = w := fun w => by simp [sI, va_up]
          rw [e58]
          by_cases c4 : hiB S a = 0 ∧ nvA S a (to - a) < 0
          · rw [if_pos c4, if_neg (by decide), AB_b]
            refine Or.inr ⟨fun v t2 q => ?_, _, to, 1, hin.2.2, rfl⟩
            obtain ⟨-, q2, -, -⟩ := huniq v t2 q
            rcases q2.2 c2 with ⟨-, q3⟩ | ⟨q3, -⟩
            · exact q3 c4.2
            · rw [c4.1] at q3; exact absurd q3 (by decide)
          · rw [if_neg c4, if_pos rfl, g_in, mc_some]
            have hok : okV S a (to - a) := ⟨c1, fun _ => by
              rcases c3 with q | q
              · exact Or.inl ⟨q, fun q2 => c4 ⟨q, q2⟩⟩
              · exact Or.inr q⟩
            by_cases c5 : (-2147483648 : Int64) ≤ nvA S a (to - a) ∧ nvA S a (to - a) ≤ 2147483647
            · rw [if_pos c5, if_neg (by decide)]
              exact Or.inl ⟨_, to, ⟨a, g1, hok, rfl, c5.1, c5.2⟩, by omega, hin.2.2, rfl⟩
            · rw [if_neg c5, if_pos rfl, AB_b]
              refine Or.inr ⟨fun v t2 q => ?_, _, to, 0, hin.2.2, rfl⟩
              obtain ⟨-, -, q3, q4, q5⟩ := huniq v t2 q
              rw [q3] at q4 q5
              exact c5 ⟨q4, q5⟩
        · rw [if_neg c3, if_neg (by decide)]
          refine Or.inr ⟨fun v t2 q => ?_, _, to, _, hin.2.2, rfl⟩
          obtain ⟨-, q2, -, -⟩ := huniq v t2 q
          rcases q2.2 c2 with ⟨q3, -⟩ | q3
          · exact c3 (Or.inl q3)
          · exact c3 (Or.inr q3)
      · rw [if_neg c2, mc_some, AB_45, if_pos rfl, AB_o (by decide) (by decide)]
        have e58 : ∀ w : Int32, (sI S 58 w).1 58 = w := fun w => by simp [sI, va_up]
        rw [e58, if_pos rfl, g_in, mc_some]
        have hok : okV S a (to - a) := ⟨c1, fun q => absurd q c2⟩
        by_cases c5 : (-2147483648 : Int64) ≤ nvA S a (to - a) ∧ nvA S a (to - a) ≤ 2147483647
        · rw [if_pos c5, if_neg (by decide)]
          exact Or.inl ⟨_, to, ⟨a, g1, hok, rfl, c5.1, c5.2⟩, by omega, hin.2.2, rfl⟩
        · rw [if_neg c5, if_pos rfl, AB_b]
          refine Or.inr ⟨fun v t2 q => ?_, _, to, 0, hin.2.2, rfl⟩
          obtain ⟨-, -, q3, q4, q5⟩ := huniq v t2 q
          rw [q3] at q4 q5
          exact c5 ⟨q4, q5⟩
    · rw [if_neg c1, mc_some, AB_45, if_neg (by decide)]
      refine Or.inr ⟨fun v t2 q => ?_, _, a, S.1 58, by omega, by rw [sI_self]⟩
      obtain ⟨-, q2, -, -⟩ := huniq v t2 q
      exact c1 q2.1
  · rw [g3, mc_some, g_read_b (by decide), mc_some, AB_45, if_neg (by decide)]
    refine Or.inr ⟨fun v t2 q => ?_, _, p', S.1 58, g2, by rw [sI_self]⟩
    obtain ⟨a, q1, -⟩ := q
    rw [g1] at q1
    cases q1
