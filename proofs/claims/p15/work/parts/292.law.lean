theorem S0_JJ : JJ S0 := ⟨fun i h => by have e : (S0.2.2.1 16 i).toInt = 0 := rfl; omega, fun i _ => rfl⟩
set_option maxRecDepth 100000 in
set_option maxHeartbeats 4000000 in
theorem law_pure_ok : law_pure := by
  intro L xs sz hL
  show lJ sz (fL_law L xs (sz, 0, fun _ => none))
  unfold fL_law
  have W1 : Wf (fun _ => (0, 0, 0)) (sm_new (sz, 0, fun _ => none) 11 [.null, .null, .null, .null, .null, .null, .null, .null, .null, .null, .null, .null, .null, .null, .int 0, .int 0, .long 0]) := fun a ha => absurd rfl ha
  refine l_letv (fun h1 e1 => ?_)
  rw [← e1] at W1
  have s1 : h1.1 = sz + 1 := by rw [e1]; rfl
  have u1 : h1.2.1 = 17 := by rw [e1]; rfl
  have c1 : h1.2.2 sz = some (.inr (11, [.null, .null, .null, .null, .null, .null, .null, .null, .null, .null, .null, .null, .null, .null, .int 0, .int 0, .long 0])) := by rw [e1]; simp [sm_new, va_up]
  obtain ⟨_, h2, G2, e2, ⟨W2, m2, s2, u2, -, -⟩, t2, -, -, -, q2⟩ := kXS11_init W1 (by omega) rfl c1
  show lJ sz (sm_cb (fX11_init sz h1) _)
  rw [e2, pu_cb]
  refine l_letv (fun h3 e3 => ?_)
  have s3 : h3.1 = h2.1 + 1 := by rw [e3]; rfl
  have u3 : h3.2.1 = h2.2.1 + 66 := by rw [e3]; rfl
  have c3 : h3.2.2 h2.1 = some (.inr (12, (List.range 66).map (mW h2.1 0 0))) := by rw [e3]; simp only [sm_new, va_up, if_pos rfl]; rfl
  have o3 : ∀ b, b ≠ h2.1 → h3.2.2 b = h2.2.2 b := fun b hb => by rw [e3]; simp [sm_new, va_up, hb]
  obtain ⟨h4, e4, M4, s4, u4, o4⟩ := mo_init s3 c3
  show lJ sz (sm_cb (fX12_init h2.1 h3) _)
  rw [e4, pu_cb]
  have keep : ∀ b, b < h2.1 → h4.2.2 b = h2.2.2 b := fun b hb => by rw [o4 b (fun q => by have := q.1; omega), o3 b (by omega)]
  have W4 : Wf G2 h4 := fun b hb => by
    obtain ⟨p1, e, p2, p3⟩ := W2 b hb
    exact ⟨by omega, e, by rw [keep b p1]; exact p2, p3⟩
  have kx := keep sz (tG_lt W2 t2 (by decide))
  have H : PI sz h2.1 G2 h4 S0 S0.2.1 := by
    refine ⟨⟨W4, t2⟩, ⟨M4, S0_MI, S0_JJ, fun c hc => ⟨?_, ?_⟩⟩, kg_fr kx q2⟩
    · rcases Nat.eq_zero_or_pos (G2 c).1 with q | q
      · exact q
      · have := (W2 c (by omega)).1; have := hc.1; omega
    · have := hc.2; omega
  have L0 : (0 : Int32).toInt = 0 := rfl
  exact law_loop hL sm_fuel 0 G2 h4 S0 H (by omega) (by omega) (by omega) (by omega) (by omega) (by simp only [sm_fuel_eq]; omega)
