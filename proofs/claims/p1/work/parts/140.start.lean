theorem sm_pickD {s : State} (cl : List vw_C) (h : ∀ q ∈ cl, ∃ (c : ClassId) (iS : Nat → Nat), u_Kn s q.1 q.2.1 q.2.2 c iS) : ∃ D : va_G, ∀ (k : Nat) (q : vw_C), cl[k]? = some q → u_Kn s q.1 q.2.1 q.2.2 (D.1 k) (D.2 k) := by
  have h2 : ∀ k : Nat, ∃ x : ClassId × (Nat → Nat), ∀ q, cl[k]? = some q → u_Kn s q.1 q.2.1 q.2.2 x.1 x.2 := by
    intro k
    cases hk : cl[k]? with
    | none => exact ⟨(0, fun _ => 0), fun q e => by cases e⟩
    | some q =>
      obtain ⟨c, iS, hc⟩ := h q (List.mem_of_getElem? hk)
      exact ⟨(c, iS), fun q' e => by cases e; exact hc⟩
  exact ⟨(fun k => (Classical.choose (h2 k)).1, fun k => (Classical.choose (h2 k)).2), fun k q e => Classical.choose_spec (h2 k) q e⟩
theorem sm_pickA {s : State} (ats : List FieldType) (h : ∀ ty ∈ ats, ∃ c : ClassId, ArrOfT s c ty ∧ va_RA s c ty) : ∃ aC : Nat → ClassId, ∀ (t : Nat) (ty : FieldType), ats[t]? = some ty → ArrOfT s (aC t) ty ∧ va_RA s (aC t) ty := by
  have h2 : ∀ k : Nat, ∃ x : ClassId, ∀ ty, ats[k]? = some ty → ArrOfT s x ty ∧ va_RA s x ty := by
    intro k
    cases hk : ats[k]? with
    | none => exact ⟨0, fun q e => by cases e⟩
    | some q =>
      obtain ⟨c, hc⟩ := h q (List.mem_of_getElem? hk)
      exact ⟨c, fun q' e => by cases e; exact hc⟩
  exact ⟨fun k => Classical.choose (h2 k), fun k q e => Classical.choose_spec (h2 k) q e⟩
theorem sm_arrP {args : Array Value} {s : State} {ty : FieldType} (hty : ∀ (U : State) (cA : ClassId), U.vm.findClass ("[" ++ ty.toString) = some cA → va_RA U cA ty) (h : (Cond.arrayClass ty).before args s = true) : ∃ c : ClassId, ArrOfT s c ty ∧ va_RA s c ty := by
  obtain ⟨c, k, comp, h1, h2, h3⟩ := Cond.arrayClass_spec h
  exact ⟨c, fun n z => ⟨fun k h => (by cases h), k, h2, comp, h3⟩, hty s c h1⟩
theorem sm_arrO {args : Array Value} {s : State} {C : String} (h : (Cond.arrayOver (.object C)).before args s = true) : ∃ c : ClassId, ArrOfT s c (.object C) ∧ va_RA s c (.object C) := by
  obtain ⟨comp, c, k, h1, h2, h3, h4, h5⟩ := Cond.arrayOver_spec h
  exact ⟨c, fun n z => ⟨fun k h => (by cases h), k, h3, comp, h4⟩, k, comp, h3, h4, h1, h5⟩
set_option maxRecDepth 100000 in
theorem mO0 : Cond.arrayClass .int ∈ lw_tbl := List.mem_append_right _ (List.mem_of_getElem? (i := 288) rfl)
set_option maxRecDepth 100000 in
theorem mO1 : Cond.arrayClass .long ∈ lw_tbl := List.mem_append_right _ (List.mem_of_getElem? (i := 39) rfl)
set_option maxRecDepth 100000 in
theorem mO2 : Cond.arrayClass .boolean ∈ lw_tbl := List.mem_append_right _ (List.mem_of_getElem? (i := 637) rfl)
set_option maxRecDepth 100000 in
theorem mO3 : Cond.arrayClass .byte ∈ lw_tbl := List.mem_append_right _ (List.mem_of_getElem? (i := 1229) rfl)
set_option maxRecDepth 100000 in
theorem mO4 : Cond.arrayOver (.object "TreeAgent$Thing") ∈ lw_tbl := List.mem_append_right _ (List.mem_of_getElem? (i := 47) rfl)
set_option maxRecDepth 100000 in
theorem mO5 : Cond.arrayOver (.object "TreeAgent$Table") ∈ lw_tbl := List.mem_append_right _ (List.mem_of_getElem? (i := 49) rfl)
set_option maxRecDepth 100000 in
theorem mO6 : Cond.arrayOver (.object "TreeAgent$Community") ∈ lw_tbl := List.mem_append_right _ (List.mem_of_getElem? (i := 67) rfl)
set_option maxRecDepth 100000 in
theorem mO7 : Cond.arrayOver (.object "TreeAgent$Pair") ∈ lw_tbl := List.mem_append_right _ (List.mem_of_getElem? (i := 77) rfl)
set_option maxRecDepth 100000 in
theorem mO8 : Cond.arrayOver (.object "TreeAgent$Value") ∈ lw_tbl := List.mem_append_right _ (List.mem_of_getElem? (i := 374) rfl)
set_option maxRecDepth 100000 in
theorem mO9 : Cond.arrayOver (.object "TreeAgent$Chain") ∈ lw_tbl := List.mem_append_right _ (List.mem_of_getElem? (i := 617) rfl)
set_option maxRecDepth 100000 in
theorem mI0 : Cond.instantiable RX0 2 ∈ lw_tbl := List.mem_append_right _ (List.mem_of_getElem? (i := 24) rfl)
set_option maxRecDepth 100000 in
theorem mI1 : Cond.instantiable RX1 2 ∈ lw_tbl := List.mem_append_right _ (List.mem_of_getElem? (i := 190) rfl)
set_option maxRecDepth 100000 in
theorem mI2 : Cond.instantiable RX2 5 ∈ lw_tbl := List.mem_append_right _ (List.mem_of_getElem? (i := 610) rfl)
set_option maxRecDepth 100000 in
theorem mI3 : Cond.instantiable RX3 9 ∈ lw_tbl := List.mem_append_right _ (List.mem_of_getElem? (i := 69) rfl)
set_option maxRecDepth 100000 in
theorem mI4 : Cond.instantiable RX4 2 ∈ lw_tbl := List.mem_append_right _ (List.mem_of_getElem? (i := 78) rfl)
set_option maxRecDepth 100000 in
theorem mI5 : Cond.instantiable RX5 3 ∈ lw_tbl := List.mem_append_right _ (List.mem_of_getElem? (i := 172) rfl)
set_option maxRecDepth 100000 in
theorem mI6 : Cond.instantiable RX6 6 ∈ lw_tbl := List.mem_append_right _ (List.mem_of_getElem? (i := 203) rfl)
set_option maxRecDepth 100000 in
theorem mI7 : Cond.instantiable RX7 6 ∈ lw_tbl := List.mem_append_right _ (List.mem_of_getElem? (i := 445) rfl)
set_option maxRecDepth 100000 in
theorem mI8 : Cond.instantiable RX8 7 ∈ lw_tbl := List.mem_append_right _ (List.mem_of_getElem? (i := 361) rfl)
set_option maxRecDepth 100000 in
theorem mI9 : Cond.instantiable RX9 5 ∈ lw_tbl := List.mem_append_right _ (List.mem_of_getElem? (i := 41) rfl)
set_option maxRecDepth 100000 in
theorem mI10 : Cond.instantiable RX10 3 ∈ lw_tbl := List.mem_append_right _ (List.mem_of_getElem? (i := 80) rfl)
set_option maxRecDepth 100000 in
theorem mI11 : Cond.instantiable RX11 17 ∈ lw_tbl := List.mem_append_right _ (List.mem_of_getElem? (i := 16) rfl)
set_option maxRecDepth 100000 in
theorem mI12 : Cond.instantiable RX12 66 ∈ lw_tbl := List.mem_append_right _ (List.mem_of_getElem? (i := 1025) rfl)
set_option maxRecDepth 100000 in
set_option maxHeartbeats 4000000 in
theorem sm_tabs {args : Array Value} {s : State} (hts : ∀ w ∈ lw_tbl, w.before args s = true) : ∃ (D : va_G) (aC : Nat → ClassId), sm_G D vwCl gAts aC gNs gOs s := by
  have hg : ∀ w ∈ gTs, w.before args s = true := fun w hw => hts w (List.mem_filter.mp hw).1
  obtain ⟨D, hD⟩ := sm_pickD (s := s) vwCl (by
    intro q hq
    simp only [vwCl, List.mem_cons, List.not_mem_nil, or_false] at hq
    rcases hq with rfl | rfl | rfl | rfl | rfl | rfl | rfl | rfl | rfl | rfl | rfl | rfl | rfl
    · exact u_known (C := RX0) (T := TX0) (N := 2) (n := 2) hg kX0.1 (hts _ mI0)
    · exact u_known (C := RX1) (T := TX1) (N := 2) (n := 2) hg kX1.1 (hts _ mI1)
    · exact u_known (C := RX2) (T := TX2) (N := 5) (n := 5) hg kX2.1 (hts _ mI2)
    · exact u_known (C := RX3) (T := TX3) (N := 9) (n := 9) hg kX3.1 (hts _ mI3)
    · exact u_known (C := RX4) (T := TX4) (N := 2) (n := 2) hg kX4.1 (hts _ mI4)
    · exact u_known (C := RX5) (T := TX5) (N := 3) (n := 3) hg kX5.1 (hts _ mI5)
    · exact u_known (C := RX6) (T := TX6) (N := 6) (n := 6) hg kX6.1 (hts _ mI6)
    · exact u_known (C := RX7) (T := TX7) (N := 6) (n := 6) hg kX7.1 (hts _ mI7)
    · exact u_known (C := RX8) (T := TX8) (N := 7) (n := 7) hg kX8.1 (hts _ mI8)
    · exact u_known (C := RX9) (T := TX9) (N := 5) (n := 5) hg kX9.1 (hts _ mI9)
    · exact u_known (C := RX10) (T := TX10) (N := 3) (n := 3) hg kX10.1 (hts _ mI10)
    · exact u_known (C := RX11) (T := TX11) (N := 17) (n := 17) hg kX11.1 (hts _ mI11)
    · exact u_known (C := RX12) (T := TX12) (N := 66) (n := 66) hg kX12.1 (hts _ mI12))
  obtain ⟨aC, hA⟩ := sm_pickA (s := s) gAts (by
    intro q hq
    simp only [gAts, List.mem_cons, List.not_mem_nil, or_false] at hq
    rcases hq with rfl | rfl | rfl | rfl | rfl | rfl | rfl | rfl | rfl | rfl
    · exact sm_arrP (fun _ _ h => h) (hts _ mO0)
    · exact sm_arrP (fun _ _ h => h) (hts _ mO1)
    · exact sm_arrP (fun _ _ h => h) (hts _ mO2)
    · exact sm_arrP (fun _ _ h => h) (hts _ mO3)
    · exact sm_arrO (hts _ mO4)
    · exact sm_arrO (hts _ mO5)
    · exact sm_arrO (hts _ mO6)
    · exact sm_arrO (hts _ mO7)
    · exact sm_arrO (hts _ mO8)
    · exact sm_arrO (hts _ mO9))
  refine ⟨D, aC, ⟨hD, hA⟩, fun w hw => va_Nw.of (sm_onT (gN w hw)) (hts w (List.mem_filter.mp hw).1), fun C hC => ?_⟩
  simp only [gOs, List.mem_cons, List.not_mem_nil, or_false] at hC
  rcases hC with rfl | rfl | rfl | rfl | rfl | rfl
  · exact va_AO.of (hts _ mO4)
  · exact va_AO.of (hts _ mO5)
  · exact va_AO.of (hts _ mO6)
  · exact va_AO.of (hts _ mO7)
  · exact va_AO.of (hts _ mO8)
  · exact va_AO.of (hts _ mO9)
-- what is left: the law's code, on an empty picture, comes to its end in its room
def law_pure : Prop := ∀ (L : Nat) (xs : Nat → Int32) (sz : Nat), L ≤ 9
 → ∃ h' : sm_H, fL_law L xs (sz, 0, fun _ => none) = some ((), h') ∧ h'.1 - sz ≤ 600000 ∧ h'.2.1 ≤ 7302249
theorem start_open (hpure : law_pure) {p : Program} {e : Env} {s : State} {m : MethodId} {below : List Frame} {meth : Method} {c : Code} (l : Launch) {b L : Nat} {xs : Nat → Int32} (hL : L ≤ 9
) (C0 : lw_At p s m meth c b L xs) : W p l e room_1 s m #[Value.ref b] below meth c s.heap [] 0 0 (lw_Z below #[Value.ref b] s) (entryFrame m ([Value.ref b] : List Value).toArray 4) := by
  obtain ⟨hx, hb, hr, hml, hown, hts, hX, hbl, hlocks, hgv⟩ := C0
  obtain ⟨D, aC, hG⟩ := sm_tabs hts
  obtain ⟨h', hE, hc, hs⟩ := hpure L xs s.heap.size hL
  obtain ⟨a, b2, w⟩ := sL_law_0 l D aC s.heap.size meth.name b L xs (s.heap.size, 0, fun _ => none) () h' hE
  have C : sm_X p room_1 s m #[Value.ref b] meth c cL_law 4 "TreeAgentLaw" 12 470 ret meth.name (sm_Sc b L s.heap.size xs) D vwCl gAts aC gTs gNs gOs := ⟨hx, hb, hml, hown, fun w hw => hts w (List.mem_filter.mp hw).1, hG, hlocks, gG, gN, rfl, rfl, hr, rfl, rfl, rfl, hX, hbl, rfl⟩
  have hl := lv_entry ([.ref b]) (n := 4) (Nat.le_of_ble_eq_true rfl)
  rw [lg_entry_eq]
  exact w (e := e) (below := below) C 0 0 s.heap [] _ (by rw [Nat.zero_add]; exact hc) (by rw [Nat.zero_add, Nat.sub_zero]; exact hs) ⟨rfl, Nat.le_refl _, fun a e h => by cases h⟩ va_S.rf hl
