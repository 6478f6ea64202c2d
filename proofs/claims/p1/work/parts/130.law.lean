-- THE CLAIM OUT OF ONE WALK OF THE LAW'S BODY. Your part is whole_start (and what it stands on); all else here is the same for every law, but numbers.
def R_law : String := "TreeAgentLaw"
def lw_P (b : Addr) (xs : List Int32) (args : Array Value) (s : State) : Prop := args = #[.ref b] ∧ s.IntsAt b xs ∧ xs.length ≤ 9 ∧ (Jvm.Cond.and given_1 narrow_1).before args s = true
def lw_Q (_ : Array Value) (s : State) (o : Outcome) (t : State) : Prop := o = .returned (some (.int 1)) ∧ Framed s o t [] 600000 7302249
def lw_Z (below : List Frame) (a : Array Value) (s : State) : State → Prop := fun t => ∃ o, t.status = .running ∧ Ended t below o ∧ lw_Q a s o t
-- the law's own end, with 1 on the stack, nothing written that was there before, its room as the claim has it
theorem lw_ret {p : Program} {l : Launch} {e : Env} {s : State} {m : MethodId} {below : List Frame} {meth : Method} {c : Code} {b : Nat} (hx : p.tables.exec = Jvm.exec) (hb : c.code = code) (hr : meth.sig.returnType = ret) (hlocks : meth.locks = false) {pc : Nat} {H : Heap} {ls : Array Slot} (hdg : decode code pc = .ok (.ireturn, 1)) : W p l e room_1 s m #[Value.ref b] below meth c H [] 600000 7302249 (lw_Z below #[Value.ref b] s) (F0 m pc ls [.int 1]) := by
  intro T hT X
  obtain ⟨fs, hret, hrun, hended, hW, hframe⟩ := X.leave (v := some (.int 1)) (hlocks := hlocks) (fun h => by rw [hr] at h; cases h)
  have hmeth' : T.vm.method? m = some meth := X.method'
  refine ⟨T.setFrames fs, ?_, .returned (some (.int 1)), hrun, hended, rfl, ⟨_, rfl⟩, hW, hframe⟩
  jvm_step X.here [X.here.top, hx, hb, hdg, hmeth', hr, ret, narrow_b1]
  (try refine ⟨rfl, ?_⟩); (try refine ⟨rfl, ?_⟩)
  first | (intro acts; rw [hret _ acts rfl rfl rfl]) | rw [hret _ _ rfl rfl rfl]
  exact Steps.refl _
-- what holds at the law's entry: the machine, the code, the tables' words (any of lw_tbl by 'hts w (by decide +kernel)'), the script of L ints xs at the cell b, what the Statement gives of the start (any of its parts by flat_of_before)
def lw_At (p : Program) (s : State) (m : MethodId) (meth : Method) (c : Code) (b L : Nat) (xs : Nat → Int32) : Prop :=
  p.tables.exec = Jvm.exec ∧ c.code = code ∧ meth.sig.returnType = ret ∧ c.maxLocals = 4 ∧ s.vm.findClass R_law = some m.cls ∧ (∀ w ∈ lw_tbl, w.before #[Value.ref b] s = true) ∧ va_X b L xs s s.heap ∧ b < s.heap.size ∧ meth.locks = false ∧ (Jvm.Cond.and given_1 narrow_1).before #[Value.ref b] s = true
def lw_Qf : State → Array Value → List Frame → Unit → sm_H → Nat → Nat → State → Prop := fun s args below _ _ _ _ => lw_Z below args s
abbrev zL (l : Launch) (D : va_G) (aC : Nat → ClassId) (B : Nat) (nm : String) (b L : Nat) (xs : Nat → Int32) (X : Option (Unit × sm_H)) (pc : Nat) (lv : List (Nat × sm_V)) (st : List sm_V) (h : sm_H) : Prop := sm_S l D vwCl gAts aC B gTs gNs gOs cL_law 4 "TreeAgentLaw" 12 470 ret nm (sm_Sc b L B xs) lw_Qf X pc lv st h
theorem sm_lawret {l : Launch} {D : va_G} {aC : Nat → ClassId} {B b L pc : Nat} {nm : String} {xs : Nat → Int32} {lv : List (Nat × sm_V)} {h : sm_H} (hd : decode cL_law pc = .ok (.ireturn, 1)) : zL l D aC B nm b L xs (some ((), h)) pc lv [vI 1] h := by
  intro r h' hX
  cases hX
  refine ⟨Nat.le_refl _, Nat.le_refl _, fun {p e R s m args below meth c} C cells slots H locs ls h1 h2 h3 h4 h5 => ?_⟩
  obtain ⟨hR, hA, e1, e2, e3⟩ := C.2.2.2.2.2.2.2.2.2.2.2.2.2
  subst hR
  subst hA
  have hc : cells ≤ 600000 := Nat.le_trans (Nat.le_add_right _ _) h1
  have hs : slots ≤ 7302249 := Nat.le_trans (Nat.le_add_right _ _) h2
  refine va_forget (fun q hq => by rw [← e3]; exact h4.2.2 q hq) ?_
  refine W.widen (k := 600000) (n := 7302249) hc hs ?_
  exact lw_ret C.1 C.2.1 C.2.2.2.2.2.2.2.2.2.2.2.1 C.2.2.2.2.2.2.1 hd
noncomputable def fL_law_568 (L : Nat) (xs : Nat → Int32) (K18 : Option Nat → Option Nat → Int32 → sm_H → Option (Unit × sm_H)) (a1 : Option Nat) (a2 : Option Nat) (a3 : Int32) (s0 : Int32) (s1 : Int32) (s2 : Int32) (s3 : Option Nat) (h : sm_H) : Option (Unit × sm_H) :=
  (sm_obj h s3 11).bind fun b14 =>
  sm_cb (fX11_row b14 s2 s1 s0 h) fun x1 h2 =>
  if (a3 + (1 : Int32)) < 0 ∨ L ≤ (a3 + (1 : Int32)).toNatClampNeg then none else sm_let (xs (a3 + (1 : Int32)).toNatClampNeg) fun x3 =>
  if (a3 + (2 : Int32)) < 0 ∨ L ≤ (a3 + (2 : Int32)).toNatClampNeg then none else sm_let (xs (a3 + (2 : Int32)).toNatClampNeg) fun x4 =>
  if (a3 + (3 : Int32)) < 0 ∨ L ≤ (a3 + (3 : Int32)).toNatClampNeg then none else sm_let (xs (a3 + (3 : Int32)).toNatClampNeg) fun x5 =>
  if x5 = 0 then (
    (sm_obj h2 a2 12).bind fun b9 =>
    sm_cb (fX12_row b9 x3 x4 (0 : Int32) h2) fun x6 h7 =>
    if x1 = x6 then (
      sm_let (a3 + (9 : Int32)) fun x8 =>
      K18 a1 a2 x8 h7
    ) else
    none
  ) else
  (sm_obj h2 a2 12).bind fun b13 =>
  sm_cb (fX12_row b13 x3 x4 (1 : Int32) h2) fun x10 h11 =>
  if x1 = x10 then (
    sm_let (a3 + (9 : Int32)) fun x12 =>
    K18 a1 a2 x12 h11
  ) else
  none
set_option maxRecDepth 100000 in
set_option maxHeartbeats 4000000 in
theorem sL_law_568 (l : Launch) (D : va_G) (aC : Nat → ClassId) (B : Nat) (nm : String) (b L : Nat) (xs : Nat → Int32) (K18 : Option Nat → Option Nat → Int32 → sm_H → Option (Unit × sm_H)) (hK18 : ∀ (a1 : Option Nat) (a2 : Option Nat) (a3 : Int32) (h : sm_H), zL l D aC B nm b L xs (K18 a1 a2 a3 h) 18 [(0, vR (some b)), (1, vR a1), (2, vR a2), (3, vI a3)] [] h) (a1 : Option Nat) (a2 : Option Nat) (a3 : Int32) (s0 : Int32) (s1 : Int32) (s2 : Int32) (s3 : Option Nat) (h : sm_H) : zL l D aC B nm b L xs (fL_law_568 L xs K18 a1 a2 a3 s0 s1 s2 s3 h) 568 [(0, vR (some b)), (1, vR a1), (2, vR a2), (3, vI a3)] [vI s0, vI s1, vI s2, vR s3] h := by
  unfold fL_law_568
  refine sm_cVI (pc' := 571) (ci := 11) (st := []) (F := fun b => fX11_row b s2 s1 s0 h) [vI s2, vI s1, vI s0] yY_yX11_row rfl mw903 mw907 mw908 (fun b => mX11_row l D aC B b s2 s1 s0 h) rfl (by decide) (by decide) (by exact Nat.le_of_ble_eq_true rfl) rfl dL_law_568 rfl (fun x1 h2 => ?_)
  refine sm_aload_n (i := 2) (j := 2) (pc' := 572) dL_law_571 rfl rfl rfl ?_
  refine sm_aload_n (i := 0) (j := 0) (pc' := 573) dL_law_572 rfl rfl rfl ?_
  refine sm_iload_n (i := 3) (j := 3) (pc' := 574) dL_law_573 rfl rfl rfl ?_
  refine sm_iconst (v := (1 : Int32)) (pc' := 575) dL_law_574 rfl (by decide) ?_
  refine sm_iadd (pc' := 576) dL_law_575 rfl ?_
  refine sm_sld (pc' := 577) rfl dL_law_576 rfl (fun x3 => ?_)
  refine sm_aload_n (i := 0) (j := 0) (pc' := 578) dL_law_577 rfl rfl rfl ?_
  refine sm_iload_n (i := 3) (j := 3) (pc' := 579) dL_law_578 rfl rfl rfl ?_
  refine sm_iconst (v := (2 : Int32)) (pc' := 580) dL_law_579 rfl (by decide) ?_
  refine sm_iadd (pc' := 581) dL_law_580 rfl ?_
  refine sm_sld (pc' := 582) rfl dL_law_581 rfl (fun x4 => ?_)
  refine sm_aload_n (i := 0) (j := 0) (pc' := 583) dL_law_582 rfl rfl rfl ?_
  refine sm_iload_n (i := 3) (j := 3) (pc' := 584) dL_law_583 rfl rfl rfl ?_
  refine sm_iconst (v := (3 : Int32)) (pc' := 585) dL_law_584 rfl (by decide) ?_
  refine sm_iadd (pc' := 586) dL_law_585 rfl ?_
  refine sm_sld (pc' := 587) rfl dL_law_586 rfl (fun x5 => ?_)
  refine sm_if_eq (tgt := 594) (pc' := 590) dL_law_587 (by decide) rfl ?_ ?_
  · refine sm_iconst (v := (0 : Int32)) (pc' := 595) dL_law_594 rfl (by decide) ?_
    refine sm_cVI (pc' := 598) (ci := 12) (st := [vI x1]) (F := fun b => fX12_row b x3 x4 (0 : Int32) h2) [vI x3, vI x4, vI (0 : Int32)] yY_yX12_row rfl mw904 mw905 mw906 (fun b => mX12_row l D aC B b x3 x4 (0 : Int32) h2) rfl (by decide) (by decide) (by exact Nat.le_of_ble_eq_true rfl) rfl dL_law_595 rfl (fun x6 h7 => ?_)
    refine sm_icmp_eq (tgt := 1067) (pc' := 601) dL_law_598 (by decide) rfl ?_ ?_
    · refine sm_iincL (i := 3) (j := 3) (x := a3) (d := (9 : Int32)) (fun x8 => [(3, vI x8), (0, vR (some b)), (1, vR a1), (2, vR a2)]) (pc' := 1070) dL_law_1067 rfl rfl (by decide) (by decide) (fun _ => rfl) (fun x8 => ?_)
      refine sm_goto (pc' := 18) dL_law_1070 (by decide) ?_
      refine sm_lo (lv' := [(0, vR (some b)), (1, vR a1), (2, vR a2), (3, vI x8)]) [1, 2, 3, 0] rfl ?_
      exact hK18 a1 a2 x8 h7
    refine sm_iconst (v := (0 : Int32)) (pc' := 602) dL_law_601 rfl (by decide) ?_
    exact sm_none
  refine sm_iconst (v := (1 : Int32)) (pc' := 591) dL_law_590 rfl (by decide) ?_
  refine sm_goto (pc' := 595) dL_law_591 (by decide) ?_
  refine sm_cVI (pc' := 598) (ci := 12) (st := [vI x1]) (F := fun b => fX12_row b x3 x4 (1 : Int32) h2) [vI x3, vI x4, vI (1 : Int32)] yY_yX12_row rfl mw904 mw905 mw906 (fun b => mX12_row l D aC B b x3 x4 (1 : Int32) h2) rfl (by decide) (by decide) (by exact Nat.le_of_ble_eq_true rfl) rfl dL_law_595 rfl (fun x10 h11 => ?_)
  refine sm_icmp_eq (tgt := 1067) (pc' := 601) dL_law_598 (by decide) rfl ?_ ?_
  · refine sm_iincL (i := 3) (j := 3) (x := a3) (d := (9 : Int32)) (fun x12 => [(3, vI x12), (0, vR (some b)), (1, vR a1), (2, vR a2)]) (pc' := 1070) dL_law_1067 rfl rfl (by decide) (by decide) (fun _ => rfl) (fun x12 => ?_)
    refine sm_goto (pc' := 18) dL_law_1070 (by decide) ?_
    refine sm_lo (lv' := [(0, vR (some b)), (1, vR a1), (2, vR a2), (3, vI x12)]) [1, 2, 3, 0] rfl ?_
    exact hK18 a1 a2 x12 h11
  refine sm_iconst (v := (0 : Int32)) (pc' := 602) dL_law_601 rfl (by decide) ?_
  exact sm_none
noncomputable def fL_law_756 (L : Nat) (xs : Nat → Int32) (K18 : Option Nat → Option Nat → Int32 → sm_H → Option (Unit × sm_H)) (a1 : Option Nat) (a2 : Option Nat) (a3 : Int32) (s0 : Int32) (s1 : Option Nat) (h : sm_H) : Option (Unit × sm_H) :=
  (sm_obj h s1 11).bind fun b12 =>
  sm_cb (fX11_community b12 s0 h) fun x1 h2 =>
  if (a3 + (1 : Int32)) < 0 ∨ L ≤ (a3 + (1 : Int32)).toNatClampNeg then none else sm_let (xs (a3 + (1 : Int32)).toNatClampNeg) fun x3 =>
  if x3 = 0 then (
    (sm_obj h2 a2 12).bind fun b7 =>
    sm_cb (fX12_community b7 (0 : Int32) h2) fun x4 h5 =>
    if x1 = x4 then (
      sm_let (a3 + (9 : Int32)) fun x6 =>
      K18 a1 a2 x6 h5
    ) else
    none
  ) else
  (sm_obj h2 a2 12).bind fun b11 =>
  sm_cb (fX12_community b11 (1 : Int32) h2) fun x8 h9 =>
  if x1 = x8 then (
    sm_let (a3 + (9 : Int32)) fun x10 =>
    K18 a1 a2 x10 h9
  ) else
  none
set_option maxRecDepth 100000 in
set_option maxHeartbeats 4000000 in
theorem sL_law_756 (l : Launch) (D : va_G) (aC : Nat → ClassId) (B : Nat) (nm : String) (b L : Nat) (xs : Nat → Int32) (K18 : Option Nat → Option Nat → Int32 → sm_H → Option (Unit × sm_H)) (hK18 : ∀ (a1 : Option Nat) (a2 : Option Nat) (a3 : Int32) (h : sm_H), zL l D aC B nm b L xs (K18 a1 a2 a3 h) 18 [(0, vR (some b)), (1, vR a1), (2, vR a2), (3, vI a3)] [] h) (a1 : Option Nat) (a2 : Option Nat) (a3 : Int32) (s0 : Int32) (s1 : Option Nat) (h : sm_H) : zL l D aC B nm b L xs (fL_law_756 L xs K18 a1 a2 a3 s0 s1 h) 756 [(0, vR (some b)), (1, vR a1), (2, vR a2), (3, vI a3)] [vI s0, vR s1] h := by
  unfold fL_law_756
  refine sm_cVI (pc' := 759) (ci := 11) (st := []) (F := fun b => fX11_community b s0 h) [vI s0] yY_yX11_community rfl mw909 mw913 mw914 (fun b => mX11_community l D aC B b s0 h) rfl (by decide) (by decide) (by exact Nat.le_of_ble_eq_true rfl) rfl dL_law_756 rfl (fun x1 h2 => ?_)
  refine sm_aload_n (i := 2) (j := 2) (pc' := 760) dL_law_759 rfl rfl rfl ?_
  refine sm_aload_n (i := 0) (j := 0) (pc' := 761) dL_law_760 rfl rfl rfl ?_
  refine sm_iload_n (i := 3) (j := 3) (pc' := 762) dL_law_761 rfl rfl rfl ?_
  refine sm_iconst (v := (1 : Int32)) (pc' := 763) dL_law_762 rfl (by decide) ?_
  refine sm_iadd (pc' := 764) dL_law_763 rfl ?_
  refine sm_sld (pc' := 765) rfl dL_law_764 rfl (fun x3 => ?_)
  refine sm_if_eq (tgt := 772) (pc' := 768) dL_law_765 (by decide) rfl ?_ ?_
  · refine sm_iconst (v := (0 : Int32)) (pc' := 773) dL_law_772 rfl (by decide) ?_
    refine sm_cVI (pc' := 776) (ci := 12) (st := [vI x1]) (F := fun b => fX12_community b (0 : Int32) h2) [vI (0 : Int32)] yY_yX12_community rfl mw910 mw911 mw912 (fun b => mX12_community l D aC B b (0 : Int32) h2) rfl (by decide) (by decide) (by exact Nat.le_of_ble_eq_true rfl) rfl dL_law_773 rfl (fun x4 h5 => ?_)
    refine sm_icmp_eq (tgt := 1067) (pc' := 779) dL_law_776 (by decide) rfl ?_ ?_
    · refine sm_iincL (i := 3) (j := 3) (x := a3) (d := (9 : Int32)) (fun x6 => [(3, vI x6), (0, vR (some b)), (1, vR a1), (2, vR a2)]) (pc' := 1070) dL_law_1067 rfl rfl (by decide) (by decide) (fun _ => rfl) (fun x6 => ?_)
      refine sm_goto (pc' := 18) dL_law_1070 (by decide) ?_
      refine sm_lo (lv' := [(0, vR (some b)), (1, vR a1), (2, vR a2), (3, vI x6)]) [1, 2, 3, 0] rfl ?_
      exact hK18 a1 a2 x6 h5
    refine sm_iconst (v := (0 : Int32)) (pc' := 780) dL_law_779 rfl (by decide) ?_
    exact sm_none
  refine sm_iconst (v := (1 : Int32)) (pc' := 769) dL_law_768 rfl (by decide) ?_
  refine sm_goto (pc' := 773) dL_law_769 (by decide) ?_
  refine sm_cVI (pc' := 776) (ci := 12) (st := [vI x1]) (F := fun b => fX12_community b (1 : Int32) h2) [vI (1 : Int32)] yY_yX12_community rfl mw910 mw911 mw912 (fun b => mX12_community l D aC B b (1 : Int32) h2) rfl (by decide) (by decide) (by exact Nat.le_of_ble_eq_true rfl) rfl dL_law_773 rfl (fun x8 h9 => ?_)
  refine sm_icmp_eq (tgt := 1067) (pc' := 779) dL_law_776 (by decide) rfl ?_ ?_
  · refine sm_iincL (i := 3) (j := 3) (x := a3) (d := (9 : Int32)) (fun x10 => [(3, vI x10), (0, vR (some b)), (1, vR a1), (2, vR a2)]) (pc' := 1070) dL_law_1067 rfl rfl (by decide) (by decide) (fun _ => rfl) (fun x10 => ?_)
    refine sm_goto (pc' := 18) dL_law_1070 (by decide) ?_
    refine sm_lo (lv' := [(0, vR (some b)), (1, vR a1), (2, vR a2), (3, vI x10)]) [1, 2, 3, 0] rfl ?_
    exact hK18 a1 a2 x10 h9
  refine sm_iconst (v := (0 : Int32)) (pc' := 780) dL_law_779 rfl (by decide) ?_
  exact sm_none
noncomputable def fL_law_800 (L : Nat) (xs : Nat → Int32) (K18 : Option Nat → Option Nat → Int32 → sm_H → Option (Unit × sm_H)) (a1 : Option Nat) (a2 : Option Nat) (a3 : Int32) (s0 : Int32) (s1 : Int32) (s2 : Option Nat) (h : sm_H) : Option (Unit × sm_H) :=
  (sm_obj h s2 11).bind fun b13 =>
  sm_cb (fX11_view b13 s1 s0 h) fun x1 h2 =>
  if (a3 + (1 : Int32)) < 0 ∨ L ≤ (a3 + (1 : Int32)).toNatClampNeg then none else sm_let (xs (a3 + (1 : Int32)).toNatClampNeg) fun x3 =>
  if (a3 + (2 : Int32)) < 0 ∨ L ≤ (a3 + (2 : Int32)).toNatClampNeg then none else sm_let (xs (a3 + (2 : Int32)).toNatClampNeg) fun x4 =>
  if x4 = 0 then (
    (sm_obj h2 a2 12).bind fun b8 =>
    sm_cb (fX12_view b8 x3 (0 : Int32) h2) fun x5 h6 =>
    if x1 = x5 then (
      sm_let (a3 + (9 : Int32)) fun x7 =>
      K18 a1 a2 x7 h6
    ) else
    none
  ) else
  (sm_obj h2 a2 12).bind fun b12 =>
  sm_cb (fX12_view b12 x3 (1 : Int32) h2) fun x9 h10 =>
  if x1 = x9 then (
    sm_let (a3 + (9 : Int32)) fun x11 =>
    K18 a1 a2 x11 h10
  ) else
  none
set_option maxRecDepth 100000 in
set_option maxHeartbeats 4000000 in
theorem sL_law_800 (l : Launch) (D : va_G) (aC : Nat → ClassId) (B : Nat) (nm : String) (b L : Nat) (xs : Nat → Int32) (K18 : Option Nat → Option Nat → Int32 → sm_H → Option (Unit × sm_H)) (hK18 : ∀ (a1 : Option Nat) (a2 : Option Nat) (a3 : Int32) (h : sm_H), zL l D aC B nm b L xs (K18 a1 a2 a3 h) 18 [(0, vR (some b)), (1, vR a1), (2, vR a2), (3, vI a3)] [] h) (a1 : Option Nat) (a2 : Option Nat) (a3 : Int32) (s0 : Int32) (s1 : Int32) (s2 : Option Nat) (h : sm_H) : zL l D aC B nm b L xs (fL_law_800 L xs K18 a1 a2 a3 s0 s1 s2 h) 800 [(0, vR (some b)), (1, vR a1), (2, vR a2), (3, vI a3)] [vI s0, vI s1, vR s2] h := by
  unfold fL_law_800
  refine sm_cVI (pc' := 803) (ci := 11) (st := []) (F := fun b => fX11_view b s1 s0 h) [vI s1, vI s0] yY_yX11_view rfl mw915 mw919 mw920 (fun b => mX11_view l D aC B b s1 s0 h) rfl (by decide) (by decide) (by exact Nat.le_of_ble_eq_true rfl) rfl dL_law_800 rfl (fun x1 h2 => ?_)
  refine sm_aload_n (i := 2) (j := 2) (pc' := 804) dL_law_803 rfl rfl rfl ?_
  refine sm_aload_n (i := 0) (j := 0) (pc' := 805) dL_law_804 rfl rfl rfl ?_
  refine sm_iload_n (i := 3) (j := 3) (pc' := 806) dL_law_805 rfl rfl rfl ?_
  refine sm_iconst (v := (1 : Int32)) (pc' := 807) dL_law_806 rfl (by decide) ?_
  refine sm_iadd (pc' := 808) dL_law_807 rfl ?_
  refine sm_sld (pc' := 809) rfl dL_law_808 rfl (fun x3 => ?_)
  refine sm_aload_n (i := 0) (j := 0) (pc' := 810) dL_law_809 rfl rfl rfl ?_
  refine sm_iload_n (i := 3) (j := 3) (pc' := 811) dL_law_810 rfl rfl rfl ?_
  refine sm_iconst (v := (2 : Int32)) (pc' := 812) dL_law_811 rfl (by decide) ?_
  refine sm_iadd (pc' := 813) dL_law_812 rfl ?_
  refine sm_sld (pc' := 814) rfl dL_law_813 rfl (fun x4 => ?_)
  refine sm_if_eq (tgt := 821) (pc' := 817) dL_law_814 (by decide) rfl ?_ ?_
  · refine sm_iconst (v := (0 : Int32)) (pc' := 822) dL_law_821 rfl (by decide) ?_
    refine sm_cVI (pc' := 825) (ci := 12) (st := [vI x1]) (F := fun b => fX12_view b x3 (0 : Int32) h2) [vI x3, vI (0 : Int32)] yY_yX12_view rfl mw916 mw917 mw918 (fun b => mX12_view l D aC B b x3 (0 : Int32) h2) rfl (by decide) (by decide) (by exact Nat.le_of_ble_eq_true rfl) rfl dL_law_822 rfl (fun x5 h6 => ?_)
    refine sm_icmp_eq (tgt := 1067) (pc' := 828) dL_law_825 (by decide) rfl ?_ ?_
    · refine sm_iincL (i := 3) (j := 3) (x := a3) (d := (9 : Int32)) (fun x7 => [(3, vI x7), (0, vR (some b)), (1, vR a1), (2, vR a2)]) (pc' := 1070) dL_law_1067 rfl rfl (by decide) (by decide) (fun _ => rfl) (fun x7 => ?_)
      refine sm_goto (pc' := 18) dL_law_1070 (by decide) ?_
      refine sm_lo (lv' := [(0, vR (some b)), (1, vR a1), (2, vR a2), (3, vI x7)]) [1, 2, 3, 0] rfl ?_
      exact hK18 a1 a2 x7 h6
    refine sm_iconst (v := (0 : Int32)) (pc' := 829) dL_law_828 rfl (by decide) ?_
    exact sm_none
  refine sm_iconst (v := (1 : Int32)) (pc' := 818) dL_law_817 rfl (by decide) ?_
  refine sm_goto (pc' := 822) dL_law_818 (by decide) ?_
  refine sm_cVI (pc' := 825) (ci := 12) (st := [vI x1]) (F := fun b => fX12_view b x3 (1 : Int32) h2) [vI x3, vI (1 : Int32)] yY_yX12_view rfl mw916 mw917 mw918 (fun b => mX12_view l D aC B b x3 (1 : Int32) h2) rfl (by decide) (by decide) (by exact Nat.le_of_ble_eq_true rfl) rfl dL_law_822 rfl (fun x9 h10 => ?_)
  refine sm_icmp_eq (tgt := 1067) (pc' := 828) dL_law_825 (by decide) rfl ?_ ?_
  · refine sm_iincL (i := 3) (j := 3) (x := a3) (d := (9 : Int32)) (fun x11 => [(3, vI x11), (0, vR (some b)), (1, vR a1), (2, vR a2)]) (pc' := 1070) dL_law_1067 rfl rfl (by decide) (by decide) (fun _ => rfl) (fun x11 => ?_)
    refine sm_goto (pc' := 18) dL_law_1070 (by decide) ?_
    refine sm_lo (lv' := [(0, vR (some b)), (1, vR a1), (2, vR a2), (3, vI x11)]) [1, 2, 3, 0] rfl ?_
    exact hK18 a1 a2 x11 h10
  refine sm_iconst (v := (0 : Int32)) (pc' := 829) dL_law_828 rfl (by decide) ?_
  exact sm_none
noncomputable def fL_law_18 (L : Nat) (xs : Nat → Int32)  : Nat → Option Nat → Option Nat → Int32 → sm_H → Option (Unit × sm_H)
  | 0 => fun _ _ _ _ => none
  | n + 1 => fun a1 a2 a3 h =>
    if ((Int32.ofNat L) - (9 : Int32)) < a3 then (
      some ((), h)
    ) else
    if a3 < 0 ∨ L ≤ a3.toNatClampNeg then none else sm_let (xs a3.toNatClampNeg) fun x1 =>
    sm_let (x1 &&& (31 : Int32)) fun x2 =>
    if x2 = (0 : Int32) then (
      if (a3 + (1 : Int32)) < 0 ∨ L ≤ (a3 + (1 : Int32)).toNatClampNeg then none else sm_let (xs (a3 + (1 : Int32)).toNatClampNeg) fun x3 =>
      if (a3 + (2 : Int32)) < 0 ∨ L ≤ (a3 + (2 : Int32)).toNatClampNeg then none else sm_let (xs (a3 + (2 : Int32)).toNatClampNeg) fun x4 =>
      if (a3 + (3 : Int32)) < 0 ∨ L ≤ (a3 + (3 : Int32)).toNatClampNeg then none else sm_let (xs (a3 + (3 : Int32)).toNatClampNeg) fun x5 =>
      (sm_obj h a1 11).bind fun b15 =>
      sm_cb (fX11_feed b15 (((x3.toInt64) <<< ((32 : Int32).toInt64 &&& 63)) ||| ((x4.toInt64) &&& (4294967295 : Int64))) x5 h) fun x6 h7 =>
      if (a3 + (1 : Int32)) < 0 ∨ L ≤ (a3 + (1 : Int32)).toNatClampNeg then none else sm_let (xs (a3 + (1 : Int32)).toNatClampNeg) fun x8 =>
      if (a3 + (2 : Int32)) < 0 ∨ L ≤ (a3 + (2 : Int32)).toNatClampNeg then none else sm_let (xs (a3 + (2 : Int32)).toNatClampNeg) fun x9 =>
      if (a3 + (3 : Int32)) < 0 ∨ L ≤ (a3 + (3 : Int32)).toNatClampNeg then none else sm_let (xs (a3 + (3 : Int32)).toNatClampNeg) fun x10 =>
      (sm_obj h7 a2 12).bind fun b14 =>
      sm_cb (fX12_feed b14 (((x8.toInt64) <<< ((32 : Int32).toInt64 &&& 63)) ||| ((x9.toInt64) &&& (4294967295 : Int64))) x10 h7) fun x11 h12 =>
      if x6 = x11 then (
        sm_let (a3 + (9 : Int32)) fun x13 =>
        (fL_law_18 L xs n) a1 a2 x13 h12
      ) else
      none
    ) else
    if x2 = (1 : Int32) then (
      if (a3 + (1 : Int32)) < 0 ∨ L ≤ (a3 + (1 : Int32)).toNatClampNeg then none else sm_let (xs (a3 + (1 : Int32)).toNatClampNeg) fun x17 =>
      if (a3 + (2 : Int32)) < 0 ∨ L ≤ (a3 + (2 : Int32)).toNatClampNeg then none else sm_let (xs (a3 + (2 : Int32)).toNatClampNeg) fun x18 =>
      (sm_obj h a1 11).bind fun b27 =>
      sm_cb (fX11_number b27 (((x17.toInt64) <<< ((32 : Int32).toInt64 &&& 63)) ||| ((x18.toInt64) &&& (4294967295 : Int64))) h) fun x19 h20 =>
      if (a3 + (1 : Int32)) < 0 ∨ L ≤ (a3 + (1 : Int32)).toNatClampNeg then none else sm_let (xs (a3 + (1 : Int32)).toNatClampNeg) fun x21 =>
      if (a3 + (2 : Int32)) < 0 ∨ L ≤ (a3 + (2 : Int32)).toNatClampNeg then none else sm_let (xs (a3 + (2 : Int32)).toNatClampNeg) fun x22 =>
      (sm_obj h20 a2 12).bind fun b26 =>
      sm_cb (fX12_number b26 (((x21.toInt64) <<< ((32 : Int32).toInt64 &&& 63)) ||| ((x22.toInt64) &&& (4294967295 : Int64))) h20) fun x23 h24 =>
      if x19 = x23 then (
        sm_let (a3 + (9 : Int32)) fun x25 =>
        (fL_law_18 L xs n) a1 a2 x25 h24
      ) else
      none
    ) else
    if x2 = (2 : Int32) then (
      if (a3 + (1 : Int32)) < 0 ∨ L ≤ (a3 + (1 : Int32)).toNatClampNeg then none else sm_let (xs (a3 + (1 : Int32)).toNatClampNeg) fun x29 =>
      if (a3 + (2 : Int32)) < 0 ∨ L ≤ (a3 + (2 : Int32)).toNatClampNeg then none else sm_let (xs (a3 + (2 : Int32)).toNatClampNeg) fun x30 =>
      if (a3 + (3 : Int32)) < 0 ∨ L ≤ (a3 + (3 : Int32)).toNatClampNeg then none else sm_let (xs (a3 + (3 : Int32)).toNatClampNeg) fun x31 =>
      if (a3 + (4 : Int32)) < 0 ∨ L ≤ (a3 + (4 : Int32)).toNatClampNeg then none else sm_let (xs (a3 + (4 : Int32)).toNatClampNeg) fun x32 =>
      if (a3 + (5 : Int32)) < 0 ∨ L ≤ (a3 + (5 : Int32)).toNatClampNeg then none else sm_let (xs (a3 + (5 : Int32)).toNatClampNeg) fun x33 =>
      if (a3 + (6 : Int32)) < 0 ∨ L ≤ (a3 + (6 : Int32)).toNatClampNeg then none else sm_let (xs (a3 + (6 : Int32)).toNatClampNeg) fun x34 =>
      (sm_obj h a1 11).bind fun b47 =>
      sm_cb (fX11_scalar b47 x29 x30 (((x31.toInt64) <<< ((32 : Int32).toInt64 &&& 63)) ||| ((x32.toInt64) &&& (4294967295 : Int64))) (((x33.toInt64) <<< ((32 : Int32).toInt64 &&& 63)) ||| ((x34.toInt64) &&& (4294967295 : Int64))) h) fun x35 h36 =>
      if (a3 + (1 : Int32)) < 0 ∨ L ≤ (a3 + (1 : Int32)).toNatClampNeg then none else sm_let (xs (a3 + (1 : Int32)).toNatClampNeg) fun x37 =>
      if (a3 + (2 : Int32)) < 0 ∨ L ≤ (a3 + (2 : Int32)).toNatClampNeg then none else sm_let (xs (a3 + (2 : Int32)).toNatClampNeg) fun x38 =>
      if (a3 + (3 : Int32)) < 0 ∨ L ≤ (a3 + (3 : Int32)).toNatClampNeg then none else sm_let (xs (a3 + (3 : Int32)).toNatClampNeg) fun x39 =>
      if (a3 + (4 : Int32)) < 0 ∨ L ≤ (a3 + (4 : Int32)).toNatClampNeg then none else sm_let (xs (a3 + (4 : Int32)).toNatClampNeg) fun x40 =>
      if (a3 + (5 : Int32)) < 0 ∨ L ≤ (a3 + (5 : Int32)).toNatClampNeg then none else sm_let (xs (a3 + (5 : Int32)).toNatClampNeg) fun x41 =>
      if (a3 + (6 : Int32)) < 0 ∨ L ≤ (a3 + (6 : Int32)).toNatClampNeg then none else sm_let (xs (a3 + (6 : Int32)).toNatClampNeg) fun x42 =>
      (sm_obj h36 a2 12).bind fun b46 =>
      sm_cb (fX12_scalar b46 x37 x38 (((x39.toInt64) <<< ((32 : Int32).toInt64 &&& 63)) ||| ((x40.toInt64) &&& (4294967295 : Int64))) (((x41.toInt64) <<< ((32 : Int32).toInt64 &&& 63)) ||| ((x42.toInt64) &&& (4294967295 : Int64))) h36) fun x43 h44 =>
      if x35 = x43 then (
        sm_let (a3 + (9 : Int32)) fun x45 =>
        (fL_law_18 L xs n) a1 a2 x45 h44
      ) else
      none
    ) else
    if x2 = (3 : Int32) then (
      (sm_obj h a1 11).bind fun b55 =>
      sm_cb (fX11_table b55 h) fun x49 h50 =>
      (sm_obj h50 a2 12).bind fun b54 =>
      sm_cb (fX12_table b54 h50) fun x51 h52 =>
      if x49 = x51 then (
        sm_let (a3 + (9 : Int32)) fun x53 =>
        (fL_law_18 L xs n) a1 a2 x53 h52
      ) else
      none
    ) else
    if x2 = (4 : Int32) then (
      if (a3 + (1 : Int32)) < 0 ∨ L ≤ (a3 + (1 : Int32)).toNatClampNeg then none else sm_let (xs (a3 + (1 : Int32)).toNatClampNeg) fun x57 =>
      if (a3 + (2 : Int32)) < 0 ∨ L ≤ (a3 + (2 : Int32)).toNatClampNeg then none else sm_let (xs (a3 + (2 : Int32)).toNatClampNeg) fun x58 =>
      if (a3 + (3 : Int32)) < 0 ∨ L ≤ (a3 + (3 : Int32)).toNatClampNeg then none else sm_let (xs (a3 + (3 : Int32)).toNatClampNeg) fun x59 =>
      if (a3 + (4 : Int32)) < 0 ∨ L ≤ (a3 + (4 : Int32)).toNatClampNeg then none else sm_let (xs (a3 + (4 : Int32)).toNatClampNeg) fun x60 =>
      if (a3 + (5 : Int32)) < 0 ∨ L ≤ (a3 + (5 : Int32)).toNatClampNeg then none else sm_let (xs (a3 + (5 : Int32)).toNatClampNeg) fun x61 =>
      if (a3 + (6 : Int32)) < 0 ∨ L ≤ (a3 + (6 : Int32)).toNatClampNeg then none else sm_let (xs (a3 + (6 : Int32)).toNatClampNeg) fun x62 =>
      if (a3 + (7 : Int32)) < 0 ∨ L ≤ (a3 + (7 : Int32)).toNatClampNeg then none else sm_let (xs (a3 + (7 : Int32)).toNatClampNeg) fun x63 =>
      if (a3 + (8 : Int32)) < 0 ∨ L ≤ (a3 + (8 : Int32)).toNatClampNeg then none else sm_let (xs (a3 + (8 : Int32)).toNatClampNeg) fun x64 =>
      (sm_obj h a1 11).bind fun b79 =>
      sm_cb (fX11_column b79 x57 x58 x59 x60 (((x61.toInt64) <<< ((32 : Int32).toInt64 &&& 63)) ||| ((x62.toInt64) &&& (4294967295 : Int64))) (((x63.toInt64) <<< ((32 : Int32).toInt64 &&& 63)) ||| ((x64.toInt64) &&& (4294967295 : Int64))) h) fun x65 h66 =>
      if (a3 + (1 : Int32)) < 0 ∨ L ≤ (a3 + (1 : Int32)).toNatClampNeg then none else sm_let (xs (a3 + (1 : Int32)).toNatClampNeg) fun x67 =>
      if (a3 + (2 : Int32)) < 0 ∨ L ≤ (a3 + (2 : Int32)).toNatClampNeg then none else sm_let (xs (a3 + (2 : Int32)).toNatClampNeg) fun x68 =>
      if (a3 + (3 : Int32)) < 0 ∨ L ≤ (a3 + (3 : Int32)).toNatClampNeg then none else sm_let (xs (a3 + (3 : Int32)).toNatClampNeg) fun x69 =>
      if (a3 + (4 : Int32)) < 0 ∨ L ≤ (a3 + (4 : Int32)).toNatClampNeg then none else sm_let (xs (a3 + (4 : Int32)).toNatClampNeg) fun x70 =>
      if (a3 + (5 : Int32)) < 0 ∨ L ≤ (a3 + (5 : Int32)).toNatClampNeg then none else sm_let (xs (a3 + (5 : Int32)).toNatClampNeg) fun x71 =>
      if (a3 + (6 : Int32)) < 0 ∨ L ≤ (a3 + (6 : Int32)).toNatClampNeg then none else sm_let (xs (a3 + (6 : Int32)).toNatClampNeg) fun x72 =>
      if (a3 + (7 : Int32)) < 0 ∨ L ≤ (a3 + (7 : Int32)).toNatClampNeg then none else sm_let (xs (a3 + (7 : Int32)).toNatClampNeg) fun x73 =>
      if (a3 + (8 : Int32)) < 0 ∨ L ≤ (a3 + (8 : Int32)).toNatClampNeg then none else sm_let (xs (a3 + (8 : Int32)).toNatClampNeg) fun x74 =>
      (sm_obj h66 a2 12).bind fun b78 =>
      sm_cb (fX12_column b78 x67 x68 x69 x70 (((x71.toInt64) <<< ((32 : Int32).toInt64 &&& 63)) ||| ((x72.toInt64) &&& (4294967295 : Int64))) (((x73.toInt64) <<< ((32 : Int32).toInt64 &&& 63)) ||| ((x74.toInt64) &&& (4294967295 : Int64))) h66) fun x75 h76 =>
      if x65 = x75 then (
        sm_let (a3 + (9 : Int32)) fun x77 =>
        (fL_law_18 L xs n) a1 a2 x77 h76
      ) else
      none
    ) else
    if x2 = (5 : Int32) then (
      if (a3 + (1 : Int32)) < 0 ∨ L ≤ (a3 + (1 : Int32)).toNatClampNeg then none else sm_let (xs (a3 + (1 : Int32)).toNatClampNeg) fun x81 =>
      if (a3 + (2 : Int32)) < 0 ∨ L ≤ (a3 + (2 : Int32)).toNatClampNeg then none else sm_let (xs (a3 + (2 : Int32)).toNatClampNeg) fun x82 =>
      (sm_obj h a1 11).bind fun b91 =>
      sm_cb (fX11_status b91 x81 x82 h) fun x83 h84 =>
      if (a3 + (1 : Int32)) < 0 ∨ L ≤ (a3 + (1 : Int32)).toNatClampNeg then none else sm_let (xs (a3 + (1 : Int32)).toNatClampNeg) fun x85 =>
      if (a3 + (2 : Int32)) < 0 ∨ L ≤ (a3 + (2 : Int32)).toNatClampNeg then none else sm_let (xs (a3 + (2 : Int32)).toNatClampNeg) fun x86 =>
      (sm_obj h84 a2 12).bind fun b90 =>
      sm_cb (fX12_status b90 x85 x86 h84) fun x87 h88 =>
      if x83 = x87 then (
        sm_let (a3 + (9 : Int32)) fun x89 =>
        (fL_law_18 L xs n) a1 a2 x89 h88
      ) else
      none
    ) else
    if x2 = (6 : Int32) then (
      if (a3 + (1 : Int32)) < 0 ∨ L ≤ (a3 + (1 : Int32)).toNatClampNeg then none else sm_let (xs (a3 + (1 : Int32)).toNatClampNeg) fun x93 =>
      if (a3 + (2 : Int32)) < 0 ∨ L ≤ (a3 + (2 : Int32)).toNatClampNeg then none else sm_let (xs (a3 + (2 : Int32)).toNatClampNeg) fun x94 =>
      if (a3 + (3 : Int32)) < 0 ∨ L ≤ (a3 + (3 : Int32)).toNatClampNeg then none else sm_let (xs (a3 + (3 : Int32)).toNatClampNeg) fun x95 =>
      if x95 = 0 then (
        fL_law_568 L xs (fL_law_18 L xs n) a1 a2 a3 (0 : Int32) x94 x93 a1 h
      ) else
      fL_law_568 L xs (fL_law_18 L xs n) a1 a2 a3 (1 : Int32) x94 x93 a1 h
    ) else
    if x2 = (7 : Int32) then (
      if (a3 + (1 : Int32)) < 0 ∨ L ≤ (a3 + (1 : Int32)).toNatClampNeg then none else sm_let (xs (a3 + (1 : Int32)).toNatClampNeg) fun x97 =>
      if (a3 + (2 : Int32)) < 0 ∨ L ≤ (a3 + (2 : Int32)).toNatClampNeg then none else sm_let (xs (a3 + (2 : Int32)).toNatClampNeg) fun x98 =>
      if (a3 + (3 : Int32)) < 0 ∨ L ≤ (a3 + (3 : Int32)).toNatClampNeg then none else sm_let (xs (a3 + (3 : Int32)).toNatClampNeg) fun x99 =>
      if (a3 + (4 : Int32)) < 0 ∨ L ≤ (a3 + (4 : Int32)).toNatClampNeg then none else sm_let (xs (a3 + (4 : Int32)).toNatClampNeg) fun x100 =>
      (sm_obj h a1 11).bind fun b111 =>
      sm_cb (fX11_value b111 x97 x98 (((x99.toInt64) <<< ((32 : Int32).toInt64 &&& 63)) ||| ((x100.toInt64) &&& (4294967295 : Int64))) h) fun x101 h102 =>
      if (a3 + (1 : Int32)) < 0 ∨ L ≤ (a3 + (1 : Int32)).toNatClampNeg then none else sm_let (xs (a3 + (1 : Int32)).toNatClampNeg) fun x103 =>
      if (a3 + (2 : Int32)) < 0 ∨ L ≤ (a3 + (2 : Int32)).toNatClampNeg then none else sm_let (xs (a3 + (2 : Int32)).toNatClampNeg) fun x104 =>
      if (a3 + (3 : Int32)) < 0 ∨ L ≤ (a3 + (3 : Int32)).toNatClampNeg then none else sm_let (xs (a3 + (3 : Int32)).toNatClampNeg) fun x105 =>
      if (a3 + (4 : Int32)) < 0 ∨ L ≤ (a3 + (4 : Int32)).toNatClampNeg then none else sm_let (xs (a3 + (4 : Int32)).toNatClampNeg) fun x106 =>
      (sm_obj h102 a2 12).bind fun b110 =>
      sm_cb (fX12_value b110 x103 x104 (((x105.toInt64) <<< ((32 : Int32).toInt64 &&& 63)) ||| ((x106.toInt64) &&& (4294967295 : Int64))) h102) fun x107 h108 =>
      if x101 = x107 then (
        sm_let (a3 + (9 : Int32)) fun x109 =>
        (fL_law_18 L xs n) a1 a2 x109 h108
      ) else
      none
    ) else
    if x2 = (8 : Int32) then (
      if (a3 + (1 : Int32)) < 0 ∨ L ≤ (a3 + (1 : Int32)).toNatClampNeg then none else sm_let (xs (a3 + (1 : Int32)).toNatClampNeg) fun x113 =>
      if (a3 + (2 : Int32)) < 0 ∨ L ≤ (a3 + (2 : Int32)).toNatClampNeg then none else sm_let (xs (a3 + (2 : Int32)).toNatClampNeg) fun x114 =>
      (sm_obj h a1 11).bind fun b123 =>
      sm_cb (fX11_text b123 x113 x114 h) fun x115 h116 =>
      if (a3 + (1 : Int32)) < 0 ∨ L ≤ (a3 + (1 : Int32)).toNatClampNeg then none else sm_let (xs (a3 + (1 : Int32)).toNatClampNeg) fun x117 =>
      if (a3 + (2 : Int32)) < 0 ∨ L ≤ (a3 + (2 : Int32)).toNatClampNeg then none else sm_let (xs (a3 + (2 : Int32)).toNatClampNeg) fun x118 =>
      (sm_obj h116 a2 12).bind fun b122 =>
      sm_cb (fX12_text b122 x117 x118 h116) fun x119 h120 =>
      if x115 = x119 then (
        sm_let (a3 + (9 : Int32)) fun x121 =>
        (fL_law_18 L xs n) a1 a2 x121 h120
      ) else
      none
    ) else
    if x2 = (9 : Int32) then (
      if (a3 + (1 : Int32)) < 0 ∨ L ≤ (a3 + (1 : Int32)).toNatClampNeg then none else sm_let (xs (a3 + (1 : Int32)).toNatClampNeg) fun x125 =>
      if (a3 + (2 : Int32)) < 0 ∨ L ≤ (a3 + (2 : Int32)).toNatClampNeg then none else sm_let (xs (a3 + (2 : Int32)).toNatClampNeg) fun x126 =>
      (sm_obj h a1 11).bind fun b135 =>
      sm_cb (fX11_identity b135 x125 x126 h) fun x127 h128 =>
      if (a3 + (1 : Int32)) < 0 ∨ L ≤ (a3 + (1 : Int32)).toNatClampNeg then none else sm_let (xs (a3 + (1 : Int32)).toNatClampNeg) fun x129 =>
      if (a3 + (2 : Int32)) < 0 ∨ L ≤ (a3 + (2 : Int32)).toNatClampNeg then none else sm_let (xs (a3 + (2 : Int32)).toNatClampNeg) fun x130 =>
      (sm_obj h128 a2 12).bind fun b134 =>
      sm_cb (fX12_identity b134 x129 x130 h128) fun x131 h132 =>
      if x127 = x131 then (
        sm_let (a3 + (9 : Int32)) fun x133 =>
        (fL_law_18 L xs n) a1 a2 x133 h132
      ) else
      none
    ) else
    if x2 = (10 : Int32) then (
      if (a3 + (1 : Int32)) < 0 ∨ L ≤ (a3 + (1 : Int32)).toNatClampNeg then none else sm_let (xs (a3 + (1 : Int32)).toNatClampNeg) fun x137 =>
      if x137 = 0 then (
        fL_law_756 L xs (fL_law_18 L xs n) a1 a2 a3 (0 : Int32) a1 h
      ) else
      fL_law_756 L xs (fL_law_18 L xs n) a1 a2 a3 (1 : Int32) a1 h
    ) else
    if x2 = (11 : Int32) then (
      if (a3 + (1 : Int32)) < 0 ∨ L ≤ (a3 + (1 : Int32)).toNatClampNeg then none else sm_let (xs (a3 + (1 : Int32)).toNatClampNeg) fun x139 =>
      if (a3 + (2 : Int32)) < 0 ∨ L ≤ (a3 + (2 : Int32)).toNatClampNeg then none else sm_let (xs (a3 + (2 : Int32)).toNatClampNeg) fun x140 =>
      if x140 = 0 then (
        fL_law_800 L xs (fL_law_18 L xs n) a1 a2 a3 (0 : Int32) x139 a1 h
      ) else
      fL_law_800 L xs (fL_law_18 L xs n) a1 a2 a3 (1 : Int32) x139 a1 h
    ) else
    if x2 = (12 : Int32) then (
      if (a3 + (1 : Int32)) < 0 ∨ L ≤ (a3 + (1 : Int32)).toNatClampNeg then none else sm_let (xs (a3 + (1 : Int32)).toNatClampNeg) fun x142 =>
      (sm_obj h a1 11).bind fun b150 =>
      sm_cb (fX11_limit b150 x142 h) fun x143 h144 =>
      if (a3 + (1 : Int32)) < 0 ∨ L ≤ (a3 + (1 : Int32)).toNatClampNeg then none else sm_let (xs (a3 + (1 : Int32)).toNatClampNeg) fun x145 =>
      (sm_obj h144 a2 12).bind fun b149 =>
      sm_cb (fX12_limit b149 x145 h144) fun x146 h147 =>
      if x143 = x146 then (
        sm_let (a3 + (9 : Int32)) fun x148 =>
        (fL_law_18 L xs n) a1 a2 x148 h147
      ) else
      none
    ) else
    if x2 = (13 : Int32) then (
      if (a3 + (1 : Int32)) < 0 ∨ L ≤ (a3 + (1 : Int32)).toNatClampNeg then none else sm_let (xs (a3 + (1 : Int32)).toNatClampNeg) fun x152 =>
      if (a3 + (2 : Int32)) < 0 ∨ L ≤ (a3 + (2 : Int32)).toNatClampNeg then none else sm_let (xs (a3 + (2 : Int32)).toNatClampNeg) fun x153 =>
      (sm_obj h a1 11).bind fun b162 =>
      sm_cb (fX11_tick b162 (((x152.toInt64) <<< ((32 : Int32).toInt64 &&& 63)) ||| ((x153.toInt64) &&& (4294967295 : Int64))) h) fun x154 h155 =>
      if (a3 + (1 : Int32)) < 0 ∨ L ≤ (a3 + (1 : Int32)).toNatClampNeg then none else sm_let (xs (a3 + (1 : Int32)).toNatClampNeg) fun x156 =>
      if (a3 + (2 : Int32)) < 0 ∨ L ≤ (a3 + (2 : Int32)).toNatClampNeg then none else sm_let (xs (a3 + (2 : Int32)).toNatClampNeg) fun x157 =>
      (sm_obj h155 a2 12).bind fun b161 =>
      sm_cb (fX12_tick b161 (((x156.toInt64) <<< ((32 : Int32).toInt64 &&& 63)) ||| ((x157.toInt64) &&& (4294967295 : Int64))) h155) fun x158 h159 =>
      if (lg_cmp x154 x158) = 0 then (
        sm_let (a3 + (9 : Int32)) fun x160 =>
        (fL_law_18 L xs n) a1 a2 x160 h159
      ) else
      none
    ) else
    if x2 = (14 : Int32) then (
      (sm_obj h a1 11).bind fun b170 =>
      sm_cb (fX11_question b170 h) fun x164 h165 =>
      (sm_obj h165 a2 12).bind fun b169 =>
      sm_cb (fX12_question b169 h165) fun x166 h167 =>
      if x164 = x166 then (
        sm_let (a3 + (9 : Int32)) fun x168 =>
        (fL_law_18 L xs n) a1 a2 x168 h167
      ) else
      none
    ) else
    if x2 = (15 : Int32) then (
      if (a3 + (1 : Int32)) < 0 ∨ L ≤ (a3 + (1 : Int32)).toNatClampNeg then none else sm_let (xs (a3 + (1 : Int32)).toNatClampNeg) fun x172 =>
      (sm_obj h a1 11).bind fun b180 =>
      sm_cb (fX11_answer b180 x172 h) fun x173 h174 =>
      if (a3 + (1 : Int32)) < 0 ∨ L ≤ (a3 + (1 : Int32)).toNatClampNeg then none else sm_let (xs (a3 + (1 : Int32)).toNatClampNeg) fun x175 =>
      (sm_obj h174 a2 12).bind fun b179 =>
      sm_cb (fX12_answer b179 x175 h174) fun x176 h177 =>
      if x173 = x176 then (
        sm_let (a3 + (9 : Int32)) fun x178 =>
        (fL_law_18 L xs n) a1 a2 x178 h177
      ) else
      none
    ) else
    if x2 = (16 : Int32) then (
      if (a3 + (1 : Int32)) < 0 ∨ L ≤ (a3 + (1 : Int32)).toNatClampNeg then none else sm_let (xs (a3 + (1 : Int32)).toNatClampNeg) fun x182 =>
      (sm_obj h a1 11).bind fun b190 =>
      sm_cb (fX11_count b190 x182 h) fun x183 h184 =>
      if (a3 + (1 : Int32)) < 0 ∨ L ≤ (a3 + (1 : Int32)).toNatClampNeg then none else sm_let (xs (a3 + (1 : Int32)).toNatClampNeg) fun x185 =>
      (sm_obj h184 a2 12).bind fun b189 =>
      sm_cb (fX12_count b189 x185 h184) fun x186 h187 =>
      if x183 = x186 then (
        sm_let (a3 + (9 : Int32)) fun x188 =>
        (fL_law_18 L xs n) a1 a2 x188 h187
      ) else
      none
    ) else
    if x2 = (17 : Int32) then (
      if (a3 + (1 : Int32)) < 0 ∨ L ≤ (a3 + (1 : Int32)).toNatClampNeg then none else sm_let (xs (a3 + (1 : Int32)).toNatClampNeg) fun x192 =>
      (sm_obj h a1 11).bind fun b200 =>
      sm_cb (fX11_rows b200 x192 h) fun x193 h194 =>
      if (a3 + (1 : Int32)) < 0 ∨ L ≤ (a3 + (1 : Int32)).toNatClampNeg then none else sm_let (xs (a3 + (1 : Int32)).toNatClampNeg) fun x195 =>
      (sm_obj h194 a2 12).bind fun b199 =>
      sm_cb (fX12_rows b199 x195 h194) fun x196 h197 =>
      if x193 = x196 then (
        sm_let (a3 + (9 : Int32)) fun x198 =>
        (fL_law_18 L xs n) a1 a2 x198 h197
      ) else
      none
    ) else
    if x2 = (18 : Int32) then (
      if (a3 + (1 : Int32)) < 0 ∨ L ≤ (a3 + (1 : Int32)).toNatClampNeg then none else sm_let (xs (a3 + (1 : Int32)).toNatClampNeg) fun x202 =>
      if (a3 + (2 : Int32)) < 0 ∨ L ≤ (a3 + (2 : Int32)).toNatClampNeg then none else sm_let (xs (a3 + (2 : Int32)).toNatClampNeg) fun x203 =>
      (sm_obj h a1 11).bind fun b212 =>
      sm_cb (fX11_told b212 x202 x203 h) fun x204 h205 =>
      if (a3 + (1 : Int32)) < 0 ∨ L ≤ (a3 + (1 : Int32)).toNatClampNeg then none else sm_let (xs (a3 + (1 : Int32)).toNatClampNeg) fun x206 =>
      if (a3 + (2 : Int32)) < 0 ∨ L ≤ (a3 + (2 : Int32)).toNatClampNeg then none else sm_let (xs (a3 + (2 : Int32)).toNatClampNeg) fun x207 =>
      (sm_obj h205 a2 12).bind fun b211 =>
      sm_cb (fX12_told b211 x206 x207 h205) fun x208 h209 =>
      if (lg_cmp x204 x208) = 0 then (
        sm_let (a3 + (9 : Int32)) fun x210 =>
        (fL_law_18 L xs n) a1 a2 x210 h209
      ) else
      none
    ) else
    if x2 = (19 : Int32) then (
      if (a3 + (1 : Int32)) < 0 ∨ L ≤ (a3 + (1 : Int32)).toNatClampNeg then none else sm_let (xs (a3 + (1 : Int32)).toNatClampNeg) fun x214 =>
      if (a3 + (2 : Int32)) < 0 ∨ L ≤ (a3 + (2 : Int32)).toNatClampNeg then none else sm_let (xs (a3 + (2 : Int32)).toNatClampNeg) fun x215 =>
      if (a3 + (3 : Int32)) < 0 ∨ L ≤ (a3 + (3 : Int32)).toNatClampNeg then none else sm_let (xs (a3 + (3 : Int32)).toNatClampNeg) fun x216 =>
      (sm_obj h a1 11).bind fun b226 =>
      sm_cb (fX11_part b226 x214 x215 x216 h) fun x217 h218 =>
      if (a3 + (1 : Int32)) < 0 ∨ L ≤ (a3 + (1 : Int32)).toNatClampNeg then none else sm_let (xs (a3 + (1 : Int32)).toNatClampNeg) fun x219 =>
      if (a3 + (2 : Int32)) < 0 ∨ L ≤ (a3 + (2 : Int32)).toNatClampNeg then none else sm_let (xs (a3 + (2 : Int32)).toNatClampNeg) fun x220 =>
      if (a3 + (3 : Int32)) < 0 ∨ L ≤ (a3 + (3 : Int32)).toNatClampNeg then none else sm_let (xs (a3 + (3 : Int32)).toNatClampNeg) fun x221 =>
      (sm_obj h218 a2 12).bind fun b225 =>
      sm_cb (fX12_part b225 x219 x220 x221 h218) fun x222 h223 =>
      if (lg_cmp x217 x222) = 0 then (
        sm_let (a3 + (9 : Int32)) fun x224 =>
        (fL_law_18 L xs n) a1 a2 x224 h223
      ) else
      none
    ) else
    sm_let (a3 + (9 : Int32)) fun x228 =>
    (fL_law_18 L xs n) a1 a2 x228 h
set_option maxRecDepth 100000 in
set_option maxHeartbeats 4000000 in
theorem sL_law_18 (l : Launch) (D : va_G) (aC : Nat → ClassId) (B : Nat) (nm : String) (b L : Nat) (xs : Nat → Int32)   (n : Nat) : ∀ (a1 : Option Nat) (a2 : Option Nat) (a3 : Int32) (h : sm_H), zL l D aC B nm b L xs (fL_law_18 L xs n a1 a2 a3 h) 18 [(0, vR (some b)), (1, vR a1), (2, vR a2), (3, vI a3)] [] h := by
  induction n with
  | zero => intro a1 a2 a3 h; exact sm_none
  | succ n ih =>
    intro a1 a2 a3 h
    show zL l D aC B nm b L xs (fL_law_18 L xs (n + 1) a1 a2 a3 h) 18 [(0, vR (some b)), (1, vR a1), (2, vR a2), (3, vI a3)] [] h
    unfold fL_law_18
    refine sm_iload_n (i := 3) (j := 3) (pc' := 19) dL_law_18 rfl rfl rfl ?_
    refine sm_aload_n (i := 0) (j := 0) (pc' := 20) dL_law_19 rfl rfl rfl ?_
    refine sm_slen (pc' := 21) rfl dL_law_20 rfl ?_
    refine sm_bipush (v := (9 : Int32)) (pc' := 23) dL_law_21 rfl (by decide) ?_
    refine sm_isub (pc' := 24) dL_law_23 rfl ?_
    refine sm_icmp_gt (tgt := 1073) (pc' := 27) dL_law_24 (by decide) rfl ?_ ?_
    · refine sm_iconst (v := (1 : Int32)) (pc' := 1074) dL_law_1073 rfl (by decide) ?_
      exact sm_lawret dL_law_1074
    refine sm_aload_n (i := 0) (j := 0) (pc' := 28) dL_law_27 rfl rfl rfl ?_
    refine sm_iload_n (i := 3) (j := 3) (pc' := 29) dL_law_28 rfl rfl rfl ?_
    refine sm_sld (pc' := 30) rfl dL_law_29 rfl (fun x1 => ?_)
    refine sm_bipush (v := (31 : Int32)) (pc' := 32) dL_law_30 rfl (by decide) ?_
    refine sm_iand (pc' := 33) dL_law_32 rfl ?_
    refine sm_letIv (fun x2 => ?_)
    refine sm_ite (fun c16 => ?_) (fun c16 => ?_)
    · refine sm_tbI (pc' := 128) (95) dL_law_33 (by rw [c16]; decide) (by rw [c16]; decide) (by rw [c16]; decide) (by decide) ?_
      refine sm_aload_n (i := 1) (j := 1) (pc' := 129) dL_law_128 rfl rfl rfl ?_
      refine sm_aload_n (i := 0) (j := 0) (pc' := 130) dL_law_129 rfl rfl rfl ?_
      refine sm_iload_n (i := 3) (j := 3) (pc' := 131) dL_law_130 rfl rfl rfl ?_
      refine sm_iconst (v := (1 : Int32)) (pc' := 132) dL_law_131 rfl (by decide) ?_
      refine sm_iadd (pc' := 133) dL_law_132 rfl ?_
      refine sm_sld (pc' := 134) rfl dL_law_133 rfl (fun x3 => ?_)
      refine sm_i2l (pc' := 135) dL_law_134 rfl ?_
      refine sm_bipush (v := (32 : Int32)) (pc' := 137) dL_law_135 rfl (by decide) ?_
      refine sm_lshl (pc' := 138) dL_law_137 rfl ?_
      refine sm_aload_n (i := 0) (j := 0) (pc' := 139) dL_law_138 rfl rfl rfl ?_
      refine sm_iload_n (i := 3) (j := 3) (pc' := 140) dL_law_139 rfl rfl rfl ?_
      refine sm_iconst (v := (2 : Int32)) (pc' := 141) dL_law_140 rfl (by decide) ?_
      refine sm_iadd (pc' := 142) dL_law_141 rfl ?_
      refine sm_sld (pc' := 143) rfl dL_law_142 rfl (fun x4 => ?_)
      refine sm_i2l (pc' := 144) dL_law_143 rfl ?_
      refine sm_ldc2 (v := (4294967295 : Int64)) (pc' := 147) dL_law_144 rfl mw921 ?_
      refine sm_land (pc' := 148) dL_law_147 rfl ?_
      refine sm_lor (pc' := 149) dL_law_148 rfl ?_
      refine sm_aload_n (i := 0) (j := 0) (pc' := 150) dL_law_149 rfl rfl rfl ?_
      refine sm_iload_n (i := 3) (j := 3) (pc' := 151) dL_law_150 rfl rfl rfl ?_
      refine sm_iconst (v := (3 : Int32)) (pc' := 152) dL_law_151 rfl (by decide) ?_
      refine sm_iadd (pc' := 153) dL_law_152 rfl ?_
      refine sm_sld (pc' := 154) rfl dL_law_153 rfl (fun x5 => ?_)
      refine sm_cVI (pc' := 157) (ci := 11) (st := []) (F := fun b => fX11_feed b (((x3.toInt64) <<< ((32 : Int32).toInt64 &&& 63)) ||| ((x4.toInt64) &&& (4294967295 : Int64))) x5 h) [vJ (((x3.toInt64) <<< ((32 : Int32).toInt64 &&& 63)) ||| ((x4.toInt64) &&& (4294967295 : Int64))), vI x5] yY_yX11_feed rfl mw922 mw926 mw927 (fun b => mX11_feed l D aC B b (((x3.toInt64) <<< ((32 : Int32).toInt64 &&& 63)) ||| ((x4.toInt64) &&& (4294967295 : Int64))) x5 h) rfl (by decide) (by decide) (by exact Nat.le_of_ble_eq_true rfl) rfl dL_law_154 rfl (fun x6 h7 => ?_)
      refine sm_aload_n (i := 2) (j := 2) (pc' := 158) dL_law_157 rfl rfl rfl ?_
      refine sm_aload_n (i := 0) (j := 0) (pc' := 159) dL_law_158 rfl rfl rfl ?_
      refine sm_iload_n (i := 3) (j := 3) (pc' := 160) dL_law_159 rfl rfl rfl ?_
      refine sm_iconst (v := (1 : Int32)) (pc' := 161) dL_law_160 rfl (by decide) ?_
      refine sm_iadd (pc' := 162) dL_law_161 rfl ?_
      refine sm_sld (pc' := 163) rfl dL_law_162 rfl (fun x8 => ?_)
      refine sm_i2l (pc' := 164) dL_law_163 rfl ?_
      refine sm_bipush (v := (32 : Int32)) (pc' := 166) dL_law_164 rfl (by decide) ?_
      refine sm_lshl (pc' := 167) dL_law_166 rfl ?_
      refine sm_aload_n (i := 0) (j := 0) (pc' := 168) dL_law_167 rfl rfl rfl ?_
      refine sm_iload_n (i := 3) (j := 3) (pc' := 169) dL_law_168 rfl rfl rfl ?_
      refine sm_iconst (v := (2 : Int32)) (pc' := 170) dL_law_169 rfl (by decide) ?_
      refine sm_iadd (pc' := 171) dL_law_170 rfl ?_
      refine sm_sld (pc' := 172) rfl dL_law_171 rfl (fun x9 => ?_)
      refine sm_i2l (pc' := 173) dL_law_172 rfl ?_
      refine sm_ldc2 (v := (4294967295 : Int64)) (pc' := 176) dL_law_173 rfl mw921 ?_
      refine sm_land (pc' := 177) dL_law_176 rfl ?_
      refine sm_lor (pc' := 178) dL_law_177 rfl ?_
      refine sm_aload_n (i := 0) (j := 0) (pc' := 179) dL_law_178 rfl rfl rfl ?_
      refine sm_iload_n (i := 3) (j := 3) (pc' := 180) dL_law_179 rfl rfl rfl ?_
      refine sm_iconst (v := (3 : Int32)) (pc' := 181) dL_law_180 rfl (by decide) ?_
      refine sm_iadd (pc' := 182) dL_law_181 rfl ?_
      refine sm_sld (pc' := 183) rfl dL_law_182 rfl (fun x10 => ?_)
      refine sm_cVI (pc' := 186) (ci := 12) (st := [vI x6]) (F := fun b => fX12_feed b (((x8.toInt64) <<< ((32 : Int32).toInt64 &&& 63)) ||| ((x9.toInt64) &&& (4294967295 : Int64))) x10 h7) [vJ (((x8.toInt64) <<< ((32 : Int32).toInt64 &&& 63)) ||| ((x9.toInt64) &&& (4294967295 : Int64))), vI x10] yY_yX12_feed rfl mw923 mw924 mw925 (fun b => mX12_feed l D aC B b (((x8.toInt64) <<< ((32 : Int32).toInt64 &&& 63)) ||| ((x9.toInt64) &&& (4294967295 : Int64))) x10 h7) rfl (by decide) (by decide) (by exact Nat.le_of_ble_eq_true rfl) rfl dL_law_183 rfl (fun x11 h12 => ?_)
      refine sm_icmp_eq (tgt := 1067) (pc' := 189) dL_law_186 (by decide) rfl ?_ ?_
      · refine sm_iincL (i := 3) (j := 3) (x := a3) (d := (9 : Int32)) (fun x13 => [(3, vI x13), (0, vR (some b)), (1, vR a1), (2, vR a2)]) (pc' := 1070) dL_law_1067 rfl rfl (by decide) (by decide) (fun _ => rfl) (fun x13 => ?_)
        refine sm_goto (pc' := 18) dL_law_1070 (by decide) ?_
        refine sm_lo (lv' := [(0, vR (some b)), (1, vR a1), (2, vR a2), (3, vI x13)]) [1, 2, 3, 0] rfl ?_
        exact ih a1 a2 x13 h12
      refine sm_iconst (v := (0 : Int32)) (pc' := 190) dL_law_189 rfl (by decide) ?_
      exact sm_none
    refine sm_ite (fun c28 => ?_) (fun c28 => ?_)
    · refine sm_tbI (pc' := 191) (158) dL_law_33 (by rw [c28]; decide) (by rw [c28]; decide) (by rw [c28]; decide) (by decide) ?_
      refine sm_aload_n (i := 1) (j := 1) (pc' := 192) dL_law_191 rfl rfl rfl ?_
      refine sm_aload_n (i := 0) (j := 0) (pc' := 193) dL_law_192 rfl rfl rfl ?_
      refine sm_iload_n (i := 3) (j := 3) (pc' := 194) dL_law_193 rfl rfl rfl ?_
      refine sm_iconst (v := (1 : Int32)) (pc' := 195) dL_law_194 rfl (by decide) ?_
      refine sm_iadd (pc' := 196) dL_law_195 rfl ?_
      refine sm_sld (pc' := 197) rfl dL_law_196 rfl (fun x17 => ?_)
      refine sm_i2l (pc' := 198) dL_law_197 rfl ?_
      refine sm_bipush (v := (32 : Int32)) (pc' := 200) dL_law_198 rfl (by decide) ?_
      refine sm_lshl (pc' := 201) dL_law_200 rfl ?_
      refine sm_aload_n (i := 0) (j := 0) (pc' := 202) dL_law_201 rfl rfl rfl ?_
      refine sm_iload_n (i := 3) (j := 3) (pc' := 203) dL_law_202 rfl rfl rfl ?_
      refine sm_iconst (v := (2 : Int32)) (pc' := 204) dL_law_203 rfl (by decide) ?_
      refine sm_iadd (pc' := 205) dL_law_204 rfl ?_
      refine sm_sld (pc' := 206) rfl dL_law_205 rfl (fun x18 => ?_)
      refine sm_i2l (pc' := 207) dL_law_206 rfl ?_
      refine sm_ldc2 (v := (4294967295 : Int64)) (pc' := 210) dL_law_207 rfl mw921 ?_
      refine sm_land (pc' := 211) dL_law_210 rfl ?_
      refine sm_lor (pc' := 212) dL_law_211 rfl ?_
      refine sm_cVI (pc' := 215) (ci := 11) (st := []) (F := fun b => fX11_number b (((x17.toInt64) <<< ((32 : Int32).toInt64 &&& 63)) ||| ((x18.toInt64) &&& (4294967295 : Int64))) h) [vJ (((x17.toInt64) <<< ((32 : Int32).toInt64 &&& 63)) ||| ((x18.toInt64) &&& (4294967295 : Int64)))] yY_yX11_number rfl mw928 mw932 mw933 (fun b => mX11_number l D aC B b (((x17.toInt64) <<< ((32 : Int32).toInt64 &&& 63)) ||| ((x18.toInt64) &&& (4294967295 : Int64))) h) rfl (by decide) (by decide) (by exact Nat.le_of_ble_eq_true rfl) rfl dL_law_212 rfl (fun x19 h20 => ?_)
      refine sm_aload_n (i := 2) (j := 2) (pc' := 216) dL_law_215 rfl rfl rfl ?_
      refine sm_aload_n (i := 0) (j := 0) (pc' := 217) dL_law_216 rfl rfl rfl ?_
      refine sm_iload_n (i := 3) (j := 3) (pc' := 218) dL_law_217 rfl rfl rfl ?_
      refine sm_iconst (v := (1 : Int32)) (pc' := 219) dL_law_218 rfl (by decide) ?_
      refine sm_iadd (pc' := 220) dL_law_219 rfl ?_
      refine sm_sld (pc' := 221) rfl dL_law_220 rfl (fun x21 => ?_)
      refine sm_i2l (pc' := 222) dL_law_221 rfl ?_
      refine sm_bipush (v := (32 : Int32)) (pc' := 224) dL_law_222 rfl (by decide) ?_
      refine sm_lshl (pc' := 225) dL_law_224 rfl ?_
      refine sm_aload_n (i := 0) (j := 0) (pc' := 226) dL_law_225 rfl rfl rfl ?_
      refine sm_iload_n (i := 3) (j := 3) (pc' := 227) dL_law_226 rfl rfl rfl ?_
      refine sm_iconst (v := (2 : Int32)) (pc' := 228) dL_law_227 rfl (by decide) ?_
      refine sm_iadd (pc' := 229) dL_law_228 rfl ?_
      refine sm_sld (pc' := 230) rfl dL_law_229 rfl (fun x22 => ?_)
      refine sm_i2l (pc' := 231) dL_law_230 rfl ?_
      refine sm_ldc2 (v := (4294967295 : Int64)) (pc' := 234) dL_law_231 rfl mw921 ?_
      refine sm_land (pc' := 235) dL_law_234 rfl ?_
      refine sm_lor (pc' := 236) dL_law_235 rfl ?_
      refine sm_cVI (pc' := 239) (ci := 12) (st := [vI x19]) (F := fun b => fX12_number b (((x21.toInt64) <<< ((32 : Int32).toInt64 &&& 63)) ||| ((x22.toInt64) &&& (4294967295 : Int64))) h20) [vJ (((x21.toInt64) <<< ((32 : Int32).toInt64 &&& 63)) ||| ((x22.toInt64) &&& (4294967295 : Int64)))] yY_yX12_number rfl mw929 mw930 mw931 (fun b => mX12_number l D aC B b (((x21.toInt64) <<< ((32 : Int32).toInt64 &&& 63)) ||| ((x22.toInt64) &&& (4294967295 : Int64))) h20) rfl (by decide) (by decide) (by exact Nat.le_of_ble_eq_true rfl) rfl dL_law_236 rfl (fun x23 h24 => ?_)
      refine sm_icmp_eq (tgt := 1067) (pc' := 242) dL_law_239 (by decide) rfl ?_ ?_
      · refine sm_iincL (i := 3) (j := 3) (x := a3) (d := (9 : Int32)) (fun x25 => [(3, vI x25), (0, vR (some b)), (1, vR a1), (2, vR a2)]) (pc' := 1070) dL_law_1067 rfl rfl (by decide) (by decide) (fun _ => rfl) (fun x25 => ?_)
        refine sm_goto (pc' := 18) dL_law_1070 (by decide) ?_
        refine sm_lo (lv' := [(0, vR (some b)), (1, vR a1), (2, vR a2), (3, vI x25)]) [1, 2, 3, 0] rfl ?_
        exact ih a1 a2 x25 h24
      refine sm_iconst (v := (0 : Int32)) (pc' := 243) dL_law_242 rfl (by decide) ?_
      exact sm_none
    refine sm_ite (fun c48 => ?_) (fun c48 => ?_)
    · refine sm_tbI (pc' := 244) (211) dL_law_33 (by rw [c48]; decide) (by rw [c48]; decide) (by rw [c48]; decide) (by decide) ?_
      refine sm_aload_n (i := 1) (j := 1) (pc' := 245) dL_law_244 rfl rfl rfl ?_
      refine sm_aload_n (i := 0) (j := 0) (pc' := 246) dL_law_245 rfl rfl rfl ?_
      refine sm_iload_n (i := 3) (j := 3) (pc' := 247) dL_law_246 rfl rfl rfl ?_
      refine sm_iconst (v := (1 : Int32)) (pc' := 248) dL_law_247 rfl (by decide) ?_
      refine sm_iadd (pc' := 249) dL_law_248 rfl ?_
      refine sm_sld (pc' := 250) rfl dL_law_249 rfl (fun x29 => ?_)
      refine sm_aload_n (i := 0) (j := 0) (pc' := 251) dL_law_250 rfl rfl rfl ?_
      refine sm_iload_n (i := 3) (j := 3) (pc' := 252) dL_law_251 rfl rfl rfl ?_
      refine sm_iconst (v := (2 : Int32)) (pc' := 253) dL_law_252 rfl (by decide) ?_
      refine sm_iadd (pc' := 254) dL_law_253 rfl ?_
      refine sm_sld (pc' := 255) rfl dL_law_254 rfl (fun x30 => ?_)
      refine sm_aload_n (i := 0) (j := 0) (pc' := 256) dL_law_255 rfl rfl rfl ?_
      refine sm_iload_n (i := 3) (j := 3) (pc' := 257) dL_law_256 rfl rfl rfl ?_
      refine sm_iconst (v := (3 : Int32)) (pc' := 258) dL_law_257 rfl (by decide) ?_
      refine sm_iadd (pc' := 259) dL_law_258 rfl ?_
      refine sm_sld (pc' := 260) rfl dL_law_259 rfl (fun x31 => ?_)
      refine sm_i2l (pc' := 261) dL_law_260 rfl ?_
      refine sm_bipush (v := (32 : Int32)) (pc' := 263) dL_law_261 rfl (by decide) ?_
      refine sm_lshl (pc' := 264) dL_law_263 rfl ?_
      refine sm_aload_n (i := 0) (j := 0) (pc' := 265) dL_law_264 rfl rfl rfl ?_
      refine sm_iload_n (i := 3) (j := 3) (pc' := 266) dL_law_265 rfl rfl rfl ?_
      refine sm_iconst (v := (4 : Int32)) (pc' := 267) dL_law_266 rfl (by decide) ?_
      refine sm_iadd (pc' := 268) dL_law_267 rfl ?_
      refine sm_sld (pc' := 269) rfl dL_law_268 rfl (fun x32 => ?_)
      refine sm_i2l (pc' := 270) dL_law_269 rfl ?_
      refine sm_ldc2 (v := (4294967295 : Int64)) (pc' := 273) dL_law_270 rfl mw921 ?_
      refine sm_land (pc' := 274) dL_law_273 rfl ?_
      refine sm_lor (pc' := 275) dL_law_274 rfl ?_
      refine sm_aload_n (i := 0) (j := 0) (pc' := 276) dL_law_275 rfl rfl rfl ?_
      refine sm_iload_n (i := 3) (j := 3) (pc' := 277) dL_law_276 rfl rfl rfl ?_
      refine sm_iconst (v := (5 : Int32)) (pc' := 278) dL_law_277 rfl (by decide) ?_
      refine sm_iadd (pc' := 279) dL_law_278 rfl ?_
      refine sm_sld (pc' := 280) rfl dL_law_279 rfl (fun x33 => ?_)
      refine sm_i2l (pc' := 281) dL_law_280 rfl ?_
      refine sm_bipush (v := (32 : Int32)) (pc' := 283) dL_law_281 rfl (by decide) ?_
      refine sm_lshl (pc' := 284) dL_law_283 rfl ?_
      refine sm_aload_n (i := 0) (j := 0) (pc' := 285) dL_law_284 rfl rfl rfl ?_
      refine sm_iload_n (i := 3) (j := 3) (pc' := 286) dL_law_285 rfl rfl rfl ?_
      refine sm_bipush (v := (6 : Int32)) (pc' := 288) dL_law_286 rfl (by decide) ?_
      refine sm_iadd (pc' := 289) dL_law_288 rfl ?_
      refine sm_sld (pc' := 290) rfl dL_law_289 rfl (fun x34 => ?_)
      refine sm_i2l (pc' := 291) dL_law_290 rfl ?_
      refine sm_ldc2 (v := (4294967295 : Int64)) (pc' := 294) dL_law_291 rfl mw921 ?_
      refine sm_land (pc' := 295) dL_law_294 rfl ?_
      refine sm_lor (pc' := 296) dL_law_295 rfl ?_
      refine sm_cVI (pc' := 299) (ci := 11) (st := []) (F := fun b => fX11_scalar b x29 x30 (((x31.toInt64) <<< ((32 : Int32).toInt64 &&& 63)) ||| ((x32.toInt64) &&& (4294967295 : Int64))) (((x33.toInt64) <<< ((32 : Int32).toInt64 &&& 63)) ||| ((x34.toInt64) &&& (4294967295 : Int64))) h) [vI x29, vI x30, vJ (((x31.toInt64) <<< ((32 : Int32).toInt64 &&& 63)) ||| ((x32.toInt64) &&& (4294967295 : Int64))), vJ (((x33.toInt64) <<< ((32 : Int32).toInt64 &&& 63)) ||| ((x34.toInt64) &&& (4294967295 : Int64)))] yY_yX11_scalar rfl mw934 mw938 mw939 (fun b => mX11_scalar l D aC B b x29 x30 (((x31.toInt64) <<< ((32 : Int32).toInt64 &&& 63)) ||| ((x32.toInt64) &&& (4294967295 : Int64))) (((x33.toInt64) <<< ((32 : Int32).toInt64 &&& 63)) ||| ((x34.toInt64) &&& (4294967295 : Int64))) h) rfl (by decide) (by decide) (by exact Nat.le_of_ble_eq_true rfl) rfl dL_law_296 rfl (fun x35 h36 => ?_)
      refine sm_aload_n (i := 2) (j := 2) (pc' := 300) dL_law_299 rfl rfl rfl ?_
      refine sm_aload_n (i := 0) (j := 0) (pc' := 301) dL_law_300 rfl rfl rfl ?_
      refine sm_iload_n (i := 3) (j := 3) (pc' := 302) dL_law_301 rfl rfl rfl ?_
      refine sm_iconst (v := (1 : Int32)) (pc' := 303) dL_law_302 rfl (by decide) ?_
      refine sm_iadd (pc' := 304) dL_law_303 rfl ?_
      refine sm_sld (pc' := 305) rfl dL_law_304 rfl (fun x37 => ?_)
      refine sm_aload_n (i := 0) (j := 0) (pc' := 306) dL_law_305 rfl rfl rfl ?_
      refine sm_iload_n (i := 3) (j := 3) (pc' := 307) dL_law_306 rfl rfl rfl ?_
      refine sm_iconst (v := (2 : Int32)) (pc' := 308) dL_law_307 rfl (by decide) ?_
      refine sm_iadd (pc' := 309) dL_law_308 rfl ?_
      refine sm_sld (pc' := 310) rfl dL_law_309 rfl (fun x38 => ?_)
      refine sm_aload_n (i := 0) (j := 0) (pc' := 311) dL_law_310 rfl rfl rfl ?_
      refine sm_iload_n (i := 3) (j := 3) (pc' := 312) dL_law_311 rfl rfl rfl ?_
      refine sm_iconst (v := (3 : Int32)) (pc' := 313) dL_law_312 rfl (by decide) ?_
      refine sm_iadd (pc' := 314) dL_law_313 rfl ?_
      refine sm_sld (pc' := 315) rfl dL_law_314 rfl (fun x39 => ?_)
      refine sm_i2l (pc' := 316) dL_law_315 rfl ?_
      refine sm_bipush (v := (32 : Int32)) (pc' := 318) dL_law_316 rfl (by decide) ?_
      refine sm_lshl (pc' := 319) dL_law_318 rfl ?_
      refine sm_aload_n (i := 0) (j := 0) (pc' := 320) dL_law_319 rfl rfl rfl ?_
      refine sm_iload_n (i := 3) (j := 3) (pc' := 321) dL_law_320 rfl rfl rfl ?_
      refine sm_iconst (v := (4 : Int32)) (pc' := 322) dL_law_321 rfl (by decide) ?_
      refine sm_iadd (pc' := 323) dL_law_322 rfl ?_
      refine sm_sld (pc' := 324) rfl dL_law_323 rfl (fun x40 => ?_)
      refine sm_i2l (pc' := 325) dL_law_324 rfl ?_
      refine sm_ldc2 (v := (4294967295 : Int64)) (pc' := 328) dL_law_325 rfl mw921 ?_
      refine sm_land (pc' := 329) dL_law_328 rfl ?_
      refine sm_lor (pc' := 330) dL_law_329 rfl ?_
      refine sm_aload_n (i := 0) (j := 0) (pc' := 331) dL_law_330 rfl rfl rfl ?_
      refine sm_iload_n (i := 3) (j := 3) (pc' := 332) dL_law_331 rfl rfl rfl ?_
      refine sm_iconst (v := (5 : Int32)) (pc' := 333) dL_law_332 rfl (by decide) ?_
      refine sm_iadd (pc' := 334) dL_law_333 rfl ?_
      refine sm_sld (pc' := 335) rfl dL_law_334 rfl (fun x41 => ?_)
      refine sm_i2l (pc' := 336) dL_law_335 rfl ?_
      refine sm_bipush (v := (32 : Int32)) (pc' := 338) dL_law_336 rfl (by decide) ?_
      refine sm_lshl (pc' := 339) dL_law_338 rfl ?_
      refine sm_aload_n (i := 0) (j := 0) (pc' := 340) dL_law_339 rfl rfl rfl ?_
      refine sm_iload_n (i := 3) (j := 3) (pc' := 341) dL_law_340 rfl rfl rfl ?_
      refine sm_bipush (v := (6 : Int32)) (pc' := 343) dL_law_341 rfl (by decide) ?_
      refine sm_iadd (pc' := 344) dL_law_343 rfl ?_
      refine sm_sld (pc' := 345) rfl dL_law_344 rfl (fun x42 => ?_)
      refine sm_i2l (pc' := 346) dL_law_345 rfl ?_
      refine sm_ldc2 (v := (4294967295 : Int64)) (pc' := 349) dL_law_346 rfl mw921 ?_
      refine sm_land (pc' := 350) dL_law_349 rfl ?_
      refine sm_lor (pc' := 351) dL_law_350 rfl ?_
      refine sm_cVI (pc' := 354) (ci := 12) (st := [vI x35]) (F := fun b => fX12_scalar b x37 x38 (((x39.toInt64) <<< ((32 : Int32).toInt64 &&& 63)) ||| ((x40.toInt64) &&& (4294967295 : Int64))) (((x41.toInt64) <<< ((32 : Int32).toInt64 &&& 63)) ||| ((x42.toInt64) &&& (4294967295 : Int64))) h36) [vI x37, vI x38, vJ (((x39.toInt64) <<< ((32 : Int32).toInt64 &&& 63)) ||| ((x40.toInt64) &&& (4294967295 : Int64))), vJ (((x41.toInt64) <<< ((32 : Int32).toInt64 &&& 63)) ||| ((x42.toInt64) &&& (4294967295 : Int64)))] yY_yX12_scalar rfl mw935 mw936 mw937 (fun b => mX12_scalar l D aC B b x37 x38 (((x39.toInt64) <<< ((32 : Int32).toInt64 &&& 63)) ||| ((x40.toInt64) &&& (4294967295 : Int64))) (((x41.toInt64) <<< ((32 : Int32).toInt64 &&& 63)) ||| ((x42.toInt64) &&& (4294967295 : Int64))) h36) rfl (by decide) (by decide) (by exact Nat.le_of_ble_eq_true rfl) rfl dL_law_351 rfl (fun x43 h44 => ?_)
      refine sm_icmp_eq (tgt := 1067) (pc' := 357) dL_law_354 (by decide) rfl ?_ ?_
      · refine sm_iincL (i := 3) (j := 3) (x := a3) (d := (9 : Int32)) (fun x45 => [(3, vI x45), (0, vR (some b)), (1, vR a1), (2, vR a2)]) (pc' := 1070) dL_law_1067 rfl rfl (by decide) (by decide) (fun _ => rfl) (fun x45 => ?_)
        refine sm_goto (pc' := 18) dL_law_1070 (by decide) ?_
        refine sm_lo (lv' := [(0, vR (some b)), (1, vR a1), (2, vR a2), (3, vI x45)]) [1, 2, 3, 0] rfl ?_
        exact ih a1 a2 x45 h44
      refine sm_iconst (v := (0 : Int32)) (pc' := 358) dL_law_357 rfl (by decide) ?_
      exact sm_none
    refine sm_ite (fun c56 => ?_) (fun c56 => ?_)
    · refine sm_tbI (pc' := 359) (326) dL_law_33 (by rw [c56]; decide) (by rw [c56]; decide) (by rw [c56]; decide) (by decide) ?_
      refine sm_aload_n (i := 1) (j := 1) (pc' := 360) dL_law_359 rfl rfl rfl ?_
      refine sm_cVI (pc' := 363) (ci := 11) (st := []) (F := fun b => fX11_table b h) [] yY_yX11_table rfl mw940 mw944 mw945 (fun b => mX11_table l D aC B b h) rfl (by decide) (by decide) (by exact Nat.le_of_ble_eq_true rfl) rfl dL_law_360 rfl (fun x49 h50 => ?_)
      refine sm_aload_n (i := 2) (j := 2) (pc' := 364) dL_law_363 rfl rfl rfl ?_
      refine sm_cVI (pc' := 367) (ci := 12) (st := [vI x49]) (F := fun b => fX12_table b h50) [] yY_yX12_table rfl mw941 mw942 mw943 (fun b => mX12_table l D aC B b h50) rfl (by decide) (by decide) (by exact Nat.le_of_ble_eq_true rfl) rfl dL_law_364 rfl (fun x51 h52 => ?_)
      refine sm_icmp_eq (tgt := 1067) (pc' := 370) dL_law_367 (by decide) rfl ?_ ?_
      · refine sm_iincL (i := 3) (j := 3) (x := a3) (d := (9 : Int32)) (fun x53 => [(3, vI x53), (0, vR (some b)), (1, vR a1), (2, vR a2)]) (pc' := 1070) dL_law_1067 rfl rfl (by decide) (by decide) (fun _ => rfl) (fun x53 => ?_)
        refine sm_goto (pc' := 18) dL_law_1070 (by decide) ?_
        refine sm_lo (lv' := [(0, vR (some b)), (1, vR a1), (2, vR a2), (3, vI x53)]) [1, 2, 3, 0] rfl ?_
        exact ih a1 a2 x53 h52
      refine sm_iconst (v := (0 : Int32)) (pc' := 371) dL_law_370 rfl (by decide) ?_
      exact sm_none
    refine sm_ite (fun c80 => ?_) (fun c80 => ?_)
    · refine sm_tbI (pc' := 372) (339) dL_law_33 (by rw [c80]; decide) (by rw [c80]; decide) (by rw [c80]; decide) (by decide) ?_
      refine sm_aload_n (i := 1) (j := 1) (pc' := 373) dL_law_372 rfl rfl rfl ?_
      refine sm_aload_n (i := 0) (j := 0) (pc' := 374) dL_law_373 rfl rfl rfl ?_
      refine sm_iload_n (i := 3) (j := 3) (pc' := 375) dL_law_374 rfl rfl rfl ?_
      refine sm_iconst (v := (1 : Int32)) (pc' := 376) dL_law_375 rfl (by decide) ?_
      refine sm_iadd (pc' := 377) dL_law_376 rfl ?_
      refine sm_sld (pc' := 378) rfl dL_law_377 rfl (fun x57 => ?_)
      refine sm_aload_n (i := 0) (j := 0) (pc' := 379) dL_law_378 rfl rfl rfl ?_
      refine sm_iload_n (i := 3) (j := 3) (pc' := 380) dL_law_379 rfl rfl rfl ?_
      refine sm_iconst (v := (2 : Int32)) (pc' := 381) dL_law_380 rfl (by decide) ?_
      refine sm_iadd (pc' := 382) dL_law_381 rfl ?_
      refine sm_sld (pc' := 383) rfl dL_law_382 rfl (fun x58 => ?_)
      refine sm_aload_n (i := 0) (j := 0) (pc' := 384) dL_law_383 rfl rfl rfl ?_
      refine sm_iload_n (i := 3) (j := 3) (pc' := 385) dL_law_384 rfl rfl rfl ?_
      refine sm_iconst (v := (3 : Int32)) (pc' := 386) dL_law_385 rfl (by decide) ?_
      refine sm_iadd (pc' := 387) dL_law_386 rfl ?_
      refine sm_sld (pc' := 388) rfl dL_law_387 rfl (fun x59 => ?_)
      refine sm_aload_n (i := 0) (j := 0) (pc' := 389) dL_law_388 rfl rfl rfl ?_
      refine sm_iload_n (i := 3) (j := 3) (pc' := 390) dL_law_389 rfl rfl rfl ?_
      refine sm_iconst (v := (4 : Int32)) (pc' := 391) dL_law_390 rfl (by decide) ?_
      refine sm_iadd (pc' := 392) dL_law_391 rfl ?_
      refine sm_sld (pc' := 393) rfl dL_law_392 rfl (fun x60 => ?_)
      refine sm_aload_n (i := 0) (j := 0) (pc' := 394) dL_law_393 rfl rfl rfl ?_
      refine sm_iload_n (i := 3) (j := 3) (pc' := 395) dL_law_394 rfl rfl rfl ?_
      refine sm_iconst (v := (5 : Int32)) (pc' := 396) dL_law_395 rfl (by decide) ?_
      refine sm_iadd (pc' := 397) dL_law_396 rfl ?_
      refine sm_sld (pc' := 398) rfl dL_law_397 rfl (fun x61 => ?_)
      refine sm_i2l (pc' := 399) dL_law_398 rfl ?_
      refine sm_bipush (v := (32 : Int32)) (pc' := 401) dL_law_399 rfl (by decide) ?_
      refine sm_lshl (pc' := 402) dL_law_401 rfl ?_
      refine sm_aload_n (i := 0) (j := 0) (pc' := 403) dL_law_402 rfl rfl rfl ?_
      refine sm_iload_n (i := 3) (j := 3) (pc' := 404) dL_law_403 rfl rfl rfl ?_
      refine sm_bipush (v := (6 : Int32)) (pc' := 406) dL_law_404 rfl (by decide) ?_
      refine sm_iadd (pc' := 407) dL_law_406 rfl ?_
      refine sm_sld (pc' := 408) rfl dL_law_407 rfl (fun x62 => ?_)
      refine sm_i2l (pc' := 409) dL_law_408 rfl ?_
      refine sm_ldc2 (v := (4294967295 : Int64)) (pc' := 412) dL_law_409 rfl mw921 ?_
      refine sm_land (pc' := 413) dL_law_412 rfl ?_
      refine sm_lor (pc' := 414) dL_law_413 rfl ?_
      refine sm_aload_n (i := 0) (j := 0) (pc' := 415) dL_law_414 rfl rfl rfl ?_
      refine sm_iload_n (i := 3) (j := 3) (pc' := 416) dL_law_415 rfl rfl rfl ?_
      refine sm_bipush (v := (7 : Int32)) (pc' := 418) dL_law_416 rfl (by decide) ?_
      refine sm_iadd (pc' := 419) dL_law_418 rfl ?_
      refine sm_sld (pc' := 420) rfl dL_law_419 rfl (fun x63 => ?_)
      refine sm_i2l (pc' := 421) dL_law_420 rfl ?_
      refine sm_bipush (v := (32 : Int32)) (pc' := 423) dL_law_421 rfl (by decide) ?_
      refine sm_lshl (pc' := 424) dL_law_423 rfl ?_
      refine sm_aload_n (i := 0) (j := 0) (pc' := 425) dL_law_424 rfl rfl rfl ?_
      refine sm_iload_n (i := 3) (j := 3) (pc' := 426) dL_law_425 rfl rfl rfl ?_
      refine sm_bipush (v := (8 : Int32)) (pc' := 428) dL_law_426 rfl (by decide) ?_
      refine sm_iadd (pc' := 429) dL_law_428 rfl ?_
      refine sm_sld (pc' := 430) rfl dL_law_429 rfl (fun x64 => ?_)
      refine sm_i2l (pc' := 431) dL_law_430 rfl ?_
      refine sm_ldc2 (v := (4294967295 : Int64)) (pc' := 434) dL_law_431 rfl mw921 ?_
      refine sm_land (pc' := 435) dL_law_434 rfl ?_
      refine sm_lor (pc' := 436) dL_law_435 rfl ?_
      refine sm_cVI (pc' := 439) (ci := 11) (st := []) (F := fun b => fX11_column b x57 x58 x59 x60 (((x61.toInt64) <<< ((32 : Int32).toInt64 &&& 63)) ||| ((x62.toInt64) &&& (4294967295 : Int64))) (((x63.toInt64) <<< ((32 : Int32).toInt64 &&& 63)) ||| ((x64.toInt64) &&& (4294967295 : Int64))) h) [vI x57, vI x58, vI x59, vI x60, vJ (((x61.toInt64) <<< ((32 : Int32).toInt64 &&& 63)) ||| ((x62.toInt64) &&& (4294967295 : Int64))), vJ (((x63.toInt64) <<< ((32 : Int32).toInt64 &&& 63)) ||| ((x64.toInt64) &&& (4294967295 : Int64)))] yY_yX11_column rfl mw946 mw950 mw951 (fun b => mX11_column l D aC B b x57 x58 x59 x60 (((x61.toInt64) <<< ((32 : Int32).toInt64 &&& 63)) ||| ((x62.toInt64) &&& (4294967295 : Int64))) (((x63.toInt64) <<< ((32 : Int32).toInt64 &&& 63)) ||| ((x64.toInt64) &&& (4294967295 : Int64))) h) rfl (by decide) (by decide) (by exact Nat.le_of_ble_eq_true rfl) rfl dL_law_436 rfl (fun x65 h66 => ?_)
      refine sm_aload_n (i := 2) (j := 2) (pc' := 440) dL_law_439 rfl rfl rfl ?_
      refine sm_aload_n (i := 0) (j := 0) (pc' := 441) dL_law_440 rfl rfl rfl ?_
      refine sm_iload_n (i := 3) (j := 3) (pc' := 442) dL_law_441 rfl rfl rfl ?_
      refine sm_iconst (v := (1 : Int32)) (pc' := 443) dL_law_442 rfl (by decide) ?_
      refine sm_iadd (pc' := 444) dL_law_443 rfl ?_
      refine sm_sld (pc' := 445) rfl dL_law_444 rfl (fun x67 => ?_)
      refine sm_aload_n (i := 0) (j := 0) (pc' := 446) dL_law_445 rfl rfl rfl ?_
      refine sm_iload_n (i := 3) (j := 3) (pc' := 447) dL_law_446 rfl rfl rfl ?_
      refine sm_iconst (v := (2 : Int32)) (pc' := 448) dL_law_447 rfl (by decide) ?_
      refine sm_iadd (pc' := 449) dL_law_448 rfl ?_
      refine sm_sld (pc' := 450) rfl dL_law_449 rfl (fun x68 => ?_)
      refine sm_aload_n (i := 0) (j := 0) (pc' := 451) dL_law_450 rfl rfl rfl ?_
      refine sm_iload_n (i := 3) (j := 3) (pc' := 452) dL_law_451 rfl rfl rfl ?_
      refine sm_iconst (v := (3 : Int32)) (pc' := 453) dL_law_452 rfl (by decide) ?_
      refine sm_iadd (pc' := 454) dL_law_453 rfl ?_
      refine sm_sld (pc' := 455) rfl dL_law_454 rfl (fun x69 => ?_)
      refine sm_aload_n (i := 0) (j := 0) (pc' := 456) dL_law_455 rfl rfl rfl ?_
      refine sm_iload_n (i := 3) (j := 3) (pc' := 457) dL_law_456 rfl rfl rfl ?_
      refine sm_iconst (v := (4 : Int32)) (pc' := 458) dL_law_457 rfl (by decide) ?_
      refine sm_iadd (pc' := 459) dL_law_458 rfl ?_
      refine sm_sld (pc' := 460) rfl dL_law_459 rfl (fun x70 => ?_)
      refine sm_aload_n (i := 0) (j := 0) (pc' := 461) dL_law_460 rfl rfl rfl ?_
      refine sm_iload_n (i := 3) (j := 3) (pc' := 462) dL_law_461 rfl rfl rfl ?_
      refine sm_iconst (v := (5 : Int32)) (pc' := 463) dL_law_462 rfl (by decide) ?_
      refine sm_iadd (pc' := 464) dL_law_463 rfl ?_
      refine sm_sld (pc' := 465) rfl dL_law_464 rfl (fun x71 => ?_)
      refine sm_i2l (pc' := 466) dL_law_465 rfl ?_
      refine sm_bipush (v := (32 : Int32)) (pc' := 468) dL_law_466 rfl (by decide) ?_
      refine sm_lshl (pc' := 469) dL_law_468 rfl ?_
      refine sm_aload_n (i := 0) (j := 0) (pc' := 470) dL_law_469 rfl rfl rfl ?_
      refine sm_iload_n (i := 3) (j := 3) (pc' := 471) dL_law_470 rfl rfl rfl ?_
      refine sm_bipush (v := (6 : Int32)) (pc' := 473) dL_law_471 rfl (by decide) ?_
      refine sm_iadd (pc' := 474) dL_law_473 rfl ?_
      refine sm_sld (pc' := 475) rfl dL_law_474 rfl (fun x72 => ?_)
      refine sm_i2l (pc' := 476) dL_law_475 rfl ?_
      refine sm_ldc2 (v := (4294967295 : Int64)) (pc' := 479) dL_law_476 rfl mw921 ?_
      refine sm_land (pc' := 480) dL_law_479 rfl ?_
      refine sm_lor (pc' := 481) dL_law_480 rfl ?_
      refine sm_aload_n (i := 0) (j := 0) (pc' := 482) dL_law_481 rfl rfl rfl ?_
      refine sm_iload_n (i := 3) (j := 3) (pc' := 483) dL_law_482 rfl rfl rfl ?_
      refine sm_bipush (v := (7 : Int32)) (pc' := 485) dL_law_483 rfl (by decide) ?_
      refine sm_iadd (pc' := 486) dL_law_485 rfl ?_
      refine sm_sld (pc' := 487) rfl dL_law_486 rfl (fun x73 => ?_)
      refine sm_i2l (pc' := 488) dL_law_487 rfl ?_
      refine sm_bipush (v := (32 : Int32)) (pc' := 490) dL_law_488 rfl (by decide) ?_
      refine sm_lshl (pc' := 491) dL_law_490 rfl ?_
      refine sm_aload_n (i := 0) (j := 0) (pc' := 492) dL_law_491 rfl rfl rfl ?_
      refine sm_iload_n (i := 3) (j := 3) (pc' := 493) dL_law_492 rfl rfl rfl ?_
      refine sm_bipush (v := (8 : Int32)) (pc' := 495) dL_law_493 rfl (by decide) ?_
      refine sm_iadd (pc' := 496) dL_law_495 rfl ?_
      refine sm_sld (pc' := 497) rfl dL_law_496 rfl (fun x74 => ?_)
      refine sm_i2l (pc' := 498) dL_law_497 rfl ?_
      refine sm_ldc2 (v := (4294967295 : Int64)) (pc' := 501) dL_law_498 rfl mw921 ?_
      refine sm_land (pc' := 502) dL_law_501 rfl ?_
      refine sm_lor (pc' := 503) dL_law_502 rfl ?_
      refine sm_cVI (pc' := 506) (ci := 12) (st := [vI x65]) (F := fun b => fX12_column b x67 x68 x69 x70 (((x71.toInt64) <<< ((32 : Int32).toInt64 &&& 63)) ||| ((x72.toInt64) &&& (4294967295 : Int64))) (((x73.toInt64) <<< ((32 : Int32).toInt64 &&& 63)) ||| ((x74.toInt64) &&& (4294967295 : Int64))) h66) [vI x67, vI x68, vI x69, vI x70, vJ (((x71.toInt64) <<< ((32 : Int32).toInt64 &&& 63)) ||| ((x72.toInt64) &&& (4294967295 : Int64))), vJ (((x73.toInt64) <<< ((32 : Int32).toInt64 &&& 63)) ||| ((x74.toInt64) &&& (4294967295 : Int64)))] yY_yX12_column rfl mw947 mw948 mw949 (fun b => mX12_column l D aC B b x67 x68 x69 x70 (((x71.toInt64) <<< ((32 : Int32).toInt64 &&& 63)) ||| ((x72.toInt64) &&& (4294967295 : Int64))) (((x73.toInt64) <<< ((32 : Int32).toInt64 &&& 63)) ||| ((x74.toInt64) &&& (4294967295 : Int64))) h66) rfl (by decide) (by decide) (by exact Nat.le_of_ble_eq_true rfl) rfl dL_law_503 rfl (fun x75 h76 => ?_)
      refine sm_icmp_eq (tgt := 1067) (pc' := 509) dL_law_506 (by decide) rfl ?_ ?_
      · refine sm_iincL (i := 3) (j := 3) (x := a3) (d := (9 : Int32)) (fun x77 => [(3, vI x77), (0, vR (some b)), (1, vR a1), (2, vR a2)]) (pc' := 1070) dL_law_1067 rfl rfl (by decide) (by decide) (fun _ => rfl) (fun x77 => ?_)
        refine sm_goto (pc' := 18) dL_law_1070 (by decide) ?_
        refine sm_lo (lv' := [(0, vR (some b)), (1, vR a1), (2, vR a2), (3, vI x77)]) [1, 2, 3, 0] rfl ?_
        exact ih a1 a2 x77 h76
      refine sm_iconst (v := (0 : Int32)) (pc' := 510) dL_law_509 rfl (by decide) ?_
      exact sm_none
    refine sm_ite (fun c92 => ?_) (fun c92 => ?_)
    · refine sm_tbI (pc' := 511) (478) dL_law_33 (by rw [c92]; decide) (by rw [c92]; decide) (by rw [c92]; decide) (by decide) ?_
      refine sm_aload_n (i := 1) (j := 1) (pc' := 512) dL_law_511 rfl rfl rfl ?_
      refine sm_aload_n (i := 0) (j := 0) (pc' := 513) dL_law_512 rfl rfl rfl ?_
      refine sm_iload_n (i := 3) (j := 3) (pc' := 514) dL_law_513 rfl rfl rfl ?_
      refine sm_iconst (v := (1 : Int32)) (pc' := 515) dL_law_514 rfl (by decide) ?_
      refine sm_iadd (pc' := 516) dL_law_515 rfl ?_
      refine sm_sld (pc' := 517) rfl dL_law_516 rfl (fun x81 => ?_)
      refine sm_aload_n (i := 0) (j := 0) (pc' := 518) dL_law_517 rfl rfl rfl ?_
      refine sm_iload_n (i := 3) (j := 3) (pc' := 519) dL_law_518 rfl rfl rfl ?_
      refine sm_iconst (v := (2 : Int32)) (pc' := 520) dL_law_519 rfl (by decide) ?_
      refine sm_iadd (pc' := 521) dL_law_520 rfl ?_
      refine sm_sld (pc' := 522) rfl dL_law_521 rfl (fun x82 => ?_)
      refine sm_cVI (pc' := 525) (ci := 11) (st := []) (F := fun b => fX11_status b x81 x82 h) [vI x81, vI x82] yY_yX11_status rfl mw952 mw956 mw957 (fun b => mX11_status l D aC B b x81 x82 h) rfl (by decide) (by decide) (by exact Nat.le_of_ble_eq_true rfl) rfl dL_law_522 rfl (fun x83 h84 => ?_)
      refine sm_aload_n (i := 2) (j := 2) (pc' := 526) dL_law_525 rfl rfl rfl ?_
      refine sm_aload_n (i := 0) (j := 0) (pc' := 527) dL_law_526 rfl rfl rfl ?_
      refine sm_iload_n (i := 3) (j := 3) (pc' := 528) dL_law_527 rfl rfl rfl ?_
      refine sm_iconst (v := (1 : Int32)) (pc' := 529) dL_law_528 rfl (by decide) ?_
      refine sm_iadd (pc' := 530) dL_law_529 rfl ?_
      refine sm_sld (pc' := 531) rfl dL_law_530 rfl (fun x85 => ?_)
      refine sm_aload_n (i := 0) (j := 0) (pc' := 532) dL_law_531 rfl rfl rfl ?_
      refine sm_iload_n (i := 3) (j := 3) (pc' := 533) dL_law_532 rfl rfl rfl ?_
      refine sm_iconst (v := (2 : Int32)) (pc' := 534) dL_law_533 rfl (by decide) ?_
      refine sm_iadd (pc' := 535) dL_law_534 rfl ?_
      refine sm_sld (pc' := 536) rfl dL_law_535 rfl (fun x86 => ?_)
      refine sm_cVI (pc' := 539) (ci := 12) (st := [vI x83]) (F := fun b => fX12_status b x85 x86 h84) [vI x85, vI x86] yY_yX12_status rfl mw953 mw954 mw955 (fun b => mX12_status l D aC B b x85 x86 h84) rfl (by decide) (by decide) (by exact Nat.le_of_ble_eq_true rfl) rfl dL_law_536 rfl (fun x87 h88 => ?_)
      refine sm_icmp_eq (tgt := 1067) (pc' := 542) dL_law_539 (by decide) rfl ?_ ?_
      · refine sm_iincL (i := 3) (j := 3) (x := a3) (d := (9 : Int32)) (fun x89 => [(3, vI x89), (0, vR (some b)), (1, vR a1), (2, vR a2)]) (pc' := 1070) dL_law_1067 rfl rfl (by decide) (by decide) (fun _ => rfl) (fun x89 => ?_)
        refine sm_goto (pc' := 18) dL_law_1070 (by decide) ?_
        refine sm_lo (lv' := [(0, vR (some b)), (1, vR a1), (2, vR a2), (3, vI x89)]) [1, 2, 3, 0] rfl ?_
        exact ih a1 a2 x89 h88
      refine sm_iconst (v := (0 : Int32)) (pc' := 543) dL_law_542 rfl (by decide) ?_
      exact sm_none
    refine sm_ite (fun c96 => ?_) (fun c96 => ?_)
    · refine sm_tbI (pc' := 544) (511) dL_law_33 (by rw [c96]; decide) (by rw [c96]; decide) (by rw [c96]; decide) (by decide) ?_
      refine sm_aload_n (i := 1) (j := 1) (pc' := 545) dL_law_544 rfl rfl rfl ?_
      refine sm_aload_n (i := 0) (j := 0) (pc' := 546) dL_law_545 rfl rfl rfl ?_
      refine sm_iload_n (i := 3) (j := 3) (pc' := 547) dL_law_546 rfl rfl rfl ?_
      refine sm_iconst (v := (1 : Int32)) (pc' := 548) dL_law_547 rfl (by decide) ?_
      refine sm_iadd (pc' := 549) dL_law_548 rfl ?_
      refine sm_sld (pc' := 550) rfl dL_law_549 rfl (fun x93 => ?_)
      refine sm_aload_n (i := 0) (j := 0) (pc' := 551) dL_law_550 rfl rfl rfl ?_
      refine sm_iload_n (i := 3) (j := 3) (pc' := 552) dL_law_551 rfl rfl rfl ?_
      refine sm_iconst (v := (2 : Int32)) (pc' := 553) dL_law_552 rfl (by decide) ?_
      refine sm_iadd (pc' := 554) dL_law_553 rfl ?_
      refine sm_sld (pc' := 555) rfl dL_law_554 rfl (fun x94 => ?_)
      refine sm_aload_n (i := 0) (j := 0) (pc' := 556) dL_law_555 rfl rfl rfl ?_
      refine sm_iload_n (i := 3) (j := 3) (pc' := 557) dL_law_556 rfl rfl rfl ?_
      refine sm_iconst (v := (3 : Int32)) (pc' := 558) dL_law_557 rfl (by decide) ?_
      refine sm_iadd (pc' := 559) dL_law_558 rfl ?_
      refine sm_sld (pc' := 560) rfl dL_law_559 rfl (fun x95 => ?_)
      refine sm_if_eq (tgt := 567) (pc' := 563) dL_law_560 (by decide) rfl ?_ ?_
      · refine sm_iconst (v := (0 : Int32)) (pc' := 568) dL_law_567 rfl (by decide) ?_
        exact sL_law_568 l D aC B nm b L xs (fL_law_18 L xs n) ih a1 a2 a3 (0 : Int32) x94 x93 a1 h
      refine sm_iconst (v := (1 : Int32)) (pc' := 564) dL_law_563 rfl (by decide) ?_
      refine sm_goto (pc' := 568) dL_law_564 (by decide) ?_
      exact sL_law_568 l D aC B nm b L xs (fL_law_18 L xs n) ih a1 a2 a3 (1 : Int32) x94 x93 a1 h
    refine sm_ite (fun c112 => ?_) (fun c112 => ?_)
    · refine sm_tbI (pc' := 603) (570) dL_law_33 (by rw [c112]; decide) (by rw [c112]; decide) (by rw [c112]; decide) (by decide) ?_
      refine sm_aload_n (i := 1) (j := 1) (pc' := 604) dL_law_603 rfl rfl rfl ?_
      refine sm_aload_n (i := 0) (j := 0) (pc' := 605) dL_law_604 rfl rfl rfl ?_
      refine sm_iload_n (i := 3) (j := 3) (pc' := 606) dL_law_605 rfl rfl rfl ?_
      refine sm_iconst (v := (1 : Int32)) (pc' := 607) dL_law_606 rfl (by decide) ?_
      refine sm_iadd (pc' := 608) dL_law_607 rfl ?_
      refine sm_sld (pc' := 609) rfl dL_law_608 rfl (fun x97 => ?_)
      refine sm_aload_n (i := 0) (j := 0) (pc' := 610) dL_law_609 rfl rfl rfl ?_
      refine sm_iload_n (i := 3) (j := 3) (pc' := 611) dL_law_610 rfl rfl rfl ?_
      refine sm_iconst (v := (2 : Int32)) (pc' := 612) dL_law_611 rfl (by decide) ?_
      refine sm_iadd (pc' := 613) dL_law_612 rfl ?_
      refine sm_sld (pc' := 614) rfl dL_law_613 rfl (fun x98 => ?_)
      refine sm_aload_n (i := 0) (j := 0) (pc' := 615) dL_law_614 rfl rfl rfl ?_
      refine sm_iload_n (i := 3) (j := 3) (pc' := 616) dL_law_615 rfl rfl rfl ?_
      refine sm_iconst (v := (3 : Int32)) (pc' := 617) dL_law_616 rfl (by decide) ?_
      refine sm_iadd (pc' := 618) dL_law_617 rfl ?_
      refine sm_sld (pc' := 619) rfl dL_law_618 rfl (fun x99 => ?_)
      refine sm_i2l (pc' := 620) dL_law_619 rfl ?_
      refine sm_bipush (v := (32 : Int32)) (pc' := 622) dL_law_620 rfl (by decide) ?_
      refine sm_lshl (pc' := 623) dL_law_622 rfl ?_
      refine sm_aload_n (i := 0) (j := 0) (pc' := 624) dL_law_623 rfl rfl rfl ?_
      refine sm_iload_n (i := 3) (j := 3) (pc' := 625) dL_law_624 rfl rfl rfl ?_
      refine sm_iconst (v := (4 : Int32)) (pc' := 626) dL_law_625 rfl (by decide) ?_
      refine sm_iadd (pc' := 627) dL_law_626 rfl ?_
      refine sm_sld (pc' := 628) rfl dL_law_627 rfl (fun x100 => ?_)
      refine sm_i2l (pc' := 629) dL_law_628 rfl ?_
      refine sm_ldc2 (v := (4294967295 : Int64)) (pc' := 632) dL_law_629 rfl mw921 ?_
      refine sm_land (pc' := 633) dL_law_632 rfl ?_
      refine sm_lor (pc' := 634) dL_law_633 rfl ?_
      refine sm_cVI (pc' := 637) (ci := 11) (st := []) (F := fun b => fX11_value b x97 x98 (((x99.toInt64) <<< ((32 : Int32).toInt64 &&& 63)) ||| ((x100.toInt64) &&& (4294967295 : Int64))) h) [vI x97, vI x98, vJ (((x99.toInt64) <<< ((32 : Int32).toInt64 &&& 63)) ||| ((x100.toInt64) &&& (4294967295 : Int64)))] yY_yX11_value rfl mw958 mw962 mw963 (fun b => mX11_value l D aC B b x97 x98 (((x99.toInt64) <<< ((32 : Int32).toInt64 &&& 63)) ||| ((x100.toInt64) &&& (4294967295 : Int64))) h) rfl (by decide) (by decide) (by exact Nat.le_of_ble_eq_true rfl) rfl dL_law_634 rfl (fun x101 h102 => ?_)
      refine sm_aload_n (i := 2) (j := 2) (pc' := 638) dL_law_637 rfl rfl rfl ?_
      refine sm_aload_n (i := 0) (j := 0) (pc' := 639) dL_law_638 rfl rfl rfl ?_
      refine sm_iload_n (i := 3) (j := 3) (pc' := 640) dL_law_639 rfl rfl rfl ?_
      refine sm_iconst (v := (1 : Int32)) (pc' := 641) dL_law_640 rfl (by decide) ?_
      refine sm_iadd (pc' := 642) dL_law_641 rfl ?_
      refine sm_sld (pc' := 643) rfl dL_law_642 rfl (fun x103 => ?_)
      refine sm_aload_n (i := 0) (j := 0) (pc' := 644) dL_law_643 rfl rfl rfl ?_
      refine sm_iload_n (i := 3) (j := 3) (pc' := 645) dL_law_644 rfl rfl rfl ?_
      refine sm_iconst (v := (2 : Int32)) (pc' := 646) dL_law_645 rfl (by decide) ?_
      refine sm_iadd (pc' := 647) dL_law_646 rfl ?_
      refine sm_sld (pc' := 648) rfl dL_law_647 rfl (fun x104 => ?_)
      refine sm_aload_n (i := 0) (j := 0) (pc' := 649) dL_law_648 rfl rfl rfl ?_
      refine sm_iload_n (i := 3) (j := 3) (pc' := 650) dL_law_649 rfl rfl rfl ?_
      refine sm_iconst (v := (3 : Int32)) (pc' := 651) dL_law_650 rfl (by decide) ?_
      refine sm_iadd (pc' := 652) dL_law_651 rfl ?_
      refine sm_sld (pc' := 653) rfl dL_law_652 rfl (fun x105 => ?_)
      refine sm_i2l (pc' := 654) dL_law_653 rfl ?_
      refine sm_bipush (v := (32 : Int32)) (pc' := 656) dL_law_654 rfl (by decide) ?_
      refine sm_lshl (pc' := 657) dL_law_656 rfl ?_
      refine sm_aload_n (i := 0) (j := 0) (pc' := 658) dL_law_657 rfl rfl rfl ?_
      refine sm_iload_n (i := 3) (j := 3) (pc' := 659) dL_law_658 rfl rfl rfl ?_
      refine sm_iconst (v := (4 : Int32)) (pc' := 660) dL_law_659 rfl (by decide) ?_
      refine sm_iadd (pc' := 661) dL_law_660 rfl ?_
      refine sm_sld (pc' := 662) rfl dL_law_661 rfl (fun x106 => ?_)
      refine sm_i2l (pc' := 663) dL_law_662 rfl ?_
      refine sm_ldc2 (v := (4294967295 : Int64)) (pc' := 666) dL_law_663 rfl mw921 ?_
      refine sm_land (pc' := 667) dL_law_666 rfl ?_
      refine sm_lor (pc' := 668) dL_law_667 rfl ?_
      refine sm_cVI (pc' := 671) (ci := 12) (st := [vI x101]) (F := fun b => fX12_value b x103 x104 (((x105.toInt64) <<< ((32 : Int32).toInt64 &&& 63)) ||| ((x106.toInt64) &&& (4294967295 : Int64))) h102) [vI x103, vI x104, vJ (((x105.toInt64) <<< ((32 : Int32).toInt64 &&& 63)) ||| ((x106.toInt64) &&& (4294967295 : Int64)))] yY_yX12_value rfl mw959 mw960 mw961 (fun b => mX12_value l D aC B b x103 x104 (((x105.toInt64) <<< ((32 : Int32).toInt64 &&& 63)) ||| ((x106.toInt64) &&& (4294967295 : Int64))) h102) rfl (by decide) (by decide) (by exact Nat.le_of_ble_eq_true rfl) rfl dL_law_668 rfl (fun x107 h108 => ?_)
      refine sm_icmp_eq (tgt := 1067) (pc' := 674) dL_law_671 (by decide) rfl ?_ ?_
      · refine sm_iincL (i := 3) (j := 3) (x := a3) (d := (9 : Int32)) (fun x109 => [(3, vI x109), (0, vR (some b)), (1, vR a1), (2, vR a2)]) (pc' := 1070) dL_law_1067 rfl rfl (by decide) (by decide) (fun _ => rfl) (fun x109 => ?_)
        refine sm_goto (pc' := 18) dL_law_1070 (by decide) ?_
        refine sm_lo (lv' := [(0, vR (some b)), (1, vR a1), (2, vR a2), (3, vI x109)]) [1, 2, 3, 0] rfl ?_
        exact ih a1 a2 x109 h108
      refine sm_iconst (v := (0 : Int32)) (pc' := 675) dL_law_674 rfl (by decide) ?_
      exact sm_none
    refine sm_ite (fun c124 => ?_) (fun c124 => ?_)
    · refine sm_tbI (pc' := 676) (643) dL_law_33 (by rw [c124]; decide) (by rw [c124]; decide) (by rw [c124]; decide) (by decide) ?_
      refine sm_aload_n (i := 1) (j := 1) (pc' := 677) dL_law_676 rfl rfl rfl ?_
      refine sm_aload_n (i := 0) (j := 0) (pc' := 678) dL_law_677 rfl rfl rfl ?_
      refine sm_iload_n (i := 3) (j := 3) (pc' := 679) dL_law_678 rfl rfl rfl ?_
      refine sm_iconst (v := (1 : Int32)) (pc' := 680) dL_law_679 rfl (by decide) ?_
      refine sm_iadd (pc' := 681) dL_law_680 rfl ?_
      refine sm_sld (pc' := 682) rfl dL_law_681 rfl (fun x113 => ?_)
      refine sm_aload_n (i := 0) (j := 0) (pc' := 683) dL_law_682 rfl rfl rfl ?_
      refine sm_iload_n (i := 3) (j := 3) (pc' := 684) dL_law_683 rfl rfl rfl ?_
      refine sm_iconst (v := (2 : Int32)) (pc' := 685) dL_law_684 rfl (by decide) ?_
      refine sm_iadd (pc' := 686) dL_law_685 rfl ?_
      refine sm_sld (pc' := 687) rfl dL_law_686 rfl (fun x114 => ?_)
      refine sm_cVI (pc' := 690) (ci := 11) (st := []) (F := fun b => fX11_text b x113 x114 h) [vI x113, vI x114] yY_yX11_text rfl mw964 mw968 mw969 (fun b => mX11_text l D aC B b x113 x114 h) rfl (by decide) (by decide) (by exact Nat.le_of_ble_eq_true rfl) rfl dL_law_687 rfl (fun x115 h116 => ?_)
      refine sm_aload_n (i := 2) (j := 2) (pc' := 691) dL_law_690 rfl rfl rfl ?_
      refine sm_aload_n (i := 0) (j := 0) (pc' := 692) dL_law_691 rfl rfl rfl ?_
      refine sm_iload_n (i := 3) (j := 3) (pc' := 693) dL_law_692 rfl rfl rfl ?_
      refine sm_iconst (v := (1 : Int32)) (pc' := 694) dL_law_693 rfl (by decide) ?_
      refine sm_iadd (pc' := 695) dL_law_694 rfl ?_
      refine sm_sld (pc' := 696) rfl dL_law_695 rfl (fun x117 => ?_)
      refine sm_aload_n (i := 0) (j := 0) (pc' := 697) dL_law_696 rfl rfl rfl ?_
      refine sm_iload_n (i := 3) (j := 3) (pc' := 698) dL_law_697 rfl rfl rfl ?_
      refine sm_iconst (v := (2 : Int32)) (pc' := 699) dL_law_698 rfl (by decide) ?_
      refine sm_iadd (pc' := 700) dL_law_699 rfl ?_
      refine sm_sld (pc' := 701) rfl dL_law_700 rfl (fun x118 => ?_)
      refine sm_cVI (pc' := 704) (ci := 12) (st := [vI x115]) (F := fun b => fX12_text b x117 x118 h116) [vI x117, vI x118] yY_yX12_text rfl mw965 mw966 mw967 (fun b => mX12_text l D aC B b x117 x118 h116) rfl (by decide) (by decide) (by exact Nat.le_of_ble_eq_true rfl) rfl dL_law_701 rfl (fun x119 h120 => ?_)
      refine sm_icmp_eq (tgt := 1067) (pc' := 707) dL_law_704 (by decide) rfl ?_ ?_
      · refine sm_iincL (i := 3) (j := 3) (x := a3) (d := (9 : Int32)) (fun x121 => [(3, vI x121), (0, vR (some b)), (1, vR a1), (2, vR a2)]) (pc' := 1070) dL_law_1067 rfl rfl (by decide) (by decide) (fun _ => rfl) (fun x121 => ?_)
        refine sm_goto (pc' := 18) dL_law_1070 (by decide) ?_
        refine sm_lo (lv' := [(0, vR (some b)), (1, vR a1), (2, vR a2), (3, vI x121)]) [1, 2, 3, 0] rfl ?_
        exact ih a1 a2 x121 h120
      refine sm_iconst (v := (0 : Int32)) (pc' := 708) dL_law_707 rfl (by decide) ?_
      exact sm_none
    refine sm_ite (fun c136 => ?_) (fun c136 => ?_)
    · refine sm_tbI (pc' := 709) (676) dL_law_33 (by rw [c136]; decide) (by rw [c136]; decide) (by rw [c136]; decide) (by decide) ?_
      refine sm_aload_n (i := 1) (j := 1) (pc' := 710) dL_law_709 rfl rfl rfl ?_
      refine sm_aload_n (i := 0) (j := 0) (pc' := 711) dL_law_710 rfl rfl rfl ?_
      refine sm_iload_n (i := 3) (j := 3) (pc' := 712) dL_law_711 rfl rfl rfl ?_
      refine sm_iconst (v := (1 : Int32)) (pc' := 713) dL_law_712 rfl (by decide) ?_
      refine sm_iadd (pc' := 714) dL_law_713 rfl ?_
      refine sm_sld (pc' := 715) rfl dL_law_714 rfl (fun x125 => ?_)
      refine sm_aload_n (i := 0) (j := 0) (pc' := 716) dL_law_715 rfl rfl rfl ?_
      refine sm_iload_n (i := 3) (j := 3) (pc' := 717) dL_law_716 rfl rfl rfl ?_
      refine sm_iconst (v := (2 : Int32)) (pc' := 718) dL_law_717 rfl (by decide) ?_
      refine sm_iadd (pc' := 719) dL_law_718 rfl ?_
      refine sm_sld (pc' := 720) rfl dL_law_719 rfl (fun x126 => ?_)
      refine sm_cVI (pc' := 723) (ci := 11) (st := []) (F := fun b => fX11_identity b x125 x126 h) [vI x125, vI x126] yY_yX11_identity rfl mw970 mw974 mw975 (fun b => mX11_identity l D aC B b x125 x126 h) rfl (by decide) (by decide) (by exact Nat.le_of_ble_eq_true rfl) rfl dL_law_720 rfl (fun x127 h128 => ?_)
      refine sm_aload_n (i := 2) (j := 2) (pc' := 724) dL_law_723 rfl rfl rfl ?_
      refine sm_aload_n (i := 0) (j := 0) (pc' := 725) dL_law_724 rfl rfl rfl ?_
      refine sm_iload_n (i := 3) (j := 3) (pc' := 726) dL_law_725 rfl rfl rfl ?_
      refine sm_iconst (v := (1 : Int32)) (pc' := 727) dL_law_726 rfl (by decide) ?_
      refine sm_iadd (pc' := 728) dL_law_727 rfl ?_
      refine sm_sld (pc' := 729) rfl dL_law_728 rfl (fun x129 => ?_)
      refine sm_aload_n (i := 0) (j := 0) (pc' := 730) dL_law_729 rfl rfl rfl ?_
      refine sm_iload_n (i := 3) (j := 3) (pc' := 731) dL_law_730 rfl rfl rfl ?_
      refine sm_iconst (v := (2 : Int32)) (pc' := 732) dL_law_731 rfl (by decide) ?_
      refine sm_iadd (pc' := 733) dL_law_732 rfl ?_
      refine sm_sld (pc' := 734) rfl dL_law_733 rfl (fun x130 => ?_)
      refine sm_cVI (pc' := 737) (ci := 12) (st := [vI x127]) (F := fun b => fX12_identity b x129 x130 h128) [vI x129, vI x130] yY_yX12_identity rfl mw971 mw972 mw973 (fun b => mX12_identity l D aC B b x129 x130 h128) rfl (by decide) (by decide) (by exact Nat.le_of_ble_eq_true rfl) rfl dL_law_734 rfl (fun x131 h132 => ?_)
      refine sm_icmp_eq (tgt := 1067) (pc' := 740) dL_law_737 (by decide) rfl ?_ ?_
      · refine sm_iincL (i := 3) (j := 3) (x := a3) (d := (9 : Int32)) (fun x133 => [(3, vI x133), (0, vR (some b)), (1, vR a1), (2, vR a2)]) (pc' := 1070) dL_law_1067 rfl rfl (by decide) (by decide) (fun _ => rfl) (fun x133 => ?_)
        refine sm_goto (pc' := 18) dL_law_1070 (by decide) ?_
        refine sm_lo (lv' := [(0, vR (some b)), (1, vR a1), (2, vR a2), (3, vI x133)]) [1, 2, 3, 0] rfl ?_
        exact ih a1 a2 x133 h132
      refine sm_iconst (v := (0 : Int32)) (pc' := 741) dL_law_740 rfl (by decide) ?_
      exact sm_none
    refine sm_ite (fun c138 => ?_) (fun c138 => ?_)
    · refine sm_tbI (pc' := 742) (709) dL_law_33 (by rw [c138]; decide) (by rw [c138]; decide) (by rw [c138]; decide) (by decide) ?_
      refine sm_aload_n (i := 1) (j := 1) (pc' := 743) dL_law_742 rfl rfl rfl ?_
      refine sm_aload_n (i := 0) (j := 0) (pc' := 744) dL_law_743 rfl rfl rfl ?_
      refine sm_iload_n (i := 3) (j := 3) (pc' := 745) dL_law_744 rfl rfl rfl ?_
      refine sm_iconst (v := (1 : Int32)) (pc' := 746) dL_law_745 rfl (by decide) ?_
      refine sm_iadd (pc' := 747) dL_law_746 rfl ?_
      refine sm_sld (pc' := 748) rfl dL_law_747 rfl (fun x137 => ?_)
      refine sm_if_eq (tgt := 755) (pc' := 751) dL_law_748 (by decide) rfl ?_ ?_
      · refine sm_iconst (v := (0 : Int32)) (pc' := 756) dL_law_755 rfl (by decide) ?_
        exact sL_law_756 l D aC B nm b L xs (fL_law_18 L xs n) ih a1 a2 a3 (0 : Int32) a1 h
      refine sm_iconst (v := (1 : Int32)) (pc' := 752) dL_law_751 rfl (by decide) ?_
      refine sm_goto (pc' := 756) dL_law_752 (by decide) ?_
      exact sL_law_756 l D aC B nm b L xs (fL_law_18 L xs n) ih a1 a2 a3 (1 : Int32) a1 h
    refine sm_ite (fun c141 => ?_) (fun c141 => ?_)
    · refine sm_tbI (pc' := 781) (748) dL_law_33 (by rw [c141]; decide) (by rw [c141]; decide) (by rw [c141]; decide) (by decide) ?_
      refine sm_aload_n (i := 1) (j := 1) (pc' := 782) dL_law_781 rfl rfl rfl ?_
      refine sm_aload_n (i := 0) (j := 0) (pc' := 783) dL_law_782 rfl rfl rfl ?_
      refine sm_iload_n (i := 3) (j := 3) (pc' := 784) dL_law_783 rfl rfl rfl ?_
      refine sm_iconst (v := (1 : Int32)) (pc' := 785) dL_law_784 rfl (by decide) ?_
      refine sm_iadd (pc' := 786) dL_law_785 rfl ?_
      refine sm_sld (pc' := 787) rfl dL_law_786 rfl (fun x139 => ?_)
      refine sm_aload_n (i := 0) (j := 0) (pc' := 788) dL_law_787 rfl rfl rfl ?_
      refine sm_iload_n (i := 3) (j := 3) (pc' := 789) dL_law_788 rfl rfl rfl ?_
      refine sm_iconst (v := (2 : Int32)) (pc' := 790) dL_law_789 rfl (by decide) ?_
      refine sm_iadd (pc' := 791) dL_law_790 rfl ?_
      refine sm_sld (pc' := 792) rfl dL_law_791 rfl (fun x140 => ?_)
      refine sm_if_eq (tgt := 799) (pc' := 795) dL_law_792 (by decide) rfl ?_ ?_
      · refine sm_iconst (v := (0 : Int32)) (pc' := 800) dL_law_799 rfl (by decide) ?_
        exact sL_law_800 l D aC B nm b L xs (fL_law_18 L xs n) ih a1 a2 a3 (0 : Int32) x139 a1 h
      refine sm_iconst (v := (1 : Int32)) (pc' := 796) dL_law_795 rfl (by decide) ?_
      refine sm_goto (pc' := 800) dL_law_796 (by decide) ?_
      exact sL_law_800 l D aC B nm b L xs (fL_law_18 L xs n) ih a1 a2 a3 (1 : Int32) x139 a1 h
    refine sm_ite (fun c151 => ?_) (fun c151 => ?_)
    · refine sm_tbI (pc' := 830) (797) dL_law_33 (by rw [c151]; decide) (by rw [c151]; decide) (by rw [c151]; decide) (by decide) ?_
      refine sm_aload_n (i := 1) (j := 1) (pc' := 831) dL_law_830 rfl rfl rfl ?_
      refine sm_aload_n (i := 0) (j := 0) (pc' := 832) dL_law_831 rfl rfl rfl ?_
      refine sm_iload_n (i := 3) (j := 3) (pc' := 833) dL_law_832 rfl rfl rfl ?_
      refine sm_iconst (v := (1 : Int32)) (pc' := 834) dL_law_833 rfl (by decide) ?_
      refine sm_iadd (pc' := 835) dL_law_834 rfl ?_
      refine sm_sld (pc' := 836) rfl dL_law_835 rfl (fun x142 => ?_)
      refine sm_cVI (pc' := 839) (ci := 11) (st := []) (F := fun b => fX11_limit b x142 h) [vI x142] yY_yX11_limit rfl mw976 mw980 mw981 (fun b => mX11_limit l D aC B b x142 h) rfl (by decide) (by decide) (by exact Nat.le_of_ble_eq_true rfl) rfl dL_law_836 rfl (fun x143 h144 => ?_)
      refine sm_aload_n (i := 2) (j := 2) (pc' := 840) dL_law_839 rfl rfl rfl ?_
      refine sm_aload_n (i := 0) (j := 0) (pc' := 841) dL_law_840 rfl rfl rfl ?_
      refine sm_iload_n (i := 3) (j := 3) (pc' := 842) dL_law_841 rfl rfl rfl ?_
      refine sm_iconst (v := (1 : Int32)) (pc' := 843) dL_law_842 rfl (by decide) ?_
      refine sm_iadd (pc' := 844) dL_law_843 rfl ?_
      refine sm_sld (pc' := 845) rfl dL_law_844 rfl (fun x145 => ?_)
      refine sm_cVI (pc' := 848) (ci := 12) (st := [vI x143]) (F := fun b => fX12_limit b x145 h144) [vI x145] yY_yX12_limit rfl mw977 mw978 mw979 (fun b => mX12_limit l D aC B b x145 h144) rfl (by decide) (by decide) (by exact Nat.le_of_ble_eq_true rfl) rfl dL_law_845 rfl (fun x146 h147 => ?_)
      refine sm_icmp_eq (tgt := 1067) (pc' := 851) dL_law_848 (by decide) rfl ?_ ?_
      · refine sm_iincL (i := 3) (j := 3) (x := a3) (d := (9 : Int32)) (fun x148 => [(3, vI x148), (0, vR (some b)), (1, vR a1), (2, vR a2)]) (pc' := 1070) dL_law_1067 rfl rfl (by decide) (by decide) (fun _ => rfl) (fun x148 => ?_)
        refine sm_goto (pc' := 18) dL_law_1070 (by decide) ?_
        refine sm_lo (lv' := [(0, vR (some b)), (1, vR a1), (2, vR a2), (3, vI x148)]) [1, 2, 3, 0] rfl ?_
        exact ih a1 a2 x148 h147
      refine sm_iconst (v := (0 : Int32)) (pc' := 852) dL_law_851 rfl (by decide) ?_
      exact sm_none
    refine sm_ite (fun c163 => ?_) (fun c163 => ?_)
    · refine sm_tbI (pc' := 853) (820) dL_law_33 (by rw [c163]; decide) (by rw [c163]; decide) (by rw [c163]; decide) (by decide) ?_
      refine sm_aload_n (i := 1) (j := 1) (pc' := 854) dL_law_853 rfl rfl rfl ?_
      refine sm_aload_n (i := 0) (j := 0) (pc' := 855) dL_law_854 rfl rfl rfl ?_
      refine sm_iload_n (i := 3) (j := 3) (pc' := 856) dL_law_855 rfl rfl rfl ?_
      refine sm_iconst (v := (1 : Int32)) (pc' := 857) dL_law_856 rfl (by decide) ?_
      refine sm_iadd (pc' := 858) dL_law_857 rfl ?_
      refine sm_sld (pc' := 859) rfl dL_law_858 rfl (fun x152 => ?_)
      refine sm_i2l (pc' := 860) dL_law_859 rfl ?_
      refine sm_bipush (v := (32 : Int32)) (pc' := 862) dL_law_860 rfl (by decide) ?_
      refine sm_lshl (pc' := 863) dL_law_862 rfl ?_
      refine sm_aload_n (i := 0) (j := 0) (pc' := 864) dL_law_863 rfl rfl rfl ?_
      refine sm_iload_n (i := 3) (j := 3) (pc' := 865) dL_law_864 rfl rfl rfl ?_
      refine sm_iconst (v := (2 : Int32)) (pc' := 866) dL_law_865 rfl (by decide) ?_
      refine sm_iadd (pc' := 867) dL_law_866 rfl ?_
      refine sm_sld (pc' := 868) rfl dL_law_867 rfl (fun x153 => ?_)
      refine sm_i2l (pc' := 869) dL_law_868 rfl ?_
      refine sm_ldc2 (v := (4294967295 : Int64)) (pc' := 872) dL_law_869 rfl mw921 ?_
      refine sm_land (pc' := 873) dL_law_872 rfl ?_
      refine sm_lor (pc' := 874) dL_law_873 rfl ?_
      refine sm_cVJ (pc' := 877) (ci := 11) (st := []) (F := fun b => fX11_tick b (((x152.toInt64) <<< ((32 : Int32).toInt64 &&& 63)) ||| ((x153.toInt64) &&& (4294967295 : Int64))) h) [vJ (((x152.toInt64) <<< ((32 : Int32).toInt64 &&& 63)) ||| ((x153.toInt64) &&& (4294967295 : Int64)))] yY_yX11_tick rfl mw982 mw986 mw987 (fun b => mX11_tick l D aC B b (((x152.toInt64) <<< ((32 : Int32).toInt64 &&& 63)) ||| ((x153.toInt64) &&& (4294967295 : Int64))) h) rfl (by decide) (by decide) (by exact Nat.le_of_ble_eq_true rfl) rfl dL_law_874 rfl (fun x154 h155 => ?_)
      refine sm_aload_n (i := 2) (j := 2) (pc' := 878) dL_law_877 rfl rfl rfl ?_
      refine sm_aload_n (i := 0) (j := 0) (pc' := 879) dL_law_878 rfl rfl rfl ?_
      refine sm_iload_n (i := 3) (j := 3) (pc' := 880) dL_law_879 rfl rfl rfl ?_
      refine sm_iconst (v := (1 : Int32)) (pc' := 881) dL_law_880 rfl (by decide) ?_
      refine sm_iadd (pc' := 882) dL_law_881 rfl ?_
      refine sm_sld (pc' := 883) rfl dL_law_882 rfl (fun x156 => ?_)
      refine sm_i2l (pc' := 884) dL_law_883 rfl ?_
      refine sm_bipush (v := (32 : Int32)) (pc' := 886) dL_law_884 rfl (by decide) ?_
      refine sm_lshl (pc' := 887) dL_law_886 rfl ?_
      refine sm_aload_n (i := 0) (j := 0) (pc' := 888) dL_law_887 rfl rfl rfl ?_
      refine sm_iload_n (i := 3) (j := 3) (pc' := 889) dL_law_888 rfl rfl rfl ?_
      refine sm_iconst (v := (2 : Int32)) (pc' := 890) dL_law_889 rfl (by decide) ?_
      refine sm_iadd (pc' := 891) dL_law_890 rfl ?_
      refine sm_sld (pc' := 892) rfl dL_law_891 rfl (fun x157 => ?_)
      refine sm_i2l (pc' := 893) dL_law_892 rfl ?_
      refine sm_ldc2 (v := (4294967295 : Int64)) (pc' := 896) dL_law_893 rfl mw921 ?_
      refine sm_land (pc' := 897) dL_law_896 rfl ?_
      refine sm_lor (pc' := 898) dL_law_897 rfl ?_
      refine sm_cVJ (pc' := 901) (ci := 12) (st := [vJ x154]) (F := fun b => fX12_tick b (((x156.toInt64) <<< ((32 : Int32).toInt64 &&& 63)) ||| ((x157.toInt64) &&& (4294967295 : Int64))) h155) [vJ (((x156.toInt64) <<< ((32 : Int32).toInt64 &&& 63)) ||| ((x157.toInt64) &&& (4294967295 : Int64)))] yY_yX12_tick rfl mw983 mw984 mw985 (fun b => mX12_tick l D aC B b (((x156.toInt64) <<< ((32 : Int32).toInt64 &&& 63)) ||| ((x157.toInt64) &&& (4294967295 : Int64))) h155) rfl (by decide) (by decide) (by exact Nat.le_of_ble_eq_true rfl) rfl dL_law_898 rfl (fun x158 h159 => ?_)
      refine sm_lcmp (pc' := 902) dL_law_901 rfl ?_
      refine sm_if_eq (tgt := 1067) (pc' := 905) dL_law_902 (by decide) rfl ?_ ?_
      · refine sm_iincL (i := 3) (j := 3) (x := a3) (d := (9 : Int32)) (fun x160 => [(3, vI x160), (0, vR (some b)), (1, vR a1), (2, vR a2)]) (pc' := 1070) dL_law_1067 rfl rfl (by decide) (by decide) (fun _ => rfl) (fun x160 => ?_)
        refine sm_goto (pc' := 18) dL_law_1070 (by decide) ?_
        refine sm_lo (lv' := [(0, vR (some b)), (1, vR a1), (2, vR a2), (3, vI x160)]) [1, 2, 3, 0] rfl ?_
        exact ih a1 a2 x160 h159
      refine sm_iconst (v := (0 : Int32)) (pc' := 906) dL_law_905 rfl (by decide) ?_
      exact sm_none
    refine sm_ite (fun c171 => ?_) (fun c171 => ?_)
    · refine sm_tbI (pc' := 907) (874) dL_law_33 (by rw [c171]; decide) (by rw [c171]; decide) (by rw [c171]; decide) (by decide) ?_
      refine sm_aload_n (i := 1) (j := 1) (pc' := 908) dL_law_907 rfl rfl rfl ?_
      refine sm_cVI (pc' := 911) (ci := 11) (st := []) (F := fun b => fX11_question b h) [] yY_yX11_question rfl mw988 mw992 mw993 (fun b => mX11_question l D aC B b h) rfl (by decide) (by decide) (by exact Nat.le_of_ble_eq_true rfl) rfl dL_law_908 rfl (fun x164 h165 => ?_)
      refine sm_aload_n (i := 2) (j := 2) (pc' := 912) dL_law_911 rfl rfl rfl ?_
      refine sm_cVI (pc' := 915) (ci := 12) (st := [vI x164]) (F := fun b => fX12_question b h165) [] yY_yX12_question rfl mw989 mw990 mw991 (fun b => mX12_question l D aC B b h165) rfl (by decide) (by decide) (by exact Nat.le_of_ble_eq_true rfl) rfl dL_law_912 rfl (fun x166 h167 => ?_)
      refine sm_icmp_eq (tgt := 1067) (pc' := 918) dL_law_915 (by decide) rfl ?_ ?_
      · refine sm_iincL (i := 3) (j := 3) (x := a3) (d := (9 : Int32)) (fun x168 => [(3, vI x168), (0, vR (some b)), (1, vR a1), (2, vR a2)]) (pc' := 1070) dL_law_1067 rfl rfl (by decide) (by decide) (fun _ => rfl) (fun x168 => ?_)
        refine sm_goto (pc' := 18) dL_law_1070 (by decide) ?_
        refine sm_lo (lv' := [(0, vR (some b)), (1, vR a1), (2, vR a2), (3, vI x168)]) [1, 2, 3, 0] rfl ?_
        exact ih a1 a2 x168 h167
      refine sm_iconst (v := (0 : Int32)) (pc' := 919) dL_law_918 rfl (by decide) ?_
      exact sm_none
    refine sm_ite (fun c181 => ?_) (fun c181 => ?_)
    · refine sm_tbI (pc' := 920) (887) dL_law_33 (by rw [c181]; decide) (by rw [c181]; decide) (by rw [c181]; decide) (by decide) ?_
      refine sm_aload_n (i := 1) (j := 1) (pc' := 921) dL_law_920 rfl rfl rfl ?_
      refine sm_aload_n (i := 0) (j := 0) (pc' := 922) dL_law_921 rfl rfl rfl ?_
      refine sm_iload_n (i := 3) (j := 3) (pc' := 923) dL_law_922 rfl rfl rfl ?_
      refine sm_iconst (v := (1 : Int32)) (pc' := 924) dL_law_923 rfl (by decide) ?_
      refine sm_iadd (pc' := 925) dL_law_924 rfl ?_
      refine sm_sld (pc' := 926) rfl dL_law_925 rfl (fun x172 => ?_)
      refine sm_cVI (pc' := 929) (ci := 11) (st := []) (F := fun b => fX11_answer b x172 h) [vI x172] yY_yX11_answer rfl mw994 mw998 mw999 (fun b => mX11_answer l D aC B b x172 h) rfl (by decide) (by decide) (by exact Nat.le_of_ble_eq_true rfl) rfl dL_law_926 rfl (fun x173 h174 => ?_)
      refine sm_aload_n (i := 2) (j := 2) (pc' := 930) dL_law_929 rfl rfl rfl ?_
      refine sm_aload_n (i := 0) (j := 0) (pc' := 931) dL_law_930 rfl rfl rfl ?_
      refine sm_iload_n (i := 3) (j := 3) (pc' := 932) dL_law_931 rfl rfl rfl ?_
      refine sm_iconst (v := (1 : Int32)) (pc' := 933) dL_law_932 rfl (by decide) ?_
      refine sm_iadd (pc' := 934) dL_law_933 rfl ?_
      refine sm_sld (pc' := 935) rfl dL_law_934 rfl (fun x175 => ?_)
      refine sm_cVI (pc' := 938) (ci := 12) (st := [vI x173]) (F := fun b => fX12_answer b x175 h174) [vI x175] yY_yX12_answer rfl mw995 mw996 mw997 (fun b => mX12_answer l D aC B b x175 h174) rfl (by decide) (by decide) (by exact Nat.le_of_ble_eq_true rfl) rfl dL_law_935 rfl (fun x176 h177 => ?_)
      refine sm_icmp_eq (tgt := 1067) (pc' := 941) dL_law_938 (by decide) rfl ?_ ?_
      · refine sm_iincL (i := 3) (j := 3) (x := a3) (d := (9 : Int32)) (fun x178 => [(3, vI x178), (0, vR (some b)), (1, vR a1), (2, vR a2)]) (pc' := 1070) dL_law_1067 rfl rfl (by decide) (by decide) (fun _ => rfl) (fun x178 => ?_)
        refine sm_goto (pc' := 18) dL_law_1070 (by decide) ?_
        refine sm_lo (lv' := [(0, vR (some b)), (1, vR a1), (2, vR a2), (3, vI x178)]) [1, 2, 3, 0] rfl ?_
        exact ih a1 a2 x178 h177
      refine sm_iconst (v := (0 : Int32)) (pc' := 942) dL_law_941 rfl (by decide) ?_
      exact sm_none
    refine sm_ite (fun c191 => ?_) (fun c191 => ?_)
    · refine sm_tbI (pc' := 943) (910) dL_law_33 (by rw [c191]; decide) (by rw [c191]; decide) (by rw [c191]; decide) (by decide) ?_
      refine sm_aload_n (i := 1) (j := 1) (pc' := 944) dL_law_943 rfl rfl rfl ?_
      refine sm_aload_n (i := 0) (j := 0) (pc' := 945) dL_law_944 rfl rfl rfl ?_
      refine sm_iload_n (i := 3) (j := 3) (pc' := 946) dL_law_945 rfl rfl rfl ?_
      refine sm_iconst (v := (1 : Int32)) (pc' := 947) dL_law_946 rfl (by decide) ?_
      refine sm_iadd (pc' := 948) dL_law_947 rfl ?_
      refine sm_sld (pc' := 949) rfl dL_law_948 rfl (fun x182 => ?_)
      refine sm_cVI (pc' := 952) (ci := 11) (st := []) (F := fun b => fX11_count b x182 h) [vI x182] yY_yX11_count rfl mw1000 mw1004 mw1005 (fun b => mX11_count l D aC B b x182 h) rfl (by decide) (by decide) (by exact Nat.le_of_ble_eq_true rfl) rfl dL_law_949 rfl (fun x183 h184 => ?_)
      refine sm_aload_n (i := 2) (j := 2) (pc' := 953) dL_law_952 rfl rfl rfl ?_
      refine sm_aload_n (i := 0) (j := 0) (pc' := 954) dL_law_953 rfl rfl rfl ?_
      refine sm_iload_n (i := 3) (j := 3) (pc' := 955) dL_law_954 rfl rfl rfl ?_
      refine sm_iconst (v := (1 : Int32)) (pc' := 956) dL_law_955 rfl (by decide) ?_
      refine sm_iadd (pc' := 957) dL_law_956 rfl ?_
      refine sm_sld (pc' := 958) rfl dL_law_957 rfl (fun x185 => ?_)
      refine sm_cVI (pc' := 961) (ci := 12) (st := [vI x183]) (F := fun b => fX12_count b x185 h184) [vI x185] yY_yX12_count rfl mw1001 mw1002 mw1003 (fun b => mX12_count l D aC B b x185 h184) rfl (by decide) (by decide) (by exact Nat.le_of_ble_eq_true rfl) rfl dL_law_958 rfl (fun x186 h187 => ?_)
      refine sm_icmp_eq (tgt := 1067) (pc' := 964) dL_law_961 (by decide) rfl ?_ ?_
      · refine sm_iincL (i := 3) (j := 3) (x := a3) (d := (9 : Int32)) (fun x188 => [(3, vI x188), (0, vR (some b)), (1, vR a1), (2, vR a2)]) (pc' := 1070) dL_law_1067 rfl rfl (by decide) (by decide) (fun _ => rfl) (fun x188 => ?_)
        refine sm_goto (pc' := 18) dL_law_1070 (by decide) ?_
        refine sm_lo (lv' := [(0, vR (some b)), (1, vR a1), (2, vR a2), (3, vI x188)]) [1, 2, 3, 0] rfl ?_
        exact ih a1 a2 x188 h187
      refine sm_iconst (v := (0 : Int32)) (pc' := 965) dL_law_964 rfl (by decide) ?_
      exact sm_none
    refine sm_ite (fun c201 => ?_) (fun c201 => ?_)
    · refine sm_tbI (pc' := 966) (933) dL_law_33 (by rw [c201]; decide) (by rw [c201]; decide) (by rw [c201]; decide) (by decide) ?_
      refine sm_aload_n (i := 1) (j := 1) (pc' := 967) dL_law_966 rfl rfl rfl ?_
      refine sm_aload_n (i := 0) (j := 0) (pc' := 968) dL_law_967 rfl rfl rfl ?_
      refine sm_iload_n (i := 3) (j := 3) (pc' := 969) dL_law_968 rfl rfl rfl ?_
      refine sm_iconst (v := (1 : Int32)) (pc' := 970) dL_law_969 rfl (by decide) ?_
      refine sm_iadd (pc' := 971) dL_law_970 rfl ?_
      refine sm_sld (pc' := 972) rfl dL_law_971 rfl (fun x192 => ?_)
      refine sm_cVI (pc' := 975) (ci := 11) (st := []) (F := fun b => fX11_rows b x192 h) [vI x192] yY_yX11_rows rfl mw1006 mw1010 mw1011 (fun b => mX11_rows l D aC B b x192 h) rfl (by decide) (by decide) (by exact Nat.le_of_ble_eq_true rfl) rfl dL_law_972 rfl (fun x193 h194 => ?_)
      refine sm_aload_n (i := 2) (j := 2) (pc' := 976) dL_law_975 rfl rfl rfl ?_
      refine sm_aload_n (i := 0) (j := 0) (pc' := 977) dL_law_976 rfl rfl rfl ?_
      refine sm_iload_n (i := 3) (j := 3) (pc' := 978) dL_law_977 rfl rfl rfl ?_
      refine sm_iconst (v := (1 : Int32)) (pc' := 979) dL_law_978 rfl (by decide) ?_
      refine sm_iadd (pc' := 980) dL_law_979 rfl ?_
      refine sm_sld (pc' := 981) rfl dL_law_980 rfl (fun x195 => ?_)
      refine sm_cVI (pc' := 984) (ci := 12) (st := [vI x193]) (F := fun b => fX12_rows b x195 h194) [vI x195] yY_yX12_rows rfl mw1007 mw1008 mw1009 (fun b => mX12_rows l D aC B b x195 h194) rfl (by decide) (by decide) (by exact Nat.le_of_ble_eq_true rfl) rfl dL_law_981 rfl (fun x196 h197 => ?_)
      refine sm_icmp_eq (tgt := 1067) (pc' := 987) dL_law_984 (by decide) rfl ?_ ?_
      · refine sm_iincL (i := 3) (j := 3) (x := a3) (d := (9 : Int32)) (fun x198 => [(3, vI x198), (0, vR (some b)), (1, vR a1), (2, vR a2)]) (pc' := 1070) dL_law_1067 rfl rfl (by decide) (by decide) (fun _ => rfl) (fun x198 => ?_)
        refine sm_goto (pc' := 18) dL_law_1070 (by decide) ?_
        refine sm_lo (lv' := [(0, vR (some b)), (1, vR a1), (2, vR a2), (3, vI x198)]) [1, 2, 3, 0] rfl ?_
        exact ih a1 a2 x198 h197
      refine sm_iconst (v := (0 : Int32)) (pc' := 988) dL_law_987 rfl (by decide) ?_
      exact sm_none
    refine sm_ite (fun c213 => ?_) (fun c213 => ?_)
    · refine sm_tbI (pc' := 989) (956) dL_law_33 (by rw [c213]; decide) (by rw [c213]; decide) (by rw [c213]; decide) (by decide) ?_
      refine sm_aload_n (i := 1) (j := 1) (pc' := 990) dL_law_989 rfl rfl rfl ?_
      refine sm_aload_n (i := 0) (j := 0) (pc' := 991) dL_law_990 rfl rfl rfl ?_
      refine sm_iload_n (i := 3) (j := 3) (pc' := 992) dL_law_991 rfl rfl rfl ?_
      refine sm_iconst (v := (1 : Int32)) (pc' := 993) dL_law_992 rfl (by decide) ?_
      refine sm_iadd (pc' := 994) dL_law_993 rfl ?_
      refine sm_sld (pc' := 995) rfl dL_law_994 rfl (fun x202 => ?_)
      refine sm_aload_n (i := 0) (j := 0) (pc' := 996) dL_law_995 rfl rfl rfl ?_
      refine sm_iload_n (i := 3) (j := 3) (pc' := 997) dL_law_996 rfl rfl rfl ?_
      refine sm_iconst (v := (2 : Int32)) (pc' := 998) dL_law_997 rfl (by decide) ?_
      refine sm_iadd (pc' := 999) dL_law_998 rfl ?_
      refine sm_sld (pc' := 1000) rfl dL_law_999 rfl (fun x203 => ?_)
      refine sm_cVJ (pc' := 1003) (ci := 11) (st := []) (F := fun b => fX11_told b x202 x203 h) [vI x202, vI x203] yY_yX11_told rfl mw1012 mw1016 mw1017 (fun b => mX11_told l D aC B b x202 x203 h) rfl (by decide) (by decide) (by exact Nat.le_of_ble_eq_true rfl) rfl dL_law_1000 rfl (fun x204 h205 => ?_)
      refine sm_aload_n (i := 2) (j := 2) (pc' := 1004) dL_law_1003 rfl rfl rfl ?_
      refine sm_aload_n (i := 0) (j := 0) (pc' := 1005) dL_law_1004 rfl rfl rfl ?_
      refine sm_iload_n (i := 3) (j := 3) (pc' := 1006) dL_law_1005 rfl rfl rfl ?_
      refine sm_iconst (v := (1 : Int32)) (pc' := 1007) dL_law_1006 rfl (by decide) ?_
      refine sm_iadd (pc' := 1008) dL_law_1007 rfl ?_
      refine sm_sld (pc' := 1009) rfl dL_law_1008 rfl (fun x206 => ?_)
      refine sm_aload_n (i := 0) (j := 0) (pc' := 1010) dL_law_1009 rfl rfl rfl ?_
      refine sm_iload_n (i := 3) (j := 3) (pc' := 1011) dL_law_1010 rfl rfl rfl ?_
      refine sm_iconst (v := (2 : Int32)) (pc' := 1012) dL_law_1011 rfl (by decide) ?_
      refine sm_iadd (pc' := 1013) dL_law_1012 rfl ?_
      refine sm_sld (pc' := 1014) rfl dL_law_1013 rfl (fun x207 => ?_)
      refine sm_cVJ (pc' := 1017) (ci := 12) (st := [vJ x204]) (F := fun b => fX12_told b x206 x207 h205) [vI x206, vI x207] yY_yX12_told rfl mw1013 mw1014 mw1015 (fun b => mX12_told l D aC B b x206 x207 h205) rfl (by decide) (by decide) (by exact Nat.le_of_ble_eq_true rfl) rfl dL_law_1014 rfl (fun x208 h209 => ?_)
      refine sm_lcmp (pc' := 1018) dL_law_1017 rfl ?_
      refine sm_if_eq (tgt := 1067) (pc' := 1021) dL_law_1018 (by decide) rfl ?_ ?_
      · refine sm_iincL (i := 3) (j := 3) (x := a3) (d := (9 : Int32)) (fun x210 => [(3, vI x210), (0, vR (some b)), (1, vR a1), (2, vR a2)]) (pc' := 1070) dL_law_1067 rfl rfl (by decide) (by decide) (fun _ => rfl) (fun x210 => ?_)
        refine sm_goto (pc' := 18) dL_law_1070 (by decide) ?_
        refine sm_lo (lv' := [(0, vR (some b)), (1, vR a1), (2, vR a2), (3, vI x210)]) [1, 2, 3, 0] rfl ?_
        exact ih a1 a2 x210 h209
      refine sm_iconst (v := (0 : Int32)) (pc' := 1022) dL_law_1021 rfl (by decide) ?_
      exact sm_none
    refine sm_ite (fun c227 => ?_) (fun c227 => ?_)
    · refine sm_tbI (pc' := 1023) (990) dL_law_33 (by rw [c227]; decide) (by rw [c227]; decide) (by rw [c227]; decide) (by decide) ?_
      refine sm_aload_n (i := 1) (j := 1) (pc' := 1024) dL_law_1023 rfl rfl rfl ?_
      refine sm_aload_n (i := 0) (j := 0) (pc' := 1025) dL_law_1024 rfl rfl rfl ?_
      refine sm_iload_n (i := 3) (j := 3) (pc' := 1026) dL_law_1025 rfl rfl rfl ?_
      refine sm_iconst (v := (1 : Int32)) (pc' := 1027) dL_law_1026 rfl (by decide) ?_
      refine sm_iadd (pc' := 1028) dL_law_1027 rfl ?_
      refine sm_sld (pc' := 1029) rfl dL_law_1028 rfl (fun x214 => ?_)
      refine sm_aload_n (i := 0) (j := 0) (pc' := 1030) dL_law_1029 rfl rfl rfl ?_
      refine sm_iload_n (i := 3) (j := 3) (pc' := 1031) dL_law_1030 rfl rfl rfl ?_
      refine sm_iconst (v := (2 : Int32)) (pc' := 1032) dL_law_1031 rfl (by decide) ?_
      refine sm_iadd (pc' := 1033) dL_law_1032 rfl ?_
      refine sm_sld (pc' := 1034) rfl dL_law_1033 rfl (fun x215 => ?_)
      refine sm_aload_n (i := 0) (j := 0) (pc' := 1035) dL_law_1034 rfl rfl rfl ?_
      refine sm_iload_n (i := 3) (j := 3) (pc' := 1036) dL_law_1035 rfl rfl rfl ?_
      refine sm_iconst (v := (3 : Int32)) (pc' := 1037) dL_law_1036 rfl (by decide) ?_
      refine sm_iadd (pc' := 1038) dL_law_1037 rfl ?_
      refine sm_sld (pc' := 1039) rfl dL_law_1038 rfl (fun x216 => ?_)
      refine sm_cVJ (pc' := 1042) (ci := 11) (st := []) (F := fun b => fX11_part b x214 x215 x216 h) [vI x214, vI x215, vI x216] yY_yX11_part rfl mw1018 mw1022 mw1023 (fun b => mX11_part l D aC B b x214 x215 x216 h) rfl (by decide) (by decide) (by exact Nat.le_of_ble_eq_true rfl) rfl dL_law_1039 rfl (fun x217 h218 => ?_)
      refine sm_aload_n (i := 2) (j := 2) (pc' := 1043) dL_law_1042 rfl rfl rfl ?_
      refine sm_aload_n (i := 0) (j := 0) (pc' := 1044) dL_law_1043 rfl rfl rfl ?_
      refine sm_iload_n (i := 3) (j := 3) (pc' := 1045) dL_law_1044 rfl rfl rfl ?_
      refine sm_iconst (v := (1 : Int32)) (pc' := 1046) dL_law_1045 rfl (by decide) ?_
      refine sm_iadd (pc' := 1047) dL_law_1046 rfl ?_
      refine sm_sld (pc' := 1048) rfl dL_law_1047 rfl (fun x219 => ?_)
      refine sm_aload_n (i := 0) (j := 0) (pc' := 1049) dL_law_1048 rfl rfl rfl ?_
      refine sm_iload_n (i := 3) (j := 3) (pc' := 1050) dL_law_1049 rfl rfl rfl ?_
      refine sm_iconst (v := (2 : Int32)) (pc' := 1051) dL_law_1050 rfl (by decide) ?_
      refine sm_iadd (pc' := 1052) dL_law_1051 rfl ?_
      refine sm_sld (pc' := 1053) rfl dL_law_1052 rfl (fun x220 => ?_)
      refine sm_aload_n (i := 0) (j := 0) (pc' := 1054) dL_law_1053 rfl rfl rfl ?_
      refine sm_iload_n (i := 3) (j := 3) (pc' := 1055) dL_law_1054 rfl rfl rfl ?_
      refine sm_iconst (v := (3 : Int32)) (pc' := 1056) dL_law_1055 rfl (by decide) ?_
      refine sm_iadd (pc' := 1057) dL_law_1056 rfl ?_
      refine sm_sld (pc' := 1058) rfl dL_law_1057 rfl (fun x221 => ?_)
      refine sm_cVJ (pc' := 1061) (ci := 12) (st := [vJ x217]) (F := fun b => fX12_part b x219 x220 x221 h218) [vI x219, vI x220, vI x221] yY_yX12_part rfl mw1019 mw1020 mw1021 (fun b => mX12_part l D aC B b x219 x220 x221 h218) rfl (by decide) (by decide) (by exact Nat.le_of_ble_eq_true rfl) rfl dL_law_1058 rfl (fun x222 h223 => ?_)
      refine sm_lcmp (pc' := 1062) dL_law_1061 rfl ?_
      refine sm_if_eq (tgt := 1067) (pc' := 1065) dL_law_1062 (by decide) rfl ?_ ?_
      · refine sm_iincL (i := 3) (j := 3) (x := a3) (d := (9 : Int32)) (fun x224 => [(3, vI x224), (0, vR (some b)), (1, vR a1), (2, vR a2)]) (pc' := 1070) dL_law_1067 rfl rfl (by decide) (by decide) (fun _ => rfl) (fun x224 => ?_)
        refine sm_goto (pc' := 18) dL_law_1070 (by decide) ?_
        refine sm_lo (lv' := [(0, vR (some b)), (1, vR a1), (2, vR a2), (3, vI x224)]) [1, 2, 3, 0] rfl ?_
        exact ih a1 a2 x224 h223
      refine sm_iconst (v := (0 : Int32)) (pc' := 1066) dL_law_1065 rfl (by decide) ?_
      exact sm_none
    have hout : x2.toInt < 0 ∨ 19 < x2.toInt := by
      have qc16 := lv_neT (k := (0 : Int32)) (a := 0) c16 (by decide)
      have qc28 := lv_neT (k := (1 : Int32)) (a := 1) c28 (by decide)
      have qc48 := lv_neT (k := (2 : Int32)) (a := 2) c48 (by decide)
      have qc56 := lv_neT (k := (3 : Int32)) (a := 3) c56 (by decide)
      have qc80 := lv_neT (k := (4 : Int32)) (a := 4) c80 (by decide)
      have qc92 := lv_neT (k := (5 : Int32)) (a := 5) c92 (by decide)
      have qc96 := lv_neT (k := (6 : Int32)) (a := 6) c96 (by decide)
      have qc112 := lv_neT (k := (7 : Int32)) (a := 7) c112 (by decide)
      have qc124 := lv_neT (k := (8 : Int32)) (a := 8) c124 (by decide)
      have qc136 := lv_neT (k := (9 : Int32)) (a := 9) c136 (by decide)
      have qc138 := lv_neT (k := (10 : Int32)) (a := 10) c138 (by decide)
      have qc141 := lv_neT (k := (11 : Int32)) (a := 11) c141 (by decide)
      have qc151 := lv_neT (k := (12 : Int32)) (a := 12) c151 (by decide)
      have qc163 := lv_neT (k := (13 : Int32)) (a := 13) c163 (by decide)
      have qc171 := lv_neT (k := (14 : Int32)) (a := 14) c171 (by decide)
      have qc181 := lv_neT (k := (15 : Int32)) (a := 15) c181 (by decide)
      have qc191 := lv_neT (k := (16 : Int32)) (a := 16) c191 (by decide)
      have qc201 := lv_neT (k := (17 : Int32)) (a := 17) c201 (by decide)
      have qc213 := lv_neT (k := (18 : Int32)) (a := 18) c213 (by decide)
      have qc227 := lv_neT (k := (19 : Int32)) (a := 19) c227 (by decide)
      omega
    refine sm_tbO (pc' := 1067) dL_law_33 hout (by decide) ?_
    refine sm_iincL (i := 3) (j := 3) (x := a3) (d := (9 : Int32)) (fun x228 => [(3, vI x228), (0, vR (some b)), (1, vR a1), (2, vR a2)]) (pc' := 1070) dL_law_1067 rfl rfl (by decide) (by decide) (fun _ => rfl) (fun x228 => ?_)
    refine sm_goto (pc' := 18) dL_law_1070 (by decide) ?_
    refine sm_lo (lv' := [(0, vR (some b)), (1, vR a1), (2, vR a2), (3, vI x228)]) [1, 2, 3, 0] rfl ?_
    exact ih a1 a2 x228 h
noncomputable def fL_law (L : Nat) (xs : Nat → Int32)   (h : sm_H) : Option (Unit × sm_H) :=
  sm_let (sm_new h 11 [.null, .null, .null, .null, .null, .null, .null, .null, .null, .null, .null, .null, .null, .null, .int 0, .int 0, .long 0]) fun h1 =>
  sm_cb (fX11_init h.1 h1) fun _ h2 =>
  sm_let (sm_new h2 12 [.int 0, .null, .int 0, .null, .int 0, .int 0, .long 0, .null, .int 0, .null, .null, .null, .null, .null, .null, .null, .null, .null, .null, .null, .null, .null, .int 0, .null, .null, .null, .null, .null, .int 0, .null, .null, .null, .null, .null, .null, .null, .null, .null, .null, .null, .null, .null, .null, .null, .int 0, .int 0, .int 0, .int 0, .int 0, .int 0, .int 0, .int 0, .int 0, .int 0, .int 0, .int 0, .int 0, .int 0, .int 0, .null, .int 0, .null, .int 0, .null, .int 0, .int 0]) fun h3 =>
  sm_cb (fX12_init h2.1 h3) fun _ h4 =>
  fL_law_18 L xs sm_fuel (some h.1) (some h2.1) (0 : Int32) h4
set_option maxRecDepth 100000 in
set_option maxHeartbeats 4000000 in
theorem sL_law_0 (l : Launch) (D : va_G) (aC : Nat → ClassId) (B : Nat) (nm : String) (b L : Nat) (xs : Nat → Int32)    (h : sm_H) : zL l D aC B nm b L xs (fL_law L xs h) 0 [(0, vR (some b))] [] h := by
  unfold fL_law
  refine sm_newL (fs := [.null, .null, .null, .null, .null, .null, .null, .null, .null, .null, .null, .null, .null, .null, .int 0, .int 0, .long 0]) (pc' := 3) kX11 rfl (by decide +kernel) mw1031 mw1032 mw1033 dL_law_0 rfl (fun h1 => ?_)
  refine sm_dup (pc' := 4) rfl dL_law_3 rfl ?_
  refine sm_cI (pc' := 7) (b := h.1) (st := [vR (some h.1)]) [] yY_yX11_init mw1024 mw1030 rfl (mX11_init l D aC B h.1 h1) rfl (by decide) (by decide) (by exact Nat.le_of_ble_eq_true rfl) rfl dL_law_4 rfl (fun _ h2 => ?_)
  refine sm_astore_n (i := 1) (lv' := [(1, vR (some h.1)), (0, vR (some b))]) (pc' := 8) dL_law_7 rfl rfl (by decide) rfl ?_
  refine sm_newL (fs := [.int 0, .null, .int 0, .null, .int 0, .int 0, .long 0, .null, .int 0, .null, .null, .null, .null, .null, .null, .null, .null, .null, .null, .null, .null, .null, .int 0, .null, .null, .null, .null, .null, .int 0, .null, .null, .null, .null, .null, .null, .null, .null, .null, .null, .null, .null, .null, .null, .null, .int 0, .int 0, .int 0, .int 0, .int 0, .int 0, .int 0, .int 0, .int 0, .int 0, .int 0, .int 0, .int 0, .int 0, .int 0, .null, .int 0, .null, .int 0, .null, .int 0, .int 0]) (pc' := 11) kX12 rfl (by decide +kernel) mw1027 mw1028 mw1029 dL_law_8 rfl (fun h3 => ?_)
  refine sm_dup (pc' := 12) rfl dL_law_11 rfl ?_
  refine sm_cI (pc' := 15) (b := h2.1) (st := [vR (some h2.1)]) [] yY_yX12_init mw1025 mw1026 rfl (mX12_init l D aC B h2.1 h3) rfl (by decide) (by decide) (by exact Nat.le_of_ble_eq_true rfl) rfl dL_law_12 rfl (fun _ h4 => ?_)
  refine sm_astore_n (i := 2) (lv' := [(2, vR (some h2.1)), (1, vR (some h.1)), (0, vR (some b))]) (pc' := 16) dL_law_15 rfl rfl (by decide) rfl ?_
  refine sm_iconst (v := (0 : Int32)) (pc' := 17) dL_law_16 rfl (by decide) ?_
  refine sm_istore_n (i := 3) (lv' := [(3, vI (0 : Int32)), (2, vR (some h2.1)), (1, vR (some h.1)), (0, vR (some b))]) (pc' := 18) dL_law_17 rfl rfl (by decide) rfl ?_
  refine sm_lo (lv' := [(0, vR (some b)), (1, vR (some h.1)), (2, vR (some h2.1)), (3, vI (0 : Int32))]) [3, 2, 1, 0] rfl ?_
  exact sL_law_18 l D aC B nm b L xs  sm_fuel (some h.1) (some h2.1) (0 : Int32) h4
