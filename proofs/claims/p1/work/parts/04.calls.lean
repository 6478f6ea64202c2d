section SC
variable {l : Launch} {cc : ByteArray} {nL fr lo : Nat} {own nm : String} {Ex : Room → Array Value → State → Prop} {ret : Option FieldType} {D : va_G} {cl : List vw_C} {ats : List FieldType} {aC : Nat → ClassId} {B : Nat} {Ts Ns : List Cond} {Os : List String} {Rt : Type} {Qf : State → Array Value → List Frame → Rt → sm_H → Nat → Nat → State → Prop} {pc pc' : Nat} {lv lv' : List (Nat × sm_V)} {st st' : List sm_V} {h : sm_H} {X Y : Option (Rt × sm_H)}
theorem sm_aast  {t ci : Nat} {q : vw_C} {r : Option Nat} {i : Int32} {x : Option Nat} (ht : ats[t]? = some (.object q.1)) (hc : cl[ci]? = some q) (hd : decode cc pc = .ok (.aastore, 1)) (hp : pc + 1 = pc') {X : sm_H → Option (Rt × sm_H)} (kk : ∀ h1, sm_S l D cl ats aC B Ts Ns Os cc nL own fr lo ret nm Ex Qf (X h1) pc' lv st h1) : sm_S l D cl ats aC B Ts Ns Os cc nL own fr lo ret nm Ex Qf ((sm_sR h r t ci i x).bind X) pc lv (vR x :: vI i :: vR r :: st) h := by
  subst hp
  refine sm_wr sm_sR_sz kk fun h1 hx => fun C Q cells slots H locs ls hP hS w => ?_
  obtain ⟨a, n, f, rfl, ha, hin, hok, rfl⟩ := sm_sR_some hx
  have hK := C.2.2.2.2.2.1.1.va ht
  have hP1 := hP.one ha
  have hlt : i.toNatClampNeg < n := Nat.not_le.mp fun q => hin (Or.inr q)
  have h0 : ¬ i < 0 := fun q => hin (Or.inl q)
  have hfin : ∀ H1 : Heap, H1[a]? = some ((vp_cell (aC t) (n, .inr (.inr (.inr (.inr f))))).setSlot i.toNatClampNeg (va_rf x)) → va_at D cl (a, sm_c aC (.inl (t, n, .inr (.inr (.inr (.inr (va_up f i.toNatClampNeg x))))))) H1 := by
    intro H1 e
    show H1[a]? = some (vp_cell _ _)
    rw [e]
    rw [vp_cell_q, vp_cell_q, arrV_store]
    congr 2
    funext q
    by_cases hq : q = i.toNatClampNeg
    · subst hq
      simp [updV, va_up]
    · simp [updV, va_up, hq]
  cases x with
  | none =>
    refine va_WaastN (C := q.1) C.1 C.2.1 (hP1 0 _ rfl) ((hK.2 0 _ rfl).1 n (fun j => va_rf (f j))) (fun h => by cases h) (by show ¬ (i < 0 ∨ (arrV _ _ _).slots.size ≤ _); rw [arrV_size]; exact hin) rfl rfl hd fun H1 e z oq => ?_
    exact w H1 _ (hP.up ha z oq (hfin H1 e)) (hS.put z oq (hP.2.2 a _ ha).1)
  | some v =>
    have hv : ∃ fs, h.2.2 v = some (.inr (ci, fs)) := by
      unfold sm_ok at hok
      dsimp only at hok
      cases hq : h.2.2 v with
      | none => rw [hq] at hok; cases hok
      | some y => cases y with
        | inl o => rw [hq] at hok; cases hok
        | inr o => rw [hq] at hok; exact ⟨o.2, by have h9 : o.1 = ci := by simpa using hok
                                                  rw [← h9]⟩
    obtain ⟨fs, hv⟩ := hv
    obtain ⟨q', hq', cellV, g1, g2, g3, -⟩ := (hP.one hv) 0 _ rfl
    have hcls := (hK.1 ci q hc).2
    obtain ⟨kA, comp, k1, k2, k3, -⟩ := (hK.2 0 _ rfl).2
    have hcomp : comp = D.1 ci := Option.some.inj (k3.symm.trans hcls.1)
    subst hcomp
    obtain ⟨kC, hkC, -⟩ := hcls.2
    refine W.aast C.1 C.2.1 (hP1 0 _ rfl) (fun q h => by cases h) (fun h => by cases h) k1 k2 rfl hkC ⟨h0, by show _ < (arrV _ _ _).slots.size; rw [arrV_size]; exact hlt⟩ g1 (fun q h => by rw [g3] at h; cases h) (by rw [g2]; exact hkC) (by rw [g2]; exact va_assign hcls) rfl rfl hd fun H1 e z oq => ?_
    exact w H1 _ (hP.up ha z oq (hfin H1 e)) (hS.put z oq (hP.2.2 a _ ha).1)
theorem sm_newR  {C0 : String} {T : u_T} {N ci index : Nat} {ty0 : Nat → FieldType} (K : sm_Cl cl Ts ci C0 T N ty0) {fs : List Value} (hN : fs.length = N) (hfs : ∀ j, j < N → defaultValue (ty0 j) = vp_V fs j) (hcl : Cond.classLink own index C0 ∈ Ts) (hinst : Cond.instantiable C0 N ∈ Ts) (hini : Cond.initialized C0 ∈ Ts) (hd : decode cc pc = .ok (.new index, 3)) (hp : pc + 3 = pc') (k : sm_S l D cl ats aC B Ts Ns Os cc nL own fr lo ret nm Ex Qf X pc' lv (vR (some h.1) :: st) (sm_new h ci fs)) : sm_S l D cl ats aC B Ts Ns Os cc nL own fr lo ret nm Ex Qf X pc lv st h := by
  subst hp
  subst hN
  refine sm_mk (n := fs.length) rfl rfl k fun C Q cells slots H locs ls hcells hslots hP hS w => ?_
  have hKn := C.2.2.2.2.2.1.1.1 ci _ K.2.1
  refine W.newcK C.1 C.2.1 C.2.2.2.1 (C.2.2.2.2.1 _ hcl) (C.2.2.2.2.1 _ hinst) (C.2.2.2.2.1 _ hini) rfl hd hcells hslots hKn.2.1 hP.1 fun H1 kC hkC e1 z1 o1 => ?_
  rw [← hP.1] at e1 z1 o1
  exact w H1 (hP.new _ z1 o1 ⟨_, K.2.1, (u_born ty0 C.2.2.2.2.1 K.1 hKn hkC e1 K.2.2.1).to hfs⟩) (sm_S_new hS z1 o1)
theorem sm_newa  {atype : ArrayType} {ty : FieldType} (hty : newarray.typeOf atype = ty) {t : Nat} (ht : ats[t]? = some ty) (hname : ∀ (U : State) (cA : ClassId), va_RA U cA ty → U.vm.findClass ("[" ++ ty.toString) = some cA) {a0 : (Nat → Int32) ⊕ (Nat → Int64) ⊕ (Nat → UInt32) ⊕ (Nat → UInt64) ⊕ (Nat → Option Nat)} (ha : ∀ (cA : ClassId) (n : Nat), vp_cell cA (n, a0) = arrV cA n (fun _ => defaultValue ty)) (hb8 : componentBytes ty ≤ 8) (harr : Cond.arrayClass ty ∈ Ts) {n : Int32} (hd : decode cc pc = .ok (.newarray atype, 2)) (hp : pc + 2 = pc') (k : sm_S l D cl ats aC B Ts Ns Os cc nL own fr lo ret nm Ex Qf X pc' lv (vR (some h.1) :: st) (sm_nwa h t n.toNatClampNeg a0)) : sm_S l D cl ats aC B Ts Ns Os cc nL own fr lo ret nm Ex Qf (if n < 0 ∨ 1000000 < n then none else X) pc lv (vI n :: st) h := by
  subst hp
  subst hty
  by_cases hn : n < 0 ∨ 1000000 < n
  · rw [if_pos hn]; exact sm_none
  rw [if_neg hn]
  have hn0 : ¬ n < 0 := fun q => hn (Or.inl q)
  have hn1 : n.toNatClampNeg ≤ 1000000 := by
    have h1 : ¬ (1000000 : Int32) < n := fun q => hn (Or.inr q)
    rw [Int32.lt_iff_toInt_lt] at h1
    have h2 : (1000000 : Int32).toInt = 1000000 := by decide
    rw [h2] at h1
    show n.toInt.toNat ≤ 1000000
    omega
  refine sm_mk (n := n.toNatClampNeg) rfl rfl k fun C Q cells slots H locs ls hcells hslots hP hS w => ?_
  have hbytes : n.toNatClampNeg * componentBytes (newarray.typeOf atype) ≤ 536870912 := Nat.le_trans (Nat.mul_le_mul hn1 hb8) (by decide)
  refine va_newaK C.1 C.2.1 (C.2.2.2.2.1 _ harr) rfl hd rfl hn0 rfl hbytes hcells hslots hP.1 fun H1 cA e1 z1 o1 hAr hNm => ?_
  rw [← hP.1] at e1 z1 o1
  have hc1 : cA = aC t := Option.some.inj (hNm.symm.trans (hname _ (aC t) (C.2.2.2.2.2.1.1.2 t _ ht).2))
  subst hc1
  refine w H1 (hP.new _ z1 o1 ?_) (sm_S_new hS z1 o1)
  show H1[H.size]? = some (vp_cell _ _)
  rw [ha]
  exact e1
theorem sm_anew  {C0 : String} {index t : Nat} (ht : ats[t]? = some (.object C0)) (hcl : Cond.classLink own index C0 ∈ Ts) (hO : C0 ∈ Os) {n : Int32} (hd : decode cc pc = .ok (.anewarray index, 3)) (hp : pc + 3 = pc') (k : sm_S l D cl ats aC B Ts Ns Os cc nL own fr lo ret nm Ex Qf X pc' lv (vR (some h.1) :: st) (sm_nwa h t n.toNatClampNeg (.inr (.inr (.inr (.inr (fun _ => none))))))) : sm_S l D cl ats aC B Ts Ns Os cc nL own fr lo ret nm Ex Qf (if n < 0 ∨ 1000000 < n then none else X) pc lv (vI n :: st) h := by
  subst hp
  by_cases hn : n < 0 ∨ 1000000 < n
  · rw [if_pos hn]; exact sm_none
  rw [if_neg hn]
  have hn0 : ¬ n < 0 := fun q => hn (Or.inl q)
  have hn1 : n.toNatClampNeg ≤ 1000000 := by
    have h1 : ¬ (1000000 : Int32) < n := fun q => hn (Or.inr q)
    rw [Int32.lt_iff_toInt_lt] at h1
    have h2 : (1000000 : Int32).toInt = 1000000 := by decide
    rw [h2] at h1
    show n.toInt.toNat ≤ 1000000
    omega
  refine sm_mk (n := n.toNatClampNeg) rfl rfl k fun C Q cells slots H locs ls hcells hslots hP hS w => ?_
  refine W.anew C.1 C.2.1 C.2.2.2.1 (C.2.2.2.2.1 _ hcl) (va_AO.use (C.2.2.2.2.2.1.2.2 _ hO)) rfl hd rfl hn0 (by omega) hcells hslots fun cA kA comp f1 f2 f3 f4 => ?_
  generalize hH1 : H.push ({ cls := cA, slots := Array.replicate n.toNatClampNeg .null, vm := .none } : Cell) = H1
  have z1 : H1.size = H.size + 1 := by rw [← hH1, Array.size_push]
  have e1 : H1[H.size]? = some (arrV cA n.toNatClampNeg (fun _ => .null)) := by rw [← hH1, Array.getElem?_push_size, ← arrV_new]
  have o1 : ∀ q : Nat, q < H.size → H1[q]? = H[q]? := fun q hq => by rw [← hH1, Array.getElem?_push, if_neg (Nat.ne_of_lt hq)]
  obtain ⟨kA', comp', -, -, -, k4⟩ := (C.2.2.2.2.2.1.1.2 t _ ht).2
  have hc1 : cA = aC t := Option.some.inj (f1.symm.trans k4)
  subst hc1
  rw [hP.1]
  refine w H1 (hP.new _ z1 o1 ?_) (sm_S_new hS z1 o1)
  show H1[H.size]? = some (vp_cell _ _)
  rw [vp_cell_q]
  exact e1
theorem sm_objInit  {idx : Nat} {a : Nat} (hlink : Cond.methodLink own idx objectInit ∈ Ts) (hinst : Cond.instanceMethod objectInit ∈ Ts) (hcode : Cond.code objectInit ⟨#[0xb1]⟩ 1 none ∈ Ts) (hd : decode cc pc = .ok (.invokespecial idx, 3)) (hp : pc + 3 = pc') (hf : 1 ≤ fr) (hlo : (st.map fun v => (sm_v v).category).sum + 12 ≤ lo) (k : sm_S l D cl ats aC B Ts Ns Os cc nL own fr lo ret nm Ex Qf X pc' lv st h) : sm_S l D cl ats aC B Ts Ns Os cc nL own fr lo ret nm Ex Qf X pc lv (vR (some a) :: st) h := by
  subst hp
  refine sm_go k fun C Q cells slots H locs ls hl w => ?_
  refine W.objInit C.1 C.2.1 C.2.2.2.1 (C.2.2.2.2.1 _ hlink) (C.2.2.2.2.1 _ hinst) (C.2.2.2.2.1 _ hcode) rfl (by rw [C.2.2.1]; exact hl.1) rfl hd (by rw [C.2.2.2.2.2.2.2.2.2.1]; exact hf) ?_ w
  show 2 * 0 + _ + 12 ≤ _
  rw [Nat.mul_zero, Nat.zero_add]
  rw [List.map_map]
  rw [C.2.2.2.2.2.2.2.2.2.2.1]
  exact hlo
theorem sm_mmax  {index : Nat} (hlink : Cond.methodLink own index Lib.Math.max.name ∈ Ts) (hstat : Cond.static Lib.Math.max.name ∈ Ts) (hini : Cond.initialized "java/lang/Math" ∈ Ts) (hcode : Cond.code Lib.Math.max.name Lib.Math.max.code 2 (some .int) ∈ Ts) (hf : 1 ≤ fr) (hlo : (st.map fun v => (sm_v v).category).sum + 13 ≤ lo) {x y : Int32} (hd : decode cc pc = .ok (.invokestatic index, 3)) (hp : pc + 3 = pc') (k : sm_S l D cl ats aC B Ts Ns Os cc nL own fr lo ret nm Ex Qf X pc' lv (vI (if x < y then y else x) :: st) h) : sm_S l D cl ats aC B Ts Ns Os cc nL own fr lo ret nm Ex Qf X pc lv (vI y :: vI x :: st) h := by
  subst hp
  refine sm_gl k fun C Q cells slots H locs ls hcl hsl hl w => ?_
  refine va_mmax C.1 C.2.1 (by rw [C.2.2.1]; exact hl.1.symm) C.2.2.2.1 (C.2.2.2.2.1 _ hlink) (C.2.2.2.2.1 _ hstat) (C.2.2.2.2.1 _ hini) (C.2.2.2.2.1 _ hcode) (by rw [C.2.2.2.2.2.2.2.2.2.1]; exact hf) ?_ hcl hsl hd (w ls hl)
  rw [List.map_map]
  rw [C.2.2.2.2.2.2.2.2.2.2.1]
  exact hlo
theorem sm_mmin  {index : Nat} (hlink : Cond.methodLink own index Lib.Math.min.name ∈ Ts) (hstat : Cond.static Lib.Math.min.name ∈ Ts) (hini : Cond.initialized "java/lang/Math" ∈ Ts) (hcode : Cond.code Lib.Math.min.name Lib.Math.min.code 2 (some .int) ∈ Ts) (hf : 1 ≤ fr) (hlo : (st.map fun v => (sm_v v).category).sum + 13 ≤ lo) {x y : Int32} (hd : decode cc pc = .ok (.invokestatic index, 3)) (hp : pc + 3 = pc') (k : sm_S l D cl ats aC B Ts Ns Os cc nL own fr lo ret nm Ex Qf X pc' lv (vI (if y < x then y else x) :: st) h) : sm_S l D cl ats aC B Ts Ns Os cc nL own fr lo ret nm Ex Qf X pc lv (vI y :: vI x :: st) h := by
  subst hp
  refine sm_gl k fun C Q cells slots H locs ls hcl hsl hl w => ?_
  refine va_mmin C.1 C.2.1 (by rw [C.2.2.1]; exact hl.1.symm) C.2.2.2.1 (C.2.2.2.2.1 _ hlink) (C.2.2.2.2.1 _ hstat) (C.2.2.2.2.1 _ hini) (C.2.2.2.2.1 _ hcode) (by rw [C.2.2.2.2.2.2.2.2.2.1]; exact hf) ?_ hcl hsl hd (w ls hl)
  rw [List.map_map]
  rw [C.2.2.2.2.2.2.2.2.2.2.1]
  exact hlo
-- a method's start and end, and its contract: it does the code X
def sm_Pc (D : va_G) (cl : List vw_C) (ats : List FieldType) (aC : Nat → ClassId) (B : Nat) (Ns : List Cond) (Os : List String) (av : List sm_V) (h : sm_H) : Array Value → State → Prop := fun v U => v = (av.map sm_v).toArray ∧ sm_P D cl aC B h U.heap ∧ sm_G D cl ats aC Ns Os U
def sm_Qc {Rt : Type} (val : Rt → Option sm_V) (D : va_G) (cl : List vw_C) (aC : Nat → ClassId) (B : Nat) (r : Rt) (h' : sm_H) : Array Value → State → Outcome → State → Prop := fun _ st oc t => oc = .returned ((val r).map sm_v) ∧ sm_P D cl aC B h' t.heap ∧ va_F (fun q : Nat => B ≤ q) st t
def sm_M {Rt : Type} (l : Launch) (D : va_G) (cl : List vw_C) (ats : List FieldType) (aC : Nat → ClassId) (B : Nat) (Ts Ns : List Cond) (Os : List String) (y : MethodName) (cc : ByteArray) (maxL : Nat) (ret : Option FieldType) (fr lo : Nat) (val : Rt → Option sm_V) (av : List sm_V) (h : sm_H) (X : Option (Rt × sm_H)) : Prop :=
  ∀ (r : Rt) (h' : sm_H), X = some (r, h') → h.1 ≤ h'.1 ∧ h.2.1 ≤ h'.2.1 ∧ Met l y (Cond.code y cc maxL ret :: Ts) { frames := fr, cells := h'.1 - h.1, slots := h'.2.1 - h.2.1, locals := lo } (sm_Pc D cl ats aC B Ns Os av h) (sm_Qc val D cl aC B r h') (h'.1 - h.1) (h'.2.1 - h.2.1) (fun q : Nat => B ≤ q)
-- a method's words
def sm_Y (Ts : List Cond) (y : MethodName) (cc : ByteArray) (maxL : Nat) (ret : Option FieldType) (n : Nat) : Prop := Cond.code y cc maxL ret ∈ Ts ∧ Cond.initialized y.cls ∈ Ts ∧ plainName y.cls = true ∧ (y.cls ≠ "java/lang/invoke/MethodHandle" ∧ y.cls ≠ "java/lang/invoke/VarHandle") ∧ (parseMethodDescriptor y.desc).map (fun d => d.parameters.length) = some n
theorem sm_Y.len {y : MethodName} {maxL n : Nat} {ret2 : Option FieldType} (h : sm_Y Ts y cc maxL ret2 n) (sig : MethodDescriptor) (hs : parseMethodDescriptor y.desc = some sig) : n = sig.parameters.length := by
  have h2 := h.2.2.2.2
  rw [hs] at h2
  exact (Option.some.inj h2).symm
theorem sm_words {p : Program} {R : Room} {s : State} {m : MethodId} {args : Array Value} {meth : Method} {c : Code} (C : sm_X p R s m args meth c cc nL own fr lo ret nm Ex D cl ats aC Ts Ns Os) {y : MethodName} {bytes : ByteArray} {maxL n : Nat} {ret2 : Option FieldType} (hY : sm_Y Ts y bytes maxL ret2 n) : ∀ w ∈ (Cond.code y bytes maxL ret2 :: Ts), ∀ (a' : Array Value) (U : State), s.WarmedH U.vm → w.before a' U = true := by
  intro w hw a' U hW
  have hm : w ∈ Ts := by
    rcases List.mem_cons.mp hw with rfl | h9
    · exact hY.1
    · exact h9
  exact word_at hW (good_of_word (C.2.2.2.2.2.2.2.1 w hm)) (C.2.2.2.2.1 w hm)
theorem sm_blind {p : Program} {R : Room} {s : State} {m : MethodId} {args : Array Value} {meth : Method} {c : Code} (C : sm_X p R s m args meth c cc nL own fr lo ret nm Ex D cl ats aC Ts Ns Os) {av : List sm_V} : FrameBlind (sm_Pc D cl ats aC B Ns Os av h) := fun a U g mk q => ⟨q.1, q.2.1, sm_G.same (u := U) (U := U.calling g mk a) C.2.2.2.2.2.2.2.2.1 rfl q.2.2⟩
theorem sm_pre {p : Program} {R : Room} {s : State} {m : MethodId} {args : Array Value} {meth : Method} {c : Code} (C : sm_X p R s m args meth c cc nL own fr lo ret nm Ex D cl ats aC Ts Ns Os) {av : List sm_V} {H : Heap} (hP : sm_P D cl aC B h H) : ∀ U : State, U.heap = H → s.WarmedH U.vm → sm_Pc D cl ats aC B Ns Os av h (av.map sm_v).toArray U := fun U hU hW => ⟨rfl, by rw [hU]; exact hP, C.2.2.2.2.2.1.warm C.2.2.2.2.2.2.2.2.1 hW⟩
-- behind a call
theorem sm_back {p : Program} {e : Env} {R : Room} {s : State} {m : MethodId} {args : Array Value} {below : List Frame} {meth : Method} {c : Code} {Rt' : Type} {val : Rt' → Option sm_V} {r' : Rt'} {h1 : sm_H} {a : Array Value} {H : Heap} {locs : List Loc} {cells slots mc ms : Nat} {ls : Array Slot} {st0 : List Value} {Q : State → Prop} (hr : va_Run p l e R s m args below meth c H locs cells slots mc ms (F0 m pc ls st0) (st.map sm_v) (sm_Qc val D cl aC B r' h1 a) (fun q : Nat => B ≤ q)) (hS : va_S (fun q : Nat => B ≤ q) s.heap H locs)
    (kk : ∀ (H1 : Heap) (locs1 : List Loc), sm_P D cl aC B h1 H1 → va_S (fun q : Nat => B ≤ q) s.heap H1 locs1 → W p l e R s m args below meth c H1 locs1 (cells + mc) (slots + ms) Q (F0 m (pc + 3) ls (((val r').toList ++ st).map sm_v))) : W p l e R s m args below meth c H locs cells slots Q (F0 m pc ls st0) := by
  intro T hT X
  obtain ⟨v, st₀, t, T', L, h0, X', hL, e1, e2, ⟨hv, hp, hz, hk⟩, stp⟩ := hr T hT X
  cases hv
  rw [h0] at hz hk
  obtain ⟨t2, a1, b1⟩ := kk T'.heap (locs ++ L) (by rw [e1]; exact hp)
    ⟨Nat.le_trans hS.1 (by rw [e1]; exact hz), fun q h1 h2 => by rw [e1, hk q (Nat.lt_of_lt_of_le h1 hS.1) h2]; exact hS.2.1 q h1 h2, fun q hq => by
      rcases List.mem_append.mp hq with h | h
      · exact hS.2.2 q h
      · exact hL q h⟩ T' rfl X'
  refine ⟨t2, stp t2 ?_, b1⟩
  have he : ((val r').toList ++ st).map sm_v = ((val r').map sm_v).toList ++ st.map sm_v := by
    rw [List.map_append]
    cases val r' <;> rfl
  rw [he] at a1
  exact a1
-- a call's frame: what is made, what is left
theorem sm_cl {Rt' : Type} {o : Option (Rt' × sm_H)} {X : Rt' → sm_H → Option (Rt × sm_H)} {sx : Rt' → List sm_V} (hm : ∀ r1 h1, o = some (r1, h1) → h.1 ≤ h1.1 ∧ h.2.1 ≤ h1.2.1) (k : ∀ r1 h1, sm_S l D cl ats aC B Ts Ns Os cc nL own fr lo ret nm Ex Qf (X r1 h1) pc' lv (sx r1) h1)
    (g : ∀ r1 h1, o = some (r1, h1) → ∀ {p : Program} {e : Env} {R : Room} {s : State} {m : MethodId} {args : Array Value} {below : List Frame} {meth : Method} {c : Code}, sm_X p R s m args meth c cc nL own fr lo ret nm Ex D cl ats aC Ts Ns Os → ∀ (Q : State → Prop) (cells slots : Nat) (H : Heap) (locs : List Loc) (ls : Array Slot), cells + (h1.1 - h.1) ≤ R.cells → slots + (h1.2.1 - h.2.1) ≤ R.slots → ls.size = nL → sm_P D cl aC B h H → va_S (fun q : Nat => B ≤ q) s.heap H locs → (∀ (H1 : Heap) (locs1 : List Loc), sm_P D cl aC B h1 H1 → va_S (fun q : Nat => B ≤ q) s.heap H1 locs1 → W p l e R s m args below meth c H1 locs1 (cells + (h1.1 - h.1)) (slots + (h1.2.1 - h.2.1)) Q (F0 m pc' ls ((sx r1).map sm_v))) → W p l e R s m args below meth c H locs cells slots Q (F0 m pc ls (st.map sm_v))) :
    sm_S l D cl ats aC B Ts Ns Os cc nL own fr lo ret nm Ex Qf (o.bind fun q => X q.1 q.2) pc lv st h := by
  intro r h' hX
  obtain ⟨⟨r1, h1⟩, hx, hX⟩ := sm_bind hX
  obtain ⟨m1, m2⟩ := hm r1 h1 hx
  obtain ⟨a, b, w⟩ := k r1 h1 r h' hX
  refine ⟨Nat.le_trans m1 a, Nat.le_trans m2 b, fun {p e R s m args below meth c} C cells slots H locs ls h1' h2 h3 h4 h5 => g r1 h1 hx C _ cells slots H locs ls (by omega) (by omega) h5.1 h3 h4 (fun H1 locs1 h6 h7 => ?_)⟩
  have w1 := w (e := e) (below := below) C (cells + (h1.1 - h.1)) (slots + (h1.2.1 - h.2.1)) H1 locs1 ls (by omega) (by omega) h6 h7 h5
  rw [show cells + (h1.1 - h.1) + (h'.1 - h1.1) = cells + (h'.1 - h.1) by omega, show slots + (h1.2.1 - h.2.1) + (h'.2.1 - h1.2.1) = slots + (h'.2.1 - h.2.1) by omega] at w1
  exact w1
theorem sm_callV  {Rt2 : Type} {val : Rt2 → Option sm_V} {y : MethodName} {bytes : ByteArray} {maxL n fr2 lo2 index : Nat} {ret2 : Option FieldType} {As : List sm_V} {ci : Nat} {q : vw_C} {r : Option Nat} {F : Nat → Option (Rt2 × sm_H)} {X : Rt2 → sm_H → Option (Rt × sm_H)} (hY : sm_Y Ts y bytes maxL ret2 n) (hc : cl[ci]? = some q) (hlink : Cond.methodLink own index y ∈ Ts) (hinst : Cond.instanceMethod y ∈ Ts) (hsel : Cond.selects q.1 y y ∈ Ts) (hM : ∀ b, sm_M l D cl ats aC B Ts Ns Os y bytes maxL ret2 fr2 lo2 val (vR (some b) :: As) h (F b)) (hn : As.length = n) (hfr : fr2 + 1 ≤ fr) (hlo : 8 + (maxL + 11) + lo2 ≤ lo) (hst : (st.map fun v => (sm_v v).category).sum ≤ 8) (hd : decode cc pc = .ok (.invokevirtual index, 3)) (hp : pc + 3 = pc') (k : ∀ r1 h1, sm_S l D cl ats aC B Ts Ns Os cc nL own fr lo ret nm Ex Qf (X r1 h1) pc' lv ((val r1).toList ++ st) h1) : sm_S l D cl ats aC B Ts Ns Os cc nL own fr lo ret nm Ex Qf ((sm_obj h r ci).bind fun b => (F b).bind fun z => X z.1 z.2) pc lv (As.reverse ++ vR r :: st) h := by
  subst hp
  intro rr h' hX
  obtain ⟨b, hb, hX2⟩ := sm_bind hX
  obtain ⟨rfl, fs, hfs⟩ := sm_obj_some hb
  refine sm_cl (o := F b) (X := X) (sx := fun r1 => (val r1).toList ++ st) (fun r1 h1 hx => ⟨(hM b r1 h1 hx).1, (hM b r1 h1 hx).2.1⟩) k (fun r1 h1 hx => fun C Q cells slots H locs ls hc1 hs1 hls hP hS w => ?_) rr h' hX2
  refine sm_back (va_runV (b := b) (As := As.map sm_v) (rest := st.map sm_v) ⟨C.1, C.2.1, C.2.2.1, C.2.2.2.1, C.2.2.2.2.1⟩ (hM b r1 h1 hx).2.2 ⟨⟨rfl, rfl, by rw [C.2.2.2.2.2.2.2.2.2.1]; exact hfr, by rw [C.2.2.2.2.2.2.2.2.2.2.1]; exact hlo, sm_words C hY, List.mem_cons_self, C.2.2.2.2.1 _ hY.1, C.2.2.2.2.1 _ hY.2.1, hY.2.2.2.1, fun sig h9 => hY.len sig h9, (C.2.2.2.2.1 _ hlink)⟩, C.2.2.2.2.1 _ hinst, C.2.2.2.2.1 _ hsel⟩ ⟨sm_blind C, va_recv C.2.2.2.2.2.1.1.va0 (hP.one hfs) hc (q0 := 0) rfl, sm_pre C hP⟩ rfl (by rw [List.length_map]; exact hn) hls ?_ (lv_room (by rw [List.map_map]; exact hst)) hd ⟨hc1, hs1⟩) hS w
  show ((As.reverse ++ vR (some b) :: st).map sm_v) = _
  rw [List.map_append, List.map_reverse]
  rfl
theorem sm_callS  {Rt2 : Type} {val : Rt2 → Option sm_V} {y : MethodName} {bytes : ByteArray} {maxL n fr2 lo2 index : Nat} {ret2 : Option FieldType} {As : List sm_V} {o : Option (Rt2 × sm_H)} {X : Rt2 → sm_H → Option (Rt × sm_H)} (hY : sm_Y Ts y bytes maxL ret2 n) (hlink : Cond.methodLink own index y ∈ Ts) (hstat : Cond.static y ∈ Ts) (hM : sm_M l D cl ats aC B Ts Ns Os y bytes maxL ret2 fr2 lo2 val As h o) (hn : As.length = n) (hfr : fr2 + 1 ≤ fr) (hlo : 8 + (maxL + 11) + lo2 ≤ lo) (hst : (st.map fun v => (sm_v v).category).sum ≤ 8) (hd : decode cc pc = .ok (.invokestatic index, 3)) (hp : pc + 3 = pc') (k : ∀ r1 h1, sm_S l D cl ats aC B Ts Ns Os cc nL own fr lo ret nm Ex Qf (X r1 h1) pc' lv ((val r1).toList ++ st) h1) : sm_S l D cl ats aC B Ts Ns Os cc nL own fr lo ret nm Ex Qf (o.bind fun z => X z.1 z.2) pc lv (As.reverse ++ st) h := by
  subst hp
  refine sm_cl (sx := fun r1 => (val r1).toList ++ st) (fun r1 h1 hx => ⟨(hM r1 h1 hx).1, (hM r1 h1 hx).2.1⟩) k (fun r1 h1 hx => fun C Q cells slots H locs ls hc1 hs1 hls hP hS w => ?_)
  refine sm_back (va_runS (As := As.map sm_v) (rest := st.map sm_v) ⟨C.1, C.2.1, C.2.2.1, C.2.2.2.1, C.2.2.2.2.1⟩ (hM r1 h1 hx).2.2 ⟨⟨rfl, rfl, by rw [C.2.2.2.2.2.2.2.2.2.1]; exact hfr, by rw [C.2.2.2.2.2.2.2.2.2.2.1]; exact hlo, sm_words C hY, List.mem_cons_self, C.2.2.2.2.1 _ hY.1, C.2.2.2.2.1 _ hY.2.1, hY.2.2.2.1, fun sig h9 => hY.len sig h9, (C.2.2.2.2.1 _ hlink)⟩, C.2.2.2.2.1 _ hstat⟩ ⟨sm_blind C, sm_pre C hP⟩ rfl (by rw [List.length_map]; exact hn) hls ?_ (lv_room (by rw [List.map_map]; exact hst)) hd ⟨hc1, hs1⟩) hS w
  show ((As.reverse ++ st).map sm_v) = _
  rw [List.map_append, List.map_reverse]
theorem sm_callI  {Rt2 : Type} {val : Rt2 → Option sm_V} {y : MethodName} {bytes : ByteArray} {maxL n fr2 lo2 index : Nat}  {As : List sm_V} {b : Nat} {o : Option (Rt2 × sm_H)} {X : Rt2 → sm_H → Option (Rt × sm_H)} (hY : sm_Y Ts y bytes maxL none n) (hlink : Cond.methodLink own index y ∈ Ts) (hinst : Cond.instanceMethod y ∈ Ts) (hy1 : y.name = "<init>") (hM : sm_M l D cl ats aC B Ts Ns Os y bytes maxL none fr2 lo2 val (vR (some b) :: As) h o) (hn : As.length = n) (hfr : fr2 + 1 ≤ fr) (hlo : 8 + (maxL + 11) + lo2 ≤ lo) (hst : (st.map fun v => (sm_v v).category).sum ≤ 8) (hd : decode cc pc = .ok (.invokespecial index, 3)) (hp : pc + 3 = pc') (k : ∀ r1 h1, sm_S l D cl ats aC B Ts Ns Os cc nL own fr lo ret nm Ex Qf (X r1 h1) pc' lv ((val r1).toList ++ st) h1) : sm_S l D cl ats aC B Ts Ns Os cc nL own fr lo ret nm Ex Qf (o.bind fun z => X z.1 z.2) pc lv (As.reverse ++ vR (some b) :: st) h := by
  subst hp
  refine sm_cl (sx := fun r1 => (val r1).toList ++ st) (fun r1 h1 hx => ⟨(hM r1 h1 hx).1, (hM r1 h1 hx).2.1⟩) k (fun r1 h1 hx => fun C Q cells slots H locs ls hc1 hs1 hls hP hS w => ?_)
  refine sm_back (va_runI (b := b) (As := As.map sm_v) (rest := st.map sm_v) ⟨C.1, C.2.1, C.2.2.1, C.2.2.2.1, C.2.2.2.2.1⟩ (hM r1 h1 hx).2.2 ⟨⟨rfl, rfl, by rw [C.2.2.2.2.2.2.2.2.2.1]; exact hfr, by rw [C.2.2.2.2.2.2.2.2.2.2.1]; exact hlo, sm_words C hY, List.mem_cons_self, C.2.2.2.2.1 _ hY.1, C.2.2.2.2.1 _ hY.2.1, hY.2.2.2.1, fun sig h9 => hY.len sig h9, (C.2.2.2.2.1 _ hlink)⟩, hy1, C.2.2.2.2.1 _ hinst⟩ ⟨sm_blind C, sm_pre C hP⟩ rfl (by rw [List.length_map]; exact hn) hls ?_ (lv_room (by rw [List.map_map]; exact hst)) hd ⟨hc1, hs1⟩) hS w
  show ((As.reverse ++ vR (some b) :: st).map sm_v) = _
  rw [List.map_append, List.map_reverse]
  rfl
theorem sm_callVN  {Rt2 : Type} {val : Rt2 → Option sm_V} {y : MethodName} {bytes : ByteArray} {maxL n fr2 lo2 index : Nat} {ret2 : Option FieldType} {As : List sm_V} {host : String} {ci : Nat} {q : vw_C} {r : Option Nat} {F : Nat → Option (Rt2 × sm_H)} {X : Rt2 → sm_H → Option (Rt × sm_H)} (hY : sm_Y Ts y bytes maxL ret2 n) (hc : cl[ci]? = some q) (hlink : Cond.methodLinkNest own index y host ∈ Ns) (hinst : Cond.instanceMethod y ∈ Ts) (hsel : Cond.selects q.1 y y ∈ Ts) (hM : ∀ b, sm_M l D cl ats aC B Ts Ns Os y bytes maxL ret2 fr2 lo2 val (vR (some b) :: As) h (F b)) (hn : As.length = n) (hfr : fr2 + 1 ≤ fr) (hlo : 8 + (maxL + 11) + lo2 ≤ lo) (hst : (st.map fun v => (sm_v v).category).sum ≤ 8) (hd : decode cc pc = .ok (.invokevirtual index, 3)) (hp : pc + 3 = pc') (k : ∀ r1 h1, sm_S l D cl ats aC B Ts Ns Os cc nL own fr lo ret nm Ex Qf (X r1 h1) pc' lv ((val r1).toList ++ st) h1) : sm_S l D cl ats aC B Ts Ns Os cc nL own fr lo ret nm Ex Qf ((sm_obj h r ci).bind fun b => (F b).bind fun z => X z.1 z.2) pc lv (As.reverse ++ vR r :: st) h := by
  subst hp
  intro rr h' hX
  obtain ⟨b, hb, hX2⟩ := sm_bind hX
  obtain ⟨rfl, fs, hfs⟩ := sm_obj_some hb
  refine sm_cl (o := F b) (X := X) (sx := fun r1 => (val r1).toList ++ st) (fun r1 h1 hx => ⟨(hM b r1 h1 hx).1, (hM b r1 h1 hx).2.1⟩) k (fun r1 h1 hx => fun C Q cells slots H locs ls hc1 hs1 hls hP hS w => ?_) rr h' hX2
  refine sm_back (va_runVN (b := b) (As := As.map sm_v) (rest := st.map sm_v) ⟨C.1, C.2.1, C.2.2.1, C.2.2.2.1, C.2.2.2.2.1⟩ (hM b r1 h1 hx).2.2 ⟨⟨⟨rfl, rfl, by rw [C.2.2.2.2.2.2.2.2.2.1]; exact hfr, by rw [C.2.2.2.2.2.2.2.2.2.2.1]; exact hlo, sm_words C hY, List.mem_cons_self⟩, C.2.2.2.2.1 _ hY.1, C.2.2.2.2.1 _ hY.2.1, hY.2.2.2.1, fun sig h9 => hY.len sig h9, (va_Nw.use rfl (C.2.2.2.2.2.1.2.1 _ hlink))⟩, C.2.2.2.2.1 _ hinst, C.2.2.2.2.1 _ hsel⟩ ⟨sm_blind C, va_recv C.2.2.2.2.2.1.1.va0 (hP.one hfs) hc (q0 := 0) rfl, sm_pre C hP⟩ rfl (by rw [List.length_map]; exact hn) hls ?_ (lv_room (by rw [List.map_map]; exact hst)) hd ⟨hc1, hs1⟩) hS w
  show ((As.reverse ++ vR (some b) :: st).map sm_v) = _
  rw [List.map_append, List.map_reverse]
  rfl
theorem sm_callSN  {Rt2 : Type} {val : Rt2 → Option sm_V} {y : MethodName} {bytes : ByteArray} {maxL n fr2 lo2 index : Nat} {ret2 : Option FieldType} {As : List sm_V} {host : String} {o : Option (Rt2 × sm_H)} {X : Rt2 → sm_H → Option (Rt × sm_H)} (hY : sm_Y Ts y bytes maxL ret2 n) (hlink : Cond.methodLinkNest own index y host ∈ Ns) (hstat : Cond.static y ∈ Ts) (hM : sm_M l D cl ats aC B Ts Ns Os y bytes maxL ret2 fr2 lo2 val As h o) (hn : As.length = n) (hfr : fr2 + 1 ≤ fr) (hlo : 8 + (maxL + 11) + lo2 ≤ lo) (hst : (st.map fun v => (sm_v v).category).sum ≤ 8) (hd : decode cc pc = .ok (.invokestatic index, 3)) (hp : pc + 3 = pc') (k : ∀ r1 h1, sm_S l D cl ats aC B Ts Ns Os cc nL own fr lo ret nm Ex Qf (X r1 h1) pc' lv ((val r1).toList ++ st) h1) : sm_S l D cl ats aC B Ts Ns Os cc nL own fr lo ret nm Ex Qf (o.bind fun z => X z.1 z.2) pc lv (As.reverse ++ st) h := by
  subst hp
  refine sm_cl (sx := fun r1 => (val r1).toList ++ st) (fun r1 h1 hx => ⟨(hM r1 h1 hx).1, (hM r1 h1 hx).2.1⟩) k (fun r1 h1 hx => fun C Q cells slots H locs ls hc1 hs1 hls hP hS w => ?_)
  refine sm_back (va_runSN (As := As.map sm_v) (rest := st.map sm_v) ⟨C.1, C.2.1, C.2.2.1, C.2.2.2.1, C.2.2.2.2.1⟩ (hM r1 h1 hx).2.2 ⟨⟨⟨rfl, rfl, by rw [C.2.2.2.2.2.2.2.2.2.1]; exact hfr, by rw [C.2.2.2.2.2.2.2.2.2.2.1]; exact hlo, sm_words C hY, List.mem_cons_self⟩, C.2.2.2.2.1 _ hY.1, C.2.2.2.2.1 _ hY.2.1, hY.2.2.2.1, fun sig h9 => hY.len sig h9, (va_Nw.use rfl (C.2.2.2.2.2.1.2.1 _ hlink))⟩, C.2.2.2.2.1 _ hstat, trivial⟩ ⟨sm_blind C, sm_pre C hP⟩ rfl (by rw [List.length_map]; exact hn) hls ?_ (lv_room (by rw [List.map_map]; exact hst)) hd ⟨hc1, hs1⟩) hS w
  show ((As.reverse ++ st).map sm_v) = _
  rw [List.map_append, List.map_reverse]
theorem sm_callIN  {Rt2 : Type} {val : Rt2 → Option sm_V} {y : MethodName} {bytes : ByteArray} {maxL n fr2 lo2 index : Nat}  {As : List sm_V} {host : String} {b : Nat} {o : Option (Rt2 × sm_H)} {X : Rt2 → sm_H → Option (Rt × sm_H)} (hY : sm_Y Ts y bytes maxL none n) (hlink : Cond.methodLinkNest own index y host ∈ Ns) (hinst : Cond.instanceMethod y ∈ Ts) (hy1 : y.name = "<init>") (hM : sm_M l D cl ats aC B Ts Ns Os y bytes maxL none fr2 lo2 val (vR (some b) :: As) h o) (hn : As.length = n) (hfr : fr2 + 1 ≤ fr) (hlo : 8 + (maxL + 11) + lo2 ≤ lo) (hst : (st.map fun v => (sm_v v).category).sum ≤ 8) (hd : decode cc pc = .ok (.invokespecial index, 3)) (hp : pc + 3 = pc') (k : ∀ r1 h1, sm_S l D cl ats aC B Ts Ns Os cc nL own fr lo ret nm Ex Qf (X r1 h1) pc' lv ((val r1).toList ++ st) h1) : sm_S l D cl ats aC B Ts Ns Os cc nL own fr lo ret nm Ex Qf (o.bind fun z => X z.1 z.2) pc lv (As.reverse ++ vR (some b) :: st) h := by
  subst hp
  refine sm_cl (sx := fun r1 => (val r1).toList ++ st) (fun r1 h1 hx => ⟨(hM r1 h1 hx).1, (hM r1 h1 hx).2.1⟩) k (fun r1 h1 hx => fun C Q cells slots H locs ls hc1 hs1 hls hP hS w => ?_)
  refine sm_back (va_runIN (b := b) (As := As.map sm_v) (rest := st.map sm_v) ⟨C.1, C.2.1, C.2.2.1, C.2.2.2.1, C.2.2.2.2.1⟩ (hM r1 h1 hx).2.2 ⟨⟨⟨rfl, rfl, by rw [C.2.2.2.2.2.2.2.2.2.1]; exact hfr, by rw [C.2.2.2.2.2.2.2.2.2.2.1]; exact hlo, sm_words C hY, List.mem_cons_self⟩, C.2.2.2.2.1 _ hY.1, C.2.2.2.2.1 _ hY.2.1, hY.2.2.2.1, fun sig h9 => hY.len sig h9, (va_Nw.use rfl (C.2.2.2.2.2.1.2.1 _ hlink))⟩, hy1, C.2.2.2.2.1 _ hinst⟩ ⟨sm_blind C, sm_pre C hP⟩ rfl (by rw [List.length_map]; exact hn) hls ?_ (lv_room (by rw [List.map_map]; exact hst)) hd ⟨hc1, hs1⟩) hS w
  show ((As.reverse ++ vR (some b) :: st).map sm_v) = _
  rw [List.map_append, List.map_reverse]
  rfl
-- a method's end
def sm_Qf {Rt : Type} (val : Rt → Option sm_V) (D : va_G) (cl : List vw_C) (aC : Nat → ClassId) (B : Nat) : State → Array Value → List Frame → Rt → sm_H → Nat → Nat → State → Prop := fun s args below r h' k n => MQ below (sm_Qc val D cl aC B r h') args s k n (fun q : Nat => B ≤ q)
theorem sm_end {val : Rt → Option sm_V} {r : Rt} (g : ∀ {p : Program} {e : Env} {R : Room} {s : State} {m : MethodId} {args : Array Value} {below : List Frame} {meth : Method} {c : Code}, sm_X p R s m args meth c cc nL own fr lo ret nm Ex D cl ats aC Ts Ns Os → ∀ (cells slots : Nat) (H : Heap) (locs : List Loc) (ls : Array Slot), sm_P D cl aC B h H → va_S (fun q : Nat => B ≤ q) s.heap H locs → W p l e R s m args below meth c H locs cells slots (MQ below (sm_Qc val D cl aC B r h) args s cells slots (fun q : Nat => B ≤ q)) (F0 m pc ls (st.map sm_v))) : sm_S l D cl ats aC B Ts Ns Os cc nL own fr lo ret nm Ex (sm_Qf val D cl aC B) (some (r, h)) pc lv st h := by
  intro r' h' hX
  cases hX
  refine ⟨Nat.le_refl _, Nat.le_refl _, fun C cells slots H locs ls h1 h2 h3 h4 h5 => ?_⟩
  rw [show cells + (h.1 - h.1) = cells by omega, show slots + (h.2.1 - h.2.1) = slots by omega]
  exact g C cells slots H locs ls h3 h4
def vlI (x : Int32) : Option sm_V := some (vI x)
def vlJ (x : Int64) : Option sm_V := some (vJ x)
def vlR (x : Option Nat) : Option sm_V := some (vR x)
def vlU (_ : Unit) : Option sm_V := none
theorem sm_iret  {x : Int32} (hr : ret = some .int) (hd : decode cc pc = .ok (.ireturn, 1)) : sm_S l D cl ats aC B Ts Ns Os cc nL own fr lo ret nm Ex (sm_Qf vlI D cl aC B) (some (x, h)) pc lv [vI x] h := by
  refine sm_end fun C cells slots H locs ls hP hS => ?_
  have hlocks := C.2.2.2.2.2.2.1
  exact W.iret (v := x) C.1 C.2.1 (C.2.2.2.2.2.2.2.2.2.2.2.1.trans hr) (fun t ht hW => ⟨rfl, by rw [ht]; exact hP, hS.F ht⟩) hS.2.2 hd
theorem sm_zret  {x : Int32} (hr : ret = some .boolean) (hd : decode cc pc = .ok (.ireturn, 1)) : sm_S l D cl ats aC B Ts Ns Os cc nL own fr lo ret nm Ex (sm_Qf vlI D cl aC B) (if x = 0 ∨ x = 1 then some (x, h) else none) pc lv [vI x] h := by
  by_cases hx : x = 0 ∨ x = 1
  · rw [if_pos hx]
    refine sm_end fun C cells slots H locs ls hP hS => ?_
    have hlocks := C.2.2.2.2.2.2.1
    exact W.zret (v := x) C.1 C.2.1 (C.2.2.2.2.2.2.2.2.2.2.2.1.trans hr) (by rcases hx with rfl | rfl <;> rfl) (fun t ht hW => ⟨rfl, by rw [ht]; exact hP, hS.F ht⟩) hS.2.2 hd
  · rw [if_neg hx]; exact sm_none
theorem sm_zret0  (hr : ret = some .boolean) (hd : decode cc pc = .ok (.ireturn, 1)) : sm_S l D cl ats aC B Ts Ns Os cc nL own fr lo ret nm Ex (sm_Qf vlI D cl aC B) (some (0, h)) pc lv [vI 0] h := by
  refine sm_end fun C cells slots H locs ls hP hS => ?_
  have hlocks := C.2.2.2.2.2.2.1
  exact W.zret (v := 0) C.1 C.2.1 (C.2.2.2.2.2.2.2.2.2.2.2.1.trans hr) rfl (fun t ht hW => ⟨rfl, by rw [ht]; exact hP, hS.F ht⟩) hS.2.2 hd
theorem sm_zret1  (hr : ret = some .boolean) (hd : decode cc pc = .ok (.ireturn, 1)) : sm_S l D cl ats aC B Ts Ns Os cc nL own fr lo ret nm Ex (sm_Qf vlI D cl aC B) (some (1, h)) pc lv [vI 1] h := by
  refine sm_end fun C cells slots H locs ls hP hS => ?_
  have hlocks := C.2.2.2.2.2.2.1
  exact W.zret (v := 1) C.1 C.2.1 (C.2.2.2.2.2.2.2.2.2.2.2.1.trans hr) rfl (fun t ht hW => ⟨rfl, by rw [ht]; exact hP, hS.F ht⟩) hS.2.2 hd
theorem sm_lret  {x : Int64} (hr : ret = some .long) (hd : decode cc pc = .ok (.lreturn, 1)) : sm_S l D cl ats aC B Ts Ns Os cc nL own fr lo ret nm Ex (sm_Qf vlJ D cl aC B) (some (x, h)) pc lv [vJ x] h := by
  refine sm_end fun C cells slots H locs ls hP hS => ?_
  have hlocks := C.2.2.2.2.2.2.1
  exact W.lret (v := x) C.1 C.2.1 (C.2.2.2.2.2.2.2.2.2.2.2.1.trans hr) (fun t ht hW => ⟨rfl, by rw [ht]; exact hP, hS.F ht⟩) hS.2.2 hd
theorem sm_aret  {x : Option Nat} {n : String} (hr : ret = some (.object n)) (hd : decode cc pc = .ok (.areturn, 1)) : sm_S l D cl ats aC B Ts Ns Os cc nL own fr lo ret nm Ex (sm_Qf vlR D cl aC B) (some (x, h)) pc lv [vR x] h := by
  refine sm_end fun C cells slots H locs ls hP hS => ?_
  have hlocks := C.2.2.2.2.2.2.1
  exact W.aret (v := va_rf x) C.1 C.2.1 (C.2.2.2.2.2.2.2.2.2.2.2.1.trans hr) (Or.inl ⟨n, rfl⟩) (va_rf_or x) (fun t ht hW => ⟨rfl, by rw [ht]; exact hP, hS.F ht⟩) hS.2.2 hd
theorem sm_vret  (hr : ret = none) (hd : decode cc pc = .ok (.return_, 1)) : sm_S l D cl ats aC B Ts Ns Os cc nL own fr lo ret nm Ex (sm_Qf vlU D cl aC B) (some ((), h)) pc lv [] h := by
  refine sm_end fun C cells slots H locs ls hP hS => ?_
  have hlocks := C.2.2.2.2.2.2.1
  exact W.vret C.1 C.2.1 (C.2.2.2.2.2.2.2.2.2.2.2.1.trans hr) (fun t ht hW => ⟨rfl, by rw [ht]; exact hP, hS.F ht⟩) hS.2.2 hd
def sm_args : Nat → List sm_V → List (Nat × sm_V)
  | _, [] => []
  | i, v :: r => (i, v) :: sm_args (i + (if sm_c2 v then 2 else 1)) r
theorem sm_cat' (v : sm_V) : (sm_v v).category = if sm_c2 v then 2 else 1 := by
  have h1 := sm_cat v
  rcases lv_cat (sm_v v) with h2 | h2
  · cases hv : sm_c2 v with
    | false => exact h2
    | true => rw [h2, hv] at h1; cases h1
  · cases hv : sm_c2 v with
    | false => rw [h2, hv] at h1; cases h1
    | true => exact h2
-- the contract out of the walk
theorem sm_met {val : Rt → Option sm_V} {y : MethodName} {n : Nat} {av : List sm_V} (hY : sm_Y Ts y cc nL ret n) (hG : ∀ w ∈ Ts, goodWord w = true) (hN : ∀ w ∈ Ns, sm_isN w = true) (hlen : (lg_sl (av.map sm_v)).length ≤ nL) (hargs : lv_args 0 (av.map sm_v) = sm_l lv)
    (body : sm_S l D cl ats aC B Ts Ns Os cc nL y.cls fr lo ret y.name (fun _ _ _ => True) (sm_Qf val D cl aC B) X 0 lv [] h) : sm_M l D cl ats aC B Ts Ns Os y cc nL ret fr lo val av h X := by
  intro r h' hX
  obtain ⟨a, b, w⟩ := body r h' hX
  refine ⟨a, b, Met.ofW (cc := cc) (maxL := nL) (ret := ret) hY.2.2.1 rfl ?_⟩
  intro p e s m args below meth c s₁ Bd hml hv
  obtain ⟨rfl, hP, hGs⟩ := hv
  have hts0 := atoms_spec (ws := Cond.code y cc nL ret :: Ts) Bd.pre
  have C : sm_X p (headSpec (Cond.code y cc nL ret :: Ts) { frames := fr, cells := h'.1 - h.1, slots := h'.2.1 - h.2.1, locals := lo }).room s m ((av.map sm_v).toArray) meth c cc nL y.cls fr lo ret y.name (fun _ _ _ => True) D cl ats aC Ts Ns Os := ⟨Bd.exec, Bd.bytes, hml, findClass_of_methodNamed Bd.named, fun w hw => hts0 w (List.mem_cons_of_mem _ hw), hGs, Bd.notSynchronized, hG, hN, rfl, rfl, Bd.returns, (name_of_methodNamed Bd.named Bd.method).1, trivial⟩
  have hl := lv_entry (av.map sm_v) (n := nL) hlen
  rw [lg_entry_eq]
  rw [hargs] at hl
  have w1 := w (e := e) (below := below) C 0 0 s.heap [] _ (by rw [Nat.zero_add]; exact Nat.le_refl _) (by rw [Nat.zero_add]; exact Nat.le_refl _) hP va_S.rf hl
  rw [Nat.zero_add, Nat.zero_add] at w1
  exact w1
end SC
