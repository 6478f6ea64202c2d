section SH
variable {l : Launch} {cc : ByteArray} {nL fr lo : Nat} {own nm : String} {Ex : Room → Array Value → State → Prop} {ret : Option FieldType} {D : va_G} {cl : List vw_C} {ats : List FieldType} {aC : Nat → ClassId} {B : Nat} {Ts Ns : List Cond} {Os : List String} {Rt : Type} {Qf : State → Array Value → List Frame → Rt → sm_H → Nat → Nat → State → Prop} {pc pc' : Nat} {lv lv' : List (Nat × sm_V)} {st st' : List sm_V} {h : sm_H} {X Y : Option (Rt × sm_H)}
-- a class of the tables: its words are there, its kind, its fields' types
def sm_Cl (cl : List vw_C) (Ts : List Cond) (ci : Nat) (C0 : String) (T : u_T) (N : Nat) (ty0 : Nat → FieldType) : Prop := (∀ w ∈ u_ws C0 T N, w ∈ Ts) ∧ cl[ci]? = some (C0, T, N) ∧ (∀ k, k < N → parseFieldDescriptor (T k).2.2.1 = some (ty0 k)) ∧ ∀ a, a < N → ∀ b, b < N → a ≠ b → (T a).2.1 ≠ (T b).2.1
-- one step that reads the picture: x is what is read
theorem sm_rd {α : Type} {o : Option α} {X : α → Option (Rt × sm_H)} {sx : α → List sm_V} (k : ∀ x, sm_S l D cl ats aC B Ts Ns Os cc nL own fr lo ret nm Ex Qf (X x) pc' lv (sx x) h) (g : ∀ x, o = some x → ∀ {p : Program} {e : Env} {R : Room} {s : State} {m : MethodId} {args : Array Value} {below : List Frame} {meth : Method} {c : Code}, sm_X p R s m args meth c cc nL own fr lo ret nm Ex D cl ats aC Ts Ns Os → ∀ (Q : State → Prop) (cells slots : Nat) (H : Heap) (locs : List Loc) (ls : Array Slot), sm_P D cl aC B h H → W p l e R s m args below meth c H locs cells slots Q (F0 m pc' ls ((sx x).map sm_v)) → W p l e R s m args below meth c H locs cells slots Q (F0 m pc ls (st.map sm_v))) : sm_S l D cl ats aC B Ts Ns Os cc nL own fr lo ret nm Ex Qf (o.bind X) pc lv st h := by
  intro r h' hX
  obtain ⟨x, hx, hX⟩ := sm_bind hX
  obtain ⟨a, b, w⟩ := k x r h' hX
  exact ⟨a, b, fun C cells slots H locs ls h1 h2 h3 h4 h5 => g x hx C _ cells slots H locs ls h3 (w C cells slots H locs ls h1 h2 h3 h4 h5)⟩
-- one step that writes into the picture
theorem sm_wr {o : Option sm_H} {X : sm_H → Option (Rt × sm_H)} (hsz : ∀ h1, o = some h1 → h1.1 = h.1 ∧ h1.2.1 = h.2.1) (k : ∀ h1, sm_S l D cl ats aC B Ts Ns Os cc nL own fr lo ret nm Ex Qf (X h1) pc' lv st' h1) (g : ∀ h1, o = some h1 → ∀ {p : Program} {e : Env} {R : Room} {s : State} {m : MethodId} {args : Array Value} {below : List Frame} {meth : Method} {c : Code}, sm_X p R s m args meth c cc nL own fr lo ret nm Ex D cl ats aC Ts Ns Os → ∀ (Q : State → Prop) (cells slots : Nat) (H : Heap) (locs : List Loc) (ls : Array Slot), sm_P D cl aC B h H → va_S (fun q : Nat => B ≤ q) s.heap H locs → (∀ (H1 : Heap) (locs1 : List Loc), sm_P D cl aC B h1 H1 → va_S (fun q : Nat => B ≤ q) s.heap H1 locs1 → W p l e R s m args below meth c H1 locs1 cells slots Q (F0 m pc' ls (st'.map sm_v))) → W p l e R s m args below meth c H locs cells slots Q (F0 m pc ls (st.map sm_v))) : sm_S l D cl ats aC B Ts Ns Os cc nL own fr lo ret nm Ex Qf (o.bind X) pc lv st h := by
  intro r h' hX
  obtain ⟨h1, hx, hX⟩ := sm_bind hX
  obtain ⟨e1, e2⟩ := hsz h1 hx
  obtain ⟨a, b, w⟩ := k h1 r h' hX
  rw [e1] at a
  rw [e2] at b
  refine ⟨a, b, fun {p e R s m args below meth c} C cells slots H locs ls h1' h2 h3 h4 h5 => g h1 hx C _ cells slots H locs ls h3 h4 (fun H1 locs1 h6 h7 => ?_)⟩
  have w1 := w (e := e) (below := below) C cells slots H1 locs1 ls (by rw [e1]; exact h1') (by rw [e2]; exact h2) h6 h7 h5
  rw [e1, e2] at w1
  exact w1
-- a step that makes a cell of n slots
theorem sm_mk {h1 : sm_H} {n : Nat} (e1 : h1.1 = h.1 + 1) (e2 : h1.2.1 = h.2.1 + n) (k : sm_S l D cl ats aC B Ts Ns Os cc nL own fr lo ret nm Ex Qf X pc' lv st' h1) (g : ∀ {p : Program} {e : Env} {R : Room} {s : State} {m : MethodId} {args : Array Value} {below : List Frame} {meth : Method} {c : Code}, sm_X p R s m args meth c cc nL own fr lo ret nm Ex D cl ats aC Ts Ns Os → ∀ (Q : State → Prop) (cells slots : Nat) (H : Heap) (locs : List Loc) (ls : Array Slot), cells + 1 ≤ R.cells → slots + n ≤ R.slots → sm_P D cl aC B h H → va_S (fun q : Nat => B ≤ q) s.heap H locs → (∀ (H1 : Heap), sm_P D cl aC B h1 H1 → va_S (fun q : Nat => B ≤ q) s.heap H1 locs → W p l e R s m args below meth c H1 locs (cells + 1) (slots + n) Q (F0 m pc' ls (st'.map sm_v))) → W p l e R s m args below meth c H locs cells slots Q (F0 m pc ls (st.map sm_v))) : sm_S l D cl ats aC B Ts Ns Os cc nL own fr lo ret nm Ex Qf X pc lv st h := by
  intro r h' hX
  obtain ⟨a, b, w⟩ := k r h' hX
  rw [e1] at a
  rw [e2] at b
  refine ⟨by omega, by omega, fun {p e R s m args below meth c} C cells slots H locs ls h1' h2 h3 h4 h5 => g C _ cells slots H locs ls (by omega) (by omega) h3 h4 (fun H1 h6 h7 => ?_)⟩
  have w1 := w (e := e) (below := below) C (cells + 1) (slots + n) H1 locs ls (by rw [e1]; omega) (by rw [e2]; omega) h6 h7 h5
  rw [e1, e2, show cells + 1 + (h'.1 - (h.1 + 1)) = cells + (h'.1 - h.1) by omega, show slots + n + (h'.2.1 - (h.2.1 + n)) = slots + (h'.2.1 - h.2.1) by omega] at w1
  exact w1
theorem sm_getI  {C0 : String} {T : u_T} {N ci index k : Nat} {ty0 : Nat → FieldType} {r : Option Nat} (K : sm_Cl cl Ts ci C0 T N ty0) (hk : k < N) (hlink : Cond.fieldLink own index (T k).1 (T k).2.1 (T k).2.2.1 ∈ Ts) (hd : decode cc pc = .ok (.getfield index, 3)) (hp : pc + 3 = pc') {X : Int32 → Option (Rt × sm_H)} (kk : ∀ x, sm_S l D cl ats aC B Ts Ns Os cc nL own fr lo ret nm Ex Qf (X x) pc' lv (vI x :: st) h) : sm_S l D cl ats aC B Ts Ns Os cc nL own fr lo ret nm Ex Qf ((sm_I (sm_get h r ci k)).bind X) pc lv (vR r :: st) h := by
  subst hp
  refine sm_rd kk fun x hx => fun C Q cells slots H locs ls hP w => ?_
  obtain ⟨a, fs, rfl, ha, hv⟩ := sm_get_some (sm_I_some hx)
  exact va_get (D := D) (ci := ci) (v := sm_v (vI x)) (C := C0) (T := T) (N := N) C.1 C.2.1 C.2.2.2.2.1 K.1 C.2.2.2.1 C.2.2.2.2.2.1.1.va0 (hP.one ha) 0 rfl K.2.1 k hk (C.2.2.2.2.1 _ hlink) (fun _ h9 => h9) hv hd w
theorem sm_getIN  {C0 : String} {T : u_T} {N ci index k : Nat} {ty0 : Nat → FieldType} {r : Option Nat} {host : String} (K : sm_Cl cl Ts ci C0 T N ty0) (hk : k < N) (hlink : Cond.fieldLinkNest own index (T k).1 (T k).2.1 (T k).2.2.1 host ∈ Ns) (hd : decode cc pc = .ok (.getfield index, 3)) (hp : pc + 3 = pc') {X : Int32 → Option (Rt × sm_H)} (kk : ∀ x, sm_S l D cl ats aC B Ts Ns Os cc nL own fr lo ret nm Ex Qf (X x) pc' lv (vI x :: st) h) : sm_S l D cl ats aC B Ts Ns Os cc nL own fr lo ret nm Ex Qf ((sm_I (sm_get h r ci k)).bind X) pc lv (vR r :: st) h := by
  subst hp
  refine sm_rd kk fun x hx => fun C Q cells slots H locs ls hP w => ?_
  obtain ⟨a, fs, rfl, ha, hv⟩ := sm_get_some (sm_I_some hx)
  exact va_getN (D := D) (ci := ci) (v := sm_v (vI x)) (C := C0) (T := T) (N := N) C.1 C.2.1 C.2.2.2.2.1 K.1 C.2.2.2.1 C.2.2.2.2.2.1.1.va0 (hP.one ha) 0 rfl K.2.1 k hk (va_Nw.use rfl (C.2.2.2.2.2.1.2.1 _ hlink)) (fun _ h9 => h9) hv hd w
theorem sm_getJ  {C0 : String} {T : u_T} {N ci index k : Nat} {ty0 : Nat → FieldType} {r : Option Nat} (K : sm_Cl cl Ts ci C0 T N ty0) (hk : k < N) (hlink : Cond.fieldLink own index (T k).1 (T k).2.1 (T k).2.2.1 ∈ Ts) (hd : decode cc pc = .ok (.getfield index, 3)) (hp : pc + 3 = pc') {X : Int64 → Option (Rt × sm_H)} (kk : ∀ x, sm_S l D cl ats aC B Ts Ns Os cc nL own fr lo ret nm Ex Qf (X x) pc' lv (vJ x :: st) h) : sm_S l D cl ats aC B Ts Ns Os cc nL own fr lo ret nm Ex Qf ((sm_J (sm_get h r ci k)).bind X) pc lv (vR r :: st) h := by
  subst hp
  refine sm_rd kk fun x hx => fun C Q cells slots H locs ls hP w => ?_
  obtain ⟨a, fs, rfl, ha, hv⟩ := sm_get_some (sm_J_some hx)
  exact va_get (D := D) (ci := ci) (v := sm_v (vJ x)) (C := C0) (T := T) (N := N) C.1 C.2.1 C.2.2.2.2.1 K.1 C.2.2.2.1 C.2.2.2.2.2.1.1.va0 (hP.one ha) 0 rfl K.2.1 k hk (C.2.2.2.2.1 _ hlink) (fun _ h9 => h9) hv hd w
theorem sm_getJN  {C0 : String} {T : u_T} {N ci index k : Nat} {ty0 : Nat → FieldType} {r : Option Nat} {host : String} (K : sm_Cl cl Ts ci C0 T N ty0) (hk : k < N) (hlink : Cond.fieldLinkNest own index (T k).1 (T k).2.1 (T k).2.2.1 host ∈ Ns) (hd : decode cc pc = .ok (.getfield index, 3)) (hp : pc + 3 = pc') {X : Int64 → Option (Rt × sm_H)} (kk : ∀ x, sm_S l D cl ats aC B Ts Ns Os cc nL own fr lo ret nm Ex Qf (X x) pc' lv (vJ x :: st) h) : sm_S l D cl ats aC B Ts Ns Os cc nL own fr lo ret nm Ex Qf ((sm_J (sm_get h r ci k)).bind X) pc lv (vR r :: st) h := by
  subst hp
  refine sm_rd kk fun x hx => fun C Q cells slots H locs ls hP w => ?_
  obtain ⟨a, fs, rfl, ha, hv⟩ := sm_get_some (sm_J_some hx)
  exact va_getN (D := D) (ci := ci) (v := sm_v (vJ x)) (C := C0) (T := T) (N := N) C.1 C.2.1 C.2.2.2.2.1 K.1 C.2.2.2.1 C.2.2.2.2.2.1.1.va0 (hP.one ha) 0 rfl K.2.1 k hk (va_Nw.use rfl (C.2.2.2.2.2.1.2.1 _ hlink)) (fun _ h9 => h9) hv hd w
theorem sm_getR  {C0 : String} {T : u_T} {N ci index k : Nat} {ty0 : Nat → FieldType} {r : Option Nat} (K : sm_Cl cl Ts ci C0 T N ty0) (hk : k < N) (hlink : Cond.fieldLink own index (T k).1 (T k).2.1 (T k).2.2.1 ∈ Ts) (hd : decode cc pc = .ok (.getfield index, 3)) (hp : pc + 3 = pc') {X : Option Nat → Option (Rt × sm_H)} (kk : ∀ x, sm_S l D cl ats aC B Ts Ns Os cc nL own fr lo ret nm Ex Qf (X x) pc' lv (vR x :: st) h) : sm_S l D cl ats aC B Ts Ns Os cc nL own fr lo ret nm Ex Qf ((sm_R (sm_get h r ci k)).bind X) pc lv (vR r :: st) h := by
  subst hp
  refine sm_rd kk fun x hx => fun C Q cells slots H locs ls hP w => ?_
  obtain ⟨a, fs, rfl, ha, hv⟩ := sm_get_some (sm_R_some hx)
  exact va_get (D := D) (ci := ci) (v := sm_v (vR x)) (C := C0) (T := T) (N := N) C.1 C.2.1 C.2.2.2.2.1 K.1 C.2.2.2.1 C.2.2.2.2.2.1.1.va0 (hP.one ha) 0 rfl K.2.1 k hk (C.2.2.2.2.1 _ hlink) (fun _ h9 => h9) hv hd w
theorem sm_getRN  {C0 : String} {T : u_T} {N ci index k : Nat} {ty0 : Nat → FieldType} {r : Option Nat} {host : String} (K : sm_Cl cl Ts ci C0 T N ty0) (hk : k < N) (hlink : Cond.fieldLinkNest own index (T k).1 (T k).2.1 (T k).2.2.1 host ∈ Ns) (hd : decode cc pc = .ok (.getfield index, 3)) (hp : pc + 3 = pc') {X : Option Nat → Option (Rt × sm_H)} (kk : ∀ x, sm_S l D cl ats aC B Ts Ns Os cc nL own fr lo ret nm Ex Qf (X x) pc' lv (vR x :: st) h) : sm_S l D cl ats aC B Ts Ns Os cc nL own fr lo ret nm Ex Qf ((sm_R (sm_get h r ci k)).bind X) pc lv (vR r :: st) h := by
  subst hp
  refine sm_rd kk fun x hx => fun C Q cells slots H locs ls hP w => ?_
  obtain ⟨a, fs, rfl, ha, hv⟩ := sm_get_some (sm_R_some hx)
  exact va_getN (D := D) (ci := ci) (v := sm_v (vR x)) (C := C0) (T := T) (N := N) C.1 C.2.1 C.2.2.2.2.1 K.1 C.2.2.2.1 C.2.2.2.2.2.1.1.va0 (hP.one ha) 0 rfl K.2.1 k hk (va_Nw.use rfl (C.2.2.2.2.2.1.2.1 _ hlink)) (fun _ h9 => h9) hv hd w
theorem sm_put_sz {h : sm_H} {r : Option Nat} {ci k : Nat} {v : Value} : ∀ h1, sm_put h r ci k v = some h1 → h1.1 = h.1 ∧ h1.2.1 = h.2.1 := by
  intro h1 e
  obtain ⟨a, fs, -, -, -, rfl⟩ := sm_put_some e
  exact ⟨rfl, rfl⟩
theorem sm_put_  {C0 : String} {T : u_T} {N ci index k : Nat} {ty0 : Nat → FieldType} {r : Option Nat} (K : sm_Cl cl Ts ci C0 T N ty0) (hk : k < N) (hlink : Cond.fieldLink own index (T k).1 (T k).2.1 (T k).2.2.1 ∈ Ts) (hfin : (T k).2.2.2 = false) {v : sm_V} (hn : narrow (ty0 k) (sm_v v) = sm_v v) (hfit : fits (ty0 k) (sm_v v) = true) (hd : decode cc pc = .ok (.putfield index, 3)) (hp : pc + 3 = pc') {X : sm_H → Option (Rt × sm_H)} (kk : ∀ h1, sm_S l D cl ats aC B Ts Ns Os cc nL own fr lo ret nm Ex Qf (X h1) pc' lv st h1) : sm_S l D cl ats aC B Ts Ns Os cc nL own fr lo ret nm Ex Qf ((sm_put h r ci k (sm_v v)).bind X) pc lv (v :: vR r :: st) h := by
  subst hp
  refine sm_wr sm_put_sz kk fun h1 hx => fun C Q cells slots H locs ls hP hS w => ?_
  obtain ⟨a, fs, rfl, ha, hl, rfl⟩ := sm_put_some hx
  have hK := C.2.2.2.2.2.1.1.va0
  have hap := va_apart (own := own) C.2.2.2.2.1 K.1 ty0 K.2.2.1 K.2.2.2 hK K.2.1
  have hd0 := K.2.2.1 k hk
  obtain ⟨q0, q9, cell, q1, q2, q3, q4⟩ := (hP.one ha) 0 _ rfl
  have hr : q0 = (C0, T, N) := Option.some.inj (q9.symm.trans K.2.1)
  subst hr
  obtain ⟨hSl, hfc, kC, hkC, hkind⟩ := hK.1 ci _ K.2.1
  obtain ⟨cf, kf, fi, f, hi, hsl⟩ := hSl k hk
  have hlay := C.2.2.2.2.1 _ (K.1 _ (u_in_lay hk))
  unfold u_lay at hlay
  rw [if_neg (by rw [hfin]; decide)] at hlay
  have hst := (u_facts hfc hkC (u_lays C.2.2.2.2.1 K.1 hk) hi).1
  have h6 := u_store hfc hkC hkind hlay hi hd0 hn hfit
  refine W.putK C.1 C.2.1 (f := f) ⟨C.2.2.2.1, (C.2.2.2.2.1 _ hlink), ⟨_, _, _, hi⟩, hst⟩ (by rw [q2]; exact h6) q1 q3 (by rw [hsl]; exact k2_hasslot (q4 k hk)) rfl rfl hd fun H' e1 e2 e3 => ?_
  rw [hsl] at e1 ⊢
  exact w H' _ (hP.up ha e2 e3 ⟨_, K.2.1, t_OB.to (V := updV (vp_V fs) k (sm_v v)) ⟨_, e1, q2, q3, t_set q4 hap hk (sm_v v)⟩ (fun j _ => vp_updV_set hl (sm_v v) j)⟩) (hS.put e2 e3 (hP.2.2 a _ ha).1)
theorem sm_putN_  {C0 : String} {T : u_T} {N ci index k : Nat} {ty0 : Nat → FieldType} {r : Option Nat} {host : String} (K : sm_Cl cl Ts ci C0 T N ty0) (hk : k < N) (hlink : Cond.fieldLinkNest own index (T k).1 (T k).2.1 (T k).2.2.1 host ∈ Ns) (hfin : (T k).2.2.2 = false) {v : sm_V} (hn : narrow (ty0 k) (sm_v v) = sm_v v) (hfit : fits (ty0 k) (sm_v v) = true) (hd : decode cc pc = .ok (.putfield index, 3)) (hp : pc + 3 = pc') {X : sm_H → Option (Rt × sm_H)} (kk : ∀ h1, sm_S l D cl ats aC B Ts Ns Os cc nL own fr lo ret nm Ex Qf (X h1) pc' lv st h1) : sm_S l D cl ats aC B Ts Ns Os cc nL own fr lo ret nm Ex Qf ((sm_put h r ci k (sm_v v)).bind X) pc lv (v :: vR r :: st) h := by
  subst hp
  refine sm_wr sm_put_sz kk fun h1 hx => fun C Q cells slots H locs ls hP hS w => ?_
  obtain ⟨a, fs, rfl, ha, hl, rfl⟩ := sm_put_some hx
  have hK := C.2.2.2.2.2.1.1.va0
  have hap := va_apart (own := own) C.2.2.2.2.1 K.1 ty0 K.2.2.1 K.2.2.2 hK K.2.1
  have hd0 := K.2.2.1 k hk
  obtain ⟨q0, q9, cell, q1, q2, q3, q4⟩ := (hP.one ha) 0 _ rfl
  have hr : q0 = (C0, T, N) := Option.some.inj (q9.symm.trans K.2.1)
  subst hr
  obtain ⟨hSl, hfc, kC, hkC, hkind⟩ := hK.1 ci _ K.2.1
  obtain ⟨cf, kf, fi, f, hi, hsl⟩ := hSl k hk
  have hlay := C.2.2.2.2.1 _ (K.1 _ (u_in_lay hk))
  unfold u_lay at hlay
  rw [if_neg (by rw [hfin]; decide)] at hlay
  have hst := (u_facts hfc hkC (u_lays C.2.2.2.2.1 K.1 hk) hi).1
  have h6 := u_store hfc hkC hkind hlay hi hd0 hn hfit
  refine va_WputK C.1 C.2.1 (f := f) C.2.2.2.1 (va_Nw.use rfl (C.2.2.2.2.2.1.2.1 _ hlink)) hi hst (by rw [q2]; exact h6) q1 q3 (by rw [hsl]; exact k2_hasslot (q4 k hk)) rfl rfl hd fun H' e1 e2 e3 => ?_
  rw [hsl] at e1 ⊢
  exact w H' _ (hP.up ha e2 e3 ⟨_, K.2.1, t_OB.to (V := updV (vp_V fs) k (sm_v v)) ⟨_, e1, q2, q3, t_set q4 hap hk (sm_v v)⟩ (fun j _ => vp_updV_set hl (sm_v v) j)⟩) (hS.put e2 e3 (hP.2.2 a _ ha).1)
theorem sm_putF_  {C0 : String} {T : u_T} {N ci index k : Nat} {ty0 : Nat → FieldType} {r : Option Nat} (K : sm_Cl cl Ts ci C0 T N ty0) (hk : k < N) (hlink : Cond.fieldLink own index (T k).1 (T k).2.1 (T k).2.2.1 ∈ Ts) (hfin : (T k).2.2.2 = true) (hin2 : nm = "<init>") (hdecl : (T k).1 = own) {v : sm_V} (hn : narrow (ty0 k) (sm_v v) = sm_v v) (hfit : fits (ty0 k) (sm_v v) = true) (hd : decode cc pc = .ok (.putfield index, 3)) (hp : pc + 3 = pc') {X : sm_H → Option (Rt × sm_H)} (kk : ∀ h1, sm_S l D cl ats aC B Ts Ns Os cc nL own fr lo ret nm Ex Qf (X h1) pc' lv st h1) : sm_S l D cl ats aC B Ts Ns Os cc nL own fr lo ret nm Ex Qf ((sm_put h r ci k (sm_v v)).bind X) pc lv (v :: vR r :: st) h := by
  subst hp
  refine sm_wr sm_put_sz kk fun h1 hx => fun {p e R s m args below meth c} C Q cells slots H locs ls hP hS w => ?_
  obtain ⟨a, fs, rfl, ha, hl, rfl⟩ := sm_put_some hx
  have hK := C.2.2.2.2.2.1.1.va0
  have hown := C.2.2.2.1
  have hap := va_apart (own := own) C.2.2.2.2.1 K.1 ty0 K.2.2.1 K.2.2.2 hK K.2.1
  have hd0 := K.2.2.1 k hk
  obtain ⟨q0, q9, cell, q1, q2, q3, q4⟩ := (hP.one ha) 0 _ rfl
  have hr : q0 = (C0, T, N) := Option.some.inj (q9.symm.trans K.2.1)
  subst hr
  obtain ⟨hSl, hfc, kC, hkC, hkind⟩ := hK.1 ci _ K.2.1
  obtain ⟨cf, kf, fi, f, hi, hsl⟩ := hSl k hk
  have hlay := C.2.2.2.2.1 _ (K.1 _ (u_in_lay hk))
  unfold u_lay at hlay
  rw [if_pos hfin] at hlay
  have hst := (u_facts hfc hkC (u_lays C.2.2.2.2.1 K.1 hk) hi).1
  have hcf : m.cls = cf := by
    obtain ⟨_, _, c', _, _, _, -, -, hf', -, -, -, hown2, -⟩ := Cond.laysFinal_spec hlay
    have e1 : c' = cf := by have := hi.symm.trans hf'; simp at this; exact this.1.symm
    rw [hdecl] at hown2
    rw [← e1]; exact Option.some.inj (hown.symm.trans hown2)
  have h6 := u_fits hfc hkC hkind (Or.inr hlay) hi hd0 hn hfit
  refine W.putFinK C.1 C.2.1 hown (C.2.2.2.2.1 _ hlink) hi hst hcf (C.2.2.2.2.2.2.2.2.2.2.2.2.1.trans hin2) (by rw [q2]; exact h6) q1 q3 (by rw [hsl]; exact k2_hasslot (q4 k hk)) rfl rfl hd fun H' e1 e2 e3 => ?_
  rw [hsl] at e1 ⊢
  exact w H' _ (hP.up ha e2 e3 ⟨_, K.2.1, t_OB.to (V := updV (vp_V fs) k (sm_v v)) ⟨_, e1, q2, q3, t_set q4 hap hk (sm_v v)⟩ (fun j _ => vp_updV_set hl (sm_v v) j)⟩) (hS.put e2 e3 (hP.2.2 a _ ha).1)
theorem sm_putI  {C0 : String} {T : u_T} {N ci index k : Nat} {ty0 : Nat → FieldType} {r : Option Nat} (K : sm_Cl cl Ts ci C0 T N ty0) (hk : k < N) (hlink : Cond.fieldLink own index (T k).1 (T k).2.1 (T k).2.2.1 ∈ Ts) (hfin : (T k).2.2.2 = false) (hty : ty0 k = .int) {x : Int32} (hd : decode cc pc = .ok (.putfield index, 3)) (hp : pc + 3 = pc') {X : sm_H → Option (Rt × sm_H)} (kk : ∀ h1, sm_S l D cl ats aC B Ts Ns Os cc nL own fr lo ret nm Ex Qf (X h1) pc' lv st h1) : sm_S l D cl ats aC B Ts Ns Os cc nL own fr lo ret nm Ex Qf ((sm_put h r ci k (sm_v (vI x))).bind X) pc lv (vI x :: vR r :: st) h := sm_put_ K hk hlink hfin (by rw [hty]; rfl) (by rw [hty]; rfl) hd hp kk
theorem sm_putJ  {C0 : String} {T : u_T} {N ci index k : Nat} {ty0 : Nat → FieldType} {r : Option Nat} (K : sm_Cl cl Ts ci C0 T N ty0) (hk : k < N) (hlink : Cond.fieldLink own index (T k).1 (T k).2.1 (T k).2.2.1 ∈ Ts) (hfin : (T k).2.2.2 = false) (hty : ty0 k = .long) {x : Int64} (hd : decode cc pc = .ok (.putfield index, 3)) (hp : pc + 3 = pc') {X : sm_H → Option (Rt × sm_H)} (kk : ∀ h1, sm_S l D cl ats aC B Ts Ns Os cc nL own fr lo ret nm Ex Qf (X h1) pc' lv st h1) : sm_S l D cl ats aC B Ts Ns Os cc nL own fr lo ret nm Ex Qf ((sm_put h r ci k (sm_v (vJ x))).bind X) pc lv (vJ x :: vR r :: st) h := sm_put_ K hk hlink hfin (by rw [hty]; rfl) (by rw [hty]; rfl) hd hp kk
theorem sm_putR  {C0 : String} {T : u_T} {N ci index k : Nat} {ty0 : Nat → FieldType} {r : Option Nat} (K : sm_Cl cl Ts ci C0 T N ty0) (hk : k < N) (hlink : Cond.fieldLink own index (T k).1 (T k).2.1 (T k).2.2.1 ∈ Ts) (hfin : (T k).2.2.2 = false) (hty : (∃ n, ty0 k = .object n) ∨ ∃ t, ty0 k = .array t) {x : Option Nat} (hd : decode cc pc = .ok (.putfield index, 3)) (hp : pc + 3 = pc') {X : sm_H → Option (Rt × sm_H)} (kk : ∀ h1, sm_S l D cl ats aC B Ts Ns Os cc nL own fr lo ret nm Ex Qf (X h1) pc' lv st h1) : sm_S l D cl ats aC B Ts Ns Os cc nL own fr lo ret nm Ex Qf ((sm_put h r ci k (sm_v (vR x))).bind X) pc lv (vR x :: vR r :: st) h := sm_put_ K hk hlink hfin (by rcases hty with ⟨n, e⟩ | ⟨t, e⟩ <;> rw [e] <;> cases x <;> rfl) (by rcases hty with ⟨n, e⟩ | ⟨t, e⟩ <;> rw [e] <;> cases x <;> rfl) hd hp kk
theorem sm_putZ  {C0 : String} {T : u_T} {N ci index k : Nat} {ty0 : Nat → FieldType} {r : Option Nat} (K : sm_Cl cl Ts ci C0 T N ty0) (hk : k < N) (hlink : Cond.fieldLink own index (T k).1 (T k).2.1 (T k).2.2.1 ∈ Ts) (hfin : (T k).2.2.2 = false) (hty : ty0 k = .boolean) {x : Int32} (hd : decode cc pc = .ok (.putfield index, 3)) (hp : pc + 3 = pc') {X : sm_H → Option (Rt × sm_H)} (kk : ∀ h1, sm_S l D cl ats aC B Ts Ns Os cc nL own fr lo ret nm Ex Qf (X h1) pc' lv st h1) : sm_S l D cl ats aC B Ts Ns Os cc nL own fr lo ret nm Ex Qf (if x = 0 ∨ x = 1 then (sm_put h r ci k (sm_v (vI x))).bind X else none) pc lv (vI x :: vR r :: st) h := by
  by_cases hx : x = 0 ∨ x = 1
  · rw [if_pos hx]
    exact sm_put_ K hk hlink hfin (by rw [hty]; rcases hx with rfl | rfl <;> rfl) (by rw [hty]; rcases hx with rfl | rfl <;> rfl) hd hp kk
  · rw [if_neg hx]; exact sm_none
theorem sm_putNI  {C0 : String} {T : u_T} {N ci index k : Nat} {ty0 : Nat → FieldType} {r : Option Nat} {host : String} (K : sm_Cl cl Ts ci C0 T N ty0) (hk : k < N) (hlink : Cond.fieldLinkNest own index (T k).1 (T k).2.1 (T k).2.2.1 host ∈ Ns) (hfin : (T k).2.2.2 = false) (hty : ty0 k = .int) {x : Int32} (hd : decode cc pc = .ok (.putfield index, 3)) (hp : pc + 3 = pc') {X : sm_H → Option (Rt × sm_H)} (kk : ∀ h1, sm_S l D cl ats aC B Ts Ns Os cc nL own fr lo ret nm Ex Qf (X h1) pc' lv st h1) : sm_S l D cl ats aC B Ts Ns Os cc nL own fr lo ret nm Ex Qf ((sm_put h r ci k (sm_v (vI x))).bind X) pc lv (vI x :: vR r :: st) h := sm_putN_ K hk hlink hfin (by rw [hty]; rfl) (by rw [hty]; rfl) hd hp kk
theorem sm_putNJ  {C0 : String} {T : u_T} {N ci index k : Nat} {ty0 : Nat → FieldType} {r : Option Nat} {host : String} (K : sm_Cl cl Ts ci C0 T N ty0) (hk : k < N) (hlink : Cond.fieldLinkNest own index (T k).1 (T k).2.1 (T k).2.2.1 host ∈ Ns) (hfin : (T k).2.2.2 = false) (hty : ty0 k = .long) {x : Int64} (hd : decode cc pc = .ok (.putfield index, 3)) (hp : pc + 3 = pc') {X : sm_H → Option (Rt × sm_H)} (kk : ∀ h1, sm_S l D cl ats aC B Ts Ns Os cc nL own fr lo ret nm Ex Qf (X h1) pc' lv st h1) : sm_S l D cl ats aC B Ts Ns Os cc nL own fr lo ret nm Ex Qf ((sm_put h r ci k (sm_v (vJ x))).bind X) pc lv (vJ x :: vR r :: st) h := sm_putN_ K hk hlink hfin (by rw [hty]; rfl) (by rw [hty]; rfl) hd hp kk
theorem sm_putNR  {C0 : String} {T : u_T} {N ci index k : Nat} {ty0 : Nat → FieldType} {r : Option Nat} {host : String} (K : sm_Cl cl Ts ci C0 T N ty0) (hk : k < N) (hlink : Cond.fieldLinkNest own index (T k).1 (T k).2.1 (T k).2.2.1 host ∈ Ns) (hfin : (T k).2.2.2 = false) (hty : (∃ n, ty0 k = .object n) ∨ ∃ t, ty0 k = .array t) {x : Option Nat} (hd : decode cc pc = .ok (.putfield index, 3)) (hp : pc + 3 = pc') {X : sm_H → Option (Rt × sm_H)} (kk : ∀ h1, sm_S l D cl ats aC B Ts Ns Os cc nL own fr lo ret nm Ex Qf (X h1) pc' lv st h1) : sm_S l D cl ats aC B Ts Ns Os cc nL own fr lo ret nm Ex Qf ((sm_put h r ci k (sm_v (vR x))).bind X) pc lv (vR x :: vR r :: st) h := sm_putN_ K hk hlink hfin (by rcases hty with ⟨n, e⟩ | ⟨t, e⟩ <;> rw [e] <;> cases x <;> rfl) (by rcases hty with ⟨n, e⟩ | ⟨t, e⟩ <;> rw [e] <;> cases x <;> rfl) hd hp kk
theorem sm_putNZ  {C0 : String} {T : u_T} {N ci index k : Nat} {ty0 : Nat → FieldType} {r : Option Nat} {host : String} (K : sm_Cl cl Ts ci C0 T N ty0) (hk : k < N) (hlink : Cond.fieldLinkNest own index (T k).1 (T k).2.1 (T k).2.2.1 host ∈ Ns) (hfin : (T k).2.2.2 = false) (hty : ty0 k = .boolean) {x : Int32} (hd : decode cc pc = .ok (.putfield index, 3)) (hp : pc + 3 = pc') {X : sm_H → Option (Rt × sm_H)} (kk : ∀ h1, sm_S l D cl ats aC B Ts Ns Os cc nL own fr lo ret nm Ex Qf (X h1) pc' lv st h1) : sm_S l D cl ats aC B Ts Ns Os cc nL own fr lo ret nm Ex Qf (if x = 0 ∨ x = 1 then (sm_put h r ci k (sm_v (vI x))).bind X else none) pc lv (vI x :: vR r :: st) h := by
  by_cases hx : x = 0 ∨ x = 1
  · rw [if_pos hx]
    exact sm_putN_ K hk hlink hfin (by rw [hty]; rcases hx with rfl | rfl <;> rfl) (by rw [hty]; rcases hx with rfl | rfl <;> rfl) hd hp kk
  · rw [if_neg hx]; exact sm_none
theorem sm_putFI  {C0 : String} {T : u_T} {N ci index k : Nat} {ty0 : Nat → FieldType} {r : Option Nat} (K : sm_Cl cl Ts ci C0 T N ty0) (hk : k < N) (hlink : Cond.fieldLink own index (T k).1 (T k).2.1 (T k).2.2.1 ∈ Ts) (hfin : (T k).2.2.2 = true) (hin2 : nm = "<init>") (hdecl : (T k).1 = own) (hty : ty0 k = .int) {x : Int32} (hd : decode cc pc = .ok (.putfield index, 3)) (hp : pc + 3 = pc') {X : sm_H → Option (Rt × sm_H)} (kk : ∀ h1, sm_S l D cl ats aC B Ts Ns Os cc nL own fr lo ret nm Ex Qf (X h1) pc' lv st h1) : sm_S l D cl ats aC B Ts Ns Os cc nL own fr lo ret nm Ex Qf ((sm_put h r ci k (sm_v (vI x))).bind X) pc lv (vI x :: vR r :: st) h := sm_putF_ K hk hlink hfin hin2 hdecl (by rw [hty]; rfl) (by rw [hty]; rfl) hd hp kk
theorem sm_putFJ  {C0 : String} {T : u_T} {N ci index k : Nat} {ty0 : Nat → FieldType} {r : Option Nat} (K : sm_Cl cl Ts ci C0 T N ty0) (hk : k < N) (hlink : Cond.fieldLink own index (T k).1 (T k).2.1 (T k).2.2.1 ∈ Ts) (hfin : (T k).2.2.2 = true) (hin2 : nm = "<init>") (hdecl : (T k).1 = own) (hty : ty0 k = .long) {x : Int64} (hd : decode cc pc = .ok (.putfield index, 3)) (hp : pc + 3 = pc') {X : sm_H → Option (Rt × sm_H)} (kk : ∀ h1, sm_S l D cl ats aC B Ts Ns Os cc nL own fr lo ret nm Ex Qf (X h1) pc' lv st h1) : sm_S l D cl ats aC B Ts Ns Os cc nL own fr lo ret nm Ex Qf ((sm_put h r ci k (sm_v (vJ x))).bind X) pc lv (vJ x :: vR r :: st) h := sm_putF_ K hk hlink hfin hin2 hdecl (by rw [hty]; rfl) (by rw [hty]; rfl) hd hp kk
theorem sm_putFR  {C0 : String} {T : u_T} {N ci index k : Nat} {ty0 : Nat → FieldType} {r : Option Nat} (K : sm_Cl cl Ts ci C0 T N ty0) (hk : k < N) (hlink : Cond.fieldLink own index (T k).1 (T k).2.1 (T k).2.2.1 ∈ Ts) (hfin : (T k).2.2.2 = true) (hin2 : nm = "<init>") (hdecl : (T k).1 = own) (hty : (∃ n, ty0 k = .object n) ∨ ∃ t, ty0 k = .array t) {x : Option Nat} (hd : decode cc pc = .ok (.putfield index, 3)) (hp : pc + 3 = pc') {X : sm_H → Option (Rt × sm_H)} (kk : ∀ h1, sm_S l D cl ats aC B Ts Ns Os cc nL own fr lo ret nm Ex Qf (X h1) pc' lv st h1) : sm_S l D cl ats aC B Ts Ns Os cc nL own fr lo ret nm Ex Qf ((sm_put h r ci k (sm_v (vR x))).bind X) pc lv (vR x :: vR r :: st) h := sm_putF_ K hk hlink hfin hin2 hdecl (by rcases hty with ⟨n, e⟩ | ⟨t, e⟩ <;> rw [e] <;> cases x <;> rfl) (by rcases hty with ⟨n, e⟩ | ⟨t, e⟩ <;> rw [e] <;> cases x <;> rfl) hd hp kk
theorem sm_putFZ  {C0 : String} {T : u_T} {N ci index k : Nat} {ty0 : Nat → FieldType} {r : Option Nat} (K : sm_Cl cl Ts ci C0 T N ty0) (hk : k < N) (hlink : Cond.fieldLink own index (T k).1 (T k).2.1 (T k).2.2.1 ∈ Ts) (hfin : (T k).2.2.2 = true) (hin2 : nm = "<init>") (hdecl : (T k).1 = own) (hty : ty0 k = .boolean) {x : Int32} (hd : decode cc pc = .ok (.putfield index, 3)) (hp : pc + 3 = pc') {X : sm_H → Option (Rt × sm_H)} (kk : ∀ h1, sm_S l D cl ats aC B Ts Ns Os cc nL own fr lo ret nm Ex Qf (X h1) pc' lv st h1) : sm_S l D cl ats aC B Ts Ns Os cc nL own fr lo ret nm Ex Qf (if x = 0 ∨ x = 1 then (sm_put h r ci k (sm_v (vI x))).bind X else none) pc lv (vI x :: vR r :: st) h := by
  by_cases hx : x = 0 ∨ x = 1
  · rw [if_pos hx]
    exact sm_putF_ K hk hlink hfin hin2 hdecl (by rw [hty]; rcases hx with rfl | rfl <;> rfl) (by rw [hty]; rcases hx with rfl | rfl <;> rfl) hd hp kk
  · rw [if_neg hx]; exact sm_none
theorem sm_iald  {t : Nat} {r : Option Nat} {i : Int32} (ht : ats[t]? = some .int) (hd : decode cc pc = .ok (.iaload, 1)) (hp : pc + 1 = pc') {X : Int32 → Option (Rt × sm_H)} (kk : ∀ x, sm_S l D cl ats aC B Ts Ns Os cc nL own fr lo ret nm Ex Qf (X x) pc' lv (vI x :: st) h) : sm_S l D cl ats aC B Ts Ns Os cc nL own fr lo ret nm Ex Qf ((sm_aI h r t i).bind X) pc lv (vI i :: vR r :: st) h := by
  subst hp
  refine sm_rd kk fun x hx => fun C Q cells slots H locs ls hP w => ?_
  obtain ⟨a, n, f, rfl, ha, hin, rfl⟩ := sm_aI_some hx
  exact va_iald C.1 C.2.1 (C.2.2.2.2.2.1.1.va ht) (hP.one ha) 0 0 rfl rfl hin hd w
theorem sm_lald  {t : Nat} {r : Option Nat} {i : Int32} (ht : ats[t]? = some .long) (hd : decode cc pc = .ok (.laload, 1)) (hp : pc + 1 = pc') {X : Int64 → Option (Rt × sm_H)} (kk : ∀ x, sm_S l D cl ats aC B Ts Ns Os cc nL own fr lo ret nm Ex Qf (X x) pc' lv (vJ x :: st) h) : sm_S l D cl ats aC B Ts Ns Os cc nL own fr lo ret nm Ex Qf ((sm_aJ h r t i).bind X) pc lv (vI i :: vR r :: st) h := by
  subst hp
  refine sm_rd kk fun x hx => fun C Q cells slots H locs ls hP w => ?_
  obtain ⟨a, n, f, rfl, ha, hin, rfl⟩ := sm_aJ_some hx
  exact va_lald C.1 C.2.1 (C.2.2.2.2.2.1.1.va ht) (hP.one ha) 0 0 rfl rfl hin hd w
theorem sm_bald  {t : Nat} {r : Option Nat} {i : Int32} (ht : ats[t]? = some .byte) (hd : decode cc pc = .ok (.baload, 1)) (hp : pc + 1 = pc') {X : Int32 → Option (Rt × sm_H)} (kk : ∀ x, sm_S l D cl ats aC B Ts Ns Os cc nL own fr lo ret nm Ex Qf (X x) pc' lv (vI x :: st) h) : sm_S l D cl ats aC B Ts Ns Os cc nL own fr lo ret nm Ex Qf ((sm_aI h r t i).bind X) pc lv (vI i :: vR r :: st) h := by
  subst hp
  refine sm_rd kk fun x hx => fun C Q cells slots H locs ls hP w => ?_
  obtain ⟨a, n, f, rfl, ha, hin, rfl⟩ := sm_aI_some hx
  exact va_bald C.1 C.2.1 (C.2.2.2.2.2.1.1.va ht) (hP.one ha) 0 0 rfl rfl hin hd w
theorem sm_zald  {t : Nat} {r : Option Nat} {i : Int32} (ht : ats[t]? = some .boolean) (hd : decode cc pc = .ok (.baload, 1)) (hp : pc + 1 = pc') {X : Int32 → Option (Rt × sm_H)} (kk : ∀ x, sm_S l D cl ats aC B Ts Ns Os cc nL own fr lo ret nm Ex Qf (X x) pc' lv (vI x :: st) h) : sm_S l D cl ats aC B Ts Ns Os cc nL own fr lo ret nm Ex Qf ((sm_aI h r t i).bind X) pc lv (vI i :: vR r :: st) h := by
  subst hp
  refine sm_rd kk fun x hx => fun C Q cells slots H locs ls hP w => ?_
  obtain ⟨a, n, f, rfl, ha, hin, rfl⟩ := sm_aI_some hx
  exact va_zald C.1 C.2.1 (C.2.2.2.2.2.1.1.va ht) (hP.one ha) 0 0 rfl rfl hin hd w
theorem sm_aald  {t : Nat} {C0 : String} {r : Option Nat} {i : Int32} (ht : ats[t]? = some (.object C0)) (hd : decode cc pc = .ok (.aaload, 1)) (hp : pc + 1 = pc') {X : Option Nat → Option (Rt × sm_H)} (kk : ∀ x, sm_S l D cl ats aC B Ts Ns Os cc nL own fr lo ret nm Ex Qf (X x) pc' lv (vR x :: st) h) : sm_S l D cl ats aC B Ts Ns Os cc nL own fr lo ret nm Ex Qf ((sm_aR h r t i).bind X) pc lv (vI i :: vR r :: st) h := by
  subst hp
  refine sm_rd kk fun x hx => fun C Q cells slots H locs ls hP w => ?_
  obtain ⟨a, n, f, rfl, ha, hin, rfl⟩ := sm_aR_some hx
  exact va_aldq C.1 C.2.1 (C.2.2.2.2.2.1.1.va ht) (hP.one ha) 0 0 rfl rfl hin hd w
theorem sm_alen  {t : Nat} {ty : FieldType} {r : Option Nat} (ht : ats[t]? = some ty) (hd : decode cc pc = .ok (.arraylength, 1)) (hp : pc + 1 = pc') {X : Int32 → Option (Rt × sm_H)} (kk : ∀ x, sm_S l D cl ats aC B Ts Ns Os cc nL own fr lo ret nm Ex Qf (X x) pc' lv (vI x :: st) h) : sm_S l D cl ats aC B Ts Ns Os cc nL own fr lo ret nm Ex Qf ((sm_len h r t).bind X) pc lv (vR r :: st) h := by
  subst hp
  refine sm_rd kk fun x hx => fun C Q cells slots H locs ls hP w => ?_
  obtain ⟨a, y, rfl, ha, rfl⟩ := sm_len_some hx
  exact va_alen C.1 C.2.1 (C.2.2.2.2.2.1.1.va ht) (hP.one ha) 0 0 rfl rfl rfl hd w
theorem sm_sI_sz {h : sm_H} {r : Option Nat} {t : Nat} {i v : Int32} : ∀ h1, sm_sI h r t i v = some h1 → h1.1 = h.1 ∧ h1.2.1 = h.2.1 := by
  intro h1 e
  obtain ⟨a, n, f, -, -, -, rfl⟩ := sm_sI_some e
  exact ⟨rfl, rfl⟩
theorem sm_sJ_sz {h : sm_H} {r : Option Nat} {t : Nat} {i : Int32} {v : Int64} : ∀ h1, sm_sJ h r t i v = some h1 → h1.1 = h.1 ∧ h1.2.1 = h.2.1 := by
  intro h1 e
  obtain ⟨a, n, f, -, -, -, rfl⟩ := sm_sJ_some e
  exact ⟨rfl, rfl⟩
theorem sm_sR_sz {h : sm_H} {r : Option Nat} {t ci : Nat} {i : Int32} {v : Option Nat} : ∀ h1, sm_sR h r t ci i v = some h1 → h1.1 = h.1 ∧ h1.2.1 = h.2.1 := by
  intro h1 e
  obtain ⟨a, n, f, -, -, -, -, rfl⟩ := sm_sR_some e
  exact ⟨rfl, rfl⟩
theorem sm_iast  {t : Nat} {r : Option Nat} {i : Int32} {x : Int32} (ht : ats[t]? = some .int) (hd : decode cc pc = .ok (.iastore, 1)) (hp : pc + 1 = pc') {X : sm_H → Option (Rt × sm_H)} (kk : ∀ h1, sm_S l D cl ats aC B Ts Ns Os cc nL own fr lo ret nm Ex Qf (X h1) pc' lv st h1) : sm_S l D cl ats aC B Ts Ns Os cc nL own fr lo ret nm Ex Qf ((sm_sI h r t i x).bind X) pc lv (vI x :: vI i :: vR r :: st) h := by
  subst hp
  refine sm_wr sm_sI_sz kk fun h1 hx => fun C Q cells slots H locs ls hP hS w => ?_
  obtain ⟨a, n, f, rfl, ha, hin, rfl⟩ := sm_sI_some hx
  have hK := C.2.2.2.2.2.1.1.va ht
  have hP1 := hP.one ha
  refine W.iast C.1 C.2.1 (hP1 0 _ rfl) ((hK.2 0 _ rfl).1 n (fun j => sm_v (vI (f j)))) (fun q => by cases q) (by show ¬ (i < 0 ∨ (arrV _ _ _).slots.size ≤ _); rw [arrV_size]; exact hin) rfl rfl hd fun H1 e z oq => ?_
  refine w H1 _ (hP.up ha z oq ?_) (hS.put z oq (hP.2.2 a _ ha).1)
  show H1[a]? = some (vp_cell _ _)
  rw [e]
  show some ((vp_cell _ _).setSlot _ _) = _
  rw [vp_cell_i, vp_cell_i, arrV_store]
  congr 2
  funext q
  by_cases hq : q = i.toNatClampNeg
  · subst hq
    simp [updV, upd, sm_v]
    try rfl
  · simp [updV, upd, hq]
theorem sm_last  {t : Nat} {r : Option Nat} {i : Int32} {x : Int64} (ht : ats[t]? = some .long) (hd : decode cc pc = .ok (.lastore, 1)) (hp : pc + 1 = pc') {X : sm_H → Option (Rt × sm_H)} (kk : ∀ h1, sm_S l D cl ats aC B Ts Ns Os cc nL own fr lo ret nm Ex Qf (X h1) pc' lv st h1) : sm_S l D cl ats aC B Ts Ns Os cc nL own fr lo ret nm Ex Qf ((sm_sJ h r t i x).bind X) pc lv (vJ x :: vI i :: vR r :: st) h := by
  subst hp
  refine sm_wr sm_sJ_sz kk fun h1 hx => fun C Q cells slots H locs ls hP hS w => ?_
  obtain ⟨a, n, f, rfl, ha, hin, rfl⟩ := sm_sJ_some hx
  have hK := C.2.2.2.2.2.1.1.va ht
  have hP1 := hP.one ha
  refine W.last C.1 C.2.1 (hP1 0 _ rfl) ((hK.2 0 _ rfl).1 n (fun j => sm_v (vJ (f j)))) (fun q => by cases q) (by show ¬ (i < 0 ∨ (arrV _ _ _).slots.size ≤ _); rw [arrV_size]; exact hin) rfl rfl hd fun H1 e z oq => ?_
  refine w H1 _ (hP.up ha z oq ?_) (hS.put z oq (hP.2.2 a _ ha).1)
  show H1[a]? = some (vp_cell _ _)
  rw [e]
  show some ((vp_cell _ _).setSlot _ _) = _
  rw [vp_cell_l, vp_cell_l, arrV_store]
  congr 2
  funext q
  by_cases hq : q = i.toNatClampNeg
  · subst hq
    simp [updV, vp_updL, sm_v]
    try rfl
  · simp [updV, vp_updL, hq]
theorem sm_bast  {t : Nat} {r : Option Nat} {i : Int32} {x : Int32} (ht : ats[t]? = some .byte) (hd : decode cc pc = .ok (.bastore, 1)) (hp : pc + 1 = pc') {X : sm_H → Option (Rt × sm_H)} (kk : ∀ h1, sm_S l D cl ats aC B Ts Ns Os cc nL own fr lo ret nm Ex Qf (X h1) pc' lv st h1) : sm_S l D cl ats aC B Ts Ns Os cc nL own fr lo ret nm Ex Qf ((sm_sI h r t i (vp_nar .byte x)).bind X) pc lv (vI x :: vI i :: vR r :: st) h := by
  subst hp
  refine sm_wr sm_sI_sz kk fun h1 hx => fun C Q cells slots H locs ls hP hS w => ?_
  obtain ⟨a, n, f, rfl, ha, hin, rfl⟩ := sm_sI_some hx
  have hK := C.2.2.2.2.2.1.1.va ht
  have hP1 := hP.one ha
  refine W.bast C.1 C.2.1 (hP1 0 _ rfl) ((hK.2 0 _ rfl).1 n (fun j => sm_v (vI (f j)))) (fun q => by cases q) (by show ¬ (i < 0 ∨ (arrV _ _ _).slots.size ≤ _); rw [arrV_size]; exact hin) rfl rfl hd fun H1 e z oq => ?_
  refine w H1 _ (hP.up ha z oq ?_) (hS.put z oq (hP.2.2 a _ ha).1)
  show H1[a]? = some (vp_cell _ _)
  rw [e]
  show some ((vp_cell _ _).setSlot _ _) = _
  rw [vp_cell_i, vp_cell_i, arrV_store]
  congr 2
  funext q
  by_cases hq : q = i.toNatClampNeg
  · subst hq
    simp [updV, upd, vp_nar, sm_v]
    try rfl
  · simp [updV, upd, vp_nar, hq]
theorem sm_zast  {t : Nat} {r : Option Nat} {i : Int32} {x : Int32} (ht : ats[t]? = some .boolean) (hd : decode cc pc = .ok (.bastore, 1)) (hp : pc + 1 = pc') {X : sm_H → Option (Rt × sm_H)} (kk : ∀ h1, sm_S l D cl ats aC B Ts Ns Os cc nL own fr lo ret nm Ex Qf (X h1) pc' lv st h1) : sm_S l D cl ats aC B Ts Ns Os cc nL own fr lo ret nm Ex Qf ((sm_sI h r t i (vp_nar .boolean x)).bind X) pc lv (vI x :: vI i :: vR r :: st) h := by
  subst hp
  refine sm_wr sm_sI_sz kk fun h1 hx => fun C Q cells slots H locs ls hP hS w => ?_
  obtain ⟨a, n, f, rfl, ha, hin, rfl⟩ := sm_sI_some hx
  have hK := C.2.2.2.2.2.1.1.va ht
  have hP1 := hP.one ha
  refine W.zast C.1 C.2.1 (hP1 0 _ rfl) ((hK.2 0 _ rfl).1 n (fun j => sm_v (vI (f j)))) (fun q => by cases q) (by show ¬ (i < 0 ∨ (arrV _ _ _).slots.size ≤ _); rw [arrV_size]; exact hin) rfl rfl hd fun H1 e z oq => ?_
  refine w H1 _ (hP.up ha z oq ?_) (hS.put z oq (hP.2.2 a _ ha).1)
  show H1[a]? = some (vp_cell _ _)
  rw [e]
  show some ((vp_cell _ _).setSlot _ _) = _
  rw [vp_cell_i, vp_cell_i, arrV_store]
  congr 2
  funext q
  by_cases hq : q = i.toNatClampNeg
  · subst hq
    simp [updV, upd, vp_nar, sm_v]
    try rfl
  · simp [updV, upd, vp_nar, hq]
end SH
