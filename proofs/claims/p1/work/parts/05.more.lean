section SD
variable {l : Launch} {cc : ByteArray} {nL fr lo : Nat} {own nm : String} {Ex : Room → Array Value → State → Prop} {ret : Option FieldType} {D : va_G} {cl : List vw_C} {ats : List FieldType} {aC : Nat → ClassId} {B : Nat} {Ts Ns : List Cond} {Os : List String} {Rt : Type} {Qf : State → Array Value → List Frame → Rt → sm_H → Nat → Nat → State → Prop} {pc pc' : Nat} {lv lv' : List (Nat × sm_V)} {st st' : List sm_V} {h : sm_H} {X Y : Option (Rt × sm_H)}
theorem sm_letIv {x : Int32} {X : Int32 → Option (Rt × sm_H)} (k : ∀ y, sm_S l D cl ats aC B Ts Ns Os cc nL own fr lo ret nm Ex Qf (X y) pc lv (vI y :: st) h) : sm_S l D cl ats aC B Ts Ns Os cc nL own fr lo ret nm Ex Qf (sm_let x X) pc lv (vI x :: st) h := k x
theorem sm_letJv {x : Int64} {X : Int64 → Option (Rt × sm_H)} (k : ∀ y, sm_S l D cl ats aC B Ts Ns Os cc nL own fr lo ret nm Ex Qf (X y) pc lv (vJ y :: st) h) : sm_S l D cl ats aC B Ts Ns Os cc nL own fr lo ret nm Ex Qf (sm_let x X) pc lv (vJ x :: st) h := k x
theorem sm_letRv {x : Option Nat} {X : Option Nat → Option (Rt × sm_H)} (k : ∀ y, sm_S l D cl ats aC B Ts Ns Os cc nL own fr lo ret nm Ex Qf (X y) pc lv (vR y :: st) h) : sm_S l D cl ats aC B Ts Ns Os cc nL own fr lo ret nm Ex Qf (sm_let x X) pc lv (vR x :: st) h := k x
theorem sm_iincL {i j : Nat} {n : Int} {x d : Int32} {X : Int32 → Option (Rt × sm_H)} (lf : Int32 → List (Nat × sm_V)) (hd : decode cc pc = .ok (.iinc i n, 3)) (hp : pc + 3 = pc') (hj : lv[j]? = some (i, vI x)) (hv : Int32.ofInt n = d) (hn : i < nL) (hl : ∀ v, (i, vI v) :: lv.filter (sm_f1 i) = lf v) (k : ∀ v, sm_S l D cl ats aC B Ts Ns Os cc nL own fr lo ret nm Ex Qf (X v) pc' (lf v) st h) : sm_S l D cl ats aC B Ts Ns Os cc nL own fr lo ret nm Ex Qf (sm_let (x + d) X) pc lv st h := sm_iinc (v := x + d) hd hp hj (by rw [hv]) hn (hl _) (k _)
theorem sm_ite {c : Prop} {hc : Decidable c} (k1 : c → sm_S l D cl ats aC B Ts Ns Os cc nL own fr lo ret nm Ex Qf X pc lv st h) (k2 : ¬ c → sm_S l D cl ats aC B Ts Ns Os cc nL own fr lo ret nm Ex Qf Y pc lv st h) : sm_S l D cl ats aC B Ts Ns Os cc nL own fr lo ret nm Ex Qf (if c then X else Y) pc lv st h := by
  by_cases h9 : c
  · rw [if_pos h9]; exact k1 h9
  · rw [if_neg h9]; exact k2 h9
theorem sm_lkp {dflt : Int} {ps : Array (Int × Int)} {len : Nat} {x : Int32} (off : Int) (hd : decode cc pc = .ok (.lookupswitch dflt ps, len)) (hs : (ps.toList.zip (ps.toList.drop 1)).all (fun (a, next) => a.1 < next.1) = true) (ho : Op.lookupswitch.offset ps.toList dflt x.toInt = off) (ht : (pc : Int) + off = (pc' : Int)) (k : sm_S l D cl ats aC B Ts Ns Os cc nL own fr lo ret nm Ex Qf X pc' lv st h) : sm_S l D cl ats aC B Ts Ns Os cc nL own fr lo ret nm Ex Qf X pc lv (vI x :: st) h := sm_go k fun C Q cells slots H locs ls hl w => lv_lookup C.1 C.2.1 hd hs ho ht w
theorem sm_tbO {dflt a b : Int} {offs : Array Int} {len : Nat} {x : Int32} (hd : decode cc pc = .ok (.tableswitch dflt a b offs, len)) (hx : x.toInt < a ∨ b < x.toInt) (ht : (pc : Int) + dflt = (pc' : Int)) (k : sm_S l D cl ats aC B Ts Ns Os cc nL own fr lo ret nm Ex Qf X pc' lv st h) : sm_S l D cl ats aC B Ts Ns Os cc nL own fr lo ret nm Ex Qf X pc lv (vI x :: st) h := sm_go k fun C Q cells slots H locs ls hl w => lv_tableOut C.1 C.2.1 hd hx ht w
theorem sm_tbI {dflt a b : Int} {offs : Array Int} {len : Nat} {x : Int32} (off : Int) (hd : decode cc pc = .ok (.tableswitch dflt a b offs, len)) (h1 : ¬ x.toInt < a) (h2 : ¬ b < x.toInt) (ho : offs[(x.toInt - a).toNat]? = some off) (ht : (pc : Int) + off = (pc' : Int)) (k : sm_S l D cl ats aC B Ts Ns Os cc nL own fr lo ret nm Ex Qf X pc' lv st h) : sm_S l D cl ats aC B Ts Ns Os cc nL own fr lo ret nm Ex Qf X pc lv (vI x :: st) h := sm_go k fun C Q cells slots H locs ls hl w => lv_tableIn C.1 C.2.1 hd h1 h2 ho ht w
theorem sm_args_l (i : Nat) (av : List sm_V) : lv_args i (av.map sm_v) = sm_l (sm_args i av) := by
  induction av generalizing i with
  | nil => rfl
  | cons v r ih =>
    show (i, sm_v v) :: lv_args (if (sm_v v).category = 2 then i + 2 else i + 1) (r.map sm_v) = (i, sm_v v) :: sm_l (sm_args (i + (if sm_c2 v then 2 else 1)) r)
    rw [ih]
    congr 2
    rw [sm_cat']
    cases sm_c2 v <;> rfl
def sm_wide : List sm_V → Nat
  | [] => 0
  | v :: r => (if sm_c2 v then 2 else 1) + sm_wide r
theorem sm_wide_l (av : List sm_V) : (lg_sl (av.map sm_v)).length = sm_wide av := by
  induction av with
  | nil => rfl
  | cons v r ih =>
    have h1 : lg_sl ((v :: r).map sm_v) = (if (sm_v v).category = 2 then [Slot.val (sm_v v), .second] else [.val (sm_v v)]) ++ lg_sl (r.map sm_v) := by simp [lg_sl]
    rw [h1, List.length_append, ih]
    show _ = (if sm_c2 v then 2 else 1) + sm_wide r
    congr 1
    rw [sm_cat']
    cases sm_c2 v <;> rfl
theorem sm_meth {val : Rt → Option sm_V} {y : MethodName} {n : Nat} (av : List sm_V) (hY : sm_Y Ts y cc nL ret n) (hG : ∀ w ∈ Ts, goodWord w = true) (hN : ∀ w ∈ Ns, sm_isN w = true) (hlen : sm_wide av ≤ nL) (hargs : sm_args 0 av = lv)
    (body : sm_S l D cl ats aC B Ts Ns Os cc nL y.cls fr lo ret y.name (fun _ _ _ => True) (sm_Qf val D cl aC B) X 0 lv [] h) : sm_M l D cl ats aC B Ts Ns Os y cc nL ret fr lo val av h X := sm_met hY hG hN (by rw [sm_wide_l]; exact hlen) (by rw [sm_args_l, hargs]) body
-- the law's own script: what it holds, how long it is
def sm_Sc (b L B : Nat) (xs : Nat → Int32) : Room → Array Value → State → Prop := fun R args s => R = room_1 ∧ args = #[Value.ref b] ∧ va_X b L xs s s.heap ∧ b < s.heap.size ∧ B = s.heap.size
theorem sm_sld {b L : Nat} {xs : Nat → Int32} {i : Int32} {X : Int32 → Option (Rt × sm_H)} (hE : Ex = sm_Sc b L B xs) (hd : decode cc pc = .ok (.iaload, 1)) (hp : pc + 1 = pc') (k : ∀ x, sm_S l D cl ats aC B Ts Ns Os cc nL own fr lo ret nm Ex Qf (X x) pc' lv (vI x :: st) h) : sm_S l D cl ats aC B Ts Ns Os cc nL own fr lo ret nm Ex Qf (if i < 0 ∨ L ≤ i.toNatClampNeg then none else sm_let (xs i.toNatClampNeg) X) pc lv (vI i :: vR (some b) :: st) h := by
  subst hp
  by_cases hi : i < 0 ∨ L ≤ i.toNatClampNeg
  · rw [if_pos hi]; exact sm_none
  rw [if_neg hi]
  intro r h' hX
  obtain ⟨a1, a2, w⟩ := k _ r h' hX
  refine ⟨a1, a2, fun {p e R s m args below meth c} C cells slots H locs ls h1 h2 h3 h4 h5 => ?_⟩
  have hC := C.2.2.2.2.2.2.2.2.2.2.2.2.2
  rw [hE] at hC
  obtain ⟨-, -, e1, e2, e3⟩ := hC
  exact va_sld C.1 C.2.1 e1 e2 (Nat.not_le.mpr (by rw [e3]; exact e2)) h4 hi hd (w C cells slots H locs ls h1 h2 h3 h4 h5)
theorem sm_slen {b L : Nat} {xs : Nat → Int32} (hE : Ex = sm_Sc b L B xs) (hd : decode cc pc = .ok (.arraylength, 1)) (hp : pc + 1 = pc') (k : sm_S l D cl ats aC B Ts Ns Os cc nL own fr lo ret nm Ex Qf X pc' lv (vI (Int32.ofNat L) :: st) h) : sm_S l D cl ats aC B Ts Ns Os cc nL own fr lo ret nm Ex Qf X pc lv (vR (some b) :: st) h := by
  subst hp
  intro r h' hX
  obtain ⟨a1, a2, w⟩ := k r h' hX
  refine ⟨a1, a2, fun {p e R s m args below meth c} C cells slots H locs ls h1 h2 h3 h4 h5 => ?_⟩
  have hC := C.2.2.2.2.2.2.2.2.2.2.2.2.2
  rw [hE] at hC
  obtain ⟨-, -, e1, e2, e3⟩ := hC
  exact va_slen C.1 C.2.1 e1 e2 (Nat.not_le.mpr (by rw [e3]; exact e2)) h4 hd (w C cells slots H locs ls h1 h2 h3 h4 h5)
theorem sm_fuel_ex : ∃ n : Nat, n = 100000 := ⟨100000, rfl⟩
noncomputable def sm_fuel : Nat := Classical.choose sm_fuel_ex
theorem sm_fuel_eq : sm_fuel = 100000 := Classical.choose_spec sm_fuel_ex
end SD
