-- the judgement sm_S: the machine, at pc with these locals, this stack and this picture of the heap, does the code X; rows of it, one an instruction
abbrev sm_V : Type := Int32 ⊕ Int64 ⊕ Option Nat
abbrev vI (x : Int32) : sm_V := .inl x
abbrev vJ (x : Int64) : sm_V := .inr (.inl x)
abbrev vR (x : Option Nat) : sm_V := .inr (.inr x)
def sm_v (x : sm_V) : Value := match x with
  | .inl a => .int a
  | .inr (.inl a) => .long a
  | .inr (.inr a) => va_rf a
def sm_c2 (x : sm_V) : Bool := match x with
  | .inr (.inl _) => true
  | _ => false
-- a cell: an array (its kind, how many, what), or an object (its kind, its fields)
abbrev sm_E : Type := (Nat × vp_A) ⊕ (Nat × List Value)
-- how many cells, how many slots were made, what is where
abbrev sm_H : Type := Nat × Nat × (Nat → Option sm_E)
def sm_c (aC : Nat → ClassId) (e : sm_E) : va_E := match e with
  | .inl x => .inl (aC x.1, x.2)
  | .inr y => .inr y
def sm_P (D : va_G) (cl : List vw_C) (aC : Nat → ClassId) (B : Nat) (h : sm_H) (H : Heap) : Prop := H.size = h.1 ∧ B ≤ h.1 ∧ ∀ (a : Nat) (e : sm_E), h.2.2 a = some e → B ≤ a ∧ va_at D cl (a, sm_c aC e) H
def sm_K (D : va_G) (cl : List vw_C) (ats : List FieldType) (aC : Nat → ClassId) (U : State) : Prop := (∀ (c : Nat) (q : vw_C), cl[c]? = some q → u_Kn U q.1 q.2.1 q.2.2 (D.1 c) (D.2 c)) ∧ ∀ (t : Nat) (ty : FieldType), ats[t]? = some ty → ArrOfT U (aC t) ty ∧ va_RA U (aC t) ty
def sm_isN (w : Cond) : Bool := match w with
  | .fieldLinkNest .. => true
  | .methodLinkNest .. => true
  | _ => false
-- what the tables say, and is kept from state to state
def sm_G (D : va_G) (cl : List vw_C) (ats : List FieldType) (aC : Nat → ClassId) (Ns : List Cond) (Os : List String) (U : State) : Prop := sm_K D cl ats aC U ∧ (∀ w ∈ Ns, va_Nw w U) ∧ ∀ C ∈ Os, va_AO C U
theorem sm_K.moved {D : va_G} {cl : List vw_C} {ats : List FieldType} {aC : Nat → ClassId} {u U : State} (hvm : u.vm.Alike U.vm) (h : sm_K D cl ats aC u) : sm_K D cl ats aC U := ⟨fun c q hq => u_Kn_moved hvm (h.1 c q hq), fun t ty ht => ⟨arrOfT_moved hvm (h.2 t ty ht).1, (h.2 t ty ht).2.moved hvm⟩⟩
theorem sm_K.va {D : va_G} {cl : List vw_C} {ats : List FieldType} {aC : Nat → ClassId} {U : State} (h : sm_K D cl ats aC U) {t : Nat} {ty : FieldType} (ht : ats[t]? = some ty) : va_K D cl [(aC t, ty)] U := by
  refine ⟨h.1, fun k q hk => ?_⟩
  match k, hk with
  | 0, hk => cases hk; exact h.2 t ty ht
  | k + 1, hk => simp at hk
theorem sm_K.va0 {D : va_G} {cl : List vw_C} {ats : List FieldType} {aC : Nat → ClassId} {U : State} (h : sm_K D cl ats aC U) : va_K D cl [] U := ⟨h.1, fun k q hk => by simp at hk⟩
theorem sm_Nw_warm {w : Cond} (hn : sm_isN w = true) {s U : State} (hW : s.WarmedH U.vm) (h : va_Nw w s) : va_Nw w U := by
  cases w <;> first | exact va_Nw.warmF hW h | exact va_Nw.warmM hW h | (exact absurd hn (by simp [sm_isN]))
theorem sm_G.warm {D : va_G} {cl : List vw_C} {ats : List FieldType} {aC : Nat → ClassId} {Ns : List Cond} {Os : List String} (hNs : ∀ w ∈ Ns, sm_isN w = true) {s U : State} (hW : s.WarmedH U.vm) (h : sm_G D cl ats aC Ns Os s) : sm_G D cl ats aC Ns Os U := ⟨h.1.moved hW.alike, fun w hw => sm_Nw_warm (hNs w hw) hW (h.2.1 w hw), fun C hC => (h.2.2 C hC).moved hW.alike⟩
theorem sm_onT {w : Cond} (hn : sm_isN w = true) : w.onTables = true := by
  cases w <;> first | rfl | (exact absurd hn (by simp [sm_isN]))
theorem sm_G.same {D : va_G} {cl : List vw_C} {ats : List FieldType} {aC : Nat → ClassId} {Ns : List Cond} {Os : List String} (hNs : ∀ w ∈ Ns, sm_isN w = true) {u U : State} (hv : u.vm = U.vm) (h : sm_G D cl ats aC Ns Os u) : sm_G D cl ats aC Ns Os U := by
  have ha : u.vm.Alike U.vm := by rw [← hv]; exact Vm.Alike.refl u.vm
  exact ⟨h.1.moved ha, fun w hw => va_Nw.same (sm_onT (hNs w hw)) hv (h.2.1 w hw), fun C hC => (h.2.2 C hC).moved ha⟩
theorem sm_P.one {D : va_G} {cl : List vw_C} {aC : Nat → ClassId} {B : Nat} {h : sm_H} {H : Heap} (hP : sm_P D cl aC B h H) {a : Nat} {e : sm_E} (ha : h.2.2 a = some e) : va_P D cl [(a, sm_c aC e)] H := by
  intro k q hk
  match k, hk with
  | 0, hk => cases hk; exact (hP.2.2 a e ha).2
  | k + 1, hk => simp at hk
theorem sm_P.up {D : va_G} {cl : List vw_C} {aC : Nat → ClassId} {B : Nat} {h : sm_H} {H H1 : Heap} (hP : sm_P D cl aC B h H) {a : Nat} {e0 e : sm_E} (ha : h.2.2 a = some e0) (z : H1.size = H.size) (oq : ∀ q : Nat, q ≠ a → H1[q]? = H[q]?) (he : va_at D cl (a, sm_c aC e) H1) : sm_P D cl aC B (h.1, h.2.1, va_up h.2.2 a (some e)) H1 := by
  refine ⟨z.trans hP.1, hP.2.1, fun b e' hb => ?_⟩
  by_cases hba : b = a
  · subst hba
    dsimp only at hb
    rw [va_up_self] at hb
    cases hb
    exact ⟨(hP.2.2 b e0 ha).1, he⟩
  · dsimp only at hb
    rw [va_up_ne _ _ hba] at hb
    exact ⟨(hP.2.2 b e' hb).1, (hP.2.2 b e' hb).2.kept (oq b hba)⟩
theorem sm_P.new {D : va_G} {cl : List vw_C} {aC : Nat → ClassId} {B : Nat} {h : sm_H} {H H1 : Heap} (hP : sm_P D cl aC B h H) {e : sm_E} (n : Nat) (z : H1.size = H.size + 1) (oq : ∀ q : Nat, q < H.size → H1[q]? = H[q]?) (he : va_at D cl (H.size, sm_c aC e) H1) : sm_P D cl aC B (h.1 + 1, n, va_up h.2.2 h.1 (some e)) H1 := by
  obtain ⟨h1, hB, h2⟩ := hP
  refine ⟨by rw [z, h1], Nat.le_succ_of_le hB, fun b e' hb => ?_⟩
  by_cases hba : b = h.1
  · subst hba
    dsimp only at hb
    rw [va_up_self] at hb
    cases hb
    exact ⟨hB, by rw [← h1]; exact he⟩
  · dsimp only at hb
    rw [va_up_ne _ _ hba] at hb
    exact ⟨(h2 b e' hb).1, (h2 b e' hb).2.kept (oq b ((h2 b e' hb).2.lt))⟩
theorem sm_S_new {B : Nat} {H0 H H1 : Heap} {locs : List Loc} (hS : va_S (fun q : Nat => B ≤ q) H0 H locs) (z : H1.size = H.size + 1) (oq : ∀ q : Nat, q < H.size → H1[q]? = H[q]?) : va_S (fun q : Nat => B ≤ q) H0 H1 locs := ⟨Nat.le_trans hS.1 (by omega), fun x h1 h2 => (oq x (Nat.lt_of_lt_of_le h1 hS.1)).trans (hS.2.1 x h1 h2), hS.2.2⟩
-- what the code does to the picture
def sm_let {α β : Type} (x : α) (f : α → β) : β := f x
def sm_get (h : sm_H) (r : Option Nat) (ci k : Nat) : Option Value := match r with
  | none => none
  | some a => match h.2.2 a with
    | some (.inr o) => if o.1 = ci then o.2[k]? else none
    | _ => none
def sm_I (v : Option Value) : Option Int32 := match v with
  | some (.int x) => some x
  | _ => none
def sm_J (v : Option Value) : Option Int64 := match v with
  | some (.long x) => some x
  | _ => none
def sm_R (v : Option Value) : Option (Option Nat) := match v with
  | some (.ref x) => some (some x)
  | some .null => some none
  | _ => none
def sm_put (h : sm_H) (r : Option Nat) (ci k : Nat) (v : Value) : Option sm_H := match r with
  | none => none
  | some a => match h.2.2 a with
    | some (.inr o) => if o.1 = ci ∧ k < o.2.length then some (h.1, h.2.1, va_up h.2.2 a (some (.inr (ci, o.2.set k v)))) else none
    | _ => none
def sm_arr (h : sm_H) (r : Option Nat) (t : Nat) : Option (Nat × vp_A) := match r with
  | none => none
  | some a => match h.2.2 a with
    | some (.inl x) => if x.1 = t then some (a, x.2) else none
    | _ => none
def sm_len (h : sm_H) (r : Option Nat) (t : Nat) : Option Int32 := (sm_arr h r t).map fun x => Int32.ofNat x.2.1
def sm_aI (h : sm_H) (r : Option Nat) (t : Nat) (i : Int32) : Option Int32 := match sm_arr h r t with
  | some (_, n, .inl f) => if i < 0 ∨ n ≤ i.toNatClampNeg then none else some (f i.toNatClampNeg)
  | _ => none
def sm_aJ (h : sm_H) (r : Option Nat) (t : Nat) (i : Int32) : Option Int64 := match sm_arr h r t with
  | some (_, n, .inr (.inl f)) => if i < 0 ∨ n ≤ i.toNatClampNeg then none else some (f i.toNatClampNeg)
  | _ => none
def sm_aR (h : sm_H) (r : Option Nat) (t : Nat) (i : Int32) : Option (Option Nat) := match sm_arr h r t with
  | some (_, n, .inr (.inr (.inr (.inr f)))) => if i < 0 ∨ n ≤ i.toNatClampNeg then none else some (f i.toNatClampNeg)
  | _ => none
def sm_sI (h : sm_H) (r : Option Nat) (t : Nat) (i v : Int32) : Option sm_H := match sm_arr h r t with
  | some (a, n, .inl f) => if i < 0 ∨ n ≤ i.toNatClampNeg then none else some (h.1, h.2.1, va_up h.2.2 a (some (.inl (t, n, .inl (upd f i.toNatClampNeg v)))))
  | _ => none
def sm_sJ (h : sm_H) (r : Option Nat) (t : Nat) (i : Int32) (v : Int64) : Option sm_H := match sm_arr h r t with
  | some (a, n, .inr (.inl f)) => if i < 0 ∨ n ≤ i.toNatClampNeg then none else some (h.1, h.2.1, va_up h.2.2 a (some (.inl (t, n, .inr (.inl (vp_updL f i.toNatClampNeg v))))))
  | _ => none
-- is it null, or an object of this kind?
def sm_ok (h : sm_H) (ci : Nat) (v : Option Nat) : Bool := match v with
  | none => true
  | some b => match h.2.2 b with
    | some (.inr o) => o.1 == ci
    | _ => false
def sm_sR (h : sm_H) (r : Option Nat) (t ci : Nat) (i : Int32) (v : Option Nat) : Option sm_H := match sm_arr h r t with
  | some (a, n, .inr (.inr (.inr (.inr f)))) => if (i < 0 ∨ n ≤ i.toNatClampNeg) ∨ sm_ok h ci v = false then none else some (h.1, h.2.1, va_up h.2.2 a (some (.inl (t, n, .inr (.inr (.inr (.inr (va_up f i.toNatClampNeg v))))))))
  | _ => none
def sm_new (h : sm_H) (ci : Nat) (fs : List Value) : sm_H := (h.1 + 1, h.2.1 + fs.length, va_up h.2.2 h.1 (some (.inr (ci, fs))))
def sm_nwa (h : sm_H) (t n : Nat) (x : (Nat → Int32) ⊕ (Nat → Int64) ⊕ (Nat → UInt32) ⊕ (Nat → UInt64) ⊕ (Nat → Option Nat)) : sm_H := (h.1 + 1, h.2.1 + n, va_up h.2.2 h.1 (some (.inl (t, n, x))))
def sm_obj (h : sm_H) (r : Option Nat) (ci : Nat) : Option Nat := match r with
  | none => none
  | some a => match h.2.2 a with
    | some (.inr o) => if o.1 = ci then some a else none
    | _ => none
theorem sm_get_some {h : sm_H} {r : Option Nat} {ci k : Nat} {v : Value} (e : sm_get h r ci k = some v) : ∃ (a : Nat) (fs : List Value), r = some a ∧ h.2.2 a = some (.inr (ci, fs)) ∧ fs[k]? = some v := by
  unfold sm_get at e
  cases r with
  | none => cases e
  | some a =>
    dsimp only at e
    cases hc : h.2.2 a with
    | none => rw [hc] at e; cases e
    | some x => cases x with
      | inl y => rw [hc] at e; cases e
      | inr o =>
        rw [hc] at e
        dsimp only at e
        by_cases ho : o.1 = ci
        · rw [if_pos ho] at e
          exact ⟨a, o.2, rfl, by rw [hc, ← ho], e⟩
        · rw [if_neg ho] at e; cases e
theorem sm_put_some {h h1 : sm_H} {r : Option Nat} {ci k : Nat} {v : Value} (e : sm_put h r ci k v = some h1) : ∃ (a : Nat) (fs : List Value), r = some a ∧ h.2.2 a = some (.inr (ci, fs)) ∧ k < fs.length ∧ h1 = (h.1, h.2.1, va_up h.2.2 a (some (.inr (ci, fs.set k v)))) := by
  unfold sm_put at e
  cases r with
  | none => cases e
  | some a =>
    dsimp only at e
    cases hc : h.2.2 a with
    | none => rw [hc] at e; cases e
    | some x => cases x with
      | inl y => rw [hc] at e; cases e
      | inr o =>
        rw [hc] at e
        dsimp only at e
        by_cases ho : o.1 = ci ∧ k < o.2.length
        · rw [if_pos ho] at e
          exact ⟨a, o.2, rfl, by rw [hc, ← ho.1], ho.2, (Option.some.inj e).symm⟩
        · rw [if_neg ho] at e; cases e
theorem sm_arr_some {h : sm_H} {r : Option Nat} {t : Nat} {x : Nat × vp_A} (e : sm_arr h r t = some x) : r = some x.1 ∧ h.2.2 x.1 = some (.inl (t, x.2)) := by
  unfold sm_arr at e
  cases r with
  | none => cases e
  | some a =>
    dsimp only at e
    cases hc : h.2.2 a with
    | none => rw [hc] at e; cases e
    | some y => cases y with
      | inr o => rw [hc] at e; cases e
      | inl o =>
        rw [hc] at e
        dsimp only at e
        by_cases ho : o.1 = t
        · rw [if_pos ho] at e
          cases e
          exact ⟨rfl, by rw [hc, ← ho]⟩
        · rw [if_neg ho] at e; cases e
theorem sm_obj_some {h : sm_H} {r : Option Nat} {ci b : Nat} (e : sm_obj h r ci = some b) : r = some b ∧ ∃ fs, h.2.2 b = some (.inr (ci, fs)) := by
  unfold sm_obj at e
  cases r with
  | none => cases e
  | some a =>
    dsimp only at e
    cases hc : h.2.2 a with
    | none => rw [hc] at e; cases e
    | some y => cases y with
      | inl o => rw [hc] at e; cases e
      | inr o =>
        rw [hc] at e
        dsimp only at e
        by_cases ho : o.1 = ci
        · rw [if_pos ho] at e
          cases e
          exact ⟨rfl, o.2, by rw [hc, ← ho]⟩
        · rw [if_neg ho] at e; cases e
theorem sm_aI_some {h : sm_H} {r : Option Nat} {t : Nat} {i v : Int32} (e : sm_aI h r t i = some v) : ∃ (a n : Nat) (f : Nat → Int32), r = some a ∧ h.2.2 a = some (.inl (t, n, .inl f)) ∧ vp_in i n ∧ v = f i.toNatClampNeg := by
  unfold sm_aI at e
  split at e
  · next a n f heq =>
    obtain ⟨h1, h2⟩ := sm_arr_some heq
    split at e
    · cases e
    · next hn => exact ⟨a, n, f, h1, h2, hn, (Option.some.inj e).symm⟩
  · cases e
theorem sm_aJ_some {h : sm_H} {r : Option Nat} {t : Nat} {i : Int32} {v : Int64} (e : sm_aJ h r t i = some v) : ∃ (a n : Nat) (f : Nat → Int64), r = some a ∧ h.2.2 a = some (.inl (t, n, .inr (.inl f))) ∧ vp_in i n ∧ v = f i.toNatClampNeg := by
  unfold sm_aJ at e
  split at e
  · next a n f heq =>
    obtain ⟨h1, h2⟩ := sm_arr_some heq
    split at e
    · cases e
    · next hn => exact ⟨a, n, f, h1, h2, hn, (Option.some.inj e).symm⟩
  · cases e
theorem sm_aR_some {h : sm_H} {r : Option Nat} {t : Nat} {i : Int32} {v : Option Nat} (e : sm_aR h r t i = some v) : ∃ (a n : Nat) (f : Nat → Option Nat), r = some a ∧ h.2.2 a = some (.inl (t, n, .inr (.inr (.inr (.inr f))))) ∧ vp_in i n ∧ v = f i.toNatClampNeg := by
  unfold sm_aR at e
  split at e
  · next a n f heq =>
    obtain ⟨h1, h2⟩ := sm_arr_some heq
    split at e
    · cases e
    · next hn => exact ⟨a, n, f, h1, h2, hn, (Option.some.inj e).symm⟩
  · cases e
theorem sm_sI_some {h h1 : sm_H} {r : Option Nat} {t : Nat} {i v : Int32} (e : sm_sI h r t i v = some h1) : ∃ (a n : Nat) (f : Nat → Int32), r = some a ∧ h.2.2 a = some (.inl (t, n, .inl f)) ∧ vp_in i n ∧ h1 = (h.1, h.2.1, va_up h.2.2 a (some (.inl (t, n, .inl (upd f i.toNatClampNeg v))))) := by
  unfold sm_sI at e
  split at e
  · next a n f heq =>
    obtain ⟨h1, h2⟩ := sm_arr_some heq
    split at e
    · cases e
    · next hn => exact ⟨a, n, f, h1, h2, hn, (Option.some.inj e).symm⟩
  · cases e
theorem sm_sJ_some {h h1 : sm_H} {r : Option Nat} {t : Nat} {i : Int32} {v : Int64} (e : sm_sJ h r t i v = some h1) : ∃ (a n : Nat) (f : Nat → Int64), r = some a ∧ h.2.2 a = some (.inl (t, n, .inr (.inl f))) ∧ vp_in i n ∧ h1 = (h.1, h.2.1, va_up h.2.2 a (some (.inl (t, n, .inr (.inl (vp_updL f i.toNatClampNeg v)))))) := by
  unfold sm_sJ at e
  split at e
  · next a n f heq =>
    obtain ⟨h1, h2⟩ := sm_arr_some heq
    split at e
    · cases e
    · next hn => exact ⟨a, n, f, h1, h2, hn, (Option.some.inj e).symm⟩
  · cases e
theorem sm_sR_some {h h1 : sm_H} {r : Option Nat} {t ci : Nat} {i : Int32} {v : Option Nat} (e : sm_sR h r t ci i v = some h1) : ∃ (a n : Nat) (f : Nat → Option Nat), r = some a ∧ h.2.2 a = some (.inl (t, n, .inr (.inr (.inr (.inr f))))) ∧ vp_in i n ∧ sm_ok h ci v = true ∧ h1 = (h.1, h.2.1, va_up h.2.2 a (some (.inl (t, n, .inr (.inr (.inr (.inr (va_up f i.toNatClampNeg v)))))))) := by
  unfold sm_sR at e
  split at e
  · next a n f heq =>
    obtain ⟨h1, h2⟩ := sm_arr_some heq
    split at e
    · cases e
    · next hn => exact ⟨a, n, f, h1, h2, fun q => hn (Or.inl q), by cases hq : sm_ok h ci v with
        | true => rfl
        | false => exact absurd (Or.inr hq) hn, (Option.some.inj e).symm⟩
  · cases e
theorem sm_len_some {h : sm_H} {r : Option Nat} {t : Nat} {v : Int32} (e : sm_len h r t = some v) : ∃ (a : Nat) (x : vp_A), r = some a ∧ h.2.2 a = some (.inl (t, x)) ∧ v = Int32.ofNat x.1 := by
  unfold sm_len at e
  cases hc : sm_arr h r t with
  | none => rw [hc] at e; cases e
  | some x =>
    rw [hc] at e
    obtain ⟨h1, h2⟩ := sm_arr_some hc
    exact ⟨x.1, x.2, h1, h2, (Option.some.inj e).symm⟩
theorem sm_I_some {v : Option Value} {x : Int32} (e : sm_I v = some x) : v = some (.int x) := by
  unfold sm_I at e
  split at e
  · cases e; rfl
  · cases e
theorem sm_J_some {v : Option Value} {x : Int64} (e : sm_J v = some x) : v = some (.long x) := by
  unfold sm_J at e
  split at e
  · cases e; rfl
  · cases e
theorem sm_R_some {v : Option Value} {x : Option Nat} (e : sm_R v = some x) : v = some (va_rf x) := by
  unfold sm_R at e
  split at e
  · cases e; rfl
  · cases e; rfl
  · cases e
theorem sm_bind {α β : Type} {x : Option α} {f : α → Option β} {y : β} (e : x.bind f = some y) : ∃ z, x = some z ∧ f z = some y := by
  cases x with
  | none => cases e
  | some z => exact ⟨z, rfl, e⟩
def sm_l (lv : List (Nat × sm_V)) : List (Nat × Value) := lv.map (fun q => (q.1, sm_v q.2))
def sm_f1 (i : Nat) (q : Nat × sm_V) : Bool := !(q.1 == i) && !(q.1 + 1 == i && sm_c2 q.2)
def sm_f2 (i : Nat) (q : Nat × sm_V) : Bool := !(q.1 == i) && (!(q.1 == i + 1) && !(q.1 + 1 == i && sm_c2 q.2))
theorem sm_cat (x : sm_V) : ((sm_v x).category == 2) = sm_c2 x := by
  rcases x with a | a | a
  · rfl
  · rfl
  · cases a <;> rfl
theorem sm_fl1 (lv : List (Nat × sm_V)) (i : Nat) : (sm_l lv).filter (fun q => !(q.1 == i) && !(q.1 + 1 == i && q.2.category == 2)) = sm_l (lv.filter (sm_f1 i)) := by
  unfold sm_l
  rw [List.filter_map]
  congr 1
  congr 1
  funext q
  simp only [Function.comp, sm_f1, sm_cat]
theorem sm_fl2 (lv : List (Nat × sm_V)) (i : Nat) : (sm_l lv).filter (fun q => !(q.1 == i) && (!(q.1 == i + 1) && !(q.1 + 1 == i && q.2.category == 2))) = sm_l (lv.filter (sm_f2 i)) := by
  unfold sm_l
  rw [List.filter_map]
  congr 1
  congr 1
  funext q
  simp only [Function.comp, sm_f2, sm_cat]
theorem sm_at {ls : Array Slot} {nL : Nat} {lv : List (Nat × sm_V)} (hl : lv_has ls nL (sm_l lv)) {k i : Nat} {v : sm_V} (hk : lv[k]? = some (i, v)) : ls[i]? = some (.val (sm_v v)) := lv_at hl k (by unfold sm_l; rw [List.getElem?_map, hk]; rfl)
-- the judgement
-- what stays the same through a method
def sm_X (p : Program) (R : Room) (s : State) (m : MethodId) (args : Array Value) (meth : Method) (c : Code) (cc : ByteArray) (nL : Nat) (own : String) (fr lo : Nat) (ret : Option FieldType) (nm : String) (Ex : Room → Array Value → State → Prop) (D : va_G) (cl : List vw_C) (ats : List FieldType) (aC : Nat → ClassId) (Ts Ns : List Cond) (Os : List String) : Prop :=
  p.tables.exec = Jvm.exec ∧ c.code = cc ∧ c.maxLocals = nL ∧ s.vm.findClass own = some m.cls ∧ (∀ w ∈ Ts, w.before args s = true) ∧ sm_G D cl ats aC Ns Os s ∧ meth.locks = false ∧ (∀ w ∈ Ts, goodWord w = true) ∧ (∀ w ∈ Ns, sm_isN w = true) ∧ R.frames = fr ∧ R.locals = lo ∧ meth.sig.returnType = ret ∧ meth.name = nm ∧ Ex R args s
def sm_S {Rt : Type} (l : Launch) (D : va_G) (cl : List vw_C) (ats : List FieldType) (aC : Nat → ClassId) (B : Nat) (Ts Ns : List Cond) (Os : List String) (cc : ByteArray) (nL : Nat) (own : String) (fr lo : Nat) (ret : Option FieldType) (nm : String) (Ex : Room → Array Value → State → Prop) (Qf : State → Array Value → List Frame → Rt → sm_H → Nat → Nat → State → Prop) (X : Option (Rt × sm_H)) (pc : Nat) (lv : List (Nat × sm_V)) (st : List sm_V) (h : sm_H) : Prop :=
  ∀ (r : Rt) (h' : sm_H), X = some (r, h') → h.1 ≤ h'.1 ∧ h.2.1 ≤ h'.2.1 ∧ ∀ {p : Program} {e : Env} {R : Room} {s : State} {m : MethodId} {args : Array Value} {below : List Frame} {meth : Method} {c : Code}, sm_X p R s m args meth c cc nL own fr lo ret nm Ex D cl ats aC Ts Ns Os → ∀ (cells slots : Nat) (H : Heap) (locs : List Loc) (ls : Array Slot), cells + (h'.1 - h.1) ≤ R.cells → slots + (h'.2.1 - h.2.1) ≤ R.slots → sm_P D cl aC B h H → va_S (fun q : Nat => B ≤ q) s.heap H locs → lv_has ls nL (sm_l lv) → W p l e R s m args below meth c H locs cells slots (Qf s args below r h' (cells + (h'.1 - h.1)) (slots + (h'.2.1 - h.2.1))) (F0 m pc ls (st.map sm_v))
section SM
variable {l : Launch} {cc : ByteArray} {nL fr lo : Nat} {own nm : String} {Ex : Room → Array Value → State → Prop} {ret : Option FieldType} {D : va_G} {cl : List vw_C} {ats : List FieldType} {aC : Nat → ClassId} {B : Nat} {Ts Ns : List Cond} {Os : List String} {Rt : Type} {Qf : State → Array Value → List Frame → Rt → sm_H → Nat → Nat → State → Prop} {pc pc' : Nat} {lv lv' : List (Nat × sm_V)} {st st' : List sm_V} {h : sm_H} {X Y : Option (Rt × sm_H)}
theorem sm_none : sm_S l D cl ats aC B Ts Ns Os cc nL own fr lo ret nm Ex Qf none pc lv st h := fun r h' hX => by cases hX
theorem sm_gl (k : sm_S l D cl ats aC B Ts Ns Os cc nL own fr lo ret nm Ex Qf X pc' lv' st' h) (g : ∀ {p : Program} {e : Env} {R : Room} {s : State} {m : MethodId} {args : Array Value} {below : List Frame} {meth : Method} {c : Code}, sm_X p R s m args meth c cc nL own fr lo ret nm Ex D cl ats aC Ts Ns Os → ∀ (Q : State → Prop) (cells slots : Nat) (H : Heap) (locs : List Loc) (ls : Array Slot), cells ≤ R.cells → slots ≤ R.slots → lv_has ls nL (sm_l lv) → (∀ ls' : Array Slot, lv_has ls' nL (sm_l lv') → W p l e R s m args below meth c H locs cells slots Q (F0 m pc' ls' (st'.map sm_v))) → W p l e R s m args below meth c H locs cells slots Q (F0 m pc ls (st.map sm_v))) : sm_S l D cl ats aC B Ts Ns Os cc nL own fr lo ret nm Ex Qf X pc lv st h := by
  intro r h' hX
  obtain ⟨a, b, w⟩ := k r h' hX
  exact ⟨a, b, fun C cells slots H locs ls h1 h2 h3 h4 h5 => g C _ cells slots H locs ls (by omega) (by omega) h5 (fun ls' h6 => w C cells slots H locs ls' h1 h2 h3 h4 h6)⟩
theorem sm_go (k : sm_S l D cl ats aC B Ts Ns Os cc nL own fr lo ret nm Ex Qf X pc' lv st' h) (g : ∀ {p : Program} {e : Env} {R : Room} {s : State} {m : MethodId} {args : Array Value} {below : List Frame} {meth : Method} {c : Code}, sm_X p R s m args meth c cc nL own fr lo ret nm Ex D cl ats aC Ts Ns Os → ∀ (Q : State → Prop) (cells slots : Nat) (H : Heap) (locs : List Loc) (ls : Array Slot), lv_has ls nL (sm_l lv) → W p l e R s m args below meth c H locs cells slots Q (F0 m pc' ls (st'.map sm_v)) → W p l e R s m args below meth c H locs cells slots Q (F0 m pc ls (st.map sm_v))) : sm_S l D cl ats aC B Ts Ns Os cc nL own fr lo ret nm Ex Qf X pc lv st h := sm_gl k fun C Q cells slots H locs ls _ _ hl w => g C Q cells slots H locs ls hl (w ls hl)
-- fewer locals, in any order
theorem sm_lo (ks : List Nat) (hk : ks.filterMap (fun k => lv[k]?) = lv') (k : sm_S l D cl ats aC B Ts Ns Os cc nL own fr lo ret nm Ex Qf X pc lv' st h) : sm_S l D cl ats aC B Ts Ns Os cc nL own fr lo ret nm Ex Qf X pc lv st h := by
  refine sm_gl k fun C Q cells slots H locs ls _ _ hl w => w ls ?_
  refine lv_sub hl ks ?_
  subst hk
  unfold lv_pick sm_l
  rw [List.map_filterMap]
  congr 1
  funext i
  rw [List.getElem?_map]
theorem sm_letR {α : Type} {x : α} {f : α → Option (Rt × sm_H)} {st : α → List sm_V} (k : ∀ y, sm_S l D cl ats aC B Ts Ns Os cc nL own fr lo ret nm Ex Qf (f y) pc lv (st y) h) : sm_S l D cl ats aC B Ts Ns Os cc nL own fr lo ret nm Ex Qf (sm_let x f) pc lv (st x) h := k x
theorem sm_eqX (hX : X = Y) (k : sm_S l D cl ats aC B Ts Ns Os cc nL own fr lo ret nm Ex Qf Y pc lv st h) : sm_S l D cl ats aC B Ts Ns Os cc nL own fr lo ret nm Ex Qf X pc lv st h := hX ▸ k
theorem sm_iconst  {n : Int} {v : Int32} (hd : decode cc pc = .ok (.iconst n, 1)) (hp : pc + 1 = pc') (hv : Int32.ofInt n = v) (k : sm_S l D cl ats aC B Ts Ns Os cc nL own fr lo ret nm Ex Qf X pc' lv (vI v :: st) h) : sm_S l D cl ats aC B Ts Ns Os cc nL own fr lo ret nm Ex Qf X pc lv (st) h := by
  subst hp
  exact sm_go k fun C Q cells slots H locs ls hl w => lv_iconst (v := v) C.1 C.2.1 hd hv w
theorem sm_bipush  {n : Int} {v : Int32} (hd : decode cc pc = .ok (.bipush n, 2)) (hp : pc + 2 = pc') (hv : (Int8.ofInt n).toInt32 = v) (k : sm_S l D cl ats aC B Ts Ns Os cc nL own fr lo ret nm Ex Qf X pc' lv (vI v :: st) h) : sm_S l D cl ats aC B Ts Ns Os cc nL own fr lo ret nm Ex Qf X pc lv (st) h := by
  subst hp
  exact sm_go k fun C Q cells slots H locs ls hl w => lv_bipush (v := v) C.1 C.2.1 hd hv w
theorem sm_sipush  {n : Int} {v : Int32} (hd : decode cc pc = .ok (.sipush n, 3)) (hp : pc + 3 = pc') (hv : (Int16.ofInt n).toInt32 = v) (k : sm_S l D cl ats aC B Ts Ns Os cc nL own fr lo ret nm Ex Qf X pc' lv (vI v :: st) h) : sm_S l D cl ats aC B Ts Ns Os cc nL own fr lo ret nm Ex Qf X pc lv (st) h := by
  subst hp
  exact sm_go k fun C Q cells slots H locs ls hl w => lv_sipush (v := v) C.1 C.2.1 hd hv w
theorem sm_lconst  {n : Fin 2} {v : Int64} (hd : decode cc pc = .ok (.lconst n, 1)) (hp : pc + 1 = pc') (hv : Int64.ofNat (n : Nat) = v) (k : sm_S l D cl ats aC B Ts Ns Os cc nL own fr lo ret nm Ex Qf X pc' lv (vJ v :: st) h) : sm_S l D cl ats aC B Ts Ns Os cc nL own fr lo ret nm Ex Qf X pc lv (st) h := by
  subst hp
  exact sm_go k fun C Q cells slots H locs ls hl w => lv_lconst (v := v) C.1 C.2.1 hd hv w
theorem sm_null   (hd : decode cc pc = .ok (.aconst_null, 1)) (hp : pc + 1 = pc')  (k : sm_S l D cl ats aC B Ts Ns Os cc nL own fr lo ret nm Ex Qf X pc' lv (vR none :: st) h) : sm_S l D cl ats aC B Ts Ns Os cc nL own fr lo ret nm Ex Qf X pc lv (st) h := by
  subst hp
  exact sm_go k fun C Q cells slots H locs ls hl w => lv_null C.1 C.2.1 hd w
theorem sm_ldc2  {index : Nat} {v : Int64} (hd : decode cc pc = .ok (.ldc2_w index, 3)) (hp : pc + 3 = pc') (hc : Jvm.Cond.constantLong own index v ∈ Ts) (k : sm_S l D cl ats aC B Ts Ns Os cc nL own fr lo ret nm Ex Qf X pc' lv (vJ v :: st) h) : sm_S l D cl ats aC B Ts Ns Os cc nL own fr lo ret nm Ex Qf X pc lv (st) h := by
  subst hp
  exact sm_go k fun C Q cells slots H locs ls hl w => lv_ldc2 C.1 C.2.1 C.2.2.2.1 (C.2.2.2.2.1 _ hc) hd w
theorem sm_ldc  {index : Nat} {v : Int32} (hd : decode cc pc = .ok (.ldc index, 2)) (hp : pc + 2 = pc') (hc : Jvm.Cond.constant own index v ∈ Ts) (k : sm_S l D cl ats aC B Ts Ns Os cc nL own fr lo ret nm Ex Qf X pc' lv (vI v :: st) h) : sm_S l D cl ats aC B Ts Ns Os cc nL own fr lo ret nm Ex Qf X pc lv (st) h := by
  subst hp
  exact sm_go k fun C Q cells slots H locs ls hl w => lv_ldc C.1 C.2.1 C.2.2.2.1 (C.2.2.2.2.1 _ hc) hd w
theorem sm_iload_n  {k : Fin 4} {i j : Nat} {x : Int32} (hd : decode cc pc = .ok (.iload_n k, 1)) (hp : pc + 1 = pc') (hi : (k : Nat) = i) (hj : lv[j]? = some (i, vI x)) (k : sm_S l D cl ats aC B Ts Ns Os cc nL own fr lo ret nm Ex Qf X pc' lv (vI x :: st) h) : sm_S l D cl ats aC B Ts Ns Os cc nL own fr lo ret nm Ex Qf X pc lv (st) h := by
  subst hp
  exact sm_go k fun C Q cells slots H locs ls hl w => lv_iload_n C.1 C.2.1 hd hi (sm_at hl hj) w
theorem sm_iload  {i j : Nat} {x : Int32} (hd : decode cc pc = .ok (.iload i, 2)) (hp : pc + 2 = pc') (hj : lv[j]? = some (i, vI x)) (k : sm_S l D cl ats aC B Ts Ns Os cc nL own fr lo ret nm Ex Qf X pc' lv (vI x :: st) h) : sm_S l D cl ats aC B Ts Ns Os cc nL own fr lo ret nm Ex Qf X pc lv (st) h := by
  subst hp
  exact sm_go k fun C Q cells slots H locs ls hl w => lv_iload C.1 C.2.1 hd (sm_at hl hj) w
theorem sm_lload_n  {k : Fin 4} {i j : Nat} {x : Int64} (hd : decode cc pc = .ok (.lload_n k, 1)) (hp : pc + 1 = pc') (hi : (k : Nat) = i) (hj : lv[j]? = some (i, vJ x)) (k : sm_S l D cl ats aC B Ts Ns Os cc nL own fr lo ret nm Ex Qf X pc' lv (vJ x :: st) h) : sm_S l D cl ats aC B Ts Ns Os cc nL own fr lo ret nm Ex Qf X pc lv (st) h := by
  subst hp
  exact sm_go k fun C Q cells slots H locs ls hl w => lv_lload_n C.1 C.2.1 hd hi (sm_at hl hj) w
theorem sm_lload  {i j : Nat} {x : Int64} (hd : decode cc pc = .ok (.lload i, 2)) (hp : pc + 2 = pc') (hj : lv[j]? = some (i, vJ x)) (k : sm_S l D cl ats aC B Ts Ns Os cc nL own fr lo ret nm Ex Qf X pc' lv (vJ x :: st) h) : sm_S l D cl ats aC B Ts Ns Os cc nL own fr lo ret nm Ex Qf X pc lv (st) h := by
  subst hp
  exact sm_go k fun C Q cells slots H locs ls hl w => lv_lload C.1 C.2.1 hd (sm_at hl hj) w
theorem sm_aload_n  {k : Fin 4} {i j : Nat} {x : Option Nat} (hd : decode cc pc = .ok (.aload_n k, 1)) (hp : pc + 1 = pc') (hi : (k : Nat) = i) (hj : lv[j]? = some (i, vR x)) (k : sm_S l D cl ats aC B Ts Ns Os cc nL own fr lo ret nm Ex Qf X pc' lv (vR x :: st) h) : sm_S l D cl ats aC B Ts Ns Os cc nL own fr lo ret nm Ex Qf X pc lv st h := by
  subst hp
  refine sm_go k fun C Q cells slots H locs ls hl w => ?_
  have h9 := sm_at hl hj
  cases x with
  | none => exact lv_aload_nN C.1 C.2.1 hd hi h9 w
  | some a => exact lv_aload_n C.1 C.2.1 hd hi h9 w
theorem sm_aload  {i j : Nat} {x : Option Nat} (hd : decode cc pc = .ok (.aload i, 2)) (hp : pc + 2 = pc') (hj : lv[j]? = some (i, vR x)) (k : sm_S l D cl ats aC B Ts Ns Os cc nL own fr lo ret nm Ex Qf X pc' lv (vR x :: st) h) : sm_S l D cl ats aC B Ts Ns Os cc nL own fr lo ret nm Ex Qf X pc lv st h := by
  subst hp
  refine sm_go k fun C Q cells slots H locs ls hl w => ?_
  have h9 := sm_at hl hj
  cases x with
  | none => exact lv_aloadN C.1 C.2.1 hd h9 w
  | some a => exact lv_aload C.1 C.2.1 hd h9 w
theorem sm_istore_n  {k : Fin 4} {i : Nat} {x : Int32} (hd : decode cc pc = .ok (.istore_n k, 1)) (hp : pc + 1 = pc') (hi : (k : Nat) = i) (hn : i < nL) (hl : (i, vI x) :: lv.filter (sm_f1 i) = lv') (k : sm_S l D cl ats aC B Ts Ns Os cc nL own fr lo ret nm Ex Qf X pc' lv' st h) : sm_S l D cl ats aC B Ts Ns Os cc nL own fr lo ret nm Ex Qf X pc lv (vI x :: st) h := by
  subst hp
  subst hl
  refine sm_gl k fun C Q cells slots H locs ls _ _ h9 w => ?_
  exact lv_istore_n C.1 C.2.1 hd hi h9 hn rfl (fun ls' h8 => w ls' (by rw [sm_fl1] at h8; exact h8))
theorem sm_istore  {i : Nat} {x : Int32} (hd : decode cc pc = .ok (.istore i, 2)) (hp : pc + 2 = pc') (hn : i < nL) (hl : (i, vI x) :: lv.filter (sm_f1 i) = lv') (k : sm_S l D cl ats aC B Ts Ns Os cc nL own fr lo ret nm Ex Qf X pc' lv' st h) : sm_S l D cl ats aC B Ts Ns Os cc nL own fr lo ret nm Ex Qf X pc lv (vI x :: st) h := by
  subst hp
  subst hl
  refine sm_gl k fun C Q cells slots H locs ls _ _ h9 w => ?_
  exact lv_istore C.1 C.2.1 hd h9 hn rfl (fun ls' h8 => w ls' (by rw [sm_fl1] at h8; exact h8))
theorem sm_lstore_n  {k : Fin 4} {i : Nat} {x : Int64} (hd : decode cc pc = .ok (.lstore_n k, 1)) (hp : pc + 1 = pc') (hi : (k : Nat) = i) (hn : i + 1 < nL) (hl : (i, vJ x) :: lv.filter (sm_f2 i) = lv') (k : sm_S l D cl ats aC B Ts Ns Os cc nL own fr lo ret nm Ex Qf X pc' lv' st h) : sm_S l D cl ats aC B Ts Ns Os cc nL own fr lo ret nm Ex Qf X pc lv (vJ x :: st) h := by
  subst hp
  subst hl
  refine sm_gl k fun C Q cells slots H locs ls _ _ h9 w => ?_
  exact lv_lstore_n C.1 C.2.1 hd hi h9 hn rfl (fun ls' h8 => w ls' (by rw [sm_fl2] at h8; exact h8))
theorem sm_lstore  {i : Nat} {x : Int64} (hd : decode cc pc = .ok (.lstore i, 2)) (hp : pc + 2 = pc') (hn : i + 1 < nL) (hl : (i, vJ x) :: lv.filter (sm_f2 i) = lv') (k : sm_S l D cl ats aC B Ts Ns Os cc nL own fr lo ret nm Ex Qf X pc' lv' st h) : sm_S l D cl ats aC B Ts Ns Os cc nL own fr lo ret nm Ex Qf X pc lv (vJ x :: st) h := by
  subst hp
  subst hl
  refine sm_gl k fun C Q cells slots H locs ls _ _ h9 w => ?_
  exact lv_lstore C.1 C.2.1 hd h9 hn rfl (fun ls' h8 => w ls' (by rw [sm_fl2] at h8; exact h8))
theorem sm_astore_n  {k : Fin 4} {i : Nat} {x : Option Nat} (hd : decode cc pc = .ok (.astore_n k, 1)) (hp : pc + 1 = pc') (hi : (k : Nat) = i) (hn : i < nL) (hl : (i, vR x) :: lv.filter (sm_f1 i) = lv') (k : sm_S l D cl ats aC B Ts Ns Os cc nL own fr lo ret nm Ex Qf X pc' lv' st h) : sm_S l D cl ats aC B Ts Ns Os cc nL own fr lo ret nm Ex Qf X pc lv (vR x :: st) h := by
  subst hp
  subst hl
  refine sm_gl k fun C Q cells slots H locs ls _ _ h9 w => ?_
  cases x with
  | none => exact lv_astore_nN C.1 C.2.1 hd hi h9 hn rfl (fun ls' h8 => w ls' (by rw [sm_fl1] at h8; exact h8))
  | some a => exact lv_astore_n C.1 C.2.1 hd hi h9 hn rfl (fun ls' h8 => w ls' (by rw [sm_fl1] at h8; exact h8))
theorem sm_astore  {i : Nat} {x : Option Nat} (hd : decode cc pc = .ok (.astore i, 2)) (hp : pc + 2 = pc') (hn : i < nL) (hl : (i, vR x) :: lv.filter (sm_f1 i) = lv') (k : sm_S l D cl ats aC B Ts Ns Os cc nL own fr lo ret nm Ex Qf X pc' lv' st h) : sm_S l D cl ats aC B Ts Ns Os cc nL own fr lo ret nm Ex Qf X pc lv (vR x :: st) h := by
  subst hp
  subst hl
  refine sm_gl k fun C Q cells slots H locs ls _ _ h9 w => ?_
  cases x with
  | none => exact lv_astoreN C.1 C.2.1 hd h9 hn rfl (fun ls' h8 => w ls' (by rw [sm_fl1] at h8; exact h8))
  | some a => exact lv_astore C.1 C.2.1 hd h9 hn rfl (fun ls' h8 => w ls' (by rw [sm_fl1] at h8; exact h8))
theorem sm_iinc  {i j : Nat} {n : Int} {x v : Int32} (hd : decode cc pc = .ok (.iinc i n, 3)) (hp : pc + 3 = pc') (hj : lv[j]? = some (i, vI x)) (hv : x + Int32.ofInt n = v) (hn : i < nL) (hl : (i, vI v) :: lv.filter (sm_f1 i) = lv') (k : sm_S l D cl ats aC B Ts Ns Os cc nL own fr lo ret nm Ex Qf X pc' lv' st h) : sm_S l D cl ats aC B Ts Ns Os cc nL own fr lo ret nm Ex Qf X pc lv st h := by
  subst hp
  subst hl
  refine sm_gl k fun C Q cells slots H locs ls _ _ h9 w => ?_
  exact lv_iinc C.1 C.2.1 hd h9 (k := j) (by unfold sm_l; rw [List.getElem?_map, hj]; rfl) hv hn rfl (fun ls' h8 => w ls' (by rw [sm_fl1] at h8; exact h8))
theorem sm_iadd  {x y : Int32} (hd : decode cc pc = .ok (.iadd, 1)) (hp : pc + 1 = pc')  (k : sm_S l D cl ats aC B Ts Ns Os cc nL own fr lo ret nm Ex Qf X pc' lv (vI (x + y) :: st) h) : sm_S l D cl ats aC B Ts Ns Os cc nL own fr lo ret nm Ex Qf X pc lv (vI y :: vI x :: st) h := by
  subst hp
  exact sm_go k fun C Q cells slots H locs ls hl w => lv_iadd C.1 C.2.1 hd w
theorem sm_isub  {x y : Int32} (hd : decode cc pc = .ok (.isub, 1)) (hp : pc + 1 = pc')  (k : sm_S l D cl ats aC B Ts Ns Os cc nL own fr lo ret nm Ex Qf X pc' lv (vI (x - y) :: st) h) : sm_S l D cl ats aC B Ts Ns Os cc nL own fr lo ret nm Ex Qf X pc lv (vI y :: vI x :: st) h := by
  subst hp
  exact sm_go k fun C Q cells slots H locs ls hl w => lv_isub C.1 C.2.1 hd w
theorem sm_imul  {x y : Int32} (hd : decode cc pc = .ok (.imul, 1)) (hp : pc + 1 = pc')  (k : sm_S l D cl ats aC B Ts Ns Os cc nL own fr lo ret nm Ex Qf X pc' lv (vI (x * y) :: st) h) : sm_S l D cl ats aC B Ts Ns Os cc nL own fr lo ret nm Ex Qf X pc lv (vI y :: vI x :: st) h := by
  subst hp
  exact sm_go k fun C Q cells slots H locs ls hl w => lv_imul C.1 C.2.1 hd w
theorem sm_iand  {x y : Int32} (hd : decode cc pc = .ok (.iand, 1)) (hp : pc + 1 = pc')  (k : sm_S l D cl ats aC B Ts Ns Os cc nL own fr lo ret nm Ex Qf X pc' lv (vI (x &&& y) :: st) h) : sm_S l D cl ats aC B Ts Ns Os cc nL own fr lo ret nm Ex Qf X pc lv (vI y :: vI x :: st) h := by
  subst hp
  exact sm_go k fun C Q cells slots H locs ls hl w => lv_iand C.1 C.2.1 hd w
theorem sm_ior  {x y : Int32} (hd : decode cc pc = .ok (.ior, 1)) (hp : pc + 1 = pc')  (k : sm_S l D cl ats aC B Ts Ns Os cc nL own fr lo ret nm Ex Qf X pc' lv (vI (x ||| y) :: st) h) : sm_S l D cl ats aC B Ts Ns Os cc nL own fr lo ret nm Ex Qf X pc lv (vI y :: vI x :: st) h := by
  subst hp
  exact sm_go k fun C Q cells slots H locs ls hl w => lv_ior C.1 C.2.1 hd w
theorem sm_ixor  {x y : Int32} (hd : decode cc pc = .ok (.ixor, 1)) (hp : pc + 1 = pc')  (k : sm_S l D cl ats aC B Ts Ns Os cc nL own fr lo ret nm Ex Qf X pc' lv (vI (x ^^^ y) :: st) h) : sm_S l D cl ats aC B Ts Ns Os cc nL own fr lo ret nm Ex Qf X pc lv (vI y :: vI x :: st) h := by
  subst hp
  exact sm_go k fun C Q cells slots H locs ls hl w => lv_ixor C.1 C.2.1 hd w
theorem sm_ishl  {x y : Int32} (hd : decode cc pc = .ok (.ishl, 1)) (hp : pc + 1 = pc')  (k : sm_S l D cl ats aC B Ts Ns Os cc nL own fr lo ret nm Ex Qf X pc' lv (vI (x <<< (y &&& 31)) :: st) h) : sm_S l D cl ats aC B Ts Ns Os cc nL own fr lo ret nm Ex Qf X pc lv (vI y :: vI x :: st) h := by
  subst hp
  exact sm_go k fun C Q cells slots H locs ls hl w => lv_ishl C.1 C.2.1 hd w
theorem sm_ishr  {x y : Int32} (hd : decode cc pc = .ok (.ishr, 1)) (hp : pc + 1 = pc')  (k : sm_S l D cl ats aC B Ts Ns Os cc nL own fr lo ret nm Ex Qf X pc' lv (vI (x >>> (y &&& 31)) :: st) h) : sm_S l D cl ats aC B Ts Ns Os cc nL own fr lo ret nm Ex Qf X pc lv (vI y :: vI x :: st) h := by
  subst hp
  exact sm_go k fun C Q cells slots H locs ls hl w => lv_ishr C.1 C.2.1 hd w
theorem sm_ladd  {x y : Int64} (hd : decode cc pc = .ok (.ladd, 1)) (hp : pc + 1 = pc')  (k : sm_S l D cl ats aC B Ts Ns Os cc nL own fr lo ret nm Ex Qf X pc' lv (vJ (x + y) :: st) h) : sm_S l D cl ats aC B Ts Ns Os cc nL own fr lo ret nm Ex Qf X pc lv (vJ y :: vJ x :: st) h := by
  subst hp
  exact sm_go k fun C Q cells slots H locs ls hl w => lv_ladd C.1 C.2.1 hd w
theorem sm_lsub  {x y : Int64} (hd : decode cc pc = .ok (.lsub, 1)) (hp : pc + 1 = pc')  (k : sm_S l D cl ats aC B Ts Ns Os cc nL own fr lo ret nm Ex Qf X pc' lv (vJ (x - y) :: st) h) : sm_S l D cl ats aC B Ts Ns Os cc nL own fr lo ret nm Ex Qf X pc lv (vJ y :: vJ x :: st) h := by
  subst hp
  exact sm_go k fun C Q cells slots H locs ls hl w => lv_lsub C.1 C.2.1 hd w
theorem sm_lmul  {x y : Int64} (hd : decode cc pc = .ok (.lmul, 1)) (hp : pc + 1 = pc')  (k : sm_S l D cl ats aC B Ts Ns Os cc nL own fr lo ret nm Ex Qf X pc' lv (vJ (x * y) :: st) h) : sm_S l D cl ats aC B Ts Ns Os cc nL own fr lo ret nm Ex Qf X pc lv (vJ y :: vJ x :: st) h := by
  subst hp
  exact sm_go k fun C Q cells slots H locs ls hl w => lv_lmul C.1 C.2.1 hd w
theorem sm_land  {x y : Int64} (hd : decode cc pc = .ok (.land, 1)) (hp : pc + 1 = pc')  (k : sm_S l D cl ats aC B Ts Ns Os cc nL own fr lo ret nm Ex Qf X pc' lv (vJ (x &&& y) :: st) h) : sm_S l D cl ats aC B Ts Ns Os cc nL own fr lo ret nm Ex Qf X pc lv (vJ y :: vJ x :: st) h := by
  subst hp
  exact sm_go k fun C Q cells slots H locs ls hl w => lv_land C.1 C.2.1 hd w
theorem sm_lor  {x y : Int64} (hd : decode cc pc = .ok (.lor, 1)) (hp : pc + 1 = pc')  (k : sm_S l D cl ats aC B Ts Ns Os cc nL own fr lo ret nm Ex Qf X pc' lv (vJ (x ||| y) :: st) h) : sm_S l D cl ats aC B Ts Ns Os cc nL own fr lo ret nm Ex Qf X pc lv (vJ y :: vJ x :: st) h := by
  subst hp
  exact sm_go k fun C Q cells slots H locs ls hl w => lv_lor C.1 C.2.1 hd w
theorem sm_lxor  {x y : Int64} (hd : decode cc pc = .ok (.lxor, 1)) (hp : pc + 1 = pc')  (k : sm_S l D cl ats aC B Ts Ns Os cc nL own fr lo ret nm Ex Qf X pc' lv (vJ (x ^^^ y) :: st) h) : sm_S l D cl ats aC B Ts Ns Os cc nL own fr lo ret nm Ex Qf X pc lv (vJ y :: vJ x :: st) h := by
  subst hp
  exact sm_go k fun C Q cells slots H locs ls hl w => lv_lxor C.1 C.2.1 hd w
theorem sm_ineg  {x : Int32} (hd : decode cc pc = .ok (.ineg, 1)) (hp : pc + 1 = pc')  (k : sm_S l D cl ats aC B Ts Ns Os cc nL own fr lo ret nm Ex Qf X pc' lv (vI (-x) :: st) h) : sm_S l D cl ats aC B Ts Ns Os cc nL own fr lo ret nm Ex Qf X pc lv (vI x :: st) h := by
  subst hp
  exact sm_go k fun C Q cells slots H locs ls hl w => lv_ineg C.1 C.2.1 hd w
theorem sm_lneg  {x : Int64} (hd : decode cc pc = .ok (.lneg, 1)) (hp : pc + 1 = pc')  (k : sm_S l D cl ats aC B Ts Ns Os cc nL own fr lo ret nm Ex Qf X pc' lv (vJ (-x) :: st) h) : sm_S l D cl ats aC B Ts Ns Os cc nL own fr lo ret nm Ex Qf X pc lv (vJ x :: st) h := by
  subst hp
  exact sm_go k fun C Q cells slots H locs ls hl w => lv_lneg C.1 C.2.1 hd w
theorem sm_i2l  {x : Int32} (hd : decode cc pc = .ok (.i2l, 1)) (hp : pc + 1 = pc')  (k : sm_S l D cl ats aC B Ts Ns Os cc nL own fr lo ret nm Ex Qf X pc' lv (vJ x.toInt64 :: st) h) : sm_S l D cl ats aC B Ts Ns Os cc nL own fr lo ret nm Ex Qf X pc lv (vI x :: st) h := by
  subst hp
  exact sm_go k fun C Q cells slots H locs ls hl w => lv_i2l C.1 C.2.1 hd rfl w
theorem sm_l2i  {x : Int64} (hd : decode cc pc = .ok (.l2i, 1)) (hp : pc + 1 = pc')  (k : sm_S l D cl ats aC B Ts Ns Os cc nL own fr lo ret nm Ex Qf X pc' lv (vI x.toInt32 :: st) h) : sm_S l D cl ats aC B Ts Ns Os cc nL own fr lo ret nm Ex Qf X pc lv (vJ x :: st) h := by
  subst hp
  exact sm_go k fun C Q cells slots H locs ls hl w => lv_l2i C.1 C.2.1 hd rfl w
theorem sm_i2b  {x : Int32} (hd : decode cc pc = .ok (.i2b, 1)) (hp : pc + 1 = pc')  (k : sm_S l D cl ats aC B Ts Ns Os cc nL own fr lo ret nm Ex Qf X pc' lv (vI x.toInt8.toInt32 :: st) h) : sm_S l D cl ats aC B Ts Ns Os cc nL own fr lo ret nm Ex Qf X pc lv (vI x :: st) h := by
  subst hp
  exact sm_go k fun C Q cells slots H locs ls hl w => lv_i2b C.1 C.2.1 hd rfl w
theorem sm_iushr  {x y : Int32} (hd : decode cc pc = .ok (.iushr, 1)) (hp : pc + 1 = pc')  (k : sm_S l D cl ats aC B Ts Ns Os cc nL own fr lo ret nm Ex Qf X pc' lv (vI (x.toUInt32 >>> (y.toUInt32 &&& Int32.toUInt32 31)).toInt32 :: st) h) : sm_S l D cl ats aC B Ts Ns Os cc nL own fr lo ret nm Ex Qf X pc lv (vI y :: vI x :: st) h := by
  subst hp
  exact sm_go k fun C Q cells slots H locs ls hl w => lv_iushr C.1 C.2.1 hd rfl w
theorem sm_lushr  {x : Int64} {y : Int32} (hd : decode cc pc = .ok (.lushr, 1)) (hp : pc + 1 = pc')  (k : sm_S l D cl ats aC B Ts Ns Os cc nL own fr lo ret nm Ex Qf X pc' lv (vJ (x.toUInt64 >>> (y.toInt64.toUInt64 &&& Int64.toUInt64 63)).toInt64 :: st) h) : sm_S l D cl ats aC B Ts Ns Os cc nL own fr lo ret nm Ex Qf X pc lv (vI y :: vJ x :: st) h := by
  subst hp
  exact sm_go k fun C Q cells slots H locs ls hl w => lv_lushr C.1 C.2.1 hd rfl w
theorem sm_lshl  {x : Int64} {y : Int32} (hd : decode cc pc = .ok (.lshl, 1)) (hp : pc + 1 = pc')  (k : sm_S l D cl ats aC B Ts Ns Os cc nL own fr lo ret nm Ex Qf X pc' lv (vJ (x <<< (y.toInt64 &&& 63)) :: st) h) : sm_S l D cl ats aC B Ts Ns Os cc nL own fr lo ret nm Ex Qf X pc lv (vI y :: vJ x :: st) h := by
  subst hp
  exact sm_go k fun C Q cells slots H locs ls hl w => lv_lshl C.1 C.2.1 hd rfl w
theorem sm_lshr  {x : Int64} {y : Int32} (hd : decode cc pc = .ok (.lshr, 1)) (hp : pc + 1 = pc')  (k : sm_S l D cl ats aC B Ts Ns Os cc nL own fr lo ret nm Ex Qf X pc' lv (vJ (x >>> (y.toInt64 &&& 63)) :: st) h) : sm_S l D cl ats aC B Ts Ns Os cc nL own fr lo ret nm Ex Qf X pc lv (vI y :: vJ x :: st) h := by
  subst hp
  exact sm_go k fun C Q cells slots H locs ls hl w => lv_lshr C.1 C.2.1 hd rfl w
theorem sm_lcmp  {x y : Int64} (hd : decode cc pc = .ok (.lcmp, 1)) (hp : pc + 1 = pc')  (k : sm_S l D cl ats aC B Ts Ns Os cc nL own fr lo ret nm Ex Qf X pc' lv (vI (lg_cmp x y) :: st) h) : sm_S l D cl ats aC B Ts Ns Os cc nL own fr lo ret nm Ex Qf X pc lv (vJ y :: vJ x :: st) h := by
  subst hp
  exact sm_go k fun C Q cells slots H locs ls hl w => W.lcmp C.1 C.2.1 hd w
theorem sm_idiv  {x y : Int32} (hd : decode cc pc = .ok (.idiv, 1)) (hp : pc + 1 = pc') (k : sm_S l D cl ats aC B Ts Ns Os cc nL own fr lo ret nm Ex Qf X pc' lv (vI (x / y) :: st) h) : sm_S l D cl ats aC B Ts Ns Os cc nL own fr lo ret nm Ex Qf (if y = 0 then none else X) pc lv (vI y :: vI x :: st) h := by
  subst hp
  by_cases hy : y = 0
  · rw [if_pos hy]; exact sm_none
  · rw [if_neg hy]; exact sm_go k fun C Q cells slots H locs ls hl w => lv_idiv C.1 C.2.1 hd hy w
theorem sm_irem  {x y : Int32} (hd : decode cc pc = .ok (.irem, 1)) (hp : pc + 1 = pc') (k : sm_S l D cl ats aC B Ts Ns Os cc nL own fr lo ret nm Ex Qf X pc' lv (vI (x - x / y * y) :: st) h) : sm_S l D cl ats aC B Ts Ns Os cc nL own fr lo ret nm Ex Qf (if y = 0 then none else X) pc lv (vI y :: vI x :: st) h := by
  subst hp
  by_cases hy : y = 0
  · rw [if_pos hy]; exact sm_none
  · rw [if_neg hy]; exact sm_go k fun C Q cells slots H locs ls hl w => lv_irem C.1 C.2.1 hd hy w
theorem sm_ldiv  {x y : Int64} (hd : decode cc pc = .ok (.ldiv, 1)) (hp : pc + 1 = pc') (k : sm_S l D cl ats aC B Ts Ns Os cc nL own fr lo ret nm Ex Qf X pc' lv (vJ (x / y) :: st) h) : sm_S l D cl ats aC B Ts Ns Os cc nL own fr lo ret nm Ex Qf (if y = 0 then none else X) pc lv (vJ y :: vJ x :: st) h := by
  subst hp
  by_cases hy : y = 0
  · rw [if_pos hy]; exact sm_none
  · rw [if_neg hy]; exact sm_go k fun C Q cells slots H locs ls hl w => lv_ldiv C.1 C.2.1 hd hy w
theorem sm_lrem  {x y : Int64} (hd : decode cc pc = .ok (.lrem, 1)) (hp : pc + 1 = pc') (k : sm_S l D cl ats aC B Ts Ns Os cc nL own fr lo ret nm Ex Qf X pc' lv (vJ (x - x / y * y) :: st) h) : sm_S l D cl ats aC B Ts Ns Os cc nL own fr lo ret nm Ex Qf (if y = 0 then none else X) pc lv (vJ y :: vJ x :: st) h := by
  subst hp
  by_cases hy : y = 0
  · rw [if_pos hy]; exact sm_none
  · rw [if_neg hy]; exact sm_go k fun C Q cells slots H locs ls hl w => lv_lrem C.1 C.2.1 hd hy w
theorem sm_dup  {v : sm_V} (hv : sm_c2 v = false) (hd : decode cc pc = .ok (.dup, 1)) (hp : pc + 1 = pc') (k : sm_S l D cl ats aC B Ts Ns Os cc nL own fr lo ret nm Ex Qf X pc' lv (v :: v :: st) h) : sm_S l D cl ats aC B Ts Ns Os cc nL own fr lo ret nm Ex Qf X pc lv (v :: st) h := by
  subst hp
  have hc : (sm_v v).category = 1 := by
    have h1 := sm_cat v
    rcases lv_cat (sm_v v) with h2 | h2
    · exact h2
    · rw [h2, hv] at h1; cases h1
  exact sm_go k fun C Q cells slots H locs ls hl w => lv_dup C.1 C.2.1 hd hc w
theorem sm_pop  {v : sm_V} (hv : sm_c2 v = false) (hd : decode cc pc = .ok (.pop, 1)) (hp : pc + 1 = pc') (k : sm_S l D cl ats aC B Ts Ns Os cc nL own fr lo ret nm Ex Qf X pc' lv st h) : sm_S l D cl ats aC B Ts Ns Os cc nL own fr lo ret nm Ex Qf X pc lv (v :: st) h := by
  subst hp
  have hc : (sm_v v).category = 1 := by
    have h1 := sm_cat v
    rcases lv_cat (sm_v v) with h2 | h2
    · exact h2
    · rw [h2, hv] at h1; cases h1
  exact sm_go k fun C Q cells slots H locs ls hl w => lv_pop C.1 C.2.1 hd hc w
theorem sm_pop2  {x : Int64} (hd : decode cc pc = .ok (.pop2, 1)) (hp : pc + 1 = pc') (k : sm_S l D cl ats aC B Ts Ns Os cc nL own fr lo ret nm Ex Qf X pc' lv st h) : sm_S l D cl ats aC B Ts Ns Os cc nL own fr lo ret nm Ex Qf X pc lv (vJ x :: st) h := by
  subst hp
  exact sm_go k fun C Q cells slots H locs ls hl w => lv_pop2_2 C.1 C.2.1 hd rfl w
theorem sm_dup2  {v v2 : sm_V} (hv : sm_c2 v = false) (hv2 : sm_c2 v2 = false) (hd : decode cc pc = .ok (.dup2, 1)) (hp : pc + 1 = pc') (k : sm_S l D cl ats aC B Ts Ns Os cc nL own fr lo ret nm Ex Qf X pc' lv (v :: v2 :: v :: v2 :: st) h) : sm_S l D cl ats aC B Ts Ns Os cc nL own fr lo ret nm Ex Qf X pc lv (v :: v2 :: st) h := by
  subst hp
  have hc : ∀ v : sm_V, sm_c2 v = false → (sm_v v).category = 1 := by
    intro v hv
    have h1 := sm_cat v
    rcases lv_cat (sm_v v) with h2 | h2
    · exact h2
    · rw [h2, hv] at h1; cases h1
  exact sm_go k fun C Q cells slots H locs ls hl w => lv_dup2_11 C.1 C.2.1 hd (hc v hv) (hc v2 hv2) w
theorem sm_goto  {off : Int} (hd : decode cc pc = .ok (.goto off, 3)) (hp : (pc : Int) + off = (pc' : Int)) (k : sm_S l D cl ats aC B Ts Ns Os cc nL own fr lo ret nm Ex Qf X pc' lv st h) : sm_S l D cl ats aC B Ts Ns Os cc nL own fr lo ret nm Ex Qf X pc lv st h := sm_go k fun C Q cells slots H locs ls hl w => lv_goto C.1 C.2.1 hd hp w
theorem sm_if_eq  {x : Int32} {off : Int} {tgt : Nat} (hd : decode cc pc = .ok (.ifCond .eq off, 3)) (ht : (pc : Int) + off = (tgt : Int)) (hp : pc + 3 = pc') (k1 : sm_S l D cl ats aC B Ts Ns Os cc nL own fr lo ret nm Ex Qf X tgt lv st h) (k2 : sm_S l D cl ats aC B Ts Ns Os cc nL own fr lo ret nm Ex Qf Y pc' lv st h) : sm_S l D cl ats aC B Ts Ns Os cc nL own fr lo ret nm Ex Qf (if x = 0 then X else Y) pc lv (vI x :: st) h := by
  subst hp
  by_cases hc : x = 0
  · rw [if_pos hc]; exact sm_go k1 fun C Q cells slots H locs ls hl w => lv_if_eq C.1 C.2.1 hd ht (fun _ => w) (fun h9 => absurd hc h9)
  · rw [if_neg hc]; exact sm_go k2 fun C Q cells slots H locs ls hl w => lv_if_eq C.1 C.2.1 hd ht (fun h9 => absurd h9 hc) (fun _ => w)
theorem sm_icmp_eq  {x y : Int32} {off : Int} {tgt : Nat} (hd : decode cc pc = .ok (.if_icmp .eq off, 3)) (ht : (pc : Int) + off = (tgt : Int)) (hp : pc + 3 = pc') (k1 : sm_S l D cl ats aC B Ts Ns Os cc nL own fr lo ret nm Ex Qf X tgt lv st h) (k2 : sm_S l D cl ats aC B Ts Ns Os cc nL own fr lo ret nm Ex Qf Y pc' lv st h) : sm_S l D cl ats aC B Ts Ns Os cc nL own fr lo ret nm Ex Qf (if x = y then X else Y) pc lv (vI y :: vI x :: st) h := by
  subst hp
  by_cases hc : x = y
  · rw [if_pos hc]; exact sm_go k1 fun C Q cells slots H locs ls hl w => lv_icmp_eq C.1 C.2.1 hd ht (fun _ => w) (fun h9 => absurd hc h9)
  · rw [if_neg hc]; exact sm_go k2 fun C Q cells slots H locs ls hl w => lv_icmp_eq C.1 C.2.1 hd ht (fun h9 => absurd h9 hc) (fun _ => w)
theorem sm_if_ne  {x : Int32} {off : Int} {tgt : Nat} (hd : decode cc pc = .ok (.ifCond .ne off, 3)) (ht : (pc : Int) + off = (tgt : Int)) (hp : pc + 3 = pc') (k1 : sm_S l D cl ats aC B Ts Ns Os cc nL own fr lo ret nm Ex Qf X tgt lv st h) (k2 : sm_S l D cl ats aC B Ts Ns Os cc nL own fr lo ret nm Ex Qf Y pc' lv st h) : sm_S l D cl ats aC B Ts Ns Os cc nL own fr lo ret nm Ex Qf (if x = 0 then Y else X) pc lv (vI x :: st) h := by
  subst hp
  by_cases hc : x = 0
  · rw [if_pos hc]; exact sm_go k2 fun C Q cells slots H locs ls hl w => lv_if_ne C.1 C.2.1 hd ht (fun h9 => absurd hc h9) (fun _ => w)
  · rw [if_neg hc]; exact sm_go k1 fun C Q cells slots H locs ls hl w => lv_if_ne C.1 C.2.1 hd ht (fun _ => w) (fun h9 => absurd h9 hc)
theorem sm_icmp_ne  {x y : Int32} {off : Int} {tgt : Nat} (hd : decode cc pc = .ok (.if_icmp .ne off, 3)) (ht : (pc : Int) + off = (tgt : Int)) (hp : pc + 3 = pc') (k1 : sm_S l D cl ats aC B Ts Ns Os cc nL own fr lo ret nm Ex Qf X tgt lv st h) (k2 : sm_S l D cl ats aC B Ts Ns Os cc nL own fr lo ret nm Ex Qf Y pc' lv st h) : sm_S l D cl ats aC B Ts Ns Os cc nL own fr lo ret nm Ex Qf (if x = y then Y else X) pc lv (vI y :: vI x :: st) h := by
  subst hp
  by_cases hc : x = y
  · rw [if_pos hc]; exact sm_go k2 fun C Q cells slots H locs ls hl w => lv_icmp_ne C.1 C.2.1 hd ht (fun h9 => absurd hc h9) (fun _ => w)
  · rw [if_neg hc]; exact sm_go k1 fun C Q cells slots H locs ls hl w => lv_icmp_ne C.1 C.2.1 hd ht (fun _ => w) (fun h9 => absurd h9 hc)
theorem sm_if_lt  {x : Int32} {off : Int} {tgt : Nat} (hd : decode cc pc = .ok (.ifCond .lt off, 3)) (ht : (pc : Int) + off = (tgt : Int)) (hp : pc + 3 = pc') (k1 : sm_S l D cl ats aC B Ts Ns Os cc nL own fr lo ret nm Ex Qf X tgt lv st h) (k2 : sm_S l D cl ats aC B Ts Ns Os cc nL own fr lo ret nm Ex Qf Y pc' lv st h) : sm_S l D cl ats aC B Ts Ns Os cc nL own fr lo ret nm Ex Qf (if x < 0 then X else Y) pc lv (vI x :: st) h := by
  subst hp
  by_cases hc : x < 0
  · rw [if_pos hc]; exact sm_go k1 fun C Q cells slots H locs ls hl w => lv_if_lt C.1 C.2.1 hd ht (fun _ => w) (fun h9 => absurd hc h9)
  · rw [if_neg hc]; exact sm_go k2 fun C Q cells slots H locs ls hl w => lv_if_lt C.1 C.2.1 hd ht (fun h9 => absurd h9 hc) (fun _ => w)
theorem sm_icmp_lt  {x y : Int32} {off : Int} {tgt : Nat} (hd : decode cc pc = .ok (.if_icmp .lt off, 3)) (ht : (pc : Int) + off = (tgt : Int)) (hp : pc + 3 = pc') (k1 : sm_S l D cl ats aC B Ts Ns Os cc nL own fr lo ret nm Ex Qf X tgt lv st h) (k2 : sm_S l D cl ats aC B Ts Ns Os cc nL own fr lo ret nm Ex Qf Y pc' lv st h) : sm_S l D cl ats aC B Ts Ns Os cc nL own fr lo ret nm Ex Qf (if x < y then X else Y) pc lv (vI y :: vI x :: st) h := by
  subst hp
  by_cases hc : x < y
  · rw [if_pos hc]; exact sm_go k1 fun C Q cells slots H locs ls hl w => lv_icmp_lt C.1 C.2.1 hd ht (fun _ => w) (fun h9 => absurd hc h9)
  · rw [if_neg hc]; exact sm_go k2 fun C Q cells slots H locs ls hl w => lv_icmp_lt C.1 C.2.1 hd ht (fun h9 => absurd h9 hc) (fun _ => w)
theorem sm_if_ge  {x : Int32} {off : Int} {tgt : Nat} (hd : decode cc pc = .ok (.ifCond .ge off, 3)) (ht : (pc : Int) + off = (tgt : Int)) (hp : pc + 3 = pc') (k1 : sm_S l D cl ats aC B Ts Ns Os cc nL own fr lo ret nm Ex Qf X tgt lv st h) (k2 : sm_S l D cl ats aC B Ts Ns Os cc nL own fr lo ret nm Ex Qf Y pc' lv st h) : sm_S l D cl ats aC B Ts Ns Os cc nL own fr lo ret nm Ex Qf (if 0 ≤ x then X else Y) pc lv (vI x :: st) h := by
  subst hp
  by_cases hc : 0 ≤ x
  · rw [if_pos hc]; exact sm_go k1 fun C Q cells slots H locs ls hl w => lv_if_ge C.1 C.2.1 hd ht (fun _ => w) (fun h9 => absurd hc h9)
  · rw [if_neg hc]; exact sm_go k2 fun C Q cells slots H locs ls hl w => lv_if_ge C.1 C.2.1 hd ht (fun h9 => absurd h9 hc) (fun _ => w)
theorem sm_icmp_ge  {x y : Int32} {off : Int} {tgt : Nat} (hd : decode cc pc = .ok (.if_icmp .ge off, 3)) (ht : (pc : Int) + off = (tgt : Int)) (hp : pc + 3 = pc') (k1 : sm_S l D cl ats aC B Ts Ns Os cc nL own fr lo ret nm Ex Qf X tgt lv st h) (k2 : sm_S l D cl ats aC B Ts Ns Os cc nL own fr lo ret nm Ex Qf Y pc' lv st h) : sm_S l D cl ats aC B Ts Ns Os cc nL own fr lo ret nm Ex Qf (if y ≤ x then X else Y) pc lv (vI y :: vI x :: st) h := by
  subst hp
  by_cases hc : y ≤ x
  · rw [if_pos hc]; exact sm_go k1 fun C Q cells slots H locs ls hl w => lv_icmp_ge C.1 C.2.1 hd ht (fun _ => w) (fun h9 => absurd hc h9)
  · rw [if_neg hc]; exact sm_go k2 fun C Q cells slots H locs ls hl w => lv_icmp_ge C.1 C.2.1 hd ht (fun h9 => absurd h9 hc) (fun _ => w)
theorem sm_if_gt  {x : Int32} {off : Int} {tgt : Nat} (hd : decode cc pc = .ok (.ifCond .gt off, 3)) (ht : (pc : Int) + off = (tgt : Int)) (hp : pc + 3 = pc') (k1 : sm_S l D cl ats aC B Ts Ns Os cc nL own fr lo ret nm Ex Qf X tgt lv st h) (k2 : sm_S l D cl ats aC B Ts Ns Os cc nL own fr lo ret nm Ex Qf Y pc' lv st h) : sm_S l D cl ats aC B Ts Ns Os cc nL own fr lo ret nm Ex Qf (if 0 < x then X else Y) pc lv (vI x :: st) h := by
  subst hp
  by_cases hc : 0 < x
  · rw [if_pos hc]; exact sm_go k1 fun C Q cells slots H locs ls hl w => lv_if_gt C.1 C.2.1 hd ht (fun _ => w) (fun h9 => absurd hc h9)
  · rw [if_neg hc]; exact sm_go k2 fun C Q cells slots H locs ls hl w => lv_if_gt C.1 C.2.1 hd ht (fun h9 => absurd h9 hc) (fun _ => w)
theorem sm_icmp_gt  {x y : Int32} {off : Int} {tgt : Nat} (hd : decode cc pc = .ok (.if_icmp .gt off, 3)) (ht : (pc : Int) + off = (tgt : Int)) (hp : pc + 3 = pc') (k1 : sm_S l D cl ats aC B Ts Ns Os cc nL own fr lo ret nm Ex Qf X tgt lv st h) (k2 : sm_S l D cl ats aC B Ts Ns Os cc nL own fr lo ret nm Ex Qf Y pc' lv st h) : sm_S l D cl ats aC B Ts Ns Os cc nL own fr lo ret nm Ex Qf (if y < x then X else Y) pc lv (vI y :: vI x :: st) h := by
  subst hp
  by_cases hc : y < x
  · rw [if_pos hc]; exact sm_go k1 fun C Q cells slots H locs ls hl w => lv_icmp_gt C.1 C.2.1 hd ht (fun _ => w) (fun h9 => absurd hc h9)
  · rw [if_neg hc]; exact sm_go k2 fun C Q cells slots H locs ls hl w => lv_icmp_gt C.1 C.2.1 hd ht (fun h9 => absurd h9 hc) (fun _ => w)
theorem sm_if_le  {x : Int32} {off : Int} {tgt : Nat} (hd : decode cc pc = .ok (.ifCond .le off, 3)) (ht : (pc : Int) + off = (tgt : Int)) (hp : pc + 3 = pc') (k1 : sm_S l D cl ats aC B Ts Ns Os cc nL own fr lo ret nm Ex Qf X tgt lv st h) (k2 : sm_S l D cl ats aC B Ts Ns Os cc nL own fr lo ret nm Ex Qf Y pc' lv st h) : sm_S l D cl ats aC B Ts Ns Os cc nL own fr lo ret nm Ex Qf (if x ≤ 0 then X else Y) pc lv (vI x :: st) h := by
  subst hp
  by_cases hc : x ≤ 0
  · rw [if_pos hc]; exact sm_go k1 fun C Q cells slots H locs ls hl w => lv_if_le C.1 C.2.1 hd ht (fun _ => w) (fun h9 => absurd hc h9)
  · rw [if_neg hc]; exact sm_go k2 fun C Q cells slots H locs ls hl w => lv_if_le C.1 C.2.1 hd ht (fun h9 => absurd h9 hc) (fun _ => w)
theorem sm_icmp_le  {x y : Int32} {off : Int} {tgt : Nat} (hd : decode cc pc = .ok (.if_icmp .le off, 3)) (ht : (pc : Int) + off = (tgt : Int)) (hp : pc + 3 = pc') (k1 : sm_S l D cl ats aC B Ts Ns Os cc nL own fr lo ret nm Ex Qf X tgt lv st h) (k2 : sm_S l D cl ats aC B Ts Ns Os cc nL own fr lo ret nm Ex Qf Y pc' lv st h) : sm_S l D cl ats aC B Ts Ns Os cc nL own fr lo ret nm Ex Qf (if x ≤ y then X else Y) pc lv (vI y :: vI x :: st) h := by
  subst hp
  by_cases hc : x ≤ y
  · rw [if_pos hc]; exact sm_go k1 fun C Q cells slots H locs ls hl w => lv_icmp_le C.1 C.2.1 hd ht (fun _ => w) (fun h9 => absurd hc h9)
  · rw [if_neg hc]; exact sm_go k2 fun C Q cells slots H locs ls hl w => lv_icmp_le C.1 C.2.1 hd ht (fun h9 => absurd h9 hc) (fun _ => w)
theorem sm_acmp_eq  {x y : Option Nat} {off : Int} {tgt : Nat} (hd : decode cc pc = .ok (.if_acmp .eq off, 3)) (ht : (pc : Int) + off = (tgt : Int)) (hp : pc + 3 = pc') (k1 : sm_S l D cl ats aC B Ts Ns Os cc nL own fr lo ret nm Ex Qf X tgt lv st h) (k2 : sm_S l D cl ats aC B Ts Ns Os cc nL own fr lo ret nm Ex Qf Y pc' lv st h) : sm_S l D cl ats aC B Ts Ns Os cc nL own fr lo ret nm Ex Qf (if x = y then X else Y) pc lv (vR y :: vR x :: st) h := by
  subst hp
  by_cases hc : x = y
  · rw [if_pos hc]; exact sm_go k1 fun C Q cells slots H locs ls hl w => lv_acmp_eq C.1 C.2.1 hd ht (fun _ => w) (fun h9 => absurd hc h9)
  · rw [if_neg hc]; exact sm_go k2 fun C Q cells slots H locs ls hl w => lv_acmp_eq C.1 C.2.1 hd ht (fun h9 => absurd h9 hc) (fun _ => w)
theorem sm_acmp_ne  {x y : Option Nat} {off : Int} {tgt : Nat} (hd : decode cc pc = .ok (.if_acmp .ne off, 3)) (ht : (pc : Int) + off = (tgt : Int)) (hp : pc + 3 = pc') (k1 : sm_S l D cl ats aC B Ts Ns Os cc nL own fr lo ret nm Ex Qf X tgt lv st h) (k2 : sm_S l D cl ats aC B Ts Ns Os cc nL own fr lo ret nm Ex Qf Y pc' lv st h) : sm_S l D cl ats aC B Ts Ns Os cc nL own fr lo ret nm Ex Qf (if x = y then Y else X) pc lv (vR y :: vR x :: st) h := by
  subst hp
  by_cases hc : x = y
  · rw [if_pos hc]; exact sm_go k2 fun C Q cells slots H locs ls hl w => lv_acmp_ne C.1 C.2.1 hd ht (fun h9 => absurd hc h9) (fun _ => w)
  · rw [if_neg hc]; exact sm_go k1 fun C Q cells slots H locs ls hl w => lv_acmp_ne C.1 C.2.1 hd ht (fun _ => w) (fun h9 => absurd h9 hc)
theorem sm_ifnull  {x : Option Nat} {off : Int} {tgt : Nat} (hd : decode cc pc = .ok (.ifnull off, 3)) (ht : (pc : Int) + off = (tgt : Int)) (hp : pc + 3 = pc') (k1 : sm_S l D cl ats aC B Ts Ns Os cc nL own fr lo ret nm Ex Qf X tgt lv st h) (k2 : sm_S l D cl ats aC B Ts Ns Os cc nL own fr lo ret nm Ex Qf Y pc' lv st h) : sm_S l D cl ats aC B Ts Ns Os cc nL own fr lo ret nm Ex Qf (if x = none then X else Y) pc lv (vR x :: st) h := by
  subst hp
  cases x with
  | none => rw [if_pos rfl]; exact sm_go k1 fun C Q cells slots H locs ls hl w => lv_ifnullN C.1 C.2.1 hd ht w
  | some a => rw [if_neg (by simp)]; exact sm_go k2 fun C Q cells slots H locs ls hl w => lv_ifnull C.1 C.2.1 hd w
theorem sm_ifnonnull  {x : Option Nat} {off : Int} {tgt : Nat} (hd : decode cc pc = .ok (.ifnonnull off, 3)) (ht : (pc : Int) + off = (tgt : Int)) (hp : pc + 3 = pc') (k1 : sm_S l D cl ats aC B Ts Ns Os cc nL own fr lo ret nm Ex Qf X tgt lv st h) (k2 : sm_S l D cl ats aC B Ts Ns Os cc nL own fr lo ret nm Ex Qf Y pc' lv st h) : sm_S l D cl ats aC B Ts Ns Os cc nL own fr lo ret nm Ex Qf (if x = none then Y else X) pc lv (vR x :: st) h := by
  subst hp
  cases x with
  | none => rw [if_pos rfl]; exact sm_go k2 fun C Q cells slots H locs ls hl w => lv_ifnonnullN C.1 C.2.1 hd w
  | some a => rw [if_neg (by simp)]; exact sm_go k1 fun C Q cells slots H locs ls hl w => lv_ifnonnull C.1 C.2.1 hd ht w
end SM
