-- the reference's object: field k by kinds: 0 an int, 1 the clock, 2 a row of ints, 3 a row of longs; tag, length and place of a row
def mL : List (Nat × Nat × Nat × Nat) := [(0, 0, 0, 0), (2, 3, 1200, 1), (0, 0, 0, 0), (3, 1, 16, 2), (0, 0, 0, 0), (0, 0, 0, 0), (1, 0, 0, 0), (2, 0, 8, 3), (0, 0, 0, 0), (3, 1, 640, 4), (2, 0, 40, 5), (2, 0, 40, 6), (2, 0, 40, 7), (3, 1, 40, 8), (3, 1, 40, 9), (2, 0, 40, 10), (2, 2, 40, 11), (3, 1, 640, 12), (2, 3, 25600, 13), (2, 0, 640, 14), (3, 1, 10240, 15), (2, 0, 640, 16), (0, 0, 0, 0), (3, 1, 64, 17), (2, 0, 4, 18), (2, 0, 4, 19), (2, 0, 4, 20), (2, 0, 64, 21), (0, 0, 0, 0), (2, 3, 320, 22), (2, 0, 8, 23), (2, 2, 8, 24), (2, 0, 8, 25), (3, 1, 1024, 26), (2, 0, 64, 27), (2, 2, 64, 28), (3, 1, 960, 29), (2, 0, 60, 30), (2, 0, 60, 31), (3, 1, 60, 32), (2, 3, 2400, 33), (2, 0, 60, 34), (3, 1, 960, 35), (2, 0, 60, 36), (0, 0, 0, 0), (0, 0, 0, 0), (0, 0, 0, 0), (0, 0, 0, 0), (0, 0, 0, 0), (0, 0, 0, 0), (0, 0, 0, 0), (0, 0, 0, 0), (0, 0, 0, 0), (0, 0, 0, 0), (0, 0, 0, 0), (0, 0, 0, 0), (0, 0, 0, 0), (0, 0, 0, 0), (0, 0, 0, 0), (3, 1, 17, 37), (0, 0, 0, 0), (3, 1, 17, 38), (0, 0, 0, 0), (2, 3, 2400, 39), (0, 0, 0, 0), (0, 0, 0, 0)]
def mT (k : Nat) : Nat × Nat × Nat × Nat := mL.getD k (0, 0, 0, 0)
abbrev MS : Type := (Nat → Int32) × Int64 × (Nat → Nat → Int32) × (Nat → Nat → Int64)
def mV (m : Nat) (S : MS) (k : Nat) : Value := if (mT k).1 = 0 then .int (S.1 k) else if (mT k).1 = 1 then .long S.2.1 else .ref (m + (mT k).2.2.2)
def mA (S : MS) (k : Nat) : (Nat → Int32) ⊕ (Nat → Int64) ⊕ (Nat → UInt32) ⊕ (Nat → UInt64) ⊕ (Nat → Option Nat) := if (mT k).1 = 2 then .inl (S.2.2.1 k) else .inr (.inl (S.2.2.2 k))
def Mo (h : sm_H) (m : Nat) (S : MS) : Prop := h.2.2 m = some (.inr (12, (List.range 66).map (mV m S))) ∧ ∀ k, k < 66 → 2 ≤ (mT k).1 → h.2.2 (m + (mT k).2.2.2) = some (.inl ((mT k).2.1, (mT k).2.2.1, mA S k))
def inM (m c : Nat) : Prop := m ≤ c ∧ c ≤ m + 39
def sI (S : MS) (k : Nat) (v : Int32) : MS := (va_up S.1 k v, S.2)
def sC (S : MS) (v : Int64) : MS := (S.1, v, S.2.2)
def sA (S : MS) (k i : Nat) (v : Int32) : MS := (S.1, S.2.1, va_up S.2.2.1 k (upd (S.2.2.1 k) i v), S.2.2.2)
def sB (S : MS) (k i : Nat) (v : Int64) : MS := (S.1, S.2.1, S.2.2.1, va_up S.2.2.2 k (vp_updL (S.2.2.2 k) i v))
theorem mT_off : ∀ k, k < 66 → 2 ≤ (mT k).1 → 1 ≤ (mT k).2.2.2 ∧ (mT k).2.2.2 ≤ 39 := by decide +kernel
theorem mT_inj : ∀ k, k < 66 → ∀ j, j < 66 → 2 ≤ (mT k).1 → 2 ≤ (mT j).1 → (mT k).2.2.2 = (mT j).2.2.2 → k = j := by decide +kernel
theorem mT_len : ∀ k, k < 66 → (mT k).2.2.1 ≤ 25600 := by decide +kernel
theorem mT_clk : ∀ k, k < 66 → (mT k).1 = 1 → k = 6 := by decide +kernel
theorem mo_obj {h : sm_H} {m : Nat} {S : MS} (H : Mo h m S) : sm_obj h (some m) 12 = some m := pu_obj H.1
theorem mo_get {h : sm_H} {m : Nat} {S : MS} (H : Mo h m S) {k : Nat} (hk : k < 66) : sm_get h (some m) 12 k = some (mV m S k) := by
  rw [pu_get H.1]
  simp [hk]
theorem mo_fr {p : Nat → Prop} {h h' : sm_H} {m : Nat} {S : MS} (H : Mo h m S) (F : fr p h h') (hp : ∀ c, p c → ¬ inM m c) : Mo h' m S := by
  refine ⟨by rw [F.2.2 m (fun q => hp m q ⟨Nat.le_refl _, by omega⟩)]; exact H.1, fun k hk h2 => ?_⟩
  have ho := mT_off k hk h2
  rw [F.2.2 _ (fun q => hp _ q ⟨by omega, by omega⟩)]
  exact H.2 k hk h2
theorem mo_set {h : sm_H} {m : Nat} {S S' : MS} (H : Mo h m S) (hA : ∀ k, k < 66 → 2 ≤ (mT k).1 → mA S' k = mA S k) {k : Nat} (hk : k < 66) {v : Value} (hv : mV m S' k = v) (hn : ∀ j, j < 66 → j ≠ k → mV m S' j = mV m S j) : sm_put h (some m) 12 k v = some (hu h m (.inr (12, (List.range 66).map (mV m S')))) ∧ Mo (hu h m (.inr (12, (List.range 66).map (mV m S')))) m S' := by
  have e : ((List.range 66).map (mV m S)).set k v = (List.range 66).map (mV m S') := by
    apply List.ext_getElem
    · simp
    · intro i h1 h2
      simp at h1
      by_cases hi : k = i
      · subst hi
        simp [hv]
      · simp [hi, hn i h1 (fun q => hi q.symm)]
  refine ⟨by rw [pu_put H.1 (by simpa using hk), e], hu_at _ _ _, fun j hj h2 => ?_⟩
  have ho := mT_off j hj h2
  rw [hu_ne (by omega), hA j hj h2]
  exact H.2 j hj h2
theorem mo_pI {h : sm_H} {m : Nat} {S : MS} (H : Mo h m S) {k : Nat} (hk : k < 66) (h0 : (mT k).1 = 0) (v : Int32) : ∃ h', sm_put h (some m) 12 k (sm_v (vI v)) = some h' ∧ Mo h' m (sI S k v) ∧ fr (inM m) h h' := by
  have h1 := mo_set (S' := sI S k v) H (fun _ _ _ => rfl) hk (v := .int v) (by simp [mV, h0, sI, va_up]) (fun j _ hj => by simp [mV, sI, va_up, hj])
  exact ⟨_, h1.1, h1.2, fr_hu ⟨Nat.le_refl _, by omega⟩⟩
theorem mo_pJ {h : sm_H} {m : Nat} {S : MS} (H : Mo h m S) (v : Int64) : ∃ h', sm_put h (some m) 12 6 (sm_v (vJ v)) = some h' ∧ Mo h' m (sC S v) ∧ fr (inM m) h h' := by
  have h1 := mo_set (S' := sC S v) H (fun _ _ _ => rfl) (k := 6) (by omega) (v := .long v) rfl (fun j hj hn => by
    unfold mV
    by_cases h0 : (mT j).1 = 0
    · rw [if_pos h0, if_pos h0]; rfl
    · rw [if_neg h0, if_neg h0]
      by_cases h1 : (mT j).1 = 1
      · exact absurd (mT_clk j hj h1) hn
      · rw [if_neg h1, if_neg h1])
  exact ⟨_, h1.1, h1.2, fr_hu ⟨Nat.le_refl _, by omega⟩⟩
theorem mo_row {h : sm_H} {m : Nat} {S S' : MS} (H : Mo h m S) {k : Nat} (hk : k < 66) (h2 : 2 ≤ (mT k).1) (hV : ∀ j, mV m S' j = mV m S j) (hn : ∀ j, j < 66 → j ≠ k → mA S' j = mA S j) : Mo (hu h (m + (mT k).2.2.2) (.inl ((mT k).2.1, (mT k).2.2.1, mA S' k))) m S' ∧ fr (inM m) h (hu h (m + (mT k).2.2.2) (.inl ((mT k).2.1, (mT k).2.2.1, mA S' k))) := by
  have ho := mT_off k hk h2
  refine ⟨⟨?_, fun j hj h3 => ?_⟩, fr_hu ⟨by omega, by omega⟩⟩
  · rw [hu_ne (by omega), H.1]
    congr 3
    apply List.map_congr_left
    intro j _
    exact (hV j).symm
  · by_cases hjk : j = k
    · subst hjk
      rw [hu_at]
    · rw [hu_ne (fun q => hjk (mT_inj j hj k hk h3 h2 (by omega))), hn j hj hjk]
      exact H.2 j hj h3
theorem mo_sA {h : sm_H} {m : Nat} {S : MS} (H : Mo h m S) {k : Nat} (hk : k < 66) (h2 : (mT k).1 = 2) {i : Nat} (hi : i < (mT k).2.2.1) (v : Int32) : ∃ h', sm_sI h (some (m + (mT k).2.2.2)) (mT k).2.1 (nI i) v = some h' ∧ Mo h' m (sA S k i v) ∧ fr (inM m) h h' := by
  have h3 := H.2 k hk (by omega)
  have hl := mT_len k hk
  have e : mA S k = .inl (S.2.2.1 k) := by simp [mA, h2]
  rw [e] at h3
  have h4 := mo_row (S' := sA S k i v) H hk (by omega) (fun _ => rfl) (fun j _ hj => by simp [mA, sA, va_up, hj])
  have e2 : mA (sA S k i v) k = .inl (upd (S.2.2.1 k) i v) := by simp [mA, h2, sA, va_up]
  rw [e2] at h4
  exact ⟨_, pu_sI h3 hi (by omega) v, h4.1, h4.2⟩
theorem mo_sB {h : sm_H} {m : Nat} {S : MS} (H : Mo h m S) {k : Nat} (hk : k < 66) (h2 : (mT k).1 = 3) {i : Nat} (hi : i < (mT k).2.2.1) (v : Int64) : ∃ h', sm_sJ h (some (m + (mT k).2.2.2)) (mT k).2.1 (nI i) v = some h' ∧ Mo h' m (sB S k i v) ∧ fr (inM m) h h' := by
  have h3 := H.2 k hk (by omega)
  have hl := mT_len k hk
  have e : mA S k = .inr (.inl (S.2.2.2 k)) := by simp [mA, h2]
  rw [e] at h3
  have h4 := mo_row (S' := sB S k i v) H hk (by omega) (fun _ => rfl) (fun j _ hj => by simp [mA, sB, va_up, hj])
  have e2 : mA (sB S k i v) k = .inr (.inl (vp_updL (S.2.2.2 k) i v)) := by simp [mA, h2, sB, va_up]
  rw [e2] at h4
  exact ⟨_, pu_sJ h3 hi (by omega) v, h4.1, h4.2⟩
theorem mo_aA {h : sm_H} {m : Nat} {S : MS} (H : Mo h m S) {k : Nat} (hk : k < 66) (h2 : (mT k).1 = 2) {i : Nat} (hi : i < (mT k).2.2.1) : sm_aI h (some (m + (mT k).2.2.2)) (mT k).2.1 (nI i) = some (S.2.2.1 k i) := by
  have h3 := H.2 k hk (by omega)
  have hl := mT_len k hk
  have e : mA S k = .inl (S.2.2.1 k) := by simp [mA, h2]
  rw [e] at h3
  exact pu_aI h3 hi (by omega)
theorem mo_aB {h : sm_H} {m : Nat} {S : MS} (H : Mo h m S) {k : Nat} (hk : k < 66) (h2 : (mT k).1 = 3) {i : Nat} (hi : i < (mT k).2.2.1) : sm_aJ h (some (m + (mT k).2.2.2)) (mT k).2.1 (nI i) = some (S.2.2.2 k i) := by
  have h3 := H.2 k hk (by omega)
  have hl := mT_len k hk
  have e : mA S k = .inr (.inl (S.2.2.2 k)) := by simp [mA, h2]
  rw [e] at h3
  exact pu_aJ h3 hi (by omega)
theorem mg_code {h : sm_H} {m : Nat} {S : MS} (H : Mo h m S) : sm_I (sm_get h (some m) 12 0) = some (S.1 0) := by rw [mo_get H (by omega)]; rfl
theorem mp_code {h : sm_H} {m : Nat} {S : MS} (H : Mo h m S) (v : Int32) : ∃ h', sm_put h (some m) 12 0 (sm_v (vI v)) = some h' ∧ Mo h' m (sI S 0 v) ∧ fr (inM m) h h' := mo_pI H (by omega) rfl v
theorem mg_tape {h : sm_H} {m : Nat} {S : MS} (H : Mo h m S) : sm_R (sm_get h (some m) 12 1) = some (some (m + 1)) := by rw [mo_get H (by omega)]; rfl
theorem ma_tape {h : sm_H} {m : Nat} {S : MS} (H : Mo h m S) {i : Nat} (hi : i < 1200) : sm_aI h (some (m + 1)) 3 (nI i) = some (S.2.2.1 1 i) := mo_aA H (k := 1) (by omega) rfl hi
theorem ms_tape {h : sm_H} {m : Nat} {S : MS} (H : Mo h m S) {i : Nat} (hi : i < 1200) (v : Int32) : ∃ h', sm_sI h (some (m + 1)) 3 (nI i) v = some h' ∧ Mo h' m (sA S 1 i v) ∧ fr (inM m) h h' := mo_sA H (k := 1) (by omega) rfl hi v
theorem mg_tapeSize {h : sm_H} {m : Nat} {S : MS} (H : Mo h m S) : sm_I (sm_get h (some m) 12 2) = some (S.1 2) := by rw [mo_get H (by omega)]; rfl
theorem mp_tapeSize {h : sm_H} {m : Nat} {S : MS} (H : Mo h m S) (v : Int32) : ∃ h', sm_put h (some m) 12 2 (sm_v (vI v)) = some h' ∧ Mo h' m (sI S 2 v) ∧ fr (inM m) h h' := mo_pI H (by omega) rfl v
theorem mg_hand {h : sm_H} {m : Nat} {S : MS} (H : Mo h m S) : sm_R (sm_get h (some m) 12 3) = some (some (m + 2)) := by rw [mo_get H (by omega)]; rfl
theorem ma_hand {h : sm_H} {m : Nat} {S : MS} (H : Mo h m S) {i : Nat} (hi : i < 16) : sm_aJ h (some (m + 2)) 1 (nI i) = some (S.2.2.2 3 i) := mo_aB H (k := 3) (by omega) rfl hi
theorem ms_hand {h : sm_H} {m : Nat} {S : MS} (H : Mo h m S) {i : Nat} (hi : i < 16) (v : Int64) : ∃ h', sm_sJ h (some (m + 2)) 1 (nI i) v = some h' ∧ Mo h' m (sB S 3 i v) ∧ fr (inM m) h h' := mo_sB H (k := 3) (by omega) rfl hi v
theorem mg_handSize {h : sm_H} {m : Nat} {S : MS} (H : Mo h m S) : sm_I (sm_get h (some m) 12 4) = some (S.1 4) := by rw [mo_get H (by omega)]; rfl
theorem mp_handSize {h : sm_H} {m : Nat} {S : MS} (H : Mo h m S) (v : Int32) : ∃ h', sm_put h (some m) 12 4 (sm_v (vI v)) = some h' ∧ Mo h' m (sI S 4 v) ∧ fr (inM m) h h' := mo_pI H (by omega) rfl v
theorem mg_limit {h : sm_H} {m : Nat} {S : MS} (H : Mo h m S) : sm_I (sm_get h (some m) 12 5) = some (S.1 5) := by rw [mo_get H (by omega)]; rfl
theorem mp_limit {h : sm_H} {m : Nat} {S : MS} (H : Mo h m S) (v : Int32) : ∃ h', sm_put h (some m) 12 5 (sm_v (vI v)) = some h' ∧ Mo h' m (sI S 5 v) ∧ fr (inM m) h h' := mo_pI H (by omega) rfl v
theorem mg_clock {h : sm_H} {m : Nat} {S : MS} (H : Mo h m S) : sm_J (sm_get h (some m) 12 6) = some S.2.1 := by rw [mo_get H (by omega)]; rfl
theorem mp_clock {h : sm_H} {m : Nat} {S : MS} (H : Mo h m S) (v : Int64) : ∃ h', sm_put h (some m) 12 6 (sm_v (vJ v)) = some h' ∧ Mo h' m (sC S v) ∧ fr (inM m) h h' := mo_pJ H v
theorem mg_counts {h : sm_H} {m : Nat} {S : MS} (H : Mo h m S) : sm_R (sm_get h (some m) 12 7) = some (some (m + 3)) := by rw [mo_get H (by omega)]; rfl
theorem ma_counts {h : sm_H} {m : Nat} {S : MS} (H : Mo h m S) {i : Nat} (hi : i < 8) : sm_aI h (some (m + 3)) 0 (nI i) = some (S.2.2.1 7 i) := mo_aA H (k := 7) (by omega) rfl hi
theorem ms_counts {h : sm_H} {m : Nat} {S : MS} (H : Mo h m S) {i : Nat} (hi : i < 8) (v : Int32) : ∃ h', sm_sI h (some (m + 3)) 0 (nI i) v = some h' ∧ Mo h' m (sA S 7 i v) ∧ fr (inM m) h h' := mo_sA H (k := 7) (by omega) rfl hi v
theorem mg_objects {h : sm_H} {m : Nat} {S : MS} (H : Mo h m S) : sm_I (sm_get h (some m) 12 8) = some (S.1 8) := by rw [mo_get H (by omega)]; rfl
theorem mp_objects {h : sm_H} {m : Nat} {S : MS} (H : Mo h m S) (v : Int32) : ∃ h', sm_put h (some m) 12 8 (sm_v (vI v)) = some h' ∧ Mo h' m (sI S 8 v) ∧ fr (inM m) h h' := mo_pI H (by omega) rfl v
theorem mg_oName {h : sm_H} {m : Nat} {S : MS} (H : Mo h m S) : sm_R (sm_get h (some m) 12 9) = some (some (m + 4)) := by rw [mo_get H (by omega)]; rfl
theorem ma_oName {h : sm_H} {m : Nat} {S : MS} (H : Mo h m S) {i : Nat} (hi : i < 640) : sm_aJ h (some (m + 4)) 1 (nI i) = some (S.2.2.2 9 i) := mo_aB H (k := 9) (by omega) rfl hi
theorem ms_oName {h : sm_H} {m : Nat} {S : MS} (H : Mo h m S) {i : Nat} (hi : i < 640) (v : Int64) : ∃ h', sm_sJ h (some (m + 4)) 1 (nI i) v = some h' ∧ Mo h' m (sB S 9 i v) ∧ fr (inM m) h h' := mo_sB H (k := 9) (by omega) rfl hi v
theorem mg_oSize {h : sm_H} {m : Nat} {S : MS} (H : Mo h m S) : sm_R (sm_get h (some m) 12 10) = some (some (m + 5)) := by rw [mo_get H (by omega)]; rfl
theorem ma_oSize {h : sm_H} {m : Nat} {S : MS} (H : Mo h m S) {i : Nat} (hi : i < 40) : sm_aI h (some (m + 5)) 0 (nI i) = some (S.2.2.1 10 i) := mo_aA H (k := 10) (by omega) rfl hi
theorem ms_oSize {h : sm_H} {m : Nat} {S : MS} (H : Mo h m S) {i : Nat} (hi : i < 40) (v : Int32) : ∃ h', sm_sI h (some (m + 5)) 0 (nI i) v = some h' ∧ Mo h' m (sA S 10 i v) ∧ fr (inM m) h h' := mo_sA H (k := 10) (by omega) rfl hi v
theorem mg_oTag {h : sm_H} {m : Nat} {S : MS} (H : Mo h m S) : sm_R (sm_get h (some m) 12 11) = some (some (m + 6)) := by rw [mo_get H (by omega)]; rfl
theorem ma_oTag {h : sm_H} {m : Nat} {S : MS} (H : Mo h m S) {i : Nat} (hi : i < 40) : sm_aI h (some (m + 6)) 0 (nI i) = some (S.2.2.1 11 i) := mo_aA H (k := 11) (by omega) rfl hi
theorem ms_oTag {h : sm_H} {m : Nat} {S : MS} (H : Mo h m S) {i : Nat} (hi : i < 40) (v : Int32) : ∃ h', sm_sI h (some (m + 6)) 0 (nI i) v = some h' ∧ Mo h' m (sA S 11 i v) ∧ fr (inM m) h h' := mo_sA H (k := 11) (by omega) rfl hi v
theorem mg_oAccess {h : sm_H} {m : Nat} {S : MS} (H : Mo h m S) : sm_R (sm_get h (some m) 12 12) = some (some (m + 7)) := by rw [mo_get H (by omega)]; rfl
theorem ma_oAccess {h : sm_H} {m : Nat} {S : MS} (H : Mo h m S) {i : Nat} (hi : i < 40) : sm_aI h (some (m + 7)) 0 (nI i) = some (S.2.2.1 12 i) := mo_aA H (k := 12) (by omega) rfl hi
theorem ms_oAccess {h : sm_H} {m : Nat} {S : MS} (H : Mo h m S) {i : Nat} (hi : i < 40) (v : Int32) : ∃ h', sm_sI h (some (m + 7)) 0 (nI i) v = some h' ∧ Mo h' m (sA S 12 i v) ∧ fr (inM m) h h' := mo_sA H (k := 12) (by omega) rfl hi v
theorem mg_oLeast {h : sm_H} {m : Nat} {S : MS} (H : Mo h m S) : sm_R (sm_get h (some m) 12 13) = some (some (m + 8)) := by rw [mo_get H (by omega)]; rfl
theorem ma_oLeast {h : sm_H} {m : Nat} {S : MS} (H : Mo h m S) {i : Nat} (hi : i < 40) : sm_aJ h (some (m + 8)) 1 (nI i) = some (S.2.2.2 13 i) := mo_aB H (k := 13) (by omega) rfl hi
theorem ms_oLeast {h : sm_H} {m : Nat} {S : MS} (H : Mo h m S) {i : Nat} (hi : i < 40) (v : Int64) : ∃ h', sm_sJ h (some (m + 8)) 1 (nI i) v = some h' ∧ Mo h' m (sB S 13 i v) ∧ fr (inM m) h h' := mo_sB H (k := 13) (by omega) rfl hi v
theorem mg_oMost {h : sm_H} {m : Nat} {S : MS} (H : Mo h m S) : sm_R (sm_get h (some m) 12 14) = some (some (m + 9)) := by rw [mo_get H (by omega)]; rfl
theorem ma_oMost {h : sm_H} {m : Nat} {S : MS} (H : Mo h m S) {i : Nat} (hi : i < 40) : sm_aJ h (some (m + 9)) 1 (nI i) = some (S.2.2.2 14 i) := mo_aB H (k := 14) (by omega) rfl hi
theorem ms_oMost {h : sm_H} {m : Nat} {S : MS} (H : Mo h m S) {i : Nat} (hi : i < 40) (v : Int64) : ∃ h', sm_sJ h (some (m + 9)) 1 (nI i) v = some h' ∧ Mo h' m (sB S 14 i v) ∧ fr (inM m) h h' := mo_sB H (k := 14) (by omega) rfl hi v
theorem mg_oTable {h : sm_H} {m : Nat} {S : MS} (H : Mo h m S) : sm_R (sm_get h (some m) 12 15) = some (some (m + 10)) := by rw [mo_get H (by omega)]; rfl
theorem ma_oTable {h : sm_H} {m : Nat} {S : MS} (H : Mo h m S) {i : Nat} (hi : i < 40) : sm_aI h (some (m + 10)) 0 (nI i) = some (S.2.2.1 15 i) := mo_aA H (k := 15) (by omega) rfl hi
theorem ms_oTable {h : sm_H} {m : Nat} {S : MS} (H : Mo h m S) {i : Nat} (hi : i < 40) (v : Int32) : ∃ h', sm_sI h (some (m + 10)) 0 (nI i) v = some h' ∧ Mo h' m (sA S 15 i v) ∧ fr (inM m) h h' := mo_sA H (k := 15) (by omega) rfl hi v
theorem mg_oStatus {h : sm_H} {m : Nat} {S : MS} (H : Mo h m S) : sm_R (sm_get h (some m) 12 16) = some (some (m + 11)) := by rw [mo_get H (by omega)]; rfl
theorem ma_oStatus {h : sm_H} {m : Nat} {S : MS} (H : Mo h m S) {i : Nat} (hi : i < 40) : sm_aI h (some (m + 11)) 2 (nI i) = some (S.2.2.1 16 i) := mo_aA H (k := 16) (by omega) rfl hi
theorem ms_oStatus {h : sm_H} {m : Nat} {S : MS} (H : Mo h m S) {i : Nat} (hi : i < 40) (v : Int32) : ∃ h', sm_sI h (some (m + 11)) 2 (nI i) v = some h' ∧ Mo h' m (sA S 16 i v) ∧ fr (inM m) h h' := mo_sA H (k := 16) (by omega) rfl hi v
theorem mg_value {h : sm_H} {m : Nat} {S : MS} (H : Mo h m S) : sm_R (sm_get h (some m) 12 17) = some (some (m + 12)) := by rw [mo_get H (by omega)]; rfl
theorem ma_value {h : sm_H} {m : Nat} {S : MS} (H : Mo h m S) {i : Nat} (hi : i < 640) : sm_aJ h (some (m + 12)) 1 (nI i) = some (S.2.2.2 17 i) := mo_aB H (k := 17) (by omega) rfl hi
theorem ms_value {h : sm_H} {m : Nat} {S : MS} (H : Mo h m S) {i : Nat} (hi : i < 640) (v : Int64) : ∃ h', sm_sJ h (some (m + 12)) 1 (nI i) v = some h' ∧ Mo h' m (sB S 17 i v) ∧ fr (inM m) h h' := mo_sB H (k := 17) (by omega) rfl hi v
theorem mg_text {h : sm_H} {m : Nat} {S : MS} (H : Mo h m S) : sm_R (sm_get h (some m) 12 18) = some (some (m + 13)) := by rw [mo_get H (by omega)]; rfl
theorem ma_text {h : sm_H} {m : Nat} {S : MS} (H : Mo h m S) {i : Nat} (hi : i < 25600) : sm_aI h (some (m + 13)) 3 (nI i) = some (S.2.2.1 18 i) := mo_aA H (k := 18) (by omega) rfl hi
theorem ms_text {h : sm_H} {m : Nat} {S : MS} (H : Mo h m S) {i : Nat} (hi : i < 25600) (v : Int32) : ∃ h', sm_sI h (some (m + 13)) 3 (nI i) v = some h' ∧ Mo h' m (sA S 18 i v) ∧ fr (inM m) h h' := mo_sA H (k := 18) (by omega) rfl hi v
theorem mg_textSize {h : sm_H} {m : Nat} {S : MS} (H : Mo h m S) : sm_R (sm_get h (some m) 12 19) = some (some (m + 14)) := by rw [mo_get H (by omega)]; rfl
theorem ma_textSize {h : sm_H} {m : Nat} {S : MS} (H : Mo h m S) {i : Nat} (hi : i < 640) : sm_aI h (some (m + 14)) 0 (nI i) = some (S.2.2.1 19 i) := mo_aA H (k := 19) (by omega) rfl hi
theorem ms_textSize {h : sm_H} {m : Nat} {S : MS} (H : Mo h m S) {i : Nat} (hi : i < 640) (v : Int32) : ∃ h', sm_sI h (some (m + 14)) 0 (nI i) v = some h' ∧ Mo h' m (sA S 19 i v) ∧ fr (inM m) h h' := mo_sA H (k := 19) (by omega) rfl hi v
theorem mg_name {h : sm_H} {m : Nat} {S : MS} (H : Mo h m S) : sm_R (sm_get h (some m) 12 20) = some (some (m + 15)) := by rw [mo_get H (by omega)]; rfl
theorem ma_name {h : sm_H} {m : Nat} {S : MS} (H : Mo h m S) {i : Nat} (hi : i < 10240) : sm_aJ h (some (m + 15)) 1 (nI i) = some (S.2.2.2 20 i) := mo_aB H (k := 20) (by omega) rfl hi
theorem ms_name {h : sm_H} {m : Nat} {S : MS} (H : Mo h m S) {i : Nat} (hi : i < 10240) (v : Int64) : ∃ h', sm_sJ h (some (m + 15)) 1 (nI i) v = some h' ∧ Mo h' m (sB S 20 i v) ∧ fr (inM m) h h' := mo_sB H (k := 20) (by omega) rfl hi v
theorem mg_nameSize {h : sm_H} {m : Nat} {S : MS} (H : Mo h m S) : sm_R (sm_get h (some m) 12 21) = some (some (m + 16)) := by rw [mo_get H (by omega)]; rfl
theorem ma_nameSize {h : sm_H} {m : Nat} {S : MS} (H : Mo h m S) {i : Nat} (hi : i < 640) : sm_aI h (some (m + 16)) 0 (nI i) = some (S.2.2.1 21 i) := mo_aA H (k := 21) (by omega) rfl hi
theorem ms_nameSize {h : sm_H} {m : Nat} {S : MS} (H : Mo h m S) {i : Nat} (hi : i < 640) (v : Int32) : ∃ h', sm_sI h (some (m + 16)) 0 (nI i) v = some h' ∧ Mo h' m (sA S 21 i v) ∧ fr (inM m) h h' := mo_sA H (k := 21) (by omega) rfl hi v
theorem mg_tables {h : sm_H} {m : Nat} {S : MS} (H : Mo h m S) : sm_I (sm_get h (some m) 12 22) = some (S.1 22) := by rw [mo_get H (by omega)]; rfl
theorem mp_tables {h : sm_H} {m : Nat} {S : MS} (H : Mo h m S) (v : Int32) : ∃ h', sm_put h (some m) 12 22 (sm_v (vI v)) = some h' ∧ Mo h' m (sI S 22 v) ∧ fr (inM m) h h' := mo_pI H (by omega) rfl v
theorem mg_tName {h : sm_H} {m : Nat} {S : MS} (H : Mo h m S) : sm_R (sm_get h (some m) 12 23) = some (some (m + 17)) := by rw [mo_get H (by omega)]; rfl
theorem ma_tName {h : sm_H} {m : Nat} {S : MS} (H : Mo h m S) {i : Nat} (hi : i < 64) : sm_aJ h (some (m + 17)) 1 (nI i) = some (S.2.2.2 23 i) := mo_aB H (k := 23) (by omega) rfl hi
theorem ms_tName {h : sm_H} {m : Nat} {S : MS} (H : Mo h m S) {i : Nat} (hi : i < 64) (v : Int64) : ∃ h', sm_sJ h (some (m + 17)) 1 (nI i) v = some h' ∧ Mo h' m (sB S 23 i v) ∧ fr (inM m) h h' := mo_sB H (k := 23) (by omega) rfl hi v
theorem mg_tSize {h : sm_H} {m : Nat} {S : MS} (H : Mo h m S) : sm_R (sm_get h (some m) 12 24) = some (some (m + 18)) := by rw [mo_get H (by omega)]; rfl
theorem ma_tSize {h : sm_H} {m : Nat} {S : MS} (H : Mo h m S) {i : Nat} (hi : i < 4) : sm_aI h (some (m + 18)) 0 (nI i) = some (S.2.2.1 24 i) := mo_aA H (k := 24) (by omega) rfl hi
theorem ms_tSize {h : sm_H} {m : Nat} {S : MS} (H : Mo h m S) {i : Nat} (hi : i < 4) (v : Int32) : ∃ h', sm_sI h (some (m + 18)) 0 (nI i) v = some h' ∧ Mo h' m (sA S 24 i v) ∧ fr (inM m) h h' := mo_sA H (k := 24) (by omega) rfl hi v
theorem mg_tColumns {h : sm_H} {m : Nat} {S : MS} (H : Mo h m S) : sm_R (sm_get h (some m) 12 25) = some (some (m + 19)) := by rw [mo_get H (by omega)]; rfl
theorem ma_tColumns {h : sm_H} {m : Nat} {S : MS} (H : Mo h m S) {i : Nat} (hi : i < 4) : sm_aI h (some (m + 19)) 0 (nI i) = some (S.2.2.1 25 i) := mo_aA H (k := 25) (by omega) rfl hi
theorem ms_tColumns {h : sm_H} {m : Nat} {S : MS} (H : Mo h m S) {i : Nat} (hi : i < 4) (v : Int32) : ∃ h', sm_sI h (some (m + 19)) 0 (nI i) v = some h' ∧ Mo h' m (sA S 25 i v) ∧ fr (inM m) h h' := mo_sA H (k := 25) (by omega) rfl hi v
theorem mg_tRows {h : sm_H} {m : Nat} {S : MS} (H : Mo h m S) : sm_R (sm_get h (some m) 12 26) = some (some (m + 20)) := by rw [mo_get H (by omega)]; rfl
theorem ma_tRows {h : sm_H} {m : Nat} {S : MS} (H : Mo h m S) {i : Nat} (hi : i < 4) : sm_aI h (some (m + 20)) 0 (nI i) = some (S.2.2.1 26 i) := mo_aA H (k := 26) (by omega) rfl hi
theorem ms_tRows {h : sm_H} {m : Nat} {S : MS} (H : Mo h m S) {i : Nat} (hi : i < 4) (v : Int32) : ∃ h', sm_sI h (some (m + 20)) 0 (nI i) v = some h' ∧ Mo h' m (sA S 26 i v) ∧ fr (inM m) h h' := mo_sA H (k := 26) (by omega) rfl hi v
theorem mg_tIndex {h : sm_H} {m : Nat} {S : MS} (H : Mo h m S) : sm_R (sm_get h (some m) 12 27) = some (some (m + 21)) := by rw [mo_get H (by omega)]; rfl
theorem ma_tIndex {h : sm_H} {m : Nat} {S : MS} (H : Mo h m S) {i : Nat} (hi : i < 64) : sm_aI h (some (m + 21)) 0 (nI i) = some (S.2.2.1 27 i) := mo_aA H (k := 27) (by omega) rfl hi
theorem ms_tIndex {h : sm_H} {m : Nat} {S : MS} (H : Mo h m S) {i : Nat} (hi : i < 64) (v : Int32) : ∃ h', sm_sI h (some (m + 21)) 0 (nI i) v = some h' ∧ Mo h' m (sA S 27 i v) ∧ fr (inM m) h h' := mo_sA H (k := 27) (by omega) rfl hi v
theorem mg_communities {h : sm_H} {m : Nat} {S : MS} (H : Mo h m S) : sm_I (sm_get h (some m) 12 28) = some (S.1 28) := by rw [mo_get H (by omega)]; rfl
theorem mp_communities {h : sm_H} {m : Nat} {S : MS} (H : Mo h m S) (v : Int32) : ∃ h', sm_put h (some m) 12 28 (sm_v (vI v)) = some h' ∧ Mo h' m (sI S 28 v) ∧ fr (inM m) h h' := mo_pI H (by omega) rfl v
theorem mg_cName {h : sm_H} {m : Nat} {S : MS} (H : Mo h m S) : sm_R (sm_get h (some m) 12 29) = some (some (m + 22)) := by rw [mo_get H (by omega)]; rfl
theorem ma_cName {h : sm_H} {m : Nat} {S : MS} (H : Mo h m S) {i : Nat} (hi : i < 320) : sm_aI h (some (m + 22)) 3 (nI i) = some (S.2.2.1 29 i) := mo_aA H (k := 29) (by omega) rfl hi
theorem ms_cName {h : sm_H} {m : Nat} {S : MS} (H : Mo h m S) {i : Nat} (hi : i < 320) (v : Int32) : ∃ h', sm_sI h (some (m + 22)) 3 (nI i) v = some h' ∧ Mo h' m (sA S 29 i v) ∧ fr (inM m) h h' := mo_sA H (k := 29) (by omega) rfl hi v
theorem mg_cSize {h : sm_H} {m : Nat} {S : MS} (H : Mo h m S) : sm_R (sm_get h (some m) 12 30) = some (some (m + 23)) := by rw [mo_get H (by omega)]; rfl
theorem ma_cSize {h : sm_H} {m : Nat} {S : MS} (H : Mo h m S) {i : Nat} (hi : i < 8) : sm_aI h (some (m + 23)) 0 (nI i) = some (S.2.2.1 30 i) := mo_aA H (k := 30) (by omega) rfl hi
theorem ms_cSize {h : sm_H} {m : Nat} {S : MS} (H : Mo h m S) {i : Nat} (hi : i < 8) (v : Int32) : ∃ h', sm_sI h (some (m + 23)) 0 (nI i) v = some h' ∧ Mo h' m (sA S 30 i v) ∧ fr (inM m) h h' := mo_sA H (k := 30) (by omega) rfl hi v
theorem mg_cSets {h : sm_H} {m : Nat} {S : MS} (H : Mo h m S) : sm_R (sm_get h (some m) 12 31) = some (some (m + 24)) := by rw [mo_get H (by omega)]; rfl
theorem ma_cSets {h : sm_H} {m : Nat} {S : MS} (H : Mo h m S) {i : Nat} (hi : i < 8) : sm_aI h (some (m + 24)) 2 (nI i) = some (S.2.2.1 31 i) := mo_aA H (k := 31) (by omega) rfl hi
theorem ms_cSets {h : sm_H} {m : Nat} {S : MS} (H : Mo h m S) {i : Nat} (hi : i < 8) (v : Int32) : ∃ h', sm_sI h (some (m + 24)) 2 (nI i) v = some h' ∧ Mo h' m (sA S 31 i v) ∧ fr (inM m) h h' := mo_sA H (k := 31) (by omega) rfl hi v
theorem mg_cViews {h : sm_H} {m : Nat} {S : MS} (H : Mo h m S) : sm_R (sm_get h (some m) 12 32) = some (some (m + 25)) := by rw [mo_get H (by omega)]; rfl
theorem ma_cViews {h : sm_H} {m : Nat} {S : MS} (H : Mo h m S) {i : Nat} (hi : i < 8) : sm_aI h (some (m + 25)) 0 (nI i) = some (S.2.2.1 32 i) := mo_aA H (k := 32) (by omega) rfl hi
theorem ms_cViews {h : sm_H} {m : Nat} {S : MS} (H : Mo h m S) {i : Nat} (hi : i < 8) (v : Int32) : ∃ h', sm_sI h (some (m + 25)) 0 (nI i) v = some h' ∧ Mo h' m (sA S 32 i v) ∧ fr (inM m) h h' := mo_sA H (k := 32) (by omega) rfl hi v
theorem mg_cView {h : sm_H} {m : Nat} {S : MS} (H : Mo h m S) : sm_R (sm_get h (some m) 12 33) = some (some (m + 26)) := by rw [mo_get H (by omega)]; rfl
theorem ma_cView {h : sm_H} {m : Nat} {S : MS} (H : Mo h m S) {i : Nat} (hi : i < 1024) : sm_aJ h (some (m + 26)) 1 (nI i) = some (S.2.2.2 33 i) := mo_aB H (k := 33) (by omega) rfl hi
theorem ms_cView {h : sm_H} {m : Nat} {S : MS} (H : Mo h m S) {i : Nat} (hi : i < 1024) (v : Int64) : ∃ h', sm_sJ h (some (m + 26)) 1 (nI i) v = some h' ∧ Mo h' m (sB S 33 i v) ∧ fr (inM m) h h' := mo_sB H (k := 33) (by omega) rfl hi v
theorem mg_cViewSize {h : sm_H} {m : Nat} {S : MS} (H : Mo h m S) : sm_R (sm_get h (some m) 12 34) = some (some (m + 27)) := by rw [mo_get H (by omega)]; rfl
theorem ma_cViewSize {h : sm_H} {m : Nat} {S : MS} (H : Mo h m S) {i : Nat} (hi : i < 64) : sm_aI h (some (m + 27)) 0 (nI i) = some (S.2.2.1 34 i) := mo_aA H (k := 34) (by omega) rfl hi
theorem ms_cViewSize {h : sm_H} {m : Nat} {S : MS} (H : Mo h m S) {i : Nat} (hi : i < 64) (v : Int32) : ∃ h', sm_sI h (some (m + 27)) 0 (nI i) v = some h' ∧ Mo h' m (sA S 34 i v) ∧ fr (inM m) h h' := mo_sA H (k := 34) (by omega) rfl hi v
theorem mg_cViewIn {h : sm_H} {m : Nat} {S : MS} (H : Mo h m S) : sm_R (sm_get h (some m) 12 35) = some (some (m + 28)) := by rw [mo_get H (by omega)]; rfl
theorem ma_cViewIn {h : sm_H} {m : Nat} {S : MS} (H : Mo h m S) {i : Nat} (hi : i < 64) : sm_aI h (some (m + 28)) 2 (nI i) = some (S.2.2.1 35 i) := mo_aA H (k := 35) (by omega) rfl hi
theorem ms_cViewIn {h : sm_H} {m : Nat} {S : MS} (H : Mo h m S) {i : Nat} (hi : i < 64) (v : Int32) : ∃ h', sm_sI h (some (m + 28)) 2 (nI i) v = some h' ∧ Mo h' m (sA S 35 i v) ∧ fr (inM m) h h' := mo_sA H (k := 35) (by omega) rfl hi v
theorem mg_qName {h : sm_H} {m : Nat} {S : MS} (H : Mo h m S) : sm_R (sm_get h (some m) 12 36) = some (some (m + 29)) := by rw [mo_get H (by omega)]; rfl
theorem ma_qName {h : sm_H} {m : Nat} {S : MS} (H : Mo h m S) {i : Nat} (hi : i < 960) : sm_aJ h (some (m + 29)) 1 (nI i) = some (S.2.2.2 36 i) := mo_aB H (k := 36) (by omega) rfl hi
theorem ms_qName {h : sm_H} {m : Nat} {S : MS} (H : Mo h m S) {i : Nat} (hi : i < 960) (v : Int64) : ∃ h', sm_sJ h (some (m + 29)) 1 (nI i) v = some h' ∧ Mo h' m (sB S 36 i v) ∧ fr (inM m) h h' := mo_sB H (k := 36) (by omega) rfl hi v
theorem mg_qNameSize {h : sm_H} {m : Nat} {S : MS} (H : Mo h m S) : sm_R (sm_get h (some m) 12 37) = some (some (m + 30)) := by rw [mo_get H (by omega)]; rfl
theorem ma_qNameSize {h : sm_H} {m : Nat} {S : MS} (H : Mo h m S) {i : Nat} (hi : i < 60) : sm_aI h (some (m + 30)) 0 (nI i) = some (S.2.2.1 37 i) := mo_aA H (k := 37) (by omega) rfl hi
theorem ms_qNameSize {h : sm_H} {m : Nat} {S : MS} (H : Mo h m S) {i : Nat} (hi : i < 60) (v : Int32) : ∃ h', sm_sI h (some (m + 30)) 0 (nI i) v = some h' ∧ Mo h' m (sA S 37 i v) ∧ fr (inM m) h h' := mo_sA H (k := 37) (by omega) rfl hi v
theorem mg_qTag {h : sm_H} {m : Nat} {S : MS} (H : Mo h m S) : sm_R (sm_get h (some m) 12 38) = some (some (m + 31)) := by rw [mo_get H (by omega)]; rfl
theorem ma_qTag {h : sm_H} {m : Nat} {S : MS} (H : Mo h m S) {i : Nat} (hi : i < 60) : sm_aI h (some (m + 31)) 0 (nI i) = some (S.2.2.1 38 i) := mo_aA H (k := 38) (by omega) rfl hi
theorem ms_qTag {h : sm_H} {m : Nat} {S : MS} (H : Mo h m S) {i : Nat} (hi : i < 60) (v : Int32) : ∃ h', sm_sI h (some (m + 31)) 0 (nI i) v = some h' ∧ Mo h' m (sA S 38 i v) ∧ fr (inM m) h h' := mo_sA H (k := 38) (by omega) rfl hi v
theorem mg_qNumber {h : sm_H} {m : Nat} {S : MS} (H : Mo h m S) : sm_R (sm_get h (some m) 12 39) = some (some (m + 32)) := by rw [mo_get H (by omega)]; rfl
theorem ma_qNumber {h : sm_H} {m : Nat} {S : MS} (H : Mo h m S) {i : Nat} (hi : i < 60) : sm_aJ h (some (m + 32)) 1 (nI i) = some (S.2.2.2 39 i) := mo_aB H (k := 39) (by omega) rfl hi
theorem ms_qNumber {h : sm_H} {m : Nat} {S : MS} (H : Mo h m S) {i : Nat} (hi : i < 60) (v : Int64) : ∃ h', sm_sJ h (some (m + 32)) 1 (nI i) v = some h' ∧ Mo h' m (sB S 39 i v) ∧ fr (inM m) h h' := mo_sB H (k := 39) (by omega) rfl hi v
theorem mg_qText {h : sm_H} {m : Nat} {S : MS} (H : Mo h m S) : sm_R (sm_get h (some m) 12 40) = some (some (m + 33)) := by rw [mo_get H (by omega)]; rfl
theorem ma_qText {h : sm_H} {m : Nat} {S : MS} (H : Mo h m S) {i : Nat} (hi : i < 2400) : sm_aI h (some (m + 33)) 3 (nI i) = some (S.2.2.1 40 i) := mo_aA H (k := 40) (by omega) rfl hi
theorem ms_qText {h : sm_H} {m : Nat} {S : MS} (H : Mo h m S) {i : Nat} (hi : i < 2400) (v : Int32) : ∃ h', sm_sI h (some (m + 33)) 3 (nI i) v = some h' ∧ Mo h' m (sA S 40 i v) ∧ fr (inM m) h h' := mo_sA H (k := 40) (by omega) rfl hi v
theorem mg_qTextSize {h : sm_H} {m : Nat} {S : MS} (H : Mo h m S) : sm_R (sm_get h (some m) 12 41) = some (some (m + 34)) := by rw [mo_get H (by omega)]; rfl
theorem ma_qTextSize {h : sm_H} {m : Nat} {S : MS} (H : Mo h m S) {i : Nat} (hi : i < 60) : sm_aI h (some (m + 34)) 0 (nI i) = some (S.2.2.1 41 i) := mo_aA H (k := 41) (by omega) rfl hi
theorem ms_qTextSize {h : sm_H} {m : Nat} {S : MS} (H : Mo h m S) {i : Nat} (hi : i < 60) (v : Int32) : ∃ h', sm_sI h (some (m + 34)) 0 (nI i) v = some h' ∧ Mo h' m (sA S 41 i v) ∧ fr (inM m) h h' := mo_sA H (k := 41) (by omega) rfl hi v
theorem mg_qValue {h : sm_H} {m : Nat} {S : MS} (H : Mo h m S) : sm_R (sm_get h (some m) 12 42) = some (some (m + 35)) := by rw [mo_get H (by omega)]; rfl
theorem ma_qValue {h : sm_H} {m : Nat} {S : MS} (H : Mo h m S) {i : Nat} (hi : i < 960) : sm_aJ h (some (m + 35)) 1 (nI i) = some (S.2.2.2 42 i) := mo_aB H (k := 42) (by omega) rfl hi
theorem ms_qValue {h : sm_H} {m : Nat} {S : MS} (H : Mo h m S) {i : Nat} (hi : i < 960) (v : Int64) : ∃ h', sm_sJ h (some (m + 35)) 1 (nI i) v = some h' ∧ Mo h' m (sB S 42 i v) ∧ fr (inM m) h h' := mo_sB H (k := 42) (by omega) rfl hi v
theorem mg_qValueSize {h : sm_H} {m : Nat} {S : MS} (H : Mo h m S) : sm_R (sm_get h (some m) 12 43) = some (some (m + 36)) := by rw [mo_get H (by omega)]; rfl
theorem ma_qValueSize {h : sm_H} {m : Nat} {S : MS} (H : Mo h m S) {i : Nat} (hi : i < 60) : sm_aI h (some (m + 36)) 0 (nI i) = some (S.2.2.1 43 i) := mo_aA H (k := 43) (by omega) rfl hi
theorem ms_qValueSize {h : sm_H} {m : Nat} {S : MS} (H : Mo h m S) {i : Nat} (hi : i < 60) (v : Int32) : ∃ h', sm_sI h (some (m + 36)) 0 (nI i) v = some h' ∧ Mo h' m (sA S 43 i v) ∧ fr (inM m) h h' := mo_sA H (k := 43) (by omega) rfl hi v
theorem mg_at {h : sm_H} {m : Nat} {S : MS} (H : Mo h m S) : sm_I (sm_get h (some m) 12 44) = some (S.1 44) := by rw [mo_get H (by omega)]; rfl
theorem mp_at {h : sm_H} {m : Nat} {S : MS} (H : Mo h m S) (v : Int32) : ∃ h', sm_put h (some m) 12 44 (sm_v (vI v)) = some h' ∧ Mo h' m (sI S 44 v) ∧ fr (inM m) h h' := mo_pI H (by omega) rfl v
theorem mg_bad {h : sm_H} {m : Nat} {S : MS} (H : Mo h m S) : sm_I (sm_get h (some m) 12 45) = some (S.1 45) := by rw [mo_get H (by omega)]; rfl
theorem mp_bad {h : sm_H} {m : Nat} {S : MS} (H : Mo h m S) (v : Int32) : ∃ h', sm_put h (some m) 12 45 (sm_v (vI v)) = some h' ∧ Mo h' m (sI S 45 v) ∧ fr (inM m) h h' := mo_pI H (by omega) rfl v
theorem mg_asked {h : sm_H} {m : Nat} {S : MS} (H : Mo h m S) : sm_I (sm_get h (some m) 12 46) = some (S.1 46) := by rw [mo_get H (by omega)]; rfl
theorem mp_asked {h : sm_H} {m : Nat} {S : MS} (H : Mo h m S) (v : Int32) : ∃ h', sm_put h (some m) 12 46 (sm_v (vI v)) = some h' ∧ Mo h' m (sI S 46 v) ∧ fr (inM m) h h' := mo_pI H (by omega) rfl v
theorem mg_told {h : sm_H} {m : Nat} {S : MS} (H : Mo h m S) : sm_I (sm_get h (some m) 12 47) = some (S.1 47) := by rw [mo_get H (by omega)]; rfl
theorem mp_told {h : sm_H} {m : Nat} {S : MS} (H : Mo h m S) (v : Int32) : ∃ h', sm_put h (some m) 12 47 (sm_v (vI v)) = some h' ∧ Mo h' m (sI S 47 v) ∧ fr (inM m) h h' := mo_pI H (by omega) rfl v
theorem mg_version {h : sm_H} {m : Nat} {S : MS} (H : Mo h m S) : sm_I (sm_get h (some m) 12 48) = some (S.1 48) := by rw [mo_get H (by omega)]; rfl
theorem mp_version {h : sm_H} {m : Nat} {S : MS} (H : Mo h m S) (v : Int32) : ∃ h', sm_put h (some m) 12 48 (sm_v (vI v)) = some h' ∧ Mo h' m (sI S 48 v) ∧ fr (inM m) h h' := mo_pI H (by omega) rfl v
theorem mg_who {h : sm_H} {m : Nat} {S : MS} (H : Mo h m S) : sm_I (sm_get h (some m) 12 49) = some (S.1 49) := by rw [mo_get H (by omega)]; rfl
theorem mp_who {h : sm_H} {m : Nat} {S : MS} (H : Mo h m S) (v : Int32) : ∃ h', sm_put h (some m) 12 49 (sm_v (vI v)) = some h' ∧ Mo h' m (sI S 49 v) ∧ fr (inM m) h h' := mo_pI H (by omega) rfl v
theorem mg_whoAt {h : sm_H} {m : Nat} {S : MS} (H : Mo h m S) : sm_I (sm_get h (some m) 12 50) = some (S.1 50) := by rw [mo_get H (by omega)]; rfl
theorem mp_whoAt {h : sm_H} {m : Nat} {S : MS} (H : Mo h m S) (v : Int32) : ∃ h', sm_put h (some m) 12 50 (sm_v (vI v)) = some h' ∧ Mo h' m (sI S 50 v) ∧ fr (inM m) h h' := mo_pI H (by omega) rfl v
theorem mg_whoSize {h : sm_H} {m : Nat} {S : MS} (H : Mo h m S) : sm_I (sm_get h (some m) 12 51) = some (S.1 51) := by rw [mo_get H (by omega)]; rfl
theorem mp_whoSize {h : sm_H} {m : Nat} {S : MS} (H : Mo h m S) (v : Int32) : ∃ h', sm_put h (some m) 12 51 (sm_v (vI v)) = some h' ∧ Mo h' m (sI S 51 v) ∧ fr (inM m) h h' := mo_pI H (by omega) rfl v
theorem mg_kind {h : sm_H} {m : Nat} {S : MS} (H : Mo h m S) : sm_I (sm_get h (some m) 12 52) = some (S.1 52) := by rw [mo_get H (by omega)]; rfl
theorem mp_kind {h : sm_H} {m : Nat} {S : MS} (H : Mo h m S) (v : Int32) : ∃ h', sm_put h (some m) 12 52 (sm_v (vI v)) = some h' ∧ Mo h' m (sI S 52 v) ∧ fr (inM m) h h' := mo_pI H (by omega) rfl v
theorem mg_id {h : sm_H} {m : Nat} {S : MS} (H : Mo h m S) : sm_I (sm_get h (some m) 12 53) = some (S.1 53) := by rw [mo_get H (by omega)]; rfl
theorem mp_id {h : sm_H} {m : Nat} {S : MS} (H : Mo h m S) (v : Int32) : ∃ h', sm_put h (some m) 12 53 (sm_v (vI v)) = some h' ∧ Mo h' m (sI S 53 v) ∧ fr (inM m) h h' := mo_pI H (by omega) rfl v
theorem mg_s {h : sm_H} {m : Nat} {S : MS} (H : Mo h m S) : sm_I (sm_get h (some m) 12 54) = some (S.1 54) := by rw [mo_get H (by omega)]; rfl
theorem mp_s {h : sm_H} {m : Nat} {S : MS} (H : Mo h m S) (v : Int32) : ∃ h', sm_put h (some m) 12 54 (sm_v (vI v)) = some h' ∧ Mo h' m (sI S 54 v) ∧ fr (inM m) h h' := mo_pI H (by omega) rfl v
theorem mg_t {h : sm_H} {m : Nat} {S : MS} (H : Mo h m S) : sm_I (sm_get h (some m) 12 55) = some (S.1 55) := by rw [mo_get H (by omega)]; rfl
theorem mp_t {h : sm_H} {m : Nat} {S : MS} (H : Mo h m S) (v : Int32) : ∃ h', sm_put h (some m) 12 55 (sm_v (vI v)) = some h' ∧ Mo h' m (sI S 55 v) ∧ fr (inM m) h h' := mo_pI H (by omega) rfl v
theorem mg_error {h : sm_H} {m : Nat} {S : MS} (H : Mo h m S) : sm_I (sm_get h (some m) 12 56) = some (S.1 56) := by rw [mo_get H (by omega)]; rfl
theorem mp_error {h : sm_H} {m : Nat} {S : MS} (H : Mo h m S) (v : Int32) : ∃ h', sm_put h (some m) 12 56 (sm_v (vI v)) = some h' ∧ Mo h' m (sI S 56 v) ∧ fr (inM m) h h' := mo_pI H (by omega) rfl v
theorem mg_index {h : sm_H} {m : Nat} {S : MS} (H : Mo h m S) : sm_I (sm_get h (some m) 12 57) = some (S.1 57) := by rw [mo_get H (by omega)]; rfl
theorem mp_index {h : sm_H} {m : Nat} {S : MS} (H : Mo h m S) (v : Int32) : ∃ h', sm_put h (some m) 12 57 (sm_v (vI v)) = some h' ∧ Mo h' m (sI S 57 v) ∧ fr (inM m) h h' := mo_pI H (by omega) rfl v
theorem mg_wide {h : sm_H} {m : Nat} {S : MS} (H : Mo h m S) : sm_I (sm_get h (some m) 12 58) = some (S.1 58) := by rw [mo_get H (by omega)]; rfl
theorem mp_wide {h : sm_H} {m : Nat} {S : MS} (H : Mo h m S) (v : Int32) : ∃ h', sm_put h (some m) 12 58 (sm_v (vI v)) = some h' ∧ Mo h' m (sI S 58 v) ∧ fr (inM m) h h' := mo_pI H (by omega) rfl v
theorem mg_full {h : sm_H} {m : Nat} {S : MS} (H : Mo h m S) : sm_R (sm_get h (some m) 12 59) = some (some (m + 37)) := by rw [mo_get H (by omega)]; rfl
theorem ma_full {h : sm_H} {m : Nat} {S : MS} (H : Mo h m S) {i : Nat} (hi : i < 17) : sm_aJ h (some (m + 37)) 1 (nI i) = some (S.2.2.2 59 i) := mo_aB H (k := 59) (by omega) rfl hi
theorem ms_full {h : sm_H} {m : Nat} {S : MS} (H : Mo h m S) {i : Nat} (hi : i < 17) (v : Int64) : ∃ h', sm_sJ h (some (m + 37)) 1 (nI i) v = some h' ∧ Mo h' m (sB S 59 i v) ∧ fr (inM m) h h' := mo_sB H (k := 59) (by omega) rfl hi v
theorem mg_fullSize {h : sm_H} {m : Nat} {S : MS} (H : Mo h m S) : sm_I (sm_get h (some m) 12 60) = some (S.1 60) := by rw [mo_get H (by omega)]; rfl
theorem mp_fullSize {h : sm_H} {m : Nat} {S : MS} (H : Mo h m S) (v : Int32) : ∃ h', sm_put h (some m) 12 60 (sm_v (vI v)) = some h' ∧ Mo h' m (sI S 60 v) ∧ fr (inM m) h h' := mo_pI H (by omega) rfl v
theorem mg_least {h : sm_H} {m : Nat} {S : MS} (H : Mo h m S) : sm_R (sm_get h (some m) 12 61) = some (some (m + 38)) := by rw [mo_get H (by omega)]; rfl
theorem ma_least {h : sm_H} {m : Nat} {S : MS} (H : Mo h m S) {i : Nat} (hi : i < 17) : sm_aJ h (some (m + 38)) 1 (nI i) = some (S.2.2.2 61 i) := mo_aB H (k := 61) (by omega) rfl hi
theorem ms_least {h : sm_H} {m : Nat} {S : MS} (H : Mo h m S) {i : Nat} (hi : i < 17) (v : Int64) : ∃ h', sm_sJ h (some (m + 38)) 1 (nI i) v = some h' ∧ Mo h' m (sB S 61 i v) ∧ fr (inM m) h h' := mo_sB H (k := 61) (by omega) rfl hi v
theorem mg_leastSize {h : sm_H} {m : Nat} {S : MS} (H : Mo h m S) : sm_I (sm_get h (some m) 12 62) = some (S.1 62) := by rw [mo_get H (by omega)]; rfl
theorem mp_leastSize {h : sm_H} {m : Nat} {S : MS} (H : Mo h m S) (v : Int32) : ∃ h', sm_put h (some m) 12 62 (sm_v (vI v)) = some h' ∧ Mo h' m (sI S 62 v) ∧ fr (inM m) h h' := mo_pI H (by omega) rfl v
theorem mg_made {h : sm_H} {m : Nat} {S : MS} (H : Mo h m S) : sm_R (sm_get h (some m) 12 63) = some (some (m + 39)) := by rw [mo_get H (by omega)]; rfl
theorem ma_made {h : sm_H} {m : Nat} {S : MS} (H : Mo h m S) {i : Nat} (hi : i < 2400) : sm_aI h (some (m + 39)) 3 (nI i) = some (S.2.2.1 63 i) := mo_aA H (k := 63) (by omega) rfl hi
theorem ms_made {h : sm_H} {m : Nat} {S : MS} (H : Mo h m S) {i : Nat} (hi : i < 2400) (v : Int32) : ∃ h', sm_sI h (some (m + 39)) 3 (nI i) v = some h' ∧ Mo h' m (sA S 63 i v) ∧ fr (inM m) h h' := mo_sA H (k := 63) (by omega) rfl hi v
theorem mg_madeSize {h : sm_H} {m : Nat} {S : MS} (H : Mo h m S) : sm_I (sm_get h (some m) 12 64) = some (S.1 64) := by rw [mo_get H (by omega)]; rfl
theorem mp_madeSize {h : sm_H} {m : Nat} {S : MS} (H : Mo h m S) (v : Int32) : ∃ h', sm_put h (some m) 12 64 (sm_v (vI v)) = some h' ∧ Mo h' m (sI S 64 v) ∧ fr (inM m) h h' := mo_pI H (by omega) rfl v
theorem mg_answerSize {h : sm_H} {m : Nat} {S : MS} (H : Mo h m S) : sm_I (sm_get h (some m) 12 65) = some (S.1 65) := by rw [mo_get H (by omega)]; rfl
theorem mp_answerSize {h : sm_H} {m : Nat} {S : MS} (H : Mo h m S) (v : Int32) : ∃ h', sm_put h (some m) 12 65 (sm_v (vI v)) = some h' ∧ Mo h' m (sI S 65 v) ∧ fr (inM m) h h' := mo_pI H (by omega) rfl v
