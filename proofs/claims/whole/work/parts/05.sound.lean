/-! SOUNDNESS, first half: where the model's cells lie, and one instruction -/
/-- cell 0 (the script) lies at b, the others from sz on -/
def mrho (b sz : Nat) : Nat → Nat
  | 0 => b
  | a + 1 => sz + a
def mrv (b sz : Nat) : Value → Value
  | .ref a => .ref (mrho b sz a)
  | v => v
def mvi : Value → Int32
  | .int x => x
  | _ => 0
def mvr (b sz : Nat) : Value → Option Nat
  | .ref a => some (mrho b sz a)
  | _ => none
def mEn (b sz : Nat) (dA : Nat → ClassId) : mC → va_E
  | .inl q => .inr (q.1, q.2.map (mrv b sz))
  | .inr q => bif Nat.ble 2 q.1 then .inl (dA q.1, q.2.length, .inr (.inr (.inr (.inr (fun j => mvr b sz (q.2.getD j .null)))))) else .inl (dA q.1, q.2.length, .inl (fun j => mvi (q.2.getD j .null)))
def mWd (b sz : Nat) (dA : Nat → ClassId) (M : mH) : va_W := M.tail.mapIdx (fun i c => (sz + i, mEn b sz dA c))
def mTys (dA : Nat → ClassId) : List (ClassId × FieldType) := [(dA 0, .int), (dA 1, .boolean), (dA 2, .object (mCn 2)), (dA 3, .object (mCn 3)), (dA 4, .object (mCn 4)), (dA 5, .object (mCn 6)), (dA 6, .object (mCn 7))]
theorem mTys_at (dA : Nat → ClassId) : ∀ t : Nat, 2 ≤ t → t ≤ 6 → (mTys dA)[t]? = some (dA t, .object (mCn (mAc t)))
  | 0, h, _ => absurd h (by omega)
  | 1, h, _ => absurd h (by omega)
  | 2, _, _ => rfl
  | 3, _, _ => rfl
  | 4, _, _ => rfl
  | 5, _, _ => rfl
  | 6, _, _ => rfl
  | t + 7, _, h => absurd h (by omega)
def msz : mC → Nat
  | .inl q => q.2.length
  | .inr q => q.2.length
def mslots : mH → Nat
  | [] => 0
  | c :: r => msz c + mslots r
theorem mslots_push (M : mH) (c : mC) : mslots (M ++ [c]) = mslots M + msz c := by
  induction M with
  | nil => simp [mslots]
  | cons x r ih => simp only [List.cons_append, mslots, ih]; omega
theorem mslots_set {M : mH} {c c' : mC} (hs : msz c' = msz c) : ∀ {a : Nat}, M[a]? = some c → mslots (M.set a c') = mslots M := by
  induction M with
  | nil => intro a h; simp at h
  | cons x r ih =>
    intro a h
    cases a with
    | zero =>
      simp only [List.getElem?_cons_zero, Option.some.injEq] at h
      subst h
      simp only [List.set_cons_zero, mslots, hs]
    | succ a =>
      rw [List.getElem?_cons_succ] at h
      simp only [List.set_cons_succ, mslots, ih h]
theorem mrv_cat {b sz : Nat} (v : Value) : (mrv b sz v).category = v.category := by cases v <;> rfl
theorem mrv_rf {b sz : Nat} : ∀ {v : Value}, (v = .null ∨ ∃ a, v = .ref a) → va_rf (mvr b sz v) = mrv b sz v := by
  rintro v (rfl | ⟨a, rfl⟩) <;> rfl
theorem mrho_inj {b sz : Nat} (hb : b < sz) {x y : Nat} (h : mrho b sz x = mrho b sz y) : x = y := by
  cases x <;> cases y <;> simp only [mrho] at h <;> omega
theorem mrho_pos {b sz a : Nat} (h : 0 < a) : mrho b sz a = sz + (a - 1) := by
  cases a with
  | zero => omega
  | succ a => rfl
theorem mWd_at {b sz : Nat} {dA : Nat → ClassId} {M : mH} {a : Nat} {c : mC} (h : M[a + 1]? = some c) : (mWd b sz dA M)[a]? = some (sz + a, mEn b sz dA c) := by
  simp only [mWd, List.getElem?_mapIdx, List.getElem?_tail, h, Option.map_some]
theorem mWd_len {b sz : Nat} {dA : Nat → ClassId} {M : mH} : (mWd b sz dA M).length = M.length - 1 := by simp [mWd]
theorem mWd_set {b sz : Nat} {dA : Nat → ClassId} {M : mH} {a : Nat} {c : mC} (h : a + 1 < M.length) : (mWd b sz dA M).set a (sz + a, mEn b sz dA c) = mWd b sz dA (M.set (a + 1) c) := by
  apply List.ext_getElem?
  intro i
  by_cases hi : a = i
  · subst hi
    rw [List.getElem?_set_self (by rw [mWd_len]; omega), mWd_at]
    rw [List.getElem?_set_self h]
  · rw [List.getElem?_set_ne hi]
    simp only [mWd, List.getElem?_mapIdx, List.getElem?_tail]
    rw [List.getElem?_set_ne (by omega)]
theorem mWd_push {b sz : Nat} {dA : Nat → ClassId} {M : mH} {c : mC} (h : 1 ≤ M.length) : mWd b sz dA M ++ [(sz + (M.length - 1), mEn b sz dA c)] = mWd b sz dA (M ++ [c]) := by
  cases M with
  | nil => simp at h
  | cons x r => simp [mWd, List.mapIdx_append]
theorem mWd_D {b sz : Nat} {dA : Nat → ClassId} {M : mH} : va_D (fun q => sz ≤ q) (mWd b sz dA M) := by
  have key : ∀ (i : Nat) (p : Nat × va_E), (mWd b sz dA M)[i]? = some p → p.1 = sz + i := by
    intro i p h
    simp only [mWd, List.getElem?_mapIdx] at h
    cases hm : M.tail[i]? with
    | none => rw [hm] at h; cases h
    | some c => rw [hm] at h; cases h; rfl
  refine ⟨fun i j p q hi hj e => ?_, fun k q hk => ?_⟩
  · have h1 := key i p hi
    have h2 := key j q hj
    omega
  · show sz ≤ q.1
    rw [key k q hk]
    omega
/-- the tables: classes, array classes, links to nest mates -/
def mKn (D : va_G) (dA : Nat → ClassId) (U : State) : Prop := va_K D mCl (mTys dA) U ∧ (∀ w ∈ mNw, va_Nw w U) ∧ ∀ t : Nat, 2 ≤ t → t ≤ 6 → va_AO (mCn (mAc t)) U
theorem mNw_form {w : Cond} (h : w ∈ mNw) : ∃ o i y, w = .methodLinkNest o i y "CageKernel" := by
  obtain ⟨q, -, rfl⟩ := List.mem_map.mp h
  exact ⟨_, _, _, rfl⟩
theorem mKn.warm {D : va_G} {dA : Nat → ClassId} {s U : State} (hW : s.WarmedH U.vm) (h : mKn D dA s) : mKn D dA U :=
  ⟨va_K.moved hW.alike h.1, fun w hw => by
    have h1 := h.2.1 w hw
    obtain ⟨o, i, y, rfl⟩ := mNw_form hw
    exact va_Nw.warmM hW h1, fun t h1 h2 => (h.2.2 t h1 h2).moved hW.alike⟩
theorem mKn.same {D : va_G} {dA : Nat → ClassId} {s U : State} (e : s.vm = U.vm) (h : mKn D dA s) : mKn D dA U :=
  ⟨va_K.moved (by rw [e]; exact Vm.Alike.refl _) h.1, fun w hw => by
    have h1 := h.2.1 w hw
    obtain ⟨o, i, y, rfl⟩ := mNw_form hw
    exact va_Nw.same rfl e h1, fun t h1 h2 => (h.2.2 t h1 h2).moved (by rw [e]; exact Vm.Alike.refl _)⟩
/-- the machine's heap holds the model's -/
def mHp (b sz : Nat) (D : va_G) (dA : Nat → ClassId) (M : mH) (s : State) (H : Heap) : Prop :=
  1 ≤ M.length ∧ H.size = sz + (M.length - 1) ∧ b < sz ∧ va_P D mCl (mWd b sz dA M) H ∧ ∃ xs : List Int32, M[0]? = some (.inr (7, xs.map .int)) ∧ va_X b xs.length (fun j => xs.getD j 0) s H
/-- inside a method y: the machine, the code, the words -/
def mCx (p : Program) (s : State) (m : MethodId) (args : Array Value) (meth : Method) (c : Code) (y : Nat) (D : va_G) (dA : Nat → ClassId) : Prop :=
  p.tables.exec = Jvm.exec ∧ c.code = mCode y ∧ c.maxLocals = mMaxL y ∧ s.vm.findClass (mCn (mOwn y)) = some m.cls ∧ (∀ w ∈ mTs, w.before args s = true) ∧ mKn D dA s ∧ ((mName y).name = "<init>" → meth.name = "<init>")
/-- the machine's locals hold the model's -/
def mLo (b sz : Nat) (L : mL) (ls : Array Slot) : Prop := ∃ lv : List (Nat × Value), lv_has ls L.length lv ∧ (∀ q ∈ lv, q.2.category = 1) ∧ ∀ (i : Nat) (v : Value), L[i]? = some (some v) → (i, mrv b sz v) ∈ lv
theorem mLo.get {b sz : Nat} {L : mL} {ls : Array Slot} (h : mLo b sz L ls) {k : Nat} {v : Value} (hk : mload L k = some v) : ls[k]? = some (.val (mrv b sz v)) := by
  obtain ⟨lv, h1, -, h3⟩ := h
  refine h1.2.2 (k, mrv b sz v) (h3 k v ?_)
  simp only [mload] at hk
  split at hk
  · cases hk; assumption
  · cases hk
theorem mLo.set {b sz : Nat} {L : mL} {ls : Array Slot} {k : Nat} {v : Value} (hc : v.category = 1) (hk : k < L.length) {lv : List (Nat × Value)} (h2 : ∀ q ∈ lv, q.2.category = 1) (h3 : ∀ (i : Nat) (v : Value), L[i]? = some (some v) → (i, mrv b sz v) ∈ lv)
    (h : lv_has ls L.length ((k, mrv b sz v) :: lv.filter (fun q => !(q.1 == k) && !(q.1 + 1 == k && q.2.category == 2)))) : mLo b sz (L.set k (some v)) ls := by
  refine ⟨_, by rw [List.length_set]; exact h, fun q hq => ?_, fun i w hi => ?_⟩
  · rcases List.mem_cons.mp hq with rfl | hq
    · rw [mrv_cat]; exact hc
    · exact h2 q (List.mem_filter.mp hq).1
  · by_cases hik : k = i
    · subst hik
      rw [List.getElem?_set_self hk] at hi
      cases hi
      exact List.mem_cons_self
    · rw [List.getElem?_set_ne hik] at hi
      have hm := h3 i w hi
      refine List.mem_cons_of_mem _ (List.mem_filter.mpr ⟨hm, ?_⟩)
      have hc1 := h2 _ hm
      simp only at hc1
      simp [hc1, Ne.symm hik]
theorem mfit_ok {b sz : Nat} {ty : FieldType} {v : Value} (h : mfit ty v = true) : narrow ty (mrv b sz v) = mrv b sz v ∧ fits ty (mrv b sz v) = true := by
  unfold mfit at h
  split at h
  · exact ⟨rfl, rfl⟩
  · simp only [Bool.or_eq_true, beq_iff_eq] at h
    rcases h with rfl | rfl
    · exact ⟨show narrow .boolean (.int 0) = .int 0 by decide, show fits .boolean (.int 0) = true by decide⟩
    · exact ⟨show narrow .boolean (.int 1) = .int 1 by decide, show fits .boolean (.int 1) = true by decide⟩
  · exact ⟨rfl, rfl⟩
  · exact ⟨rfl, rfl⟩
  · exact ⟨rfl, rfl⟩
  · exact ⟨rfl, rfl⟩
  · cases h
/-- what is known of a fetched instruction -/
theorem mfetch_ok {y pc : Nat} {e : mE} (hall : ∀ y, y < 147 → (List.range (mlast y + 1)).all (mchk y) = true) (h : mfetch y pc = some e) : y < 147 ∧ decode (mCode y) pc = .ok (e.1, e.2.1 - pc) ∧ mst y pc e = true := by
  unfold mfetch at h
  cases hc : (Nat.ble y 146 && Nat.ble pc (mlast y)) with
  | false => rw [hc] at h; cases h
  | true =>
    rw [hc] at h
    simp only [Bool.and_eq_true, Nat.ble_eq] at hc
    have h1 := List.all_eq_true.mp (hall y (by omega)) pc (List.mem_range.mpr (by omega))
    simp only [cond_true] at h
    simp only [mchk, h, Bool.and_eq_true, decide_eq_true_eq] at h1
    exact ⟨by omega, h1.1, h1.2⟩
