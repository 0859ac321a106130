/-! THE PURE LAYER: runs of the model by equations -/
theorem mrun_mono : ∀ (n d y pc : Nat) (L : mL) (st : List Value) (M : mH) (x : Option Value × mH), mrun n d y pc L st M = some x → mrun (n + 1) d y pc L st M = some x := by
  intro n
  induction n with
  | zero => intro d y pc L st M x h; cases h
  | succ n ih =>
    intro d y pc L st M x h
    unfold mrun at h ⊢
    cases hf : mfetch y pc with
    | none => rw [hf] at h; cases h
    | some e =>
      rw [hf] at h
      dsimp only at h ⊢
      cases hr : mret e st with
      | some r => rw [hr] at h; exact h
      | none =>
        rw [hr] at h
        dsimp only at h ⊢
        cases hc : mcall e st M with
        | some q =>
          rw [hc] at h
          dsimp only at h ⊢
          cases d with
          | zero => cases h
          | succ d =>
            dsimp only at h ⊢
            cases hw : mrun n d q.1 0 (mentry q.1 q.2.1) [] M with
            | none => rw [hw] at h; cases h
            | some w =>
              rw [hw] at h
              rw [ih _ _ _ _ _ _ _ hw]
              exact ih _ _ _ _ _ _ _ h
        | none =>
          rw [hc] at h
          dsimp only at h ⊢
          cases hd : mdo e pc L st M with
          | none => rw [hd] at h; cases h
          | some q =>
            rw [hd] at h
            exact ih _ _ _ _ _ _ _ h
theorem mrun_le {n m d y pc : Nat} {L : mL} {st : List Value} {M : mH} {x : Option Value × mH} (hnm : n ≤ m) (h : mrun n d y pc L st M = some x) : mrun m d y pc L st M = some x := by
  induction hnm with
  | refl => exact h
  | step _ ih => exact mrun_mono _ _ _ _ _ _ _ _ ih
/-- it comes to an end, with Q of the answer and the heap -/
def V (d y pc : Nat) (L : mL) (st : List Value) (M : mH) (Q : Option Value → mH → Prop) : Prop := ∃ (n : Nat) (r : Option Value) (M' : mH), mrun n d y pc L st M = some (r, M') ∧ Q r M'
def Vc (d y : Nat) (as : List Value) (M : mH) (Q : Option Value → mH → Prop) : Prop := V d y 0 (mentry y as) [] M Q
theorem V_eq {d y pc pc' : Nat} {L L' : mL} {st st' : List Value} {M M' : mH} {Q : Option Value → mH → Prop} {e : mE} (hf : mfetch y pc = some e) (hr : mret e st = none) (hc : mcall e st M = none) (hd : mdo e pc L st M = some (pc', L', st', M')) : V d y pc L st M Q = V d y pc' L' st' M' Q := by
  have key : ∀ n, mrun (n + 1) d y pc L st M = mrun n d y pc' L' st' M' := fun n => by simp only [mrun, hf, hr, hc, hd]
  refine propext ⟨fun h => ?_, fun h => ?_⟩
  · obtain ⟨n, r, M2, h1, h2⟩ := h
    cases n with
    | zero => cases h1
    | succ n => exact ⟨n, r, M2, by rw [← key]; exact h1, h2⟩
  · obtain ⟨n, r, M2, h1, h2⟩ := h
    exact ⟨n + 1, r, M2, by rw [key]; exact h1, h2⟩
theorem V_ret {d y pc : Nat} {L : mL} {st : List Value} {M : mH} {Q : Option Value → mH → Prop} {e : mE} {r : Option Value} (hf : mfetch y pc = some e) (hr : mret e st = some r) : V d y pc L st M Q = Q r M := by
  have key : ∀ n, mrun (n + 1) d y pc L st M = some (r, M) := fun n => by simp only [mrun, hf, hr]
  refine propext ⟨fun h => ?_, fun h => ?_⟩
  · obtain ⟨n, r2, M2, h1, h2⟩ := h
    cases n with
    | zero => cases h1
    | succ n =>
      rw [key] at h1
      cases h1
      exact h2
  · exact ⟨1, r, M, key 0, h⟩
theorem V_call {d y pc : Nat} {L : mL} {st : List Value} {M : mH} {Q : Option Value → mH → Prop} {e : mE} {y1 : Nat} {as rest : List Value} (hf : mfetch y pc = some e) (hr : mret e st = none) (hc : mcall e st M = some (y1, as, rest)) : V (d + 1) y pc L st M Q = Vc d y1 as M (fun r M' => V (d + 1) y e.2.1 L (r.toList ++ rest) M' Q) := by
  have key : ∀ n, mrun (n + 1) (d + 1) y pc L st M = match mrun n d y1 0 (mentry y1 as) [] M with | none => none | some w => mrun n (d + 1) y e.2.1 L (w.1.toList ++ rest) w.2 := fun n => by simp only [mrun, hf, hr, hc]; rfl
  refine propext ⟨fun h => ?_, fun h => ?_⟩
  · obtain ⟨n, r, M2, h1, h2⟩ := h
    cases n with
    | zero => cases h1
    | succ n =>
      rw [key] at h1
      cases hw : mrun n d y1 0 (mentry y1 as) [] M with
      | none => rw [hw] at h1; cases h1
      | some w =>
        rw [hw] at h1
        exact ⟨n, w.1, w.2, hw, n, r, M2, h1, h2⟩
  · obtain ⟨n1, r1, M1, h1, n2, r, M2, h2, h3⟩ := h
    refine ⟨max n1 n2 + 1, r, M2, ?_, h3⟩
    rw [key, mrun_le (Nat.le_max_left n1 n2) h1]
    exact mrun_le (Nat.le_max_right n1 n2) h2
theorem V_if {d y a b : Nat} {c : Prop} [Decidable c] {L : mL} {st : List Value} {M : mH} {Q : Option Value → mH → Prop} : V d y (bif decide c then a else b) L st M Q = if c then V d y a L st M Q else V d y b L st M Q := by
  by_cases h : c
  · simp [h]
  · simp [h]
/-- a branch -/
theorem V_br {d y pc a b : Nat} {c : Prop} [Decidable c] {L L' : mL} {st st' : List Value} {M M' : mH} {Q : Option Value → mH → Prop} {e : mE} (hf : mfetch y pc = some e) (hr : mret e st = none) (hc : mcall e st M = none) (hd : mdo e pc L st M = some (bif decide c then a else b, L', st', M')) : V d y pc L st M Q = if c then V d y a L' st' M' Q else V d y b L' st' M' Q := by
  rw [V_eq hf hr hc hd, V_if]
/-! the heap by its slots -/
def mv (M : mH) (a k : Nat) : Value := match M[a]? with
  | some (.inl q) => q.2.getD k .null
  | some (.inr q) => q.2.getD k .null
  | none => .null
def gi (M : mH) (a k : Nat) : Int32 := mvi (mv M a k)
def gr (M : mH) (a k : Nat) : Option Nat := match mv M a k with
  | .ref x => some x
  | _ => none
def rf (o : Option Nat) : Value := match o with
  | some x => .ref x
  | none => .null
def mu (M : mH) (a k : Nat) (v : Value) : mH := match M[a]? with
  | some (.inl q) => M.set a (.inl (q.1, q.2.set k v))
  | some (.inr q) => M.set a (.inr (q.1, q.2.set k v))
  | none => M
/-- the kind of a slot: 0 an int, 1 a boolean, 2 a reference -/
def vk (n : Nat) (v : Value) : Prop := match n with
  | 0 => ∃ x, v = .int x
  | 1 => v = .int 0 ∨ v = .int 1
  | _ => v = .null ∨ ∃ a, v = .ref a
def tyk (t : FieldType) : Nat := match t with
  | .int => 0
  | .boolean => 1
  | _ => 2
/-- tag of a cell: 2 * an object's class, 2 * an array's type + 1; and how many slots -/
def ctag : mC → Nat × Nat
  | .inl q => (2 * q.1, q.2.length)
  | .inr q => (2 * q.1 + 1, q.2.length)
/-- the kind of slot k in a cell of that tag -/
def tkind (t k : Nat) : Nat := bif Nat.beq (t % 2) 1 then (bif Nat.beq t 1 then 0 else bif Nat.beq t 3 then 1 else 2) else tyk (mTy (t / 2) k)
