/-! what a run keeps: objects stay of their kind, the script stays -/
def Kp (M M' : mH) : Prop := (∀ a c, mcls M a = some c → mcls M' a = some c) ∧ ∀ es, M[0]? = some (.inr (7, es)) → M'[0]? = some (.inr (7, es))
theorem Kp.refl {M : mH} : Kp M M := ⟨fun _ _ h => h, fun _ h => h⟩
theorem Kp.trans {M M1 M2 : mH} (h1 : Kp M M1) (h2 : Kp M1 M2) : Kp M M2 := ⟨fun a c h => h2.1 a c (h1.1 a c h), fun es h => h2.2 es (h1.2 es h)⟩
theorem mcls_set {M : mH} {a b : Nat} {x : mC} {c : Nat} (hx : ∀ q, M[a]? = some q → (match q with | .inl w => some w.1 | .inr _ => none) = (match x with | .inl w => some w.1 | .inr _ => none)) (h : mcls M b = some c) : mcls (M.set a x) b = some c := by
  by_cases e : a = b
  · subst e
    unfold mcls at h ⊢
    cases hm : M[a]? with
    | none => rw [hm] at h; cases h
    | some q =>
      have hlt : a < M.length := by
        by_cases z : a < M.length
        · exact z
        · rw [List.getElem?_eq_none (by omega)] at hm; cases hm
      have h2 := hx q hm
      rw [hm] at h
      rw [List.getElem?_set_self hlt]
      cases q with
      | inl w =>
        cases x with
        | inl w' =>
          have h3 : some w.1 = some w'.1 := h2
          have h4 : some w.1 = some c := h
          show some w'.1 = some c
          rw [← h3]; exact h4
        | inr w' => cases h2
      | inr w => cases h
  · unfold mcls at h ⊢
    rw [List.getElem?_set_ne e]; exact h
theorem mput_kp {M M' : mH} {a ci k : Nat} {v : Value} (h : mput M a ci k v = some M') : Kp M M' := by
  unfold mput at h
  split at h
  · rename_i c fs hm
    rw [Bool.cond_eq_ite] at h
    split at h
    · cases h
      refine ⟨fun b c' h' => mcls_set (fun q hq => by rw [hm] at hq; cases hq; rfl) h', fun es h0 => ?_⟩
      by_cases e : a = 0
      · subst e; rw [hm] at h0; cases h0
      · rw [List.getElem?_set_ne e]; exact h0
    · cases h
  · cases h
theorem mast_kp {M M' : mH} {a t : Nat} {j : Int32} {v : Value} (ht : ¬ t = 7) (h : mast M a t j v = some M') : Kp M M' := by
  unfold mast at h
  split at h
  · rename_i t' es hm
    rw [Bool.cond_eq_ite] at h
    split at h
    · rename_i hc
      cases h
      have ht' : t' = t := by
        simp only [Bool.and_eq_true] at hc
        exact Nat.eq_of_beq_eq_true hc.1.1
      refine ⟨fun b c' h' => mcls_set (fun q hq => by rw [hm] at hq; cases hq; rfl) h', fun es' h0 => ?_⟩
      by_cases e : a = 0
      · subst e; rw [hm] at h0; cases h0; exact absurd ht'.symm ht
      · rw [List.getElem?_set_ne e]; exact h0
    · cases h
  · cases h
theorem app_kp {M : mH} {x : mC} : Kp M (M ++ [x]) := by
  refine ⟨fun a c h => ?_, fun es h => ?_⟩
  · unfold mcls at h ⊢
    have hlt : a < M.length := by
      by_cases z : a < M.length
      · exact z
      · rw [List.getElem?_eq_none (by omega)] at h; cases h
    rw [List.getElem?_append_left hlt]; exact h
  · have hlt : 0 < M.length := by
      cases M with
      | nil => cases h
      | cons a l => simp
    rw [List.getElem?_append_left hlt]; exact h
theorem mdo_kp {e : mE} {pc : Nat} {L : mL} {st : List Value} {M : mH} {x : Nat × mL × List Value × mH} (h : mdo e pc L st M = some x) : Kp M x.2.2.2 := by
  obtain ⟨i, nx, r1, r2, cv⟩ := e
  cases i
  case putfield =>
    dsimp only [mdo] at h
    simp only [Bool.cond_eq_ite] at h
    repeat' split at h
    all_goals first | (cases h; rename_i hp; exact mput_kp hp) | cases h
  case iastore =>
    dsimp only [mdo] at h
    repeat' split at h
    all_goals first | (cases h; rename_i hp; exact mast_kp (by decide) hp) | cases h
  case bastore =>
    dsimp only [mdo] at h
    simp only [Bool.cond_eq_ite] at h
    repeat' split at h
    all_goals first | (cases h; rename_i hp; exact mast_kp (by decide) hp) | cases h
  case aastore =>
    dsimp only [mdo] at h
    simp only [Bool.cond_eq_ite] at h
    split at h
    · rename_i v j a r
      split at h
      · rename_i hc
        have h7 : ¬ mtya M a = 7 := by
          simp only [Bool.and_eq_true, Nat.ble_eq] at hc
          omega
        split at h
        · rename_i hp; cases h; exact mast_kp h7 hp
        · cases h
      · cases h
    · cases h
  case new =>
    dsimp only [mdo] at h
    cases h; exact app_kp
  case newarray =>
    dsimp only [mdo] at h
    simp only [Bool.cond_eq_ite] at h
    repeat' split at h
    all_goals first | (cases h; exact app_kp) | cases h
  case anewarray =>
    dsimp only [mdo] at h
    simp only [Bool.cond_eq_ite] at h
    repeat' split at h
    all_goals first | (cases h; exact app_kp) | cases h
  all_goals first
    | (cases h; done)
    | (dsimp only [mdo] at h
       simp only [Bool.cond_eq_ite] at h
       repeat' split at h
       all_goals first | (cases h; exact Kp.refl) | cases h)
    | (dsimp only [mdo] at h
       repeat' split at h
       all_goals first | (cases h; exact Kp.refl) | cases h)
theorem mrun_kp : ∀ (n d y pc : Nat) (L : mL) (st : List Value) (M : mH) (x : Option Value × mH), mrun n d y pc L st M = some x → Kp M x.2 := by
  intro n
  induction n with
  | zero => intro d y pc L st M x h; cases h
  | succ n ih =>
    intro d y pc L st M x h
    unfold mrun at h
    cases hf : mfetch y pc with
    | none => rw [hf] at h; cases h
    | some e =>
      rw [hf] at h
      dsimp only at h
      cases hr : mret e st with
      | some r => rw [hr] at h; cases h; exact Kp.refl
      | none =>
        rw [hr] at h
        dsimp only at h
        cases hc : mcall e st M with
        | some q =>
          rw [hc] at h
          dsimp only at h
          cases d with
          | zero => cases h
          | succ d =>
            dsimp only at h
            cases hw : mrun n d q.1 0 (mentry q.1 q.2.1) [] M with
            | none => rw [hw] at h; cases h
            | some w =>
              rw [hw] at h
              exact (ih _ _ _ _ _ _ _ hw).trans (ih _ _ _ _ _ _ _ h)
        | none =>
          rw [hc] at h
          dsimp only at h
          cases hd : mdo e pc L st M with
          | none => rw [hd] at h; cases h
          | some q =>
            rw [hd] at h
            exact (mdo_kp hd).trans (ih _ _ _ _ _ _ _ h)
theorem Vc_kp {d y : Nat} {as : List Value} {M M' : mH} {r : Option Value} (h : ∀ Q, Vc d y as M Q = Q r M') : Kp M M' := by
  have h1 := h (fun r1 M1 => M1 = M')
  have h2 : Vc d y as M (fun r1 M1 => M1 = M') := by rw [h1]
  obtain ⟨n, r1, M1, h3, h4⟩ := h2
  have := mrun_kp _ _ _ _ _ _ _ _ h3
  rw [h4] at this
  exact this
