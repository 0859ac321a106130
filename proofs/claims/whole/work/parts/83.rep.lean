/-! the constructors' run doesn't look at the script -/
def rp (es : List Value) (M : mH) : mH := M.set 0 (.inr (7, es))
def i0 (M : mH) : Prop := ∃ es0, M[0]? = some (.inr (7, es0))
section
variable {es : List Value} {M M' : mH}
theorem rp_ne {a : Nat} (ha : ¬ a = 0) : (rp es M)[a]? = M[a]? := List.getElem?_set_ne (fun z => ha z.symm)
theorem rp_0 (h : i0 M) : (rp es M)[0]? = some (.inr (7, es)) := by
  obtain ⟨e0, h⟩ := h
  cases M with
  | nil => cases h
  | cons x l => rfl
theorem mcls_rp (h : i0 M) {a : Nat} : mcls (rp es M) a = mcls M a := by
  unfold mcls
  by_cases e : a = 0
  · subst e
    rw [rp_0 h]
    obtain ⟨e0, h⟩ := h
    rw [h]
  · rw [rp_ne e]
theorem mcall_rp (h : i0 M) {e : mE} {st : List Value} : mcall e st (rp es M) = mcall e st M := by
  unfold mcall
  simp only [mcls_rp h]
theorem mget_rp (h : i0 M) {a ci k : Nat} : mget (rp es M) a ci k = mget M a ci k := by
  unfold mget
  by_cases e : a = 0
  · subst e
    rw [rp_0 h]
    obtain ⟨e0, h⟩ := h
    rw [h]
  · rw [rp_ne e]
theorem set_rp {a : Nat} (ha : ¬ a = 0) {x : mC} : (rp es M).set a x = rp es (M.set a x) := by
  unfold rp
  rw [List.set_comm _ _ ha]
theorem mput_rp (h : i0 M) {a ci k : Nat} {v : Value} : mput (rp es M) a ci k v = (mput M a ci k v).map (rp es) := by
  unfold mput
  by_cases e : a = 0
  · subst e
    rw [rp_0 h]
    obtain ⟨e0, h⟩ := h
    rw [h]
    rfl
  · rw [rp_ne e]
    split
    · rename_i c fs hm
      rw [Bool.cond_eq_ite, Bool.cond_eq_ite]
      split
      · rw [set_rp e]; rfl
      · rfl
    · rfl
theorem mast_rp (h : i0 M) {a t : Nat} (ht : ¬ t = 7) {j : Int32} {v : Value} : mast (rp es M) a t j v = (mast M a t j v).map (rp es) := by
  unfold mast
  by_cases e : a = 0
  · subst e
    rw [rp_0 h]
    obtain ⟨e0, h⟩ := h
    rw [h]
    have hb : Nat.beq 7 t = false := by
      cases hb : Nat.beq 7 t with
      | false => rfl
      | true => exact absurd (Nat.eq_of_beq_eq_true hb).symm ht
    simp only [hb, Bool.false_and, cond_false]
    rfl
  · rw [rp_ne e]
    split
    · rename_i t' es' hm
      rw [Bool.cond_eq_ite, Bool.cond_eq_ite]
      split
      · rw [set_rp e]; rfl
      · rfl
    · rfl
theorem mald_rp {a : Nat} (ha : ¬ a = 0) {j : Int32} : mald (rp es M) a j = mald M a j := by
  unfold mald; rw [rp_ne ha]
theorem mald_0 (h : i0 M) {j : Int32} {t : Nat} {v : Value} (hm : mald M 0 j = some (t, v)) : t = 7 := by
  obtain ⟨e0, h⟩ := h
  unfold mald at hm
  rw [h] at hm
  dsimp only at hm
  rw [Bool.cond_eq_ite] at hm
  split at hm
  · split at hm
    · cases hm; rfl
    · cases hm
  · cases hm
theorem mtya_rp (h : i0 M) {a : Nat} : mtya (rp es M) a = mtya M a := by
  unfold mtya
  by_cases e : a = 0
  · subst e
    rw [rp_0 h]
    obtain ⟨e0, h⟩ := h
    rw [h]
  · rw [rp_ne e]
theorem app_rp (h : i0 M) {x : mC} : rp es M ++ [x] = rp es (M ++ [x]) := by
  obtain ⟨e0, h⟩ := h
  cases M with
  | nil => cases h
  | cons y l => rfl
theorem len_rp : (rp es M).length = M.length := List.length_set
end
def mok (e : mE) : Bool := match e.1 with
  | .iaload => false
  | .arraylength => false
  | _ => true
theorem mdo_rp {es : List Value} {e : mE} {pc : Nat} {L : mL} {st : List Value} {M : mH} {x : Nat × mL × List Value × mH} (h0 : i0 M) (hk : mok e = true) (h : mdo e pc L st M = some x) : mdo e pc L st (rp es M) = some (x.1, x.2.1, x.2.2.1, rp es x.2.2.2) := by
  obtain ⟨i, nx, r1, r2, cv⟩ := e
  cases i
  case iaload => cases hk
  case arraylength => cases hk
  case getfield =>
    dsimp only [mdo] at h ⊢
    split at h
    · rw [mget_rp h0]
      split at h
      · rename_i hp; cases h; first | rfl | rw [hp]
      · cases h
    · cases h
  case putfield =>
    dsimp only [mdo] at h ⊢
    split at h
    · rw [Bool.cond_eq_ite] at h ⊢
      split at h
      · rename_i hc
        rw [if_pos hc, mput_rp h0]
        split at h
        · rename_i hp; cases h; rw [hp]; rfl
        · cases h
      · cases h
    · cases h
  case iastore =>
    dsimp only [mdo] at h ⊢
    split at h
    · rw [mast_rp h0 (by decide)]
      split at h
      · rename_i hp; cases h; rw [hp]; rfl
      · cases h
    · cases h
  case bastore =>
    dsimp only [mdo] at h ⊢
    split at h
    · rw [Bool.cond_eq_ite] at h ⊢
      split at h
      · rename_i hc
        rw [if_pos hc, mast_rp h0 (by decide)]
        split at h
        · rename_i hp; cases h; rw [hp]; rfl
        · cases h
      · cases h
    · cases h
  case aastore =>
    dsimp only [mdo] at h ⊢
    split at h
    · rename_i v j a r
      rw [Bool.cond_eq_ite] at h ⊢
      rw [mtya_rp h0, mcls_rp h0]
      split at h
      · rename_i hc
        have h7 : ¬ mtya M a = 7 := by
          simp only [Bool.and_eq_true, Nat.ble_eq] at hc
          omega
        rw [if_pos hc, mast_rp h0 h7]
        split at h
        · rename_i hp; cases h; rw [hp]; rfl
        · cases h
      · cases h
    · cases h
  case baload =>
    dsimp only [mdo] at h ⊢
    split at h
    · rename_i j a r
      split at h
      · rename_i hp
        cases h
        have ha : ¬ a = 0 := fun z => by rw [z] at hp; exact absurd (mald_0 h0 hp) (by decide)
        rw [mald_rp ha, hp]
        rfl
      · cases h
    · cases h
  case aaload =>
    dsimp only [mdo] at h ⊢
    split at h
    · rename_i j a r
      split at h
      · rename_i t z hp
        rw [Bool.cond_eq_ite] at h
        split at h
        · rename_i hc
          cases h
          have ha : ¬ a = 0 := fun z => by
            rw [z] at hp
            have := mald_0 h0 hp
            simp only [Bool.and_eq_true, Nat.ble_eq] at hc
            omega
          rw [mald_rp ha, hp]
          dsimp only
          rw [Bool.cond_eq_ite, if_pos hc]
        · cases h
      · rename_i t hp
        rw [Bool.cond_eq_ite] at h
        split at h
        · rename_i hc
          cases h
          have ha : ¬ a = 0 := fun z => by
            rw [z] at hp
            have := mald_0 h0 hp
            simp only [Bool.and_eq_true, Nat.ble_eq] at hc
            omega
          rw [mald_rp ha, hp]
          dsimp only
          rw [Bool.cond_eq_ite, if_pos hc]
        · cases h
      · cases h
    · cases h
  case new =>
    dsimp only [mdo] at h ⊢
    cases h
    rw [app_rp h0, len_rp]
  case newarray =>
    dsimp only [mdo] at h ⊢
    split at h
    · rw [Bool.cond_eq_ite] at h ⊢
      split at h
      · rename_i hc
        cases h
        rw [if_pos hc, app_rp h0, len_rp]
      · cases h
    · cases h
  case anewarray =>
    dsimp only [mdo] at h ⊢
    split at h
    · rw [Bool.cond_eq_ite] at h ⊢
      split at h
      · rename_i hc
        cases h
        rw [if_pos hc, app_rp h0, len_rp]
      · cases h
    · cases h
  all_goals first
    | (cases h; done)
    | (cases h; rfl)
    | (dsimp only [mdo] at h ⊢
       repeat' split at h
       all_goals first | (cases h; done) | (cases h; rfl) | (cases h; simp_all; done))
    | (dsimp only [mdo] at h ⊢
       split at h
       all_goals first
         | (cases h; done)
         | (rw [Bool.cond_eq_ite] at h ⊢
            split at h
            · rename_i hc; cases h; rw [if_pos hc]
            · cases h))
    | (dsimp only [mdo] at h ⊢
       split at h
       all_goals first
         | (cases h; done)
         | (rw [Bool.cond_eq_ite] at h ⊢
            split at h
            · rename_i hc; cases h; rw [if_pos hc]
            · rename_i hc
              rw [if_neg hc]
              split at h
              · rename_i hp; cases h; first | rfl | rw [hp]
              · cases h))
    | (dsimp only [mdo] at h ⊢
       simp only [Bool.cond_eq_ite] at h ⊢
       repeat' split at h
       all_goals first | (cases h; done) | (cases h; rfl) | (cases h; simp_all; done))
/-- the interpreter, but without a look at an array of ints -/
def mrunN : Nat → Nat → Nat → Nat → mL → List Value → mH → Option (Option Value × mH)
  | 0, _, _, _, _, _, _ => none
  | n + 1, d, y, pc, L, st, M => match mfetch y pc with
    | none => none
    | some e => bif mok e then (match mret e st with
      | some r => some (r, M)
      | none => match mcall e st M with
        | some q => (match d with
          | 0 => none
          | d' + 1 => match mrunN n d' q.1 0 (mentry q.1 q.2.1) [] M with
            | none => none
            | some w => mrunN n (d' + 1) y e.2.1 L (w.1.toList ++ q.2.2) w.2)
        | none => match mdo e pc L st M with
          | none => none
          | some q => mrunN n d y q.1 q.2.1 q.2.2.1 q.2.2.2) else none
theorem Kp.i0 {M M' : mH} (h : Kp M M') (h0 : i0 M) : i0 M' := by
  obtain ⟨e, h0⟩ := h0
  exact ⟨e, h.2 e h0⟩
theorem mrunN_rep {es : List Value} : ∀ (n d y pc : Nat) (L : mL) (st : List Value) (M : mH) (x : Option Value × mH), i0 M → mrunN n d y pc L st M = some x → mrun n d y pc L st (rp es M) = some (x.1, rp es x.2) ∧ i0 x.2 := by
  intro n
  induction n with
  | zero => intro d y pc L st M x _ h; cases h
  | succ n ih =>
    intro d y pc L st M x h0 h
    unfold mrunN at h
    unfold mrun
    cases hf : mfetch y pc with
    | none => rw [hf] at h; cases h
    | some e =>
      rw [hf] at h
      dsimp only at h ⊢
      cases hk : mok e with
      | false => rw [hk, cond_false] at h; cases h
      | true =>
        rw [hk, cond_true] at h
        cases hr : mret e st with
        | some r => rw [hr] at h; cases h; exact ⟨rfl, h0⟩
        | none =>
          rw [hr] at h
          dsimp only at h ⊢
          rw [mcall_rp h0]
          cases hc : mcall e st M with
          | some q =>
            rw [hc] at h
            dsimp only at h ⊢
            cases d with
            | zero => cases h
            | succ d =>
              dsimp only at h ⊢
              cases hw : mrunN n d q.1 0 (mentry q.1 q.2.1) [] M with
              | none => rw [hw] at h; cases h
              | some w =>
                rw [hw] at h
                obtain ⟨k1, k2⟩ := ih _ _ _ _ _ _ _ h0 hw
                rw [k1]
                exact ih _ _ _ _ _ _ _ k2 h
          | none =>
            rw [hc] at h
            dsimp only at h ⊢
            cases hd : mdo e pc L st M with
            | none => rw [hd] at h; cases h
            | some q =>
              rw [hd] at h
              rw [mdo_rp h0 hk hd]
              exact ih _ _ _ _ _ _ _ ((mdo_kp hd).i0 h0) h
