/-! SOUNDNESS, second half: one instruction of the model is one of the machine -/
theorem mget_ok {M : mH} {a ci k : Nat} {v : Value} (h : mget M a ci k = some v) : ∃ fs : List Value, M[a]? = some (.inl (ci, fs)) ∧ fs[k]? = some v := by
  unfold mget at h
  split at h
  · rename_i c fs hM
    cases hb : Nat.beq c ci with
    | false => rw [hb, cond_false] at h; cases h
    | true =>
      rw [hb, cond_true] at h
      rw [Nat.beq_eq] at hb
      subst hb
      exact ⟨fs, hM, h⟩
  · cases h
theorem mput_ok {M M' : mH} {a ci k : Nat} {v : Value} (h : mput M a ci k v = some M') : ∃ fs : List Value, M[a]? = some (.inl (ci, fs)) ∧ k < fs.length ∧ M' = M.set a (.inl (ci, fs.set k v)) := by
  unfold mput at h
  split at h
  · rename_i c fs hM
    cases hb : (Nat.beq c ci && Nat.blt k fs.length) with
    | false => rw [hb, cond_false] at h; cases h
    | true =>
      rw [hb, cond_true] at h
      simp only [Bool.and_eq_true, Nat.beq_eq, Nat.blt_eq] at hb
      obtain ⟨rfl, hb⟩ := hb
      exact ⟨fs, hM, hb, (Option.some.inj h).symm⟩
  · cases h
theorem mald_ok {M : mH} {a t : Nat} {j : Int32} {v : Value} (h : mald M a j = some (t, v)) : ∃ es : List Value, M[a]? = some (.inr (t, es)) ∧ 0 ≤ j ∧ es[j.toNatClampNeg]? = some v := by
  unfold mald at h
  split at h
  · rename_i t' es hM
    cases hb : decide (0 ≤ j) with
    | false => rw [hb, cond_false] at h; cases h
    | true =>
      rw [hb, cond_true] at h
      split at h
      · rename_i w hw
        cases h
        exact ⟨es, hM, of_decide_eq_true hb, hw⟩
      · cases h
  · cases h
theorem mast_ok {M M' : mH} {a t : Nat} {j : Int32} {v : Value} (h : mast M a t j v = some M') : ∃ es : List Value, M[a]? = some (.inr (t, es)) ∧ 0 ≤ j ∧ j.toNatClampNeg < es.length ∧ M' = M.set a (.inr (t, es.set j.toNatClampNeg v)) := by
  unfold mast at h
  split at h
  · rename_i t' es hM
    cases hb : (Nat.beq t' t && decide (0 ≤ j) && Nat.blt j.toNatClampNeg es.length) with
    | false => rw [hb, cond_false] at h; cases h
    | true =>
      rw [hb, cond_true] at h
      simp only [Bool.and_eq_true, Nat.beq_eq, Nat.blt_eq, decide_eq_true_eq] at hb
      obtain ⟨⟨rfl, h0⟩, h1⟩ := hb
      exact ⟨es, hM, h0, h1, (Option.some.inj h).symm⟩
  · cases h
theorem mvp_in {j : Int32} {n : Nat} (h0 : 0 ≤ j) (h : j.toNatClampNeg < n) : vp_in j n := by
  intro q
  rcases q with q | q
  · rw [Int32.lt_iff_toInt_lt] at q
    rw [Int32.le_iff_toInt_le] at h0
    omega
  · omega
theorem mHp.pos {b sz : Nat} {D : va_G} {dA : Nat → ClassId} {M : mH} {s : State} {H : Heap} (h : mHp b sz D dA M s H) {a : Nat} {c : mC} (ha : M[a]? = some c) (hc : ∀ es, c ≠ .inr (7, es)) : ∃ a', a = a' + 1 := by
  cases a with
  | zero =>
    obtain ⟨-, -, -, -, xs, hx, -⟩ := h
    rw [hx] at ha
    cases ha
    exact absurd rfl (hc _)
  | succ a => exact ⟨a, rfl⟩
theorem mHp.put {b sz : Nat} {D : va_G} {dA : Nat → ClassId} {M : mH} {s : State} {H H1 : Heap} (h : mHp b sz D dA M s H) {a : Nat} {c c' : mC} (ha : M[a + 1]? = some c) (hat : va_at D mCl (sz + a, mEn b sz dA c') H1) (hz : H1.size = H.size) (hq : ∀ q : Nat, q ≠ sz + a → H1[q]? = H[q]?) : mHp b sz D dA (M.set (a + 1) c') s H1 := by
  obtain ⟨h1, h2, h3, h4, xs, h5, h6⟩ := h
  have hlt : a + 1 < M.length := (List.getElem?_eq_some_iff.mp ha).1
  refine ⟨by rw [List.length_set]; exact h1, by rw [hz, List.length_set]; exact h2, h3, ?_, xs, ?_, h6.kept (hq b (by omega))⟩
  · rw [← mWd_set hlt]
    exact h4.set mWd_D (mWd_at ha) hat hq
  · rw [List.getElem?_set_ne (by omega)]
    exact h5
theorem mHp.push {b sz : Nat} {D : va_G} {dA : Nat → ClassId} {M : mH} {s : State} {H H1 : Heap} (h : mHp b sz D dA M s H) {c : mC} (hat : va_at D mCl (H.size, mEn b sz dA c) H1) (hz : H1.size = H.size + 1) (hq : ∀ q : Nat, q < H.size → H1[q]? = H[q]?) : mHp b sz D dA (M ++ [c]) s H1 := by
  obtain ⟨h1, h2, h3, h4, xs, h5, h6⟩ := h
  refine ⟨by simp, by rw [hz, h2, List.length_append, List.length_singleton]; omega, h3, ?_, xs, ?_, h6.kept (hq b (by omega))⟩
  · rw [← mWd_push h1, ← h2]
    refine va_P.app (h4.kept (fun k q hk => hq q.1 (h4 k q hk).lt)) (fun k q hk => ?_)
    have hk0 : k < 1 := (List.getElem?_eq_some_iff.mp hk).1
    rw [show k = 0 by omega] at hk
    cases hk
    exact hat
  · rw [List.getElem?_append_left (by omega)]
    exact h5
theorem mHp.ref {b sz : Nat} {D : va_G} {dA : Nat → ClassId} {M : mH} {s : State} {H : Heap} (h : mHp b sz D dA M s H) : mrho b sz M.length = H.size := by
  obtain ⟨h1, h2, -⟩ := h
  rw [h2, mrho_pos (by omega)]
theorem mS_put {sz : Nat} {H0 H H1 : Heap} {locs : List Loc} {a k : Nat} (h : va_S (fun q => sz ≤ q) H0 H locs) (hz : H1.size = H.size) (hq : ∀ q : Nat, q ≠ sz + a → H1[q]? = H[q]?) : va_S (fun q => sz ≤ q) H0 H1 (locs ++ [⟨sz + a, k⟩]) := h.put hz hq (Nat.le_add_right sz a)
theorem mS_push {sz : Nat} {H0 H H1 : Heap} {locs : List Loc} (h : va_S (fun q => sz ≤ q) H0 H locs) (hz : H1.size = H.size + 1) (hq : ∀ q : Nat, q < H.size → H1[q]? = H[q]?) : va_S (fun q => sz ≤ q) H0 H1 locs :=
  ⟨Nat.le_trans h.1 (by omega), fun x h1 h2 => (hq x (Nat.lt_of_lt_of_le h1 h.1)).trans (h.2.1 x h1 h2), h.2.2⟩
theorem mcat_map {b sz : Nat} (r : List Value) : ((r.map (mrv b sz)).map fun v => v.category).sum = (r.map Value.category).sum := by
  rw [List.map_map]
  congr 1
  exact List.map_congr_left (fun v _ => mrv_cat v)
theorem mc1_cat {b sz : Nat} {v : Value} (h : mc1 v = true) : (mrv b sz v).category = 1 := by
  rw [mrv_cat]
  exact Nat.eq_of_beq_eq_true h
theorem mgetD {es : List Value} {j : Nat} {v : Value} (h : es[j]? = some v) : es.getD j .null = v := by
  rw [List.getD_eq_getElem?_getD, h]
  rfl
theorem msetD_i {es : List Value} {k : Nat} (hk : k < es.length) (x : Int32) : (fun j => mvi ((es.set k (.int x)).getD j .null)) = upd (fun j => mvi (es.getD j .null)) k x := by
  funext j
  simp only [upd, List.getD_eq_getElem?_getD]
  by_cases hj : j = k
  · subst hj
    rw [List.getElem?_set_self hk, if_pos rfl]
    rfl
  · rw [List.getElem?_set_ne (Ne.symm hj), if_neg hj]
theorem msetD_r {b sz : Nat} {es : List Value} {k : Nat} (hk : k < es.length) (x : Nat) : (fun j => mvr b sz ((es.set k (.ref x)).getD j .null)) = va_up (fun j => mvr b sz (es.getD j .null)) k (some (mrho b sz x)) := by
  funext j
  simp only [va_up, List.getD_eq_getElem?_getD]
  by_cases hj : j = k
  · subst hj
    rw [List.getElem?_set_self hk, if_pos rfl]
    rfl
  · rw [List.getElem?_set_ne (Ne.symm hj), if_neg hj]
theorem mcls_ok {M : mH} {a ci : Nat} (h : mcls M a = some ci) : ∃ fs, M[a]? = some (.inl (ci, fs)) := by
  unfold mcls at h
  split at h
  · rename_i c fs hM
    cases h
    exact ⟨fs, hM⟩
  · cases h
theorem mrep_i {n j : Nat} : mvi ((List.replicate n (Value.int 0)).getD j .null) = 0 := by
  rw [List.getD_eq_getElem?_getD, List.getElem?_replicate]
  split <;> rfl
theorem mrep_r {b sz n j : Nat} : mvr b sz ((List.replicate n Value.null).getD j .null) = none := by
  rw [List.getD_eq_getElem?_getD, List.getElem?_replicate]
  split <;> rfl

section MW
variable {p : Program} {l : Launch} {e : Env} {R : Room} {s : State} {m : MethodId} {args : Array Value} {below : List Frame} {meth : Method} {c : Code} {H : Heap} {locs : List Loc} {cells slots : Nat} {Q : State → Prop}
variable {b sz y pc : Nat} {D : va_G} {dA : Nat → ClassId} {L : mL} {ls : Array Slot} {st : List Value} {M : mH}

set_option maxHeartbeats 4000000 in
theorem mdo_W {i : Instr} {nx r1 r2 : Nat} {cv : Int32} {pc' : Nat} {L' : mL} {st' : List Value} {M' : mH} (C : mCx p s m args meth c y D dA) (hdec : decode (mCode y) pc = .ok (i, nx - pc)) (hst : mst y pc (i, nx, r1, r2, cv) = true) (hdo : mdo (i, nx, r1, r2, cv) pc L st M = some (pc', L', st', M'))
    (hH : mHp b sz D dA M s H) (hS : va_S (fun q => sz ≤ q) s.heap H locs) (hsz : sz ≤ s.heap.size) (hl : mLo b sz L ls) (hLn : L.length = mMaxL y)
    (hf : 1 ≤ R.frames) (hlo : 28 ≤ R.locals) (hc : cells + M'.length ≤ R.cells + M.length) (hs : slots + mslots M' ≤ R.slots + mslots M)
    (k : ∀ (H1 : Heap) (locs1 : List Loc) (ls1 : Array Slot) (cells1 slots1 : Nat), cells1 + M.length = cells + M'.length → slots1 + mslots M = slots + mslots M' → mHp b sz D dA M' s H1 → va_S (fun q => sz ≤ q) s.heap H1 locs1 → mLo b sz L' ls1 → L'.length = L.length →
      W p l e R s m args below meth c H1 locs1 cells1 slots1 Q (F0 m pc' ls1 (st'.map (mrv b sz)))) :
    W p l e R s m args below meth c H locs cells slots Q (F0 m pc ls (st.map (mrv b sz))) := by
  obtain ⟨hx, hb, hml, hown, hts, hKn, hinit⟩ := C
  cases i
  case iconst n =>
    dsimp only [mst] at hst
    simp only [Bool.and_eq_true, Nat.beq_eq, beq_iff_eq] at hst
    obtain ⟨hv, rfl⟩ := hst
    have hd : decode (mCode y) pc = .ok (.iconst n, 1) := by rw [hdec, Nat.add_sub_cancel_left]
    dsimp only [mdo] at hdo
    cases hdo
    exact lv_iconst hx hb hd hv (k H locs ls cells slots rfl rfl hH hS hl rfl)
  case bipush n =>
    dsimp only [mst] at hst
    simp only [Bool.and_eq_true, Nat.beq_eq, beq_iff_eq] at hst
    obtain ⟨hv, rfl⟩ := hst
    have hd : decode (mCode y) pc = .ok (.bipush n, 2) := by rw [hdec, Nat.add_sub_cancel_left]
    dsimp only [mdo] at hdo
    cases hdo
    exact lv_bipush hx hb hd hv (k H locs ls cells slots rfl rfl hH hS hl rfl)
  case sipush n =>
    dsimp only [mst] at hst
    simp only [Bool.and_eq_true, Nat.beq_eq, beq_iff_eq] at hst
    obtain ⟨hv, rfl⟩ := hst
    have hd : decode (mCode y) pc = .ok (.sipush n, 3) := by rw [hdec, Nat.add_sub_cancel_left]
    dsimp only [mdo] at hdo
    cases hdo
    exact lv_sipush hx hb hd hv (k H locs ls cells slots rfl rfl hH hS hl rfl)
  case aconst_null =>
    dsimp only [mst] at hst
    simp only [Bool.and_eq_true, Nat.beq_eq, beq_iff_eq] at hst
    obtain rfl := hst
    have hd : decode (mCode y) pc = .ok (.aconst_null, 1) := by rw [hdec, Nat.add_sub_cancel_left]
    dsimp only [mdo] at hdo
    cases hdo
    exact lv_null hx hb hd (k H locs ls cells slots rfl rfl hH hS hl rfl)
  case iload_n n =>
    dsimp only [mst] at hst
    simp only [Bool.and_eq_true, Nat.beq_eq, beq_iff_eq] at hst
    obtain rfl := hst
    have hd : decode (mCode y) pc = .ok (.iload_n n, 1) := by rw [hdec, Nat.add_sub_cancel_left]
    dsimp only [mdo] at hdo
    split at hdo
    · rename_i x hL
      cases hdo
      exact lv_iload_n hx hb hd rfl (hl.get hL) (k H locs ls cells slots rfl rfl hH hS hl rfl)
    · cases hdo
  case iload n =>
    dsimp only [mst] at hst
    simp only [Bool.and_eq_true, Nat.beq_eq, beq_iff_eq] at hst
    obtain rfl := hst
    have hd : decode (mCode y) pc = .ok (.iload n, 2) := by rw [hdec, Nat.add_sub_cancel_left]
    dsimp only [mdo] at hdo
    split at hdo
    · rename_i x hL
      cases hdo
      exact lv_iload hx hb hd (hl.get hL) (k H locs ls cells slots rfl rfl hH hS hl rfl)
    · cases hdo
  case aload_n n =>
    dsimp only [mst] at hst
    simp only [Bool.and_eq_true, Nat.beq_eq, beq_iff_eq] at hst
    obtain rfl := hst
    have hd : decode (mCode y) pc = .ok (.aload_n n, 1) := by rw [hdec, Nat.add_sub_cancel_left]
    dsimp only [mdo] at hdo
    split at hdo
    · rename_i x hL
      cases hdo
      exact lv_aload_n hx hb hd rfl (hl.get hL) (k H locs ls cells slots rfl rfl hH hS hl rfl)
    · rename_i hL
      cases hdo
      exact lv_aload_nN hx hb hd rfl (hl.get hL) (k H locs ls cells slots rfl rfl hH hS hl rfl)
    · cases hdo
  case aload n =>
    dsimp only [mst] at hst
    simp only [Bool.and_eq_true, Nat.beq_eq, beq_iff_eq] at hst
    obtain rfl := hst
    have hd : decode (mCode y) pc = .ok (.aload n, 2) := by rw [hdec, Nat.add_sub_cancel_left]
    dsimp only [mdo] at hdo
    split at hdo
    · rename_i x hL
      cases hdo
      exact lv_aload hx hb hd (hl.get hL) (k H locs ls cells slots rfl rfl hH hS hl rfl)
    · rename_i hL
      cases hdo
      exact lv_aloadN hx hb hd (hl.get hL) (k H locs ls cells slots rfl rfl hH hS hl rfl)
    · cases hdo
  case istore_n n =>
    dsimp only [mst] at hst
    simp only [Bool.and_eq_true, Nat.beq_eq, beq_iff_eq] at hst
    obtain rfl := hst
    have hd : decode (mCode y) pc = .ok (.istore_n n, 1) := by rw [hdec, Nat.add_sub_cancel_left]
    dsimp only [mdo] at hdo
    split at hdo
    · rename_i x r
      cases hk : Nat.blt n.val L.length with
      | false => rw [hk, cond_false] at hdo; cases hdo
      | true =>
        rw [hk, cond_true] at hdo
        cases hdo
        have hk' : n.val < L.length := by rw [Nat.blt_eq] at hk; exact hk
        obtain ⟨lv, h1, h2, h3⟩ := hl
        exact lv_istore_n hx hb hd rfl h1 hk' rfl (fun ls1 h' => k H locs ls1 cells slots rfl rfl hH hS (mLo.set (v := .int x) rfl hk' h2 h3 h') (by rw [List.length_set]))
    · cases hdo
  case istore n =>
    dsimp only [mst] at hst
    simp only [Bool.and_eq_true, Nat.beq_eq, beq_iff_eq] at hst
    obtain rfl := hst
    have hd : decode (mCode y) pc = .ok (.istore n, 2) := by rw [hdec, Nat.add_sub_cancel_left]
    dsimp only [mdo] at hdo
    split at hdo
    · rename_i x r
      cases hk : Nat.blt n L.length with
      | false => rw [hk, cond_false] at hdo; cases hdo
      | true =>
        rw [hk, cond_true] at hdo
        cases hdo
        have hk' : n < L.length := by rw [Nat.blt_eq] at hk; exact hk
        obtain ⟨lv, h1, h2, h3⟩ := hl
        exact lv_istore hx hb hd h1 hk' rfl (fun ls1 h' => k H locs ls1 cells slots rfl rfl hH hS (mLo.set (v := .int x) rfl hk' h2 h3 h') (by rw [List.length_set]))
    · cases hdo
  case astore_n n =>
    dsimp only [mst] at hst
    simp only [Bool.and_eq_true, Nat.beq_eq, beq_iff_eq] at hst
    obtain rfl := hst
    have hd : decode (mCode y) pc = .ok (.astore_n n, 1) := by rw [hdec, Nat.add_sub_cancel_left]
    dsimp only [mdo] at hdo
    split at hdo
    · rename_i x r
      cases hk : Nat.blt n.val L.length with
      | false => rw [hk, cond_false] at hdo; cases hdo
      | true =>
        rw [hk, cond_true] at hdo
        cases hdo
        have hk' : n.val < L.length := by rw [Nat.blt_eq] at hk; exact hk
        obtain ⟨lv, h1, h2, h3⟩ := hl
        exact lv_astore_n hx hb hd rfl h1 hk' rfl (fun ls1 h' => k H locs ls1 cells slots rfl rfl hH hS (mLo.set (v := .ref x) rfl hk' h2 h3 h') (by rw [List.length_set]))
    · rename_i r
      cases hk : Nat.blt n.val L.length with
      | false => rw [hk, cond_false] at hdo; cases hdo
      | true =>
        rw [hk, cond_true] at hdo
        cases hdo
        have hk' : n.val < L.length := by rw [Nat.blt_eq] at hk; exact hk
        obtain ⟨lv, h1, h2, h3⟩ := hl
        exact lv_astore_nN hx hb hd rfl h1 hk' rfl (fun ls1 h' => k H locs ls1 cells slots rfl rfl hH hS (mLo.set (v := .null) rfl hk' h2 h3 h') (by rw [List.length_set]))
    · cases hdo
  case astore n =>
    dsimp only [mst] at hst
    simp only [Bool.and_eq_true, Nat.beq_eq, beq_iff_eq] at hst
    obtain rfl := hst
    have hd : decode (mCode y) pc = .ok (.astore n, 2) := by rw [hdec, Nat.add_sub_cancel_left]
    dsimp only [mdo] at hdo
    split at hdo
    · rename_i x r
      cases hk : Nat.blt n L.length with
      | false => rw [hk, cond_false] at hdo; cases hdo
      | true =>
        rw [hk, cond_true] at hdo
        cases hdo
        have hk' : n < L.length := by rw [Nat.blt_eq] at hk; exact hk
        obtain ⟨lv, h1, h2, h3⟩ := hl
        exact lv_astore hx hb hd h1 hk' rfl (fun ls1 h' => k H locs ls1 cells slots rfl rfl hH hS (mLo.set (v := .ref x) rfl hk' h2 h3 h') (by rw [List.length_set]))
    · rename_i r
      cases hk : Nat.blt n L.length with
      | false => rw [hk, cond_false] at hdo; cases hdo
      | true =>
        rw [hk, cond_true] at hdo
        cases hdo
        have hk' : n < L.length := by rw [Nat.blt_eq] at hk; exact hk
        obtain ⟨lv, h1, h2, h3⟩ := hl
        exact lv_astoreN hx hb hd h1 hk' rfl (fun ls1 h' => k H locs ls1 cells slots rfl rfl hH hS (mLo.set (v := .null) rfl hk' h2 h3 h') (by rw [List.length_set]))
    · cases hdo
  case iinc n z =>
    dsimp only [mst] at hst
    simp only [Bool.and_eq_true, Nat.beq_eq, beq_iff_eq] at hst
    obtain ⟨hv, rfl⟩ := hst
    have hd : decode (mCode y) pc = .ok (.iinc n z, 3) := by rw [hdec, Nat.add_sub_cancel_left]
    dsimp only [mdo] at hdo
    split at hdo
    · rename_i x hL
      cases hdo
      have hg := hl.get hL
      obtain ⟨lv, h1, h2, h3⟩ := hl
      have hin : (n, Value.int x) ∈ lv := by
        refine h3 n (.int x) ?_
        simp only [mload] at hL
        split at hL
        · cases hL; assumption
        · cases hL
      obtain ⟨kk, hkk⟩ := List.getElem?_of_mem hin
      have hk' : n < L.length := by
        have := lv_lt hg
        rw [h1.1] at this
        exact this
      exact lv_iinc hx hb hd h1 hkk (by rw [hv]) hk' rfl (fun ls1 h' => k H locs ls1 cells slots rfl rfl hH hS (mLo.set (v := .int (x + cv)) rfl hk' h2 h3 h') (by rw [List.length_set]))
    · cases hdo
  case iadd =>
    dsimp only [mst] at hst
    simp only [Bool.and_eq_true, Nat.beq_eq, beq_iff_eq] at hst
    obtain rfl := hst
    have hd : decode (mCode y) pc = .ok (.iadd, 1) := by rw [hdec, Nat.add_sub_cancel_left]
    dsimp only [mdo] at hdo
    split at hdo
    · cases hdo
      exact lv_iadd hx hb hd (k H locs ls cells slots rfl rfl hH hS hl rfl)
    · cases hdo
  case isub =>
    dsimp only [mst] at hst
    simp only [Bool.and_eq_true, Nat.beq_eq, beq_iff_eq] at hst
    obtain rfl := hst
    have hd : decode (mCode y) pc = .ok (.isub, 1) := by rw [hdec, Nat.add_sub_cancel_left]
    dsimp only [mdo] at hdo
    split at hdo
    · cases hdo
      exact lv_isub hx hb hd (k H locs ls cells slots rfl rfl hH hS hl rfl)
    · cases hdo
  case imul =>
    dsimp only [mst] at hst
    simp only [Bool.and_eq_true, Nat.beq_eq, beq_iff_eq] at hst
    obtain rfl := hst
    have hd : decode (mCode y) pc = .ok (.imul, 1) := by rw [hdec, Nat.add_sub_cancel_left]
    dsimp only [mdo] at hdo
    split at hdo
    · cases hdo
      exact lv_imul hx hb hd (k H locs ls cells slots rfl rfl hH hS hl rfl)
    · cases hdo
  case iand =>
    dsimp only [mst] at hst
    simp only [Bool.and_eq_true, Nat.beq_eq, beq_iff_eq] at hst
    obtain rfl := hst
    have hd : decode (mCode y) pc = .ok (.iand, 1) := by rw [hdec, Nat.add_sub_cancel_left]
    dsimp only [mdo] at hdo
    split at hdo
    · cases hdo
      exact lv_iand hx hb hd (k H locs ls cells slots rfl rfl hH hS hl rfl)
    · cases hdo
  case ior =>
    dsimp only [mst] at hst
    simp only [Bool.and_eq_true, Nat.beq_eq, beq_iff_eq] at hst
    obtain rfl := hst
    have hd : decode (mCode y) pc = .ok (.ior, 1) := by rw [hdec, Nat.add_sub_cancel_left]
    dsimp only [mdo] at hdo
    split at hdo
    · cases hdo
      exact lv_ior hx hb hd (k H locs ls cells slots rfl rfl hH hS hl rfl)
    · cases hdo
  case ixor =>
    dsimp only [mst] at hst
    simp only [Bool.and_eq_true, Nat.beq_eq, beq_iff_eq] at hst
    obtain rfl := hst
    have hd : decode (mCode y) pc = .ok (.ixor, 1) := by rw [hdec, Nat.add_sub_cancel_left]
    dsimp only [mdo] at hdo
    split at hdo
    · cases hdo
      exact lv_ixor hx hb hd (k H locs ls cells slots rfl rfl hH hS hl rfl)
    · cases hdo
  case ishl =>
    dsimp only [mst] at hst
    simp only [Bool.and_eq_true, Nat.beq_eq, beq_iff_eq] at hst
    obtain rfl := hst
    have hd : decode (mCode y) pc = .ok (.ishl, 1) := by rw [hdec, Nat.add_sub_cancel_left]
    dsimp only [mdo] at hdo
    split at hdo
    · cases hdo
      exact lv_ishl hx hb hd (k H locs ls cells slots rfl rfl hH hS hl rfl)
    · cases hdo
  case ishr =>
    dsimp only [mst] at hst
    simp only [Bool.and_eq_true, Nat.beq_eq, beq_iff_eq] at hst
    obtain rfl := hst
    have hd : decode (mCode y) pc = .ok (.ishr, 1) := by rw [hdec, Nat.add_sub_cancel_left]
    dsimp only [mdo] at hdo
    split at hdo
    · cases hdo
      exact lv_ishr hx hb hd (k H locs ls cells slots rfl rfl hH hS hl rfl)
    · cases hdo
  case iushr =>
    dsimp only [mst] at hst
    simp only [Bool.and_eq_true, Nat.beq_eq, beq_iff_eq] at hst
    obtain rfl := hst
    have hd : decode (mCode y) pc = .ok (.iushr, 1) := by rw [hdec, Nat.add_sub_cancel_left]
    dsimp only [mdo] at hdo
    split at hdo
    · cases hdo
      exact lv_iushr hx hb hd rfl (k H locs ls cells slots rfl rfl hH hS hl rfl)
    · cases hdo
  case dup =>
    dsimp only [mst] at hst
    simp only [Bool.and_eq_true, Nat.beq_eq, beq_iff_eq] at hst
    obtain rfl := hst
    have hd : decode (mCode y) pc = .ok (.dup, 1) := by rw [hdec, Nat.add_sub_cancel_left]
    dsimp only [mdo] at hdo
    split at hdo
    · rename_i v r
      cases hk : (mc1 v) with
      | false => rw [hk, cond_false] at hdo; cases hdo
      | true =>
        rw [hk, cond_true] at hdo
        cases hdo
        try simp only [Bool.and_eq_true] at hk
        exact lv_dup hx hb hd (mc1_cat hk) (k H locs ls cells slots rfl rfl hH hS hl rfl)
    · cases hdo
  case dup_x1 =>
    dsimp only [mst] at hst
    simp only [Bool.and_eq_true, Nat.beq_eq, beq_iff_eq] at hst
    obtain rfl := hst
    have hd : decode (mCode y) pc = .ok (.dup_x1, 1) := by rw [hdec, Nat.add_sub_cancel_left]
    dsimp only [mdo] at hdo
    split at hdo
    · rename_i v w r
      cases hk : (mc1 v && mc1 w) with
      | false => rw [hk, cond_false] at hdo; cases hdo
      | true =>
        rw [hk, cond_true] at hdo
        cases hdo
        try simp only [Bool.and_eq_true] at hk
        exact lv_dup_x1 hx hb hd (mc1_cat hk.1) (mc1_cat hk.2) (k H locs ls cells slots rfl rfl hH hS hl rfl)
    · cases hdo
  case dup_x2 =>
    dsimp only [mst] at hst
    simp only [Bool.and_eq_true, Nat.beq_eq, beq_iff_eq] at hst
    obtain rfl := hst
    have hd : decode (mCode y) pc = .ok (.dup_x2, 1) := by rw [hdec, Nat.add_sub_cancel_left]
    dsimp only [mdo] at hdo
    split at hdo
    · rename_i v w u r
      cases hk : (mc1 v && mc1 w && mc1 u) with
      | false => rw [hk, cond_false] at hdo; cases hdo
      | true =>
        rw [hk, cond_true] at hdo
        cases hdo
        try simp only [Bool.and_eq_true] at hk
        exact lv_dup_x2 hx hb hd (mc1_cat hk.1.1) (mc1_cat hk.1.2) (mc1_cat hk.2) (k H locs ls cells slots rfl rfl hH hS hl rfl)
    · cases hdo
  case dup2 =>
    dsimp only [mst] at hst
    simp only [Bool.and_eq_true, Nat.beq_eq, beq_iff_eq] at hst
    obtain rfl := hst
    have hd : decode (mCode y) pc = .ok (.dup2, 1) := by rw [hdec, Nat.add_sub_cancel_left]
    dsimp only [mdo] at hdo
    split at hdo
    · rename_i v w r
      cases hk : (mc1 v && mc1 w) with
      | false => rw [hk, cond_false] at hdo; cases hdo
      | true =>
        rw [hk, cond_true] at hdo
        cases hdo
        try simp only [Bool.and_eq_true] at hk
        exact lv_dup2_11 hx hb hd (mc1_cat hk.1) (mc1_cat hk.2) (k H locs ls cells slots rfl rfl hH hS hl rfl)
    · cases hdo
  case goto o =>
    dsimp only [mst] at hst
    simp only [Bool.and_eq_true, Nat.beq_eq, beq_iff_eq] at hst
    obtain ⟨ht, rfl⟩ := hst
    have hd : decode (mCode y) pc = .ok (.goto o, 3) := by rw [hdec, Nat.add_sub_cancel_left]
    dsimp only [mdo] at hdo
    cases hdo
    exact lv_goto hx hb hd ht (k H locs ls cells slots rfl rfl hH hS hl rfl)
  case ifCond cn o =>
    dsimp only [mst] at hst
    simp only [Bool.and_eq_true, Nat.beq_eq, beq_iff_eq] at hst
    obtain ⟨ht, rfl⟩ := hst
    have hd : decode (mCode y) pc = .ok (.ifCond cn o, 3) := by rw [hdec, Nat.add_sub_cancel_left]
    dsimp only [mdo] at hdo
    split at hdo
    · rename_i x r
      cases hdo
      refine lv_if_eq hx hb hd ht (fun q => ?_) (fun q => ?_)
      · have k2 := k H locs ls cells slots rfl rfl hH hS hl rfl
        rw [decide_eq_true q, cond_true] at k2
        exact k2
      · have k2 := k H locs ls cells slots rfl rfl hH hS hl rfl
        rw [decide_eq_false q, cond_false] at k2
        exact k2
    · rename_i x r
      cases hdo
      refine lv_if_ne hx hb hd ht (fun q => ?_) (fun q => ?_)
      · have k2 := k H locs ls cells slots rfl rfl hH hS hl rfl
        rw [decide_eq_true q, cond_true] at k2
        exact k2
      · have k2 := k H locs ls cells slots rfl rfl hH hS hl rfl
        rw [decide_eq_false (fun h => h q), cond_false] at k2
        exact k2
    · rename_i x r
      cases hdo
      refine lv_if_lt hx hb hd ht (fun q => ?_) (fun q => ?_)
      · have k2 := k H locs ls cells slots rfl rfl hH hS hl rfl
        rw [decide_eq_true q, cond_true] at k2
        exact k2
      · have k2 := k H locs ls cells slots rfl rfl hH hS hl rfl
        rw [decide_eq_false q, cond_false] at k2
        exact k2
    · rename_i x r
      cases hdo
      refine lv_if_ge hx hb hd ht (fun q => ?_) (fun q => ?_)
      · have k2 := k H locs ls cells slots rfl rfl hH hS hl rfl
        rw [decide_eq_true q, cond_true] at k2
        exact k2
      · have k2 := k H locs ls cells slots rfl rfl hH hS hl rfl
        rw [decide_eq_false q, cond_false] at k2
        exact k2
    · rename_i x r
      cases hdo
      refine lv_if_gt hx hb hd ht (fun q => ?_) (fun q => ?_)
      · have k2 := k H locs ls cells slots rfl rfl hH hS hl rfl
        rw [decide_eq_true q, cond_true] at k2
        exact k2
      · have k2 := k H locs ls cells slots rfl rfl hH hS hl rfl
        rw [decide_eq_false q, cond_false] at k2
        exact k2
    · rename_i x r
      cases hdo
      refine lv_if_le hx hb hd ht (fun q => ?_) (fun q => ?_)
      · have k2 := k H locs ls cells slots rfl rfl hH hS hl rfl
        rw [decide_eq_true q, cond_true] at k2
        exact k2
      · have k2 := k H locs ls cells slots rfl rfl hH hS hl rfl
        rw [decide_eq_false q, cond_false] at k2
        exact k2
    · cases hdo
  case if_icmp cn o =>
    dsimp only [mst] at hst
    simp only [Bool.and_eq_true, Nat.beq_eq, beq_iff_eq] at hst
    obtain ⟨ht, rfl⟩ := hst
    have hd : decode (mCode y) pc = .ok (.if_icmp cn o, 3) := by rw [hdec, Nat.add_sub_cancel_left]
    dsimp only [mdo] at hdo
    split at hdo
    · rename_i w x r
      cases hdo
      refine lv_icmp_eq hx hb hd ht (fun q => ?_) (fun q => ?_)
      · have k2 := k H locs ls cells slots rfl rfl hH hS hl rfl
        rw [decide_eq_true q, cond_true] at k2
        exact k2
      · have k2 := k H locs ls cells slots rfl rfl hH hS hl rfl
        rw [decide_eq_false q, cond_false] at k2
        exact k2
    · rename_i w x r
      cases hdo
      refine lv_icmp_ne hx hb hd ht (fun q => ?_) (fun q => ?_)
      · have k2 := k H locs ls cells slots rfl rfl hH hS hl rfl
        rw [decide_eq_true q, cond_true] at k2
        exact k2
      · have k2 := k H locs ls cells slots rfl rfl hH hS hl rfl
        rw [decide_eq_false (fun h => h q), cond_false] at k2
        exact k2
    · rename_i w x r
      cases hdo
      refine lv_icmp_lt hx hb hd ht (fun q => ?_) (fun q => ?_)
      · have k2 := k H locs ls cells slots rfl rfl hH hS hl rfl
        rw [decide_eq_true q, cond_true] at k2
        exact k2
      · have k2 := k H locs ls cells slots rfl rfl hH hS hl rfl
        rw [decide_eq_false q, cond_false] at k2
        exact k2
    · rename_i w x r
      cases hdo
      refine lv_icmp_ge hx hb hd ht (fun q => ?_) (fun q => ?_)
      · have k2 := k H locs ls cells slots rfl rfl hH hS hl rfl
        rw [decide_eq_true q, cond_true] at k2
        exact k2
      · have k2 := k H locs ls cells slots rfl rfl hH hS hl rfl
        rw [decide_eq_false q, cond_false] at k2
        exact k2
    · rename_i w x r
      cases hdo
      refine lv_icmp_gt hx hb hd ht (fun q => ?_) (fun q => ?_)
      · have k2 := k H locs ls cells slots rfl rfl hH hS hl rfl
        rw [decide_eq_true q, cond_true] at k2
        exact k2
      · have k2 := k H locs ls cells slots rfl rfl hH hS hl rfl
        rw [decide_eq_false q, cond_false] at k2
        exact k2
    · rename_i w x r
      cases hdo
      refine lv_icmp_le hx hb hd ht (fun q => ?_) (fun q => ?_)
      · have k2 := k H locs ls cells slots rfl rfl hH hS hl rfl
        rw [decide_eq_true q, cond_true] at k2
        exact k2
      · have k2 := k H locs ls cells slots rfl rfl hH hS hl rfl
        rw [decide_eq_false q, cond_false] at k2
        exact k2
    · cases hdo
  case if_acmp cn o =>
    dsimp only [mst] at hst
    simp only [Bool.and_eq_true, Nat.beq_eq, beq_iff_eq] at hst
    obtain ⟨ht, rfl⟩ := hst
    have hd : decode (mCode y) pc = .ok (.if_acmp cn o, 3) := by rw [hdec, Nat.add_sub_cancel_left]
    dsimp only [mdo] at hdo
    have hbs := hH.2.2.1
    split at hdo
    · rename_i w x r
      cases hdo
      refine lv_acmp_eq (rx := some (mrho b sz x)) (ry := some (mrho b sz w)) hx hb hd ht (fun q => ?_) (fun q => ?_)
      · have k2 := k H locs ls cells slots rfl rfl hH hS hl rfl
        have hxy : x = w := mrho_inj hbs (Option.some.inj q)
        subst hxy
        rw [Nat.beq_refl, cond_true] at k2
        exact k2
      · have k2 := k H locs ls cells slots rfl rfl hH hS hl rfl
        have hxy : Nat.beq x w = false := by
          cases hq : Nat.beq x w with
          | false => rfl
          | true => exact absurd (by rw [Nat.eq_of_beq_eq_true hq]) q
        rw [hxy, cond_false] at k2
        exact k2
    · rename_i x r
      cases hdo
      exact lv_acmp_eq (rx := some (mrho b sz x)) (ry := none) hx hb hd ht (fun q => by cases q) (fun q => k H locs ls cells slots rfl rfl hH hS hl rfl)
    · rename_i w r
      cases hdo
      exact lv_acmp_eq (rx := none) (ry := some (mrho b sz w)) hx hb hd ht (fun q => by cases q) (fun q => k H locs ls cells slots rfl rfl hH hS hl rfl)
    · rename_i r
      cases hdo
      exact lv_acmp_eq (rx := none) (ry := none) hx hb hd ht (fun q => k H locs ls cells slots rfl rfl hH hS hl rfl) (fun q => absurd rfl q)
    · rename_i w x r
      cases hdo
      refine lv_acmp_ne (rx := some (mrho b sz x)) (ry := some (mrho b sz w)) hx hb hd ht (fun q => ?_) (fun q => ?_)
      · have k2 := k H locs ls cells slots rfl rfl hH hS hl rfl
        have hxy : Nat.beq x w = false := by
          cases hq : Nat.beq x w with
          | false => rfl
          | true => exact absurd (by rw [Nat.eq_of_beq_eq_true hq]) q
        rw [hxy, cond_false] at k2
        exact k2
      · have k2 := k H locs ls cells slots rfl rfl hH hS hl rfl
        have hxy : x = w := mrho_inj hbs (Option.some.inj q)
        subst hxy
        rw [Nat.beq_refl, cond_true] at k2
        exact k2
    · rename_i x r
      cases hdo
      exact lv_acmp_ne (rx := some (mrho b sz x)) (ry := none) hx hb hd ht (fun q => k H locs ls cells slots rfl rfl hH hS hl rfl) (fun q => by cases q)
    · rename_i w r
      cases hdo
      exact lv_acmp_ne (rx := none) (ry := some (mrho b sz w)) hx hb hd ht (fun q => k H locs ls cells slots rfl rfl hH hS hl rfl) (fun q => by cases q)
    · rename_i r
      cases hdo
      exact lv_acmp_ne (rx := none) (ry := none) hx hb hd ht (fun q => absurd rfl q) (fun q => k H locs ls cells slots rfl rfl hH hS hl rfl)
    · cases hdo
  case ifnull o =>
    dsimp only [mst] at hst
    simp only [Bool.and_eq_true, Nat.beq_eq, beq_iff_eq] at hst
    obtain ⟨ht, rfl⟩ := hst
    have hd : decode (mCode y) pc = .ok (.ifnull o, 3) := by rw [hdec, Nat.add_sub_cancel_left]
    dsimp only [mdo] at hdo
    split at hdo
    · cases hdo
      exact lv_ifnullN hx hb hd ht (k H locs ls cells slots rfl rfl hH hS hl rfl)
    · cases hdo
      exact lv_ifnull hx hb hd (k H locs ls cells slots rfl rfl hH hS hl rfl)
    · cases hdo
  case ifnonnull o =>
    dsimp only [mst] at hst
    simp only [Bool.and_eq_true, Nat.beq_eq, beq_iff_eq] at hst
    obtain ⟨ht, rfl⟩ := hst
    have hd : decode (mCode y) pc = .ok (.ifnonnull o, 3) := by rw [hdec, Nat.add_sub_cancel_left]
    dsimp only [mdo] at hdo
    split at hdo
    · cases hdo
      exact lv_ifnonnullN hx hb hd (k H locs ls cells slots rfl rfl hH hS hl rfl)
    · cases hdo
      exact lv_ifnonnull hx hb hd ht (k H locs ls cells slots rfl rfl hH hS hl rfl)
    · cases hdo
  case tableswitch df lo hi offs =>
    dsimp only [mst] at hst
    simp only [Bool.and_eq_true, decide_eq_true_eq, List.all_eq_true] at hst
    dsimp only [mdo] at hdo
    split at hdo
    · rename_i x r
      cases hk : (decide (x.toInt < lo) || decide (hi < x.toInt)) with
      | true =>
        rw [hk, cond_true] at hdo
        cases hdo
        simp only [Bool.or_eq_true, decide_eq_true_eq] at hk
        exact lv_tableOut hx hb hdec hk (by rw [Int.toNat_of_nonneg hst.1]) (k H locs ls cells slots rfl rfl hH hS hl rfl)
      | false =>
        rw [hk, cond_false] at hdo
        simp only [Bool.or_eq_false_iff, decide_eq_false_iff_not] at hk
        split at hdo
        · rename_i o ho
          cases hdo
          have hm : o ∈ offs.toList := by
            rw [← Array.getElem?_toList] at ho
            exact List.mem_of_getElem? ho
          exact lv_tableIn hx hb hdec hk.1 hk.2 ho (by rw [Int.toNat_of_nonneg (hst.2 o hm)]) (k H locs ls cells slots rfl rfl hH hS hl rfl)
        · cases hdo
    · cases hdo
  case lookupswitch df ps =>
    dsimp only [mst] at hst
    simp only [Bool.and_eq_true, decide_eq_true_eq, List.all_eq_true] at hst
    dsimp only [mdo] at hdo
    split at hdo
    · rename_i x r
      cases hdo
      have hoff : 0 ≤ (pc : Int) + Op.lookupswitch.offset ps.toList df x.toInt := by
        have key : ∀ (q : List (Int × Int)), (∀ o ∈ q, 0 ≤ (pc : Int) + o.2) → 0 ≤ (pc : Int) + Op.lookupswitch.offset q df x.toInt := by
          intro q
          induction q with
          | nil => intro _; exact hst.1.1
          | cons a t ih =>
            intro hq
            rw [Op.lookupswitch.offset_cons]
            split
            · exact hq a List.mem_cons_self
            · exact ih (fun o ho => hq o (List.mem_cons_of_mem _ ho))
        exact key _ hst.1.2
      refine lv_lookup hx hb hdec ?_ rfl (by rw [Int.toNat_of_nonneg hoff]) (k H locs ls cells slots rfl rfl hH hS hl rfl)
      exact List.all_eq_true.mpr (fun q hq => by simpa using hst.2 q hq)
    · cases hdo
  case getfield n =>
    dsimp only [mst] at hst
    simp only [Bool.and_eq_true, Nat.beq_eq, List.contains_iff_mem] at hst
    obtain ⟨hr, rfl⟩ := hst
    have hd : decode (mCode y) pc = .ok (.getfield n, 3) := by rw [hdec, Nat.add_sub_cancel_left]
    dsimp only [mdo] at hdo
    split at hdo
    · rename_i a r
      split at hdo
      · rename_i v hv
        cases hdo
        obtain ⟨fs, hM, hfs⟩ := mget_ok hv
        obtain ⟨a', rfl⟩ := hH.pos hM (fun es q => by cases q)
        obtain ⟨hci, hk, hlink⟩ := mFr_ok hr
        exact va_get (D := D) (cl := mCl) (tys := mTys dA) (ws := mWd b sz dA M) (Ts := mTs) (fs := fs.map (mrv b sz)) (a := sz + a') hx hb hts (mK_lay r1 hci) hown hKn.1 hH.2.2.2.1 a' (mWd_at hM) (mCl_at r1 hci) r2 hk (hts _ hlink) (fun x hx => by rw [mK_own r1 hci r2 hk] at hx; exact hx) (v := mrv b sz v) (by rw [List.getElem?_map, hfs]; rfl) hd (k H locs ls cells slots rfl rfl hH hS hl rfl)
      · cases hdo
    · cases hdo
  case putfield n =>
    dsimp only [mst] at hst
    simp only [Bool.and_eq_true, Nat.beq_eq, List.contains_iff_mem, Bool.or_eq_true, Bool.not_eq_true', decide_eq_true_eq] at hst
    obtain ⟨⟨hr, rfl⟩, hfin⟩ := hst
    have hd : decode (mCode y) pc = .ok (.putfield n, 3) := by rw [hdec, Nat.add_sub_cancel_left]
    dsimp only [mdo] at hdo
    split at hdo
    · rename_i v a r
      cases hft : mfit (mTy r1 r2) v with
      | false => rw [hft, cond_false] at hdo; cases hdo
      | true =>
        rw [hft, cond_true] at hdo
        split at hdo
        · rename_i M2 hv
          cases hdo
          obtain ⟨fs, hM, hlen, rfl⟩ := mput_ok hv
          obtain ⟨a', rfl⟩ := hH.pos hM (fun es q => by cases q)
          obtain ⟨hci, hk, hlink⟩ := mFr_ok hr
          obtain ⟨hn1, hn2⟩ := mfit_ok (b := b) (sz := sz) hft
          have hap := va_apart (own := mCn (mOwn y)) (D := D) (tys := mTys dA) hts (mK_lay r1 hci) (mTy r1) (mK_ty r1 hci) (mK_nm r1 hci) hKn.1 (mCl_at r1 hci)
          have hPa : va_at D mCl (sz + a', mEn b sz dA (.inl (r1, fs))) H := hH.2.2.2.1 a' _ (mWd_at hM)
          obtain ⟨rr, hr1, cell, q1, q2, q3, q4⟩ := hPa
          have hrr : rr = (mCn r1, mT r1, mN r1) := Option.some.inj (hr1.symm.trans (mCl_at r1 hci))
          subst hrr
          obtain ⟨hSl, hfc, kC, hkC, hkind⟩ := hKn.1.1 r1 _ (mCl_at r1 hci)
          obtain ⟨cf, kf, fi, f, hi, hsl⟩ := hSl r2 hk
          have hlay := hts _ (mK_lay r1 hci _ (u_in_lay hk))
          have hstf := (u_facts hfc hkC (u_lays hts (mK_lay r1 hci) hk) hi).1
          have hi2 : s.fieldFound? (mCn r1) (mT r1 r2).2.1 (mT r1 r2).2.2.1 = some (cf, kf, fi, f) := by rw [mK_own r1 hci r2 hk] at hi; exact hi
          have hend : ∀ H' : Heap, H'[sz + a']? = some (cell.setSlot f.slot (mrv b sz v)) → H'.size = H.size → (∀ q, q ≠ sz + a' → H'[q]? = H[q]?) → W p l e R s m args below meth c H' (locs ++ [⟨sz + a', f.slot⟩]) cells slots Q (F0 m (pc + 3) ls (st'.map (mrv b sz))) := by
            intro H' e1 e2 e3
            refine k H' _ ls cells slots (by rw [List.length_set]) (by rw [mslots_set (by simp [msz]) hM]) (hH.put hM ?_ e2 e3) (mS_put hS e2 e3) hl rfl
            refine ⟨_, mCl_at r1 hci, ?_⟩
            show t_OB (sz + a') (D.1 r1) (mN r1) (D.2 r1) H' (vp_V ((fs.set r2 v).map (mrv b sz)))
            rw [List.map_set]
            rw [hsl] at e1
            exact t_OB.to (V := updV (vp_V (fs.map (mrv b sz))) r2 (mrv b sz v)) ⟨_, e1, q2, q3, t_set q4 hap hk (mrv b sz v)⟩ (fun j _ => vp_updV_set (by rw [List.length_map]; exact hlen) (mrv b sz v) j)
          cases hfl : (mT r1 r2).2.2.2 with
          | false =>
            unfold u_lay at hlay
            rw [if_neg (by rw [hfl]; decide)] at hlay
            have h6 := u_store hfc hkC hkind hlay hi (mK_ty r1 hci r2 hk) hn1 hn2
            exact W.putK hx hb (f := f) ⟨hown, hts _ hlink, ⟨_, _, _, hi2⟩, hstf⟩ (by rw [q2]; exact h6) q1 q3 (by rw [hsl]; exact k2_hasslot (q4 r2 hk)) rfl rfl hd hend
          | true =>
            rcases hfin with hfin | hfin
            · rw [hfl] at hfin; cases hfin
            obtain ⟨ho, hin0⟩ := hfin
            unfold u_lay at hlay
            rw [if_pos hfl] at hlay
            have hcf : m.cls = cf := by
              obtain ⟨_, _, c', _, _, _, -, -, hf', -, -, -, hown2, -⟩ := Cond.laysFinal_spec hlay
              have e1 : c' = cf := by have := hi.symm.trans hf'; simp at this; exact this.1.symm
              rw [mK_own r1 hci r2 hk, ← ho] at hown2
              rw [← e1]; exact Option.some.inj (hown.symm.trans hown2)
            have h6 := u_fits hfc hkC hkind (Or.inr hlay) hi (mK_ty r1 hci r2 hk) hn1 hn2
            exact W.putFinK hx hb hown (hts _ hlink) hi2 hstf hcf (hinit hin0) (by rw [q2]; exact h6) q1 q3 (by rw [hsl]; exact k2_hasslot (q4 r2 hk)) rfl rfl hd hend
        · cases hdo
    · cases hdo
  case iaload =>
    dsimp only [mst] at hst
    simp only [Bool.and_eq_true, Nat.beq_eq, beq_iff_eq] at hst
    obtain rfl := hst
    have hd : decode (mCode y) pc = .ok (.iaload, 1) := by rw [hdec, Nat.add_sub_cancel_left]
    dsimp only [mdo] at hdo
    split at hdo
    · rename_i j a r
      split at hdo
      · rename_i x hv
        cases hdo
        obtain ⟨es, hM, h0, hes⟩ := mald_ok hv
        obtain ⟨a', rfl⟩ := hH.pos hM (fun es q => by cases q)
        have hlt := (List.getElem?_eq_some_iff.mp hes).1
        refine va_iald (D := D) (cl := mCl) (tys := mTys dA) (ws := mWd b sz dA M) (a := sz + a') (cA := dA 0) (n := es.length) (f := fun j => mvi (es.getD j .null)) hx hb hKn.1 hH.2.2.2.1 a' 0 (mWd_at hM) rfl (mvp_in h0 hlt) hd ?_
        rw [mgetD hes]
        exact k H locs ls cells slots rfl rfl hH hS hl rfl
      · rename_i x hv
        cases h0a : Nat.beq a 0 with
        | false => rw [h0a, cond_false] at hdo; cases hdo
        | true =>
          rw [h0a, cond_true] at hdo
          cases hdo
          rw [Nat.beq_eq] at h0a
          subst h0a
          obtain ⟨es, hM, h0, hes⟩ := mald_ok hv
          obtain ⟨xs, hx0, scr, g1, g2, g3, g4, g5⟩ := hH.2.2.2.2
          rw [hx0] at hM
          cases hM
          have hlt := (List.getElem?_eq_some_iff.mp hes).1
          rw [List.length_map] at hlt
          have hval : xs.getD j.toNatClampNeg 0 = x := by
            rw [List.getElem?_map] at hes
            rw [List.getD_eq_getElem?_getD]
            cases hq : xs[j.toNatClampNeg]? with
            | none => rw [hq] at hes; cases hes
            | some z => rw [hq] at hes; cases hes; rfl
          have hsl := g5 _ hlt
          dsimp only at hsl
          rw [hval] at hsl
          exact W.iald (v := .int x) hx hb g1 g2 g3 (by rw [g4]; exact mvp_in h0 hlt) hsl rfl rfl hd (k H locs ls cells slots rfl rfl hH hS hl rfl)
      · cases hdo
    · cases hdo
  case baload =>
    dsimp only [mst] at hst
    simp only [Bool.and_eq_true, Nat.beq_eq, beq_iff_eq] at hst
    obtain rfl := hst
    have hd : decode (mCode y) pc = .ok (.baload, 1) := by rw [hdec, Nat.add_sub_cancel_left]
    dsimp only [mdo] at hdo
    split at hdo
    · rename_i j a r
      split at hdo
      · rename_i x hv
        cases hdo
        obtain ⟨es, hM, h0, hes⟩ := mald_ok hv
        obtain ⟨a', rfl⟩ := hH.pos hM (fun es q => by cases q)
        have hlt := (List.getElem?_eq_some_iff.mp hes).1
        refine va_zald (D := D) (cl := mCl) (tys := mTys dA) (ws := mWd b sz dA M) (a := sz + a') (cA := dA 1) (n := es.length) (f := fun j => mvi (es.getD j .null)) hx hb hKn.1 hH.2.2.2.1 a' 1 (mWd_at hM) rfl (mvp_in h0 hlt) hd ?_
        rw [mgetD hes]
        exact k H locs ls cells slots rfl rfl hH hS hl rfl
      · cases hdo
    · cases hdo
  case aaload =>
    dsimp only [mst] at hst
    simp only [Bool.and_eq_true, Nat.beq_eq, beq_iff_eq] at hst
    obtain rfl := hst
    have hd : decode (mCode y) pc = .ok (.aaload, 1) := by rw [hdec, Nat.add_sub_cancel_left]
    dsimp only [mdo] at hdo
    split at hdo
    · rename_i j a r
      split at hdo
      · rename_i t x hv
        cases hk : (Nat.ble 2 t && Nat.ble t 6) with
        | false => rw [hk, cond_false] at hdo; cases hdo
        | true =>
          rw [hk, cond_true] at hdo
          cases hdo
          simp only [Bool.and_eq_true, Nat.ble_eq] at hk
          obtain ⟨es, hM, h0, hes⟩ := mald_ok hv
          obtain ⟨a', rfl⟩ := hH.pos hM (fun es q => by cases q; omega)
          have hlt := (List.getElem?_eq_some_iff.mp hes).1
          have hw := mWd_at (b := b) (sz := sz) (dA := dA) hM
          rw [show mEn b sz dA (.inr (t, es)) = .inl (dA t, es.length, .inr (.inr (.inr (.inr (fun j => mvr b sz (es.getD j .null)))))) by simp only [mEn, Nat.ble_eq_true_of_le hk.1, cond_true]] at hw
          refine va_aldq (D := D) (cl := mCl) (tys := mTys dA) (ws := mWd b sz dA M) (a := sz + a') hx hb hKn.1 hH.2.2.2.1 a' t hw (mTys_at dA t hk.1 hk.2) (mvp_in h0 hlt) hd ?_
          rw [mgetD hes]
          exact k H locs ls cells slots rfl rfl hH hS hl rfl
      · rename_i t hv
        cases hk : (Nat.ble 2 t && Nat.ble t 6) with
        | false => rw [hk, cond_false] at hdo; cases hdo
        | true =>
          rw [hk, cond_true] at hdo
          cases hdo
          simp only [Bool.and_eq_true, Nat.ble_eq] at hk
          obtain ⟨es, hM, h0, hes⟩ := mald_ok hv
          obtain ⟨a', rfl⟩ := hH.pos hM (fun es q => by cases q; omega)
          have hlt := (List.getElem?_eq_some_iff.mp hes).1
          have hw := mWd_at (b := b) (sz := sz) (dA := dA) hM
          rw [show mEn b sz dA (.inr (t, es)) = .inl (dA t, es.length, .inr (.inr (.inr (.inr (fun j => mvr b sz (es.getD j .null)))))) by simp only [mEn, Nat.ble_eq_true_of_le hk.1, cond_true]] at hw
          refine va_aldq (D := D) (cl := mCl) (tys := mTys dA) (ws := mWd b sz dA M) (a := sz + a') hx hb hKn.1 hH.2.2.2.1 a' t hw (mTys_at dA t hk.1 hk.2) (mvp_in h0 hlt) hd ?_
          rw [mgetD hes]
          exact k H locs ls cells slots rfl rfl hH hS hl rfl
      · cases hdo
    · cases hdo
  case iastore =>
    dsimp only [mst] at hst
    simp only [Bool.and_eq_true, Nat.beq_eq, beq_iff_eq] at hst
    obtain rfl := hst
    have hd : decode (mCode y) pc = .ok (.iastore, 1) := by rw [hdec, Nat.add_sub_cancel_left]
    dsimp only [mdo] at hdo
    split at hdo
    · rename_i x j a r
      split at hdo
      · rename_i M2 hv
        cases hdo
        obtain ⟨es, hM, h0, hlt, rfl⟩ := mast_ok hv
        obtain ⟨a', rfl⟩ := hH.pos hM (fun es q => by cases q)
        have hPa : va_at D mCl (sz + a', mEn b sz dA (.inr (0, es))) H := hH.2.2.2.1 a' _ (mWd_at hM)
        refine W.iast (a := sz + a') hx hb hPa ((hKn.1.2 0 _ rfl).1 es.length (fun j => .int (mvi (es.getD j .null)))) (fun q => by cases q) (by show ¬ (j < 0 ∨ (arrV _ _ _).slots.size ≤ _); rw [arrV_size]; exact mvp_in h0 hlt) rfl rfl hd fun H1 e1 z oq => ?_
        refine k H1 _ ls cells slots (by rw [List.length_set]) (by rw [mslots_set (by simp [msz]) hM]) (hH.put hM ?_ z oq) (mS_put hS z oq) hl rfl
        show H1[sz + a']? = some (vp_cell (dA 0) ((es.set j.toNatClampNeg (.int x)).length, .inl (fun i => mvi ((es.set j.toNatClampNeg (.int x)).getD i .null))))
        rw [e1, msetD_i hlt, List.length_set]
        show some ((vp_cell (dA 0) (es.length, .inl (fun j => mvi (es.getD j .null)))).setSlot j.toNatClampNeg (.int x)) = _
        rw [vp_cell_i, vp_cell_i, arrV_store]
        congr 2
        funext q
        by_cases hq : q = j.toNatClampNeg
        · subst hq; simp [updV, upd]
        · simp [updV, upd, hq]
      · cases hdo
    · cases hdo
  case bastore =>
    dsimp only [mst] at hst
    simp only [Bool.and_eq_true, Nat.beq_eq, beq_iff_eq] at hst
    obtain rfl := hst
    have hd : decode (mCode y) pc = .ok (.bastore, 1) := by rw [hdec, Nat.add_sub_cancel_left]
    dsimp only [mdo] at hdo
    split at hdo
    · rename_i x j a r
      cases hbx : (x == 0 || x == 1) with
      | false => rw [hbx, cond_false] at hdo; cases hdo
      | true =>
        rw [hbx, cond_true] at hdo
        split at hdo
        · rename_i M2 hv
          cases hdo
          obtain ⟨es, hM, h0, hlt, rfl⟩ := mast_ok hv
          obtain ⟨a', rfl⟩ := hH.pos hM (fun es q => by cases q)
          have hnar : narrow .boolean (.int x) = .int x := by
            simp only [Bool.or_eq_true, beq_iff_eq] at hbx
            rcases hbx with rfl | rfl <;> decide
          have hPa : va_at D mCl (sz + a', mEn b sz dA (.inr (1, es))) H := hH.2.2.2.1 a' _ (mWd_at hM)
          refine W.zast (a := sz + a') hx hb hPa ((hKn.1.2 1 _ rfl).1 es.length (fun j => .int (mvi (es.getD j .null)))) (fun q => by cases q) (by show ¬ (j < 0 ∨ (arrV _ _ _).slots.size ≤ _); rw [arrV_size]; exact mvp_in h0 hlt) rfl rfl hd fun H1 e1 z oq => ?_
          refine k H1 _ ls cells slots (by rw [List.length_set]) (by rw [mslots_set (by simp [msz]) hM]) (hH.put hM ?_ z oq) (mS_put hS z oq) hl rfl
          show H1[sz + a']? = some (vp_cell (dA 1) ((es.set j.toNatClampNeg (.int x)).length, .inl (fun i => mvi ((es.set j.toNatClampNeg (.int x)).getD i .null))))
          rw [e1, msetD_i hlt, List.length_set, hnar]
          show some ((vp_cell (dA 1) (es.length, .inl (fun j => mvi (es.getD j .null)))).setSlot j.toNatClampNeg (.int x)) = _
          rw [vp_cell_i, vp_cell_i, arrV_store]
          congr 2
          funext q
          by_cases hq : q = j.toNatClampNeg
          · subst hq; simp [updV, upd]
          · simp [updV, upd, hq]
        · cases hdo
    · cases hdo
  case aastore =>
    dsimp only [mst] at hst
    simp only [Bool.and_eq_true, Nat.beq_eq, beq_iff_eq] at hst
    obtain rfl := hst
    have hd : decode (mCode y) pc = .ok (.aastore, 1) := by rw [hdec, Nat.add_sub_cancel_left]
    dsimp only [mdo] at hdo
    split at hdo
    · rename_i v j a r
      generalize mtya M a = t at hdo
      cases hk : ((Nat.ble 2 t && Nat.ble t 6) && (mcls M v == some (mAc t))) with
      | false => rw [hk, cond_false] at hdo; cases hdo
      | true =>
        rw [hk, cond_true] at hdo
        simp only [Bool.and_eq_true, Nat.ble_eq, beq_iff_eq] at hk
        split at hdo
        · rename_i M2 hv
          cases hdo
          obtain ⟨es, hM, h0, hlt, rfl⟩ := mast_ok hv
          obtain ⟨a', rfl⟩ := hH.pos hM (fun es q => by cases q; omega)
          obtain ⟨vs, hMv⟩ := mcls_ok hk.2
          obtain ⟨v', rfl⟩ := hH.pos hMv (fun es q => by cases q)
          have hen : ∀ es : List Value, mEn b sz dA (.inr (t, es)) = .inl (dA t, es.length, .inr (.inr (.inr (.inr (fun j => mvr b sz (es.getD j .null)))))) := fun es => by simp only [mEn, Nat.ble_eq_true_of_le hk.1.1, cond_true]
          have hw := mWd_at (b := b) (sz := sz) (dA := dA) hM
          rw [hen] at hw
          have hac : mAc t < 10 := by
            rcases (show t = 2 ∨ t = 3 ∨ t = 4 ∨ t = 5 ∨ t = 6 by omega) with rfl | rfl | rfl | rfl | rfl <;> decide
          have hcl := mCl_at (mAc t) hac
          obtain ⟨rr, hr', cellV, g1, g2, g3, -⟩ := hH.2.2.2.1 v' _ (mWd_at hMv)
          have hcls := (hKn.1.1 (mAc t) _ hcl).2
          obtain ⟨kA, comp, k1, k2, k3, -⟩ := (hKn.1.2 t _ (mTys_at dA t hk.1.1 hk.1.2)).2
          have hcomp : comp = D.1 (mAc t) := Option.some.inj (k3.symm.trans hcls.1)
          subst hcomp
          obtain ⟨kC, hkC, -⟩ := hcls.2
          have hPa : va_at D mCl (sz + a', .inl (dA t, es.length, .inr (.inr (.inr (.inr (fun j => mvr b sz (es.getD j .null))))))) H := hH.2.2.2.1 a' _ hw
          have h0' : ¬ j < 0 := fun q => mvp_in h0 hlt (Or.inl q)
          refine W.aast (a := sz + a') hx hb hPa (fun q h => by cases h) (fun h => by cases h) k1 k2 rfl hkC ⟨h0', by show _ < (arrV _ _ _).slots.size; rw [arrV_size]; exact hlt⟩ g1 (fun q h => by rw [g3] at h; cases h) (by rw [g2]; exact hkC) (by rw [g2]; exact va_assign hcls) rfl rfl hd fun H1 e1 z oq => ?_
          refine k H1 _ ls cells slots (by rw [List.length_set]) (by rw [mslots_set (by simp [msz]) hM]) (hH.put hM ?_ z oq) (mS_put hS z oq) hl rfl
          rw [hen]
          show H1[sz + a']? = some (vp_cell (dA t) ((es.set j.toNatClampNeg (.ref (v' + 1))).length, .inr (.inr (.inr (.inr (fun i => mvr b sz ((es.set j.toNatClampNeg (.ref (v' + 1))).getD i .null)))))))
          rw [e1, msetD_r hlt, List.length_set, vp_cell_q, vp_cell_q, arrV_store]
          congr 2
          funext q
          by_cases hq : q = j.toNatClampNeg
          · subst hq; simp [updV, va_up, va_rf, mrho]
          · simp [updV, va_up, hq]
        · cases hdo
    · cases hdo
  case arraylength =>
    dsimp only [mst] at hst
    simp only [Bool.and_eq_true, Nat.beq_eq, beq_iff_eq] at hst
    obtain rfl := hst
    have hd : decode (mCode y) pc = .ok (.arraylength, 1) := by rw [hdec, Nat.add_sub_cancel_left]
    dsimp only [mdo] at hdo
    split at hdo
    · rename_i r
      split at hdo
      · rename_i es hM
        cases hdo
        obtain ⟨xs, hx0, scr, g1, g2, g3, g4, g5⟩ := hH.2.2.2.2
        rw [hx0] at hM
        cases hM
        exact W.alen (n := Int32.ofNat (xs.map Value.int).length) hx hb g1 g2 (by rw [g4, List.length_map]) rfl rfl hd (k H locs ls cells slots rfl rfl hH hS hl rfl)
      · cases hdo
    · cases hdo
  case new n =>
    dsimp only [mst] at hst
    simp only [Bool.and_eq_true, Nat.beq_eq, List.contains_iff_mem] at hst
    obtain ⟨hr, rfl⟩ := hst
    have hd : decode (mCode y) pc = .ok (.new n, 3) := by rw [hdec, Nat.add_sub_cancel_left]
    dsimp only [mdo] at hdo
    cases hdo
    obtain ⟨hci, hlink⟩ := mCr_ok hr
    rw [List.length_append, List.length_singleton] at hc
    rw [mslots_push] at hs
    have hbn : msz (.inl (r1, mBlank r1)) = mN r1 := mK_bn r1 hci
    rw [hbn] at hs
    have hKc := hKn.1.1 r1 _ (mCl_at r1 hci)
    refine W.newcK hx hb hown (hts _ hlink) (hts _ (mK_inst r1 hci)) (hts _ (mK_init r1 hci)) rfl hd (by omega) (by omega) hKc.2.1 rfl fun H1 kC hkC e1 z1 o1 => ?_
    have hre := hH.ref
    have hk := k H1 locs ls (cells + 1) (slots + mN r1) (by rw [List.length_append, List.length_singleton]; omega) (by rw [mslots_push, hbn]; omega) (hH.push ?_ z1 o1) (mS_push hS z1 o1) hl rfl
    · rw [show List.map (mrv b sz) (Value.ref M.length :: st) = Value.ref (mrho b sz M.length) :: List.map (mrv b sz) st from rfl, hre] at hk
      exact hk
    · refine ⟨_, mCl_at r1 hci, ?_⟩
      have hmap : (mBlank r1).map (mrv b sz) = mBlank r1 := by
        rcases (show r1 = 0 ∨ r1 = 1 ∨ r1 = 2 ∨ r1 = 3 ∨ r1 = 4 ∨ r1 = 5 ∨ r1 = 6 ∨ r1 = 7 ∨ r1 = 8 ∨ r1 = 9 by omega) with rfl | rfl | rfl | rfl | rfl | rfl | rfl | rfl | rfl | rfl <;> rfl
      show t_OB H.size (D.1 r1) (mN r1) (D.2 r1) H1 (vp_V ((mBlank r1).map (mrv b sz)))
      rw [hmap]
      exact (u_born (mTy r1) hts (mK_lay r1 hci) hKc hkC e1 (mK_ty r1 hci)).to (mK_bl r1 hci)
  case newarray ty =>
    dsimp only [mst] at hst
    simp only [Bool.and_eq_true, Nat.beq_eq] at hst
    obtain ⟨hr, rfl⟩ := hst
    have hd : decode (mCode y) pc = .ok (.newarray ty, 2) := by rw [hdec, Nat.add_sub_cancel_left]
    dsimp only [mdo] at hdo
    split at hdo
    · rename_i n r
      cases hk : (decide (0 ≤ n) && decide (n ≤ 1000)) with
      | false => rw [hk, cond_false] at hdo; cases hdo
      | true =>
        rw [hk, cond_true] at hdo
        cases hdo
        simp only [Bool.and_eq_true, decide_eq_true_eq] at hk
        rw [List.length_append, List.length_singleton] at hc
        rw [mslots_push] at hs
        have hm : msz (.inr (r1, List.replicate n.toNatClampNeg (Value.int 0))) = n.toNatClampNeg := by simp [msz]
        rw [hm] at hs
        have hn0 : ¬ n < 0 := fun q => by rw [Int32.lt_iff_toInt_lt] at q; have := hk.1; rw [Int32.le_iff_toInt_le] at this; omega
        have hn1 : n.toNatClampNeg ≤ 1000 := by
          have h2 := hk.2
          rw [Int32.le_iff_toInt_le] at h2
          have h3 : (1000 : Int32).toInt = 1000 := by decide
          rw [h3] at h2
          have : (n.toNatClampNeg : Int) = n.toInt.toNat := rfl
          omega
        have hre := hH.ref
        have hgo : ∀ (t : Nat) (fty : FieldType), r1 = t → newarray.typeOf ty = fty → (mTys dA)[t]? = some (dA t, fty) → va_RA s (dA t) fty = (s.vm.findClass ("[" ++ fty.toString) = some (dA t)) → defaultValue fty = .int 0 → t < 2 → Cond.arrayClass fty ∈ mTs → n.toNatClampNeg * componentBytes fty ≤ 536870912 → W p l e R s m args below meth c H locs cells slots Q (F0 m pc ls (List.map (mrv b sz) (.int n :: r))) := by
          intro t fty hrt hty htt hra hdv ht2 harr hby
          subst hrt
          subst hty
          refine va_newaK hx hb (hts _ harr) rfl hd rfl hn0 rfl hby (by omega) (by omega) rfl fun H1 cA e1 z1 o1 hAr hNm => ?_
          have hcA : cA = dA r1 := by
            have h9 := (hKn.1.2 r1 _ htt).2
            rw [hra] at h9
            exact Option.some.inj (hNm.symm.trans h9)
          subst hcA
          have hkk := k H1 locs ls (cells + 1) (slots + n.toNatClampNeg) (by rw [List.length_append, List.length_singleton]; omega) (by rw [mslots_push, hm]; omega) (hH.push ?_ z1 o1) (mS_push hS z1 o1) hl rfl
          · rw [show List.map (mrv b sz) (Value.ref M.length :: r) = Value.ref (mrho b sz M.length) :: List.map (mrv b sz) r from rfl, hre] at hkk
            exact hkk
          · have hb2 : Nat.ble 2 r1 = false := by
              rcases (show r1 = 0 ∨ r1 = 1 by omega) with rfl | rfl <;> rfl
            have hen : mEn b sz dA (.inr (r1, List.replicate n.toNatClampNeg (Value.int 0))) = .inl (dA r1, n.toNatClampNeg, .inl (fun _ => 0)) := by
              simp only [mEn, hb2, cond_false, List.length_replicate, mrep_i]
            rw [hen]
            show H1[H.size]? = some (vp_cell _ _)
            rw [e1, vp_cell_i, hdv]
        cases ty
        case int => exact hgo 0 .int (Nat.eq_of_beq_eq_true hr) rfl rfl rfl rfl (by omega) mA_int (by show _ * 4 ≤ _; omega)
        case boolean => exact hgo 1 .boolean (Nat.eq_of_beq_eq_true hr) rfl rfl rfl rfl (by omega) mA_boolean (by show _ * 1 ≤ _; omega)
        all_goals cases hr
    · cases hdo
  case anewarray n =>
    dsimp only [mst] at hst
    simp only [Bool.and_eq_true, Nat.beq_eq, Nat.ble_eq, List.contains_iff_mem] at hst
    obtain ⟨⟨hr, ht1, ht2⟩, rfl⟩ := hst
    have hd : decode (mCode y) pc = .ok (.anewarray n, 3) := by rw [hdec, Nat.add_sub_cancel_left]
    dsimp only [mdo] at hdo
    split at hdo
    · rename_i n r
      cases hk : (decide (0 ≤ n) && decide (n ≤ 1000)) with
      | false => rw [hk, cond_false] at hdo; cases hdo
      | true =>
        rw [hk, cond_true] at hdo
        cases hdo
        simp only [Bool.and_eq_true, decide_eq_true_eq] at hk
        rw [List.length_append, List.length_singleton] at hc
        rw [mslots_push] at hs
        have hm : msz (.inr (r1, List.replicate n.toNatClampNeg Value.null)) = n.toNatClampNeg := by simp [msz]
        rw [hm] at hs
        have hn0 : ¬ n < 0 := fun q => by rw [Int32.lt_iff_toInt_lt] at q; have := hk.1; rw [Int32.le_iff_toInt_le] at this; omega
        have hn1 : n.toNatClampNeg ≤ 1000 := by
          have h2 := hk.2
          rw [Int32.le_iff_toInt_le] at h2
          have h3 : (1000 : Int32).toInt = 1000 := by decide
          rw [h3] at h2
          have : (n.toNatClampNeg : Int) = n.toInt.toNat := rfl
          omega
        have hre := hH.ref
        obtain ⟨hci, hlink⟩ := mCr_ok hr
        refine W.anew hx hb hown (hts _ hlink) (va_AO.use (hKn.2.2 r1 ht1 ht2)) rfl hd rfl hn0 (by omega) (by omega) (by omega) fun cA kA comp f1 f2 f3 f4 => ?_
        generalize hH1 : H.push ({ cls := cA, slots := Array.replicate n.toNatClampNeg .null, vm := .none } : Cell) = H1
        have z1 : H1.size = H.size + 1 := by rw [← hH1, Array.size_push]
        have e1 : H1[H.size]? = some (arrV cA n.toNatClampNeg (fun _ => .null)) := by rw [← hH1, Array.getElem?_push_size, ← arrV_new]
        have o1 : ∀ q : Nat, q < H.size → H1[q]? = H[q]? := fun q hq => by rw [← hH1, Array.getElem?_push, if_neg (Nat.ne_of_lt hq)]
        have hcA : cA = dA r1 := by
          obtain ⟨kA', comp', k1, k2, k3, k4⟩ := (hKn.1.2 r1 _ (mTys_at dA r1 ht1 ht2)).2
          exact Option.some.inj (f1.symm.trans k4)
        subst hcA
        have hkk := k H1 locs ls (cells + 1) (slots + n.toNatClampNeg) (by rw [List.length_append, List.length_singleton]; omega) (by rw [mslots_push, hm]; omega) (hH.push ?_ z1 o1) (mS_push hS z1 o1) hl rfl
        · rw [show List.map (mrv b sz) (Value.ref M.length :: r) = Value.ref (mrho b sz M.length) :: List.map (mrv b sz) r from rfl, hre] at hkk
          exact hkk
        · have hen : mEn b sz dA (.inr (r1, List.replicate n.toNatClampNeg Value.null)) = .inl (dA r1, n.toNatClampNeg, .inr (.inr (.inr (.inr (fun _ => none))))) := by
            simp only [mEn, Nat.ble_eq_true_of_le ht1, cond_true, List.length_replicate, mrep_r]
          rw [hen]
          show H1[H.size]? = some (vp_cell _ _)
          rw [e1, vp_cell_q]
          rfl
    · cases hdo
  case invokespecial n =>
    dsimp only [mdo] at hdo
    split at hdo
    · rename_i a r
      cases hk : (Nat.beq r1 1000 && Nat.ble (r.map Value.category).sum 8) with
      | false => rw [hk, cond_false] at hdo; cases hdo
      | true =>
        rw [hk, cond_true] at hdo
        cases hdo
        simp only [Bool.and_eq_true, Nat.ble_eq] at hk
        dsimp only [mst] at hst
        rw [hk.1, cond_true] at hst
        simp only [Bool.and_eq_true, Nat.beq_eq, List.contains_iff_mem] at hst
        obtain ⟨hr, rfl⟩ := hst
        have hd : decode (mCode y) pc = .ok (.invokespecial n, 3) := by rw [hdec, Nat.add_sub_cancel_left]
        have hcat := mcat_map (b := b) (sz := sz) st'
        exact W.objInit (a := mrho b sz a) (rest := st'.map (mrv b sz)) hx hb hown (hts _ (mOr_ok hr)) (hts _ mO_inst) (hts _ mO_code) rfl (by obtain ⟨lv, h1, -⟩ := hl; rw [hml, ← hLn]; exact h1.1) rfl hd hf (by show 2 * 0 + _ + 12 ≤ _; omega) (k H locs ls cells slots rfl rfl hH hS hl rfl)
    · cases hdo
  case invokestatic n =>
    dsimp only [mdo] at hdo
    split at hdo
    · rename_i w x r
      cases hk : (Nat.beq r1 1001 && Nat.ble (r.map Value.category).sum 8) with
      | false => rw [hk, cond_false] at hdo; cases hdo
      | true =>
        rw [hk, cond_true] at hdo
        cases hdo
        simp only [Bool.and_eq_true, Nat.ble_eq] at hk
        dsimp only [mst] at hst
        rw [hk.1, cond_true] at hst
        simp only [Bool.and_eq_true, Nat.beq_eq] at hst
        obtain ⟨⟨ho, rfl⟩, rfl⟩ := hst
        have hd : decode (mCode y) pc = .ok (.invokestatic 61, 3) := by rw [hdec, Nat.add_sub_cancel_left]
        have hcat := mcat_map (b := b) (sz := sz) r
        rw [ho] at hown
        exact va_mmin (rest := r.map (mrv b sz)) hx hb (by obtain ⟨lv, h1, -⟩ := hl; rw [hml, ← hLn]; exact h1.1.symm) hown (hts _ mM_link) (hts _ mM_stat) (hts _ mM_init) (hts _ mM_code) hf (by omega) (by omega) (by omega) hd (k H locs ls cells slots rfl rfl hH hS hl rfl)
    · cases hdo
  all_goals (exact absurd hdo (by simp [mdo]))
end MW
