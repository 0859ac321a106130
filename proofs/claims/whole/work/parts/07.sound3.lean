/-! SOUNDNESS, the whole: a run of the model is a run of the machine -/
theorem mdo_mono {i : Instr} {nx r1 r2 : Nat} {cv : Int32} {pc pc' : Nat} {L L' : mL} {st st' : List Value} {M M' : mH} (h : mdo (i, nx, r1, r2, cv) pc L st M = some (pc', L', st', M')) : M.length ≤ M'.length ∧ mslots M ≤ mslots M' := by
  cases i <;> dsimp only [mdo] at h <;> (try simp only [Bool.cond_eq_ite] at h) <;> (repeat' split at h) <;> first
    | (cases h; exact ⟨Nat.le_refl _, Nat.le_refl _⟩)
    | (cases h; done)
    | (cases h; exact ⟨by simp, by rw [mslots_push]; omega⟩)
    | (rename_i hv; cases h; obtain ⟨fs, hM, -, rfl⟩ := mput_ok hv; exact ⟨by simp, by rw [mslots_set (by simp [msz]) hM]; exact Nat.le_refl _⟩)
    | (rename_i hv; cases h; obtain ⟨es, hM, -, -, rfl⟩ := mast_ok hv; exact ⟨by simp, by rw [mslots_set (by simp [msz]) hM]; exact Nat.le_refl _⟩)
def mWs (y : Nat) : List Cond := Cond.code (mName y) (mCode y) (mMaxL y) (mRet y) :: mTs
def mRm (d mc ms : Nat) : Room := { frames := d + 1, cells := mc, slots := ms, locals := 28 * (d + 1) }
def mPc (b sz : Nat) (D : va_G) (dA : Nat → ClassId) (as : List Value) (M : mH) : Array Value → State → Prop := fun v U => v = (as.map (mrv b sz)).toArray ∧ sz ≤ U.heap.size ∧ mHp b sz D dA M U U.heap ∧ mKn D dA U
def mQc (b sz : Nat) (D : va_G) (dA : Nat → ClassId) (r : Option Value) (M' : mH) : Array Value → State → Outcome → State → Prop := fun _ st o t => o = .returned (r.map (mrv b sz)) ∧ mHp b sz D dA M' t t.heap ∧ va_F (fun q => sz ≤ q) st t
theorem mHp.moved {b sz : Nat} {D : va_G} {dA : Nat → ClassId} {M : mH} {s U : State} {H : Heap} (hvm : s.vm.Alike U.vm) (h : mHp b sz D dA M s H) : mHp b sz D dA M U H := by
  obtain ⟨h1, h2, h3, h4, xs, h5, h6⟩ := h
  exact ⟨h1, h2, h3, h4, xs, h5, h6.moved hvm⟩
theorem mgood {ws : List Cond} (h : ∀ w ∈ ws, w ∈ mTs) : GoodIn mTs ws := fun w hw => ⟨h w hw, good_of_word (List.mem_filter.mp (h w hw)).2⟩
theorem mWs_in {y : Nat} (hy : y < 146) : ∀ w ∈ mWs y, w ∈ mTs := fun w hw => (List.mem_cons.mp hw).elim (fun e => by rw [e]; exact mCw_in hy) id
theorem mcats {b sz : Nat} {as : List Value} (h : as.all mc1 = true) : ∀ v ∈ as.map (mrv b sz), v.category = 1 := by
  intro v hv
  obtain ⟨w, hw, rfl⟩ := List.mem_map.mp hv
  exact mc1_cat (List.all_eq_true.mp h w hw)
theorem lg_sl_len : ∀ (vs : List Value), (∀ v ∈ vs, v.category = 1) → (lg_sl vs).length = vs.length
  | [], _ => rfl
  | v :: vs, h => by
    have h1 : v.category = 1 := h v List.mem_cons_self
    have h2 := lg_sl_len vs (fun w hw => h w (List.mem_cons_of_mem _ hw))
    have e : lg_sl (v :: vs) = [.val v] ++ lg_sl vs := by simp [lg_sl, h1]
    rw [e, List.length_append, h2]
    simp; omega
theorem lv_args_at : ∀ (vs : List Value) (k i : Nat) (v : Value), (∀ v ∈ vs, v.category = 1) → vs[i]? = some v → (k + i, v) ∈ lv_args k vs
  | [], _, i, v, _, h => by simp at h
  | w :: vs, k, 0, v, _, h => by
    simp only [List.getElem?_cons_zero, Option.some.injEq] at h
    subst h
    exact List.mem_cons_self
  | w :: vs, k, i + 1, v, hc, h => by
    rw [List.getElem?_cons_succ] at h
    have h1 : w.category = 1 := hc w List.mem_cons_self
    have h2 := lv_args_at vs (k + 1) i v (fun u hu => hc u (List.mem_cons_of_mem _ hu)) h
    show (k + (i + 1), v) ∈ (k, w) :: lv_args (if w.category = 2 then k + 2 else k + 1) vs
    rw [if_neg (by omega), show k + (i + 1) = k + 1 + i by omega]
    exact List.mem_cons_of_mem _ h2
theorem lv_args_cat : ∀ (vs : List Value) (k : Nat), (∀ v ∈ vs, v.category = 1) → ∀ q ∈ lv_args k vs, q.2.category = 1
  | [], _, _, q, h => by cases h
  | w :: vs, k, hc, q, h => by
    rcases List.mem_cons.mp h with rfl | h
    · exact hc w List.mem_cons_self
    · exact lv_args_cat vs _ (fun u hu => hc u (List.mem_cons_of_mem _ hu)) q h
theorem mLo_entry {b sz y : Nat} {as : List Value} (hc : as.all mc1 = true) (hl : as.length ≤ mMaxL y) : mLo b sz (mentry y as) ((lg_sl (as.map (mrv b sz)) ++ List.replicate (mMaxL y - (lg_sl (as.map (mrv b sz))).length) Slot.unset).toArray) := by
  have hcs := mcats (b := b) (sz := sz) hc
  have hlen := lg_sl_len _ hcs
  rw [List.length_map] at hlen
  have h := lv_entry (as.map (mrv b sz)) (n := mMaxL y) (by omega)
  have hL : (mentry y as).length = mMaxL y := by simp [mentry]; omega
  refine ⟨lv_args 0 (as.map (mrv b sz)), by rw [hL]; exact h, lv_args_cat _ _ hcs, fun i v hi => ?_⟩
  have hi2 : as[i]? = some v := by
    unfold mentry at hi
    by_cases hlt : i < (as.map some).length
    · rw [List.getElem?_append_left hlt, List.getElem?_map] at hi
      cases hq : as[i]? with
      | none => rw [hq] at hi; cases hi
      | some w => rw [hq] at hi; cases hi; rfl
    · rw [List.getElem?_append_right (by omega)] at hi
      have := List.eq_of_mem_replicate (List.mem_of_getElem? hi)
      cases this
  have h9 := lv_args_at (as.map (mrv b sz)) 0 i (mrv b sz v) hcs (by rw [List.getElem?_map, hi2]; rfl)
  rw [Nat.zero_add] at h9
  exact h9
section MW3
variable {p : Program} {l : Launch} {e : Env} {R : Room} {s : State} {m : MethodId} {args : Array Value} {below : List Frame} {meth : Method} {c : Code} {H : Heap} {locs : List Loc} {cells slots : Nat} {Q : State → Prop}
/-- behind a call -/
theorem mrun_call {b sz : Nat} {D : va_G} {dA : Nat → ClassId} {mc ms pc : Nat} {ls : Array Slot} {st0 rest : List Value} {r : Option Value} {M1 : mH} {av : Array Value} (hr : va_Run p l e R s m args below meth c H locs cells slots mc ms (F0 m pc ls st0) (rest.map (mrv b sz)) (mQc b sz D dA r M1 av) (fun q => sz ≤ q)) (hS : va_S (fun q => sz ≤ q) s.heap H locs)
    (k : ∀ (H1 : Heap) (locs1 : List Loc), mHp b sz D dA M1 s H1 → va_S (fun q => sz ≤ q) s.heap H1 locs1 → W p l e R s m args below meth c H1 locs1 (cells + mc) (slots + ms) Q (F0 m (pc + 3) ls ((r.toList ++ rest).map (mrv b sz)))) : W p l e R s m args below meth c H locs cells slots Q (F0 m pc ls st0) := by
  intro T hT X
  obtain ⟨v, st₀, t, T', L, h0, X', hL, e1, e2, ⟨hv, hH1, hz, hk⟩, st⟩ := hr T hT X
  cases hv
  rw [h0] at hz hk
  have hal : s.vm.Alike t.vm := by rw [← e2]; exact X'.warmed.alike
  obtain ⟨t2, a1, b1⟩ := k T'.heap (locs ++ L) (by rw [e1]; exact hH1.moved hal.symm)
    ⟨Nat.le_trans hS.1 (by rw [e1]; exact hz), fun q h1 h2 => by rw [e1, hk q (Nat.lt_of_lt_of_le h1 hS.1) h2]; exact hS.2.1 q h1 h2, fun q hq => by
      rcases List.mem_append.mp hq with h | h
      · exact hS.2.2 q h
      · exact hL q h⟩ T' rfl X'
  refine ⟨t2, st t2 ?_, b1⟩
  have hap : (r.map (mrv b sz)).toList ++ rest.map (mrv b sz) = (r.toList ++ rest).map (mrv b sz) := by cases r <;> simp
  show Steps p.tables e below (T'.setTop (F0 m (pc + 3) ls ((r.map (mrv b sz)).toList ++ rest.map (mrv b sz)))) t2
  rw [hap]
  exact a1
end MW3
theorem mFB {b sz : Nat} {D : va_G} {dA : Nat → ClassId} {as : List Value} {M : mH} : FrameBlind (mPc b sz D dA as M) := by
  intro a U g mk h
  obtain ⟨h1, h2, h3, h4⟩ := h
  exact ⟨h1, h2, h3.moved (U := U.calling g mk a) (Vm.Alike.refl U.vm), mKn.same (s := U) (U := U.calling g mk a) rfl h4⟩
/-- what a run gives at the machine -/
def mSim (l : Launch) (b sz : Nat) (D : va_G) (dA : Nat → ClassId) (d y pc : Nat) (L : mL) (st : List Value) (M : mH) (r : Option Value) (M' : mH) : Prop :=
  ∀ {p : Program} {e : Env} {R : Room} {s : State} {m : MethodId} {args : Array Value} {below : List Frame} {meth : Method} {c : Code} {H : Heap} {locs : List Loc} {cells slots : Nat} {Q : State → Prop} {ls : Array Slot},
    mCx p s m args meth c y D dA → mHp b sz D dA M s H → va_S (fun q => sz ≤ q) s.heap H locs → sz ≤ s.heap.size → mLo b sz L ls → L.length = mMaxL y → d + 1 ≤ R.frames → 28 * (d + 1) ≤ R.locals → cells + M'.length ≤ R.cells + M.length → slots + mslots M' ≤ R.slots + mslots M →
    (∀ (pc1 : Nat) (ee : mE) (ls1 : Array Slot) (st1 : List Value) (H1 : Heap) (locs1 : List Loc) (cells1 slots1 : Nat), mfetch y pc1 = some ee → mret ee st1 = some r → cells1 + M.length = cells + M'.length → slots1 + mslots M = slots + mslots M' → mHp b sz D dA M' s H1 → va_S (fun q => sz ≤ q) s.heap H1 locs1 → W p l e R s m args below meth c H1 locs1 cells1 slots1 Q (F0 m pc1 ls1 (st1.map (mrv b sz)))) →
    W p l e R s m args below meth c H locs cells slots Q (F0 m pc ls (st.map (mrv b sz)))
/-- a method's contract out of a run of it -/
theorem mMet {l : Launch} (hall : ∀ y, y < 147 → (List.range (mlast y + 1)).all (mchk y) = true) {b sz : Nat} {D : va_G} {dA : Nat → ClassId} {d y : Nat} {as : List Value} {M : mH} {r : Option Value} {M' : mH} (hy : y < 146) (has : as.all mc1 = true) (hn : as.length = mArg y) (h1 : M.length ≤ M'.length) (h2 : mslots M ≤ mslots M') (hsim : mSim l b sz D dA d y 0 (mentry y as) [] M r M') :
    Met l (mName y) (mWs y) (mRm d (M'.length - M.length) (mslots M' - mslots M)) (mPc b sz D dA as M) (mQc b sz D dA r M') (M'.length - M.length) (mslots M' - mslots M) (fun q => sz ≤ q) := by
  obtain ⟨q, -, rfl, hq⟩ := mMc_of hy
  simp only [mMc, Bool.and_eq_true, Nat.beq_eq, Nat.ble_eq, Nat.blt_eq, decide_eq_true_eq] at hq
  obtain ⟨⟨⟨⟨⟨⟨⟨⟨hkd, hini⟩, hcn⟩, hmx⟩, harg⟩, hown10⟩, hpl⟩, hnmh⟩, hkind⟩ := hq
  refine Met.ofW (cc := mCode q.1) (maxL := mMaxL q.1) (ret := mRet q.1) hpl rfl ?_
  intro p e s m args below meth c s₁ B hml hv
  obtain ⟨rfl, hszs, hH, hK⟩ := hv
  have hts := atoms_spec (ws := mWs q.1) B.pre
  have hown : s.vm.findClass (mCn (mOwn q.1)) = some m.cls := by rw [← hcn]; exact findClass_of_methodNamed B.named
  have C : mCx p s m (as.map (mrv b sz)).toArray meth c q.1 D dA := ⟨B.exec, B.bytes, hml, hown, fun w hw => hts w (List.mem_cons_of_mem _ hw), hK, fun hi => by rw [(name_of_methodNamed B.named B.method).1]; exact hi⟩
  have hlocks := B.notSynchronized
  have hr := B.returns
  rw [lg_entry_eq]
  refine hsim C hH va_S.rf hszs (mLo_entry has (by omega)) (by simp [mentry]; omega) (Nat.le_refl _) (Nat.le_refl _) (by show 0 + _ ≤ (M'.length - M.length) + _; omega) (by show 0 + _ ≤ (mslots M' - mslots M) + _; omega) ?_
  intro pc1 ee ls1 st1 H1 locs1 cells1 slots1 f1 f2 f3 f4 f5 f6
  obtain ⟨-, hdec, hst⟩ := mfetch_ok hall f1
  obtain ⟨i, nx, r1, r2, cv⟩ := ee
  have ec : cells1 = M'.length - M.length := by omega
  have es : slots1 = mslots M' - mslots M := by omega
  subst ec
  subst es
  dsimp only at hdec
  have hend : ∀ v : Option Value, r.map (mrv b sz) = v → ∀ t : State, t.heap = H1 → s.WarmedH t.vm → mQc b sz D dA r M' (as.map (mrv b sz)).toArray s (.returned v) t := fun v hv t ht hW => ⟨by rw [hv], by rw [ht]; exact f5.moved hW.alike, f6.F ht⟩
  cases i
  case ireturn =>
    dsimp only [mret] at f2
    split at f2
    · rename_i v
      dsimp only [mst] at hst
      simp only [Bool.or_eq_true, Bool.and_eq_true, decide_eq_true_eq] at hst
      obtain ⟨hst, hnx⟩ := hst
      have hnx := Nat.eq_of_beq_eq_true hnx
      subst hnx
      rcases hst with ⟨hrt, hr0⟩ | ⟨hrt, hr0⟩
      · rw [hr0, cond_true] at f2
        cases f2
        exact W.iret B.exec B.bytes (by rw [hr, hrt]) (hend _ rfl) f6.2.2 (by rw [hdec, Nat.add_sub_cancel_left])
      · have e1 : r1 = 1 := Nat.eq_of_beq_eq_true hr0
        subst e1
        rw [show Nat.beq 1 0 = false from rfl, cond_false] at f2
        cases hv : (v == 0 || v == 1) with
        | false => rw [hv, cond_false] at f2; cases f2
        | true =>
          rw [hv, cond_true] at f2
          cases f2
          have hnar : narrow .boolean (.int v) = .int v := by
            simp only [Bool.or_eq_true, beq_iff_eq] at hv
            rcases hv with rfl | rfl <;> decide
          exact W.zret B.exec B.bytes (by rw [hr, hrt]) hnar (hend _ rfl) f6.2.2 (by rw [hdec, Nat.add_sub_cancel_left])
    · cases f2
  case areturn =>
    dsimp only [mst] at hst
    rw [Bool.and_eq_true] at hst
    obtain ⟨hst, hnx⟩ := hst
    have hnx := Nat.eq_of_beq_eq_true hnx
    subst hnx
    dsimp only [mret] at f2
    split at hst
    · rename_i n hrt
      split at f2
      · cases f2
        exact W.aret B.exec B.bytes (by rw [hr, hrt]) (Or.inl ⟨n, rfl⟩) (Or.inr ⟨_, rfl⟩) (hend _ rfl) f6.2.2 (by rw [hdec, Nat.add_sub_cancel_left])
      · cases f2
        exact W.aret B.exec B.bytes (by rw [hr, hrt]) (Or.inl ⟨n, rfl⟩) (Or.inl rfl) (hend _ rfl) f6.2.2 (by rw [hdec, Nat.add_sub_cancel_left])
      · cases f2
    · cases hst
  case return_ =>
    dsimp only [mst] at hst
    rw [Bool.and_eq_true] at hst
    obtain ⟨hst, hnx⟩ := hst
    have hnx := Nat.eq_of_beq_eq_true hnx
    subst hnx
    dsimp only [mret] at f2
    split at hst
    · rename_i hrt
      split at f2
      · cases f2
        exact W.vret B.exec B.bytes (by rw [hr, hrt]) (hend _ rfl) f6.2.2 (by rw [hdec, Nat.add_sub_cancel_left])
      · cases f2
    · cases hst
  all_goals (dsimp only [mret] at f2; cases f2)
