/-! THE CLAIM OUT OF RUNS OF THE MODEL -/
/-! THE CLAIM OUT OF ONE WALK OF THE LAW'S BODY. Your part is whole_start (and what it stands on); all else here is the same for every law, but numbers. -/
def R_law : String := "CageKernelLaw"
def lw_P (b : Addr) (xs : List Int32) (args : Array Value) (s : State) : Prop := args = #[.ref b] ∧ s.IntsAt b xs ∧ xs.length ≤ 3072 ∧ (Jvm.Cond.and given_1 narrow_1).before args s = true
def lw_Q (_ : Array Value) (s : State) (o : Outcome) (t : State) : Prop := o = .returned (some (.int 1)) ∧ Framed s o t [] 600000 7302249
def lw_Z (below : List Frame) (a : Array Value) (s : State) : State → Prop := fun t => ∃ o, t.status = .running ∧ Ended t below o ∧ lw_Q a s o t
/-- the law's own end, with 1 on the stack, nothing written that was there before, its room as the claim has it -/
theorem lw_ret {p : Program} {l : Launch} {e : Env} {s : State} {m : MethodId} {below : List Frame} {meth : Method} {c : Code} {b : Nat} (hx : p.tables.exec = Jvm.exec) (hb : c.code = code) (hr : meth.sig.returnType = ret) (hlocks : meth.locks = false) {pc : Nat} {H : Heap} {ls : Array Slot} (hdg : decode code pc = .ok (.ireturn, 1)) : W p l e room_1 s m #[Value.ref b] below meth c H [] 600000 7302249 (lw_Z below #[Value.ref b] s) (F0 m pc ls [.int 1]) := by
  intro T hT X
  obtain ⟨fs, hret, hrun, hended, hW, hframe⟩ := X.leave (v := some (.int 1)) (hlocks := hlocks) (fun h => by rw [hr] at h; cases h)
  have hmeth' : T.vm.method? m = some meth := X.method'
  refine ⟨T.setFrames fs, ?_, .returned (some (.int 1)), hrun, hended, rfl, ⟨_, rfl⟩, hW, hframe⟩
  jvm_step X.here [X.here.top, hx, hb, hdg, hmeth', hr, ret, narrow_b1]
  (try refine ⟨rfl, ?_⟩); (try refine ⟨rfl, ?_⟩)
  first | (intro acts; rw [hret _ acts rfl rfl rfl]) | rw [hret _ _ rfl rfl rfl]
  exact Steps.refl _
/-- what holds at the law's entry: the machine, the code, the tables' words (any of lw_tbl by 'hts w (by decide +kernel)'), the script of L ints xs at the cell b, what the Statement gives of the start (any of its parts by flat_of_before) -/
def lw_At (p : Program) (s : State) (m : MethodId) (meth : Method) (c : Code) (b L : Nat) (xs : Nat → Int32) : Prop :=
  p.tables.exec = Jvm.exec ∧ c.code = code ∧ meth.sig.returnType = ret ∧ c.maxLocals = 4 ∧ s.vm.findClass R_law = some m.cls ∧ (∀ w ∈ lw_tbl, w.before #[Value.ref b] s = true) ∧ va_X b L xs s s.heap ∧ b < s.heap.size ∧ meth.locks = false ∧ (Jvm.Cond.and given_1 narrow_1).before #[Value.ref b] s = true
theorem mArr_prim {s : State} {args : Array Value} {ty : FieldType} (h : (Cond.arrayClass ty).before args s = true) : ∃ cA : ClassId, s.vm.findClass ("[" ++ ty.toString) = some cA ∧ ArrOfT s cA ty := by
  obtain ⟨cA, kA, comp, h1, h2, h3⟩ := Cond.arrayClass_spec h
  exact ⟨cA, h1, fun n z => ⟨fun k h => (by cases h), kA, h2, comp, h3⟩⟩
theorem mArr_obj {s : State} {args : Array Value} {C : String} (h : (Cond.arrayOver (.object C)).before args s = true) : ∃ cA : ClassId, va_RA s cA (.object C) ∧ ArrOfT s cA (.object C) := by
  obtain ⟨comp, cA, kA, h1, h2, h3, h4, h5⟩ := Cond.arrayOver_spec h
  exact ⟨cA, ⟨kA, comp, h3, h4, h1, h5⟩, fun n z => ⟨fun k h => (by cases h), kA, h3, comp, h4⟩⟩
/-- the tables at the law's entry -/
theorem mKn_start {s : State} {args : Array Value} (hts : ∀ w ∈ lw_tbl, w.before args s = true) : ∃ (D : va_G) (dA : Nat → ClassId), mKn D dA s := by
  have hT := mTs_before hts
  have hcl : ∀ ci : Nat, ∃ (cC : ClassId) (iS : Nat → Nat), ci < 10 → u_Kn s (mCn ci) (mT ci) (mN ci) cC iS := by
    intro ci
    by_cases h : ci < 10
    · obtain ⟨cC, iS, hk⟩ := u_known (C := mCn ci) (T := mT ci) (N := mN ci) (n := mN ci) hT (mK_lay ci h) (hT _ (mK_inst ci h))
      exact ⟨cC, iS, fun _ => hk⟩
    · exact ⟨0, fun _ => 0, fun h' => absurd h' h⟩
  obtain ⟨a0, ha0, hb0⟩ := mArr_prim (hT _ mA_int)
  obtain ⟨a1, ha1, hb1⟩ := mArr_prim (hT _ mA_boolean)
  have hao : ∀ t : Nat, ∃ cA : ClassId, 2 ≤ t → t ≤ 6 → va_RA s cA (.object (mCn (mAc t))) ∧ ArrOfT s cA (.object (mCn (mAc t))) := by
    intro t
    by_cases h : 2 ≤ t ∧ t ≤ 6
    · obtain ⟨cA, h1, h2⟩ := mArr_obj (hts _ (mAo_in t h.1 h.2))
      exact ⟨cA, fun _ _ => ⟨h1, h2⟩⟩
    · exact ⟨0, fun h1 h2 => absurd ⟨h1, h2⟩ h⟩
  refine ⟨(fun ci => Classical.choose (hcl ci), fun ci => Classical.choose (Classical.choose_spec (hcl ci))), fun t => if t = 0 then a0 else if t = 1 then a1 else Classical.choose (hao t), ⟨fun ci q hq => ?_, fun k q hk => ?_⟩, fun w hw => ?_, fun t h1 h2 => hts _ (mAo_in t h1 h2)⟩
  · have hlt : ci < 10 := (List.getElem?_eq_some_iff.mp hq).1
    rw [mCl_at ci hlt] at hq
    cases hq
    exact Classical.choose_spec (Classical.choose_spec (hcl ci)) hlt
  · have hlt : k < 7 := (List.getElem?_eq_some_iff.mp hk).1
    rcases (show k = 0 ∨ k = 1 ∨ (2 ≤ k ∧ k ≤ 6) by omega) with rfl | rfl | ⟨h1, h2⟩
    · cases hk
      exact ⟨hb0, ha0⟩
    · cases hk
      exact ⟨hb1, ha1⟩
    · rw [mTys_at _ k h1 h2] at hk
      cases hk
      have h9 := Classical.choose_spec (hao k) h1 h2
      rw [if_neg (by omega), if_neg (by omega)]
      exact ⟨h9.2, h9.1⟩
  · obtain ⟨q, hq, rfl⟩ := List.mem_map.mp hw
    exact va_Nw.of rfl (hts _ (mNr_ok (o := q.1) (i := q.2.1) (y := q.2.2.1) (k := q.2.2.2) hq).2.2)
/-- what is left to show: the law's run in the model, for every script -/
def mLaw : Prop := ∀ xs : List Int32, xs.length ≤ 3072 → ∃ (n : Nat) (M' : mH), mrun n 8 146 0 (mentry 146 [.ref 0]) [] [.inr (7, xs.map .int)] = some (some (.int 1), M') ∧ M'.length ≤ 600001 ∧ mslots M' ≤ 7302249 + xs.length
set_option maxHeartbeats 4000000 in
theorem mLaw_start (hlaw : mLaw) {p : Program} {e : Env} {s : State} {m : MethodId} {below : List Frame} {meth : Method} {c : Code} (l : Launch) {b L : Nat} {xs : Nat → Int32} (hL : L ≤ 3072) (C0 : lw_At p s m meth c b L xs) : W p l e room_1 s m #[Value.ref b] below meth c s.heap [] 0 0 (lw_Z below #[Value.ref b] s) (entryFrame m ([Value.ref b] : List Value).toArray 4) := by
  obtain ⟨hx, hb, hr, hml, hown, hts, hX, hbl, hlocks, hgv⟩ := C0
  obtain ⟨D, dA, hK⟩ := mKn_start hts
  obtain ⟨n, M', hrun, hcells, hslots⟩ := hlaw ((List.range L).map xs) (by simp; exact hL)
  obtain ⟨a1, a2, hsim⟩ := mrun_sim l b s.heap.size D dA n 8 146 0 (mentry 146 [.ref 0]) [] _ _ _ hrun
  have C : mCx p s m #[Value.ref b] meth c 146 D dA := ⟨hx, hb, hml, hown, mTs_before hts, hK, fun h => absurd h (by decide)⟩
  have hsl : mslots [(.inr (7, ((List.range L).map xs).map Value.int) : mC)] = L := by simp [mslots, msz]
  rw [hsl] at a2
  have hlen : ((List.range L).map xs).length = L := by simp
  rw [hlen] at hslots
  rw [lg_entry_eq]
  refine hsim C ⟨Nat.le_refl _, rfl, hbl, fun k q h => by simp [mWd] at h, (List.range L).map xs, rfl, ?_⟩ va_S.rf (Nat.le_refl _) (mLo_entry (b := b) (sz := s.heap.size) (y := 146) (as := [.ref 0]) rfl (by decide)) rfl (by decide) (by decide) ?_ ?_ ?_
  · obtain ⟨scr, h1, h2, h3, h4, h5⟩ := hX
    refine ⟨scr, h1, h2, h3, by rw [hlen]; exact h4, fun j hj => ?_⟩
    rw [hlen] at hj
    rw [h5 j hj]
    show some (Value.int (xs j)) = some (Value.int (((List.range L).map xs).getD j 0))
    rw [List.getD_eq_getElem?_getD, List.getElem?_map, List.getElem?_range hj]
    rfl
  · show 0 + M'.length ≤ 600000 + 1
    omega
  · rw [hsl]
    show 0 + mslots M' ≤ 7302249 + L
    omega
  · intro pc1 ee ls1 st1 H1 locs1 cells1 slots1 f1 f2 f3 f4 f5 f6
    obtain ⟨-, hdec, hst⟩ := mfetch_ok mck_all f1
    obtain ⟨i, nx, r1, r2, cv⟩ := ee
    dsimp only at hdec
    have f3' : cells1 + 1 = 0 + M'.length := f3
    rw [hsl] at f4
    cases i
    case ireturn =>
      dsimp only [mst] at hst
      simp only [Bool.and_eq_true] at hst
      have hnx := Nat.eq_of_beq_eq_true hst.2
      subst hnx
      rw [Nat.add_sub_cancel_left] at hdec
      dsimp only [mret] at f2
      have hst1 : st1 = [.int 1] := by
        split at f2
        · rename_i v
          cases h0 : Nat.beq r1 0 with
          | true => rw [h0, cond_true] at f2; cases f2; rfl
          | false =>
            rw [h0, cond_false] at f2
            cases h1 : (v == 0 || v == 1) with
            | true => rw [h1, cond_true] at f2; cases f2; rfl
            | false => rw [h1, cond_false] at f2; cases f2
        · cases f2
      subst hst1
      refine va_forget (fun q hq => f6.2.2 q hq) ?_
      refine W.widen (k := 600000) (n := 7302249) (by omega) (by omega) ?_
      exact lw_ret hx hb hr hlocks hdec
    case areturn => dsimp only [mret] at f2; split at f2 <;> cases f2
    case return_ => dsimp only [mret] at f2; split at f2 <;> cases f2
    all_goals (dsimp only [mret] at f2; cases f2)
