theorem mck_all : ∀ y, y < 147 → (List.range (mlast y + 1)).all (mchk y) = true
  | 0, _ => mck_0
  | 1, _ => mck_1
  | 2, _ => mck_2
  | 3, _ => mck_3
  | 4, _ => mck_4
  | 5, _ => mck_5
  | 6, _ => mck_6
  | 7, _ => mck_7
  | 8, _ => mck_8
  | 9, _ => mck_9
  | 10, _ => mck_10
  | 11, _ => mck_11
  | 12, _ => mck_12
  | 13, _ => mck_13
  | 14, _ => mck_14
  | 15, _ => mck_15
  | 16, _ => mck_16
  | 17, _ => mck_17
  | 18, _ => mck_18
  | 19, _ => mck_19
  | 20, _ => mck_20
  | 21, _ => mck_21
  | 22, _ => mck_22
  | 23, _ => mck_23
  | 24, _ => mck_24
  | 25, _ => mck_25
  | 26, _ => mck_26
  | 27, _ => mck_27
  | 28, _ => mck_28
  | 29, _ => mck_29
  | 30, _ => mck_30
  | 31, _ => mck_31
  | 32, _ => mck_32
  | 33, _ => mck_33
  | 34, _ => mck_34
  | 35, _ => mck_35
  | 36, _ => mck_36
  | 37, _ => mck_37
  | 38, _ => mck_38
  | 39, _ => mck_39
  | 40, _ => mck_40
  | 41, _ => mck_41
  | 42, _ => mck_42
  | 43, _ => mck_43
  | 44, _ => mck_44
  | 45, _ => mck_45
  | 46, _ => mck_46
  | 47, _ => mck_47
  | 48, _ => mck_48
  | 49, _ => mck_49
  | 50, _ => mck_50
  | 51, _ => mck_51
  | 52, _ => mck_52
  | 53, _ => mck_53
  | 54, _ => mck_54
  | 55, _ => mck_55
  | 56, _ => mck_56
  | 57, _ => mck_57
  | 58, _ => mck_58
  | 59, _ => mck_59
  | 60, _ => mck_60
  | 61, _ => mck_61
  | 62, _ => mck_62
  | 63, _ => mck_63
  | 64, _ => mck_64
  | 65, _ => mck_65
  | 66, _ => mck_66
  | 67, _ => mck_67
  | 68, _ => mck_68
  | 69, _ => mck_69
  | 70, _ => mck_70
  | 71, _ => mck_71
  | 72, _ => mck_72
  | 73, _ => mck_73
  | 74, _ => mck_74
  | 75, _ => mck_75
  | 76, _ => mck_76
  | 77, _ => mck_77
  | 78, _ => mck_78
  | 79, _ => mck_79
  | 80, _ => mck_80
  | 81, _ => mck_81
  | 82, _ => mck_82
  | 83, _ => mck_83
  | 84, _ => mck_84
  | 85, _ => mck_85
  | 86, _ => mck_86
  | 87, _ => mck_87
  | 88, _ => mck_88
  | 89, _ => mck_89
  | 90, _ => mck_90
  | 91, _ => mck_91
  | 92, _ => mck_92
  | 93, _ => mck_93
  | 94, _ => mck_94
  | 95, _ => mck_95
  | 96, _ => mck_96
  | 97, _ => mck_97
  | 98, _ => mck_98
  | 99, _ => mck_99
  | 100, _ => mck_100
  | 101, _ => mck_101
  | 102, _ => mck_102
  | 103, _ => mck_103
  | 104, _ => mck_104
  | 105, _ => mck_105
  | 106, _ => mck_106
  | 107, _ => mck_107
  | 108, _ => mck_108
  | 109, _ => mck_109
  | 110, _ => mck_110
  | 111, _ => mck_111
  | 112, _ => mck_112
  | 113, _ => mck_113
  | 114, _ => mck_114
  | 115, _ => mck_115
  | 116, _ => mck_116
  | 117, _ => mck_117
  | 118, _ => mck_118
  | 119, _ => mck_119
  | 120, _ => mck_120
  | 121, _ => mck_121
  | 122, _ => mck_122
  | 123, _ => mck_123
  | 124, _ => mck_124
  | 125, _ => mck_125
  | 126, _ => mck_126
  | 127, _ => mck_127
  | 128, _ => mck_128
  | 129, _ => mck_129
  | 130, _ => mck_130
  | 131, _ => mck_131
  | 132, _ => mck_132
  | 133, _ => mck_133
  | 134, _ => mck_134
  | 135, _ => mck_135
  | 136, _ => mck_136
  | 137, _ => mck_137
  | 138, _ => mck_138
  | 139, _ => mck_139
  | 140, _ => mck_140
  | 141, _ => mck_141
  | 142, _ => mck_142
  | 143, _ => mck_143
  | 144, _ => mck_144
  | 145, _ => mck_145
  | 146, _ => mck_146
  | y + 147, h => absurd h (by omega)
/-- a call's arguments, cut off the stack -/
theorem mcok_ok {n : Nat} {st : List Value} (h : mcok n st = true) : n ≤ st.length ∧ (st.take n).reverse.all mc1 = true ∧ ((st.drop n).map Value.category).sum ≤ 8 ∧ (st.take n).reverse.length = n := by
  simp only [mcok, Bool.and_eq_true, Nat.ble_eq] at h
  refine ⟨h.1, ?_, h.2.2, by rw [List.length_reverse, List.length_take]; omega⟩
  rw [List.all_reverse]
  exact h.2.1
theorem mstk {b sz n : Nat} {st as : List Value} (h : (st.take n).reverse = as) : st.map (mrv b sz) = (as.map (mrv b sz)).reverse ++ (st.drop n).map (mrv b sz) := by
  have h1 : st = as.reverse ++ st.drop n := by rw [← h, List.reverse_reverse, List.take_append_drop]
  conv => lhs; rw [h1]
  rw [List.map_append, List.map_reverse]
set_option maxHeartbeats 4000000 in
/-- A RUN OF THE MODEL IS A RUN OF THE MACHINE -/
theorem mrun_sim (l : Launch) (b sz : Nat) (D : va_G) (dA : Nat → ClassId) : ∀ (n d y pc : Nat) (L : mL) (st : List Value) (M : mH) (r : Option Value) (M' : mH), mrun n d y pc L st M = some (r, M') → M.length ≤ M'.length ∧ mslots M ≤ mslots M' ∧ mSim l b sz D dA d y pc L st M r M' := by
  intro n
  induction n with
  | zero => intro d y pc L st M r M' h; cases h
  | succ n ih =>
    intro d y pc L st M r M' h
    unfold mrun at h
    split at h
    · cases h
    rename_i ee hfe
    obtain ⟨hy, hdec, hst⟩ := mfetch_ok mck_all hfe
    split at h
    · rename_i r0 hret
      cases h
      refine ⟨Nat.le_refl _, Nat.le_refl _, ?_⟩
      intro p e R s m args below meth c H locs cells slots Q ls C hH hS hsz hl hLn hfr hlo hc hs fin
      exact fin pc ee ls st H locs cells slots hfe hret rfl rfl hH hS
    rename_i hret
    split at h
    · rename_i q hcall
      cases d with
      | zero => cases h
      | succ d =>
        dsimp only at h
        split at h
        · cases h
        rename_i w hw
        obtain ⟨y1, as, rest⟩ := q
        obtain ⟨r1, M1⟩ := w
        dsimp only at h hw
        obtain ⟨a1, a2, hsim1⟩ := ih d y1 0 (mentry y1 as) [] M r1 M1 hw
        obtain ⟨a3, a4, hsim2⟩ := ih (d + 1) y ee.2.1 L (r1.toList ++ rest) M1 r M' h
        refine ⟨Nat.le_trans a1 a3, Nat.le_trans a2 a4, ?_⟩
        intro p e R s m args below meth c H locs cells slots Q ls C hH hS hsz hl hLn hfr hlo hc hs fin
        have hgo : ∀ {st0 : List Value} {av : Array Value}, ee.2.1 = pc + 3 → va_Run p l e R s m args below meth c H locs cells slots (M1.length - M.length) (mslots M1 - mslots M) (F0 m pc ls st0) (rest.map (mrv b sz)) (mQc b sz D dA r1 M1 av) (fun q => sz ≤ q) → W p l e R s m args below meth c H locs cells slots Q (F0 m pc ls st0) := by
          intro st0 av hnx hrun
          refine mrun_call hrun hS (fun H1 locs1 hH1 hS1 => ?_)
          have h9 := hsim2 C hH1 hS1 hsz hl hLn hfr hlo (cells := cells + (M1.length - M.length)) (slots := slots + (mslots M1 - mslots M)) (by omega) (by omega) (fun pc1 ee1 ls1 st1 H2 locs2 cells2 slots2 f1 f2 f3 f4 f5 f6 => fin pc1 ee1 ls1 st1 H2 locs2 cells2 slots2 f1 f2 (by omega) (by omega) f5 f6)
          rw [hnx] at h9
          exact h9
        obtain ⟨hx, hb, hml, hown, hts, hKn, hinit⟩ := C
        obtain ⟨lv, hlv, -⟩ := id hl
        have hsize : ls.size = mMaxL y := by rw [← hLn]; exact hlv.1
        have hRm : (mRm d (M1.length - M.length) (mslots M1 - mslots M)).frames + 1 ≤ R.frames ∧ ∀ k, k ≤ 9 → 8 + (k + 11) + (mRm d (M1.length - M.length) (mslots M1 - mslots M)).locals ≤ R.locals := ⟨by show d + 1 + 1 ≤ _; omega, fun k hk => by show 8 + (k + 11) + 28 * (d + 1) ≤ _; omega⟩
        have hfit : cells + (M1.length - M.length) ≤ R.cells ∧ slots + (mslots M1 - mslots M) ≤ R.slots := ⟨by omega, by omega⟩
        have hPc : ∀ U : State, U.heap = H → s.WarmedH U.vm → mPc b sz D dA as M (as.map (mrv b sz)).toArray U := fun U hU hW => ⟨rfl, by rw [hU]; exact Nat.le_trans hsz hS.1, by rw [hU]; exact hH.moved hW.alike, hKn.warm hW⟩
        have hroom : ∀ {rr : List Value}, (rr.map Value.category).sum ≤ 8 → 2 * (F0 m pc ls (st.map (mrv b sz))).monitorRoom + ((rr.map (mrv b sz)).map fun v => v.category).sum ≤ 8 := fun {rr} h8 => by
          rw [mcat_map]
          show 2 * 0 + _ ≤ 8
          omega
        obtain ⟨i, nx, k1, k2, cv⟩ := ee
        dsimp only at hdec hgo
        cases i
        case invokevirtual idx =>
          dsimp only [mcall] at hcall
          cases hok : mcok k2 st with
          | false => rw [hok, cond_false] at hcall; cases hcall
          | true =>
            rw [hok, cond_true] at hcall
            obtain ⟨ok1, ok2, ok3, ok4⟩ := mcok_ok hok
            split at hcall
            · rename_i a as' htk
              cases hcm : (mcls M a == some (mOwn k1)) with
              | false => rw [hcm, cond_false] at hcall; cases hcall
              | true =>
                rw [hcm, cond_true] at hcall
                cases hcall
                dsimp only [mst] at hst
                simp only [Bool.and_eq_true, Nat.beq_eq, List.contains_iff_mem] at hst
                obtain ⟨⟨hr, harg⟩, rfl⟩ := hst
                have hd : decode (mCode y) pc = .ok (.invokevirtual idx, 3) := by rw [hdec, Nat.add_sub_cancel_left]
                obtain ⟨hy1, hkd, hlink⟩ := mMr_ok hr
                obtain ⟨q, -, rfl, hq⟩ := mMc_of hy1
                simp only [mMc, Bool.and_eq_true, Nat.beq_eq, Nat.ble_eq, Nat.blt_eq, decide_eq_true_eq] at hq
                obtain ⟨⟨⟨⟨⟨⟨⟨⟨hkd', hini⟩, hcn⟩, hmx⟩, hag⟩, hown10⟩, hpl⟩, hnmh⟩, hkind⟩ := hq
                rw [← hkd', hkd] at hkind
                simp only [Bool.and_eq_true, decide_eq_true_eq] at hkind
                obtain ⟨⟨hin, hsel⟩, hpar⟩ := hkind
                rw [htk] at ok2 ok4
                have hM := mMet (l := l) mck_all hy1 ok2 (by rw [ok4, harg]) a1 a2 hsim1
                obtain ⟨fs, hMa⟩ := mcls_ok (by simpa using hcm)
                obtain ⟨a', rfl⟩ := hH.pos hMa (fun es z => by cases z)
                have hrecv := va_recv (q0 := a') hKn.1 hH.2.2.2.1 (mCl_at (mOwn q.1) hown10) (mWd_at hMa)
                have hcw : CallW R s args (mCn (mOwn y)) (mCn (mOwn q.1)) idx (mName q.1) (mCode q.1) (mMaxL q.1) (mRet q.1) (mWs q.1) (mRm d (M1.length - M.length) (mslots M1 - mslots M)) (M1.length - M.length) (mslots M1 - mslots M) (as'.map (mrv b sz)).length := by
                  refine cwV (Ts := mTs) _ hts (mgood (fun w hw => ?_)) rfl rfl rfl ⟨hcn, hnmh.1, hnmh.2, ?_⟩ ⟨hRm.1, hRm.2 _ hmx⟩
                  · rcases List.mem_append.mp hw with hw | hw
                    · rw [← hcn] at hw
                      simp only [List.mem_cons, List.not_mem_nil, or_false] at hw
                      rcases hw with rfl | rfl | rfl | rfl
                      · exact hlink
                      · exact mAtw_mem hin
                      · exact mAtw_mem hsel
                      · exact mAtw_mem hini
                    · exact mWs_in hy1 w hw
                  · rw [List.length_map]
                    rw [List.length_cons] at ok4
                    cases hp : parseMethodDescriptor (mName q.1).desc with
                    | none => rw [hp] at hpar; cases hpar
                    | some dd =>
                      rw [hp] at hpar
                      simp only [Option.map_some, Option.some.injEq] at hpar ⊢
                      omega
                refine hgo rfl (va_runV (As := as'.map (mrv b sz)) (b := sz + a') ⟨hx, hb, hml, hown, hts⟩ hM hcw ⟨mFB, hrecv, hPc⟩ rfl rfl hsize ?_ (hroom ok3) hd hfit)
                show st.map (mrv b sz) = _
                rw [mstk htk]
                simp only [List.map_cons, List.reverse_cons, List.append_assoc, List.singleton_append]
                rfl
            · cases hcall
        case invokespecial idx =>
          dsimp only [mcall] at hcall
          cases hok : (mcok k2 st && Nat.blt k1 1000) with
          | false => rw [hok, cond_false] at hcall; cases hcall
          | true =>
            rw [hok, cond_true] at hcall
            simp only [Bool.and_eq_true, Nat.blt_eq] at hok
            obtain ⟨ok1, ok2, ok3, ok4⟩ := mcok_ok hok.1
            split at hcall
            · rename_i a as' htk
              cases hcall
              dsimp only [mst] at hst
              rw [show Nat.beq y1 1000 = false by cases hq : Nat.beq y1 1000 with | false => rfl | true => have := Nat.eq_of_beq_eq_true hq; omega, cond_false] at hst
              simp only [Bool.and_eq_true, Bool.or_eq_true, Nat.beq_eq, List.contains_iff_mem] at hst
              obtain ⟨⟨hr, harg⟩, rfl⟩ := hst
              have hd : decode (mCode y) pc = .ok (.invokespecial idx, 3) := by rw [hdec, Nat.add_sub_cancel_left]
              have hy1 : y1 < 146 ∧ mKd y1 = 1 := hr.elim (fun z => ⟨(mMr_ok z).1, (mMr_ok z).2.1⟩) (fun z => ⟨(mNr_ok z).1, (mNr_ok z).2.1⟩)
              obtain ⟨hy1, hkd⟩ := hy1
              obtain ⟨q, -, rfl, hq⟩ := mMc_of hy1
              simp only [mMc, Bool.and_eq_true, Nat.beq_eq, Nat.ble_eq, Nat.blt_eq, decide_eq_true_eq] at hq
              obtain ⟨⟨⟨⟨⟨⟨⟨⟨hkd', hini⟩, hcn⟩, hmx⟩, hag⟩, hown10⟩, hpl⟩, hnmh⟩, hkind⟩ := hq
              rw [← hkd', hkd] at hkind
              simp only [Bool.and_eq_true, decide_eq_true_eq] at hkind
              obtain ⟨⟨⟨hin, hnm⟩, hrn⟩, hpar⟩ := hkind
              rw [htk] at ok2 ok4
              have hM := mMet (l := l) mck_all hy1 ok2 (by rw [ok4, harg]) a1 a2 hsim1
              have hpl2 : (parseMethodDescriptor (mName q.1).desc).map (fun d => d.parameters.length) = some (as'.map (mrv b sz)).length := by
                rw [List.length_map]
                rw [List.length_cons] at ok4
                cases hp : parseMethodDescriptor (mName q.1).desc with
                | none => rw [hp] at hpar; cases hpar
                | some dd =>
                  rw [hp] at hpar
                  simp only [Option.map_some, Option.some.injEq] at hpar ⊢
                  omega
              have hws : mWs q.1 = Cond.code (mName q.1) (mCode q.1) (mMaxL q.1) none :: mTs := by rw [mWs, hrn]
              have hstk : st.map (mrv b sz) = (as'.map (mrv b sz)).reverse ++ .ref (mrho b sz a) :: (st.drop k2).map (mrv b sz) := by
                rw [mstk htk]
                simp only [List.map_cons, List.reverse_cons, List.append_assoc, List.singleton_append]
                rfl
              rcases hr with hr | hr
              · obtain ⟨-, -, hlink⟩ := mMr_ok hr
                exact hgo rfl (va_runI (As := as'.map (mrv b sz)) (b := mrho b sz a) ⟨hx, hb, hml, hown, hts⟩ hM (cwI _ hts (mgood (mWs_in hy1)) hws rfl rfl (hts _ (mAtw_mem hini)) (hts _ hlink) (hts _ (mAtw_mem hin)) hnm ⟨hnmh.1, hnmh.2, hpl2⟩ ⟨hRm.1, hRm.2 _ hmx⟩) ⟨mFB, hPc⟩ rfl rfl hsize hstk (hroom ok3) hd hfit)
              · have hnw : va_Nw (.methodLinkNest (mCn (mOwn y)) idx (mName q.1) "CageKernel") s := hKn.2.1 _ (List.mem_map.mpr ⟨_, hr, rfl⟩)
                exact hgo rfl (va_runIN (As := as'.map (mrv b sz)) (b := mrho b sz a) ⟨hx, hb, hml, hown, hts⟩ hM ⟨va_cnB _ hts (mgood (mWs_in hy1)) hws rfl rfl hnw (hts _ (mAtw_mem hini)) ⟨hnmh.1, hnmh.2, hpl2⟩ ⟨hRm.1, hRm.2 _ hmx⟩, hnm, hts _ (mAtw_mem hin)⟩ ⟨mFB, hPc⟩ rfl rfl hsize hstk (hroom ok3) hd hfit)
            · cases hcall
        case invokestatic idx =>
          dsimp only [mcall] at hcall
          cases hok : (mcok k2 st && Nat.blt k1 1000) with
          | false => rw [hok, cond_false] at hcall; cases hcall
          | true =>
            rw [hok, cond_true] at hcall
            simp only [Bool.and_eq_true, Nat.blt_eq] at hok
            obtain ⟨ok1, ok2, ok3, ok4⟩ := mcok_ok hok.1
            cases hcall
            dsimp only [mst] at hst
            rw [show Nat.beq y1 1001 = false by cases hq : Nat.beq y1 1001 with | false => rfl | true => have := Nat.eq_of_beq_eq_true hq; omega, cond_false] at hst
            simp only [Bool.and_eq_true, Bool.or_eq_true, Nat.beq_eq, List.contains_iff_mem] at hst
            obtain ⟨⟨hr, harg⟩, rfl⟩ := hst
            have hd : decode (mCode y) pc = .ok (.invokestatic idx, 3) := by rw [hdec, Nat.add_sub_cancel_left]
            have hy1 : y1 < 146 ∧ mKd y1 = 2 := hr.elim (fun z => ⟨(mMr_ok z).1, (mMr_ok z).2.1⟩) (fun z => ⟨(mNr_ok z).1, (mNr_ok z).2.1⟩)
            obtain ⟨hy1, hkd⟩ := hy1
            obtain ⟨q, -, rfl, hq⟩ := mMc_of hy1
            simp only [mMc, Bool.and_eq_true, Nat.beq_eq, Nat.ble_eq, Nat.blt_eq, decide_eq_true_eq] at hq
            obtain ⟨⟨⟨⟨⟨⟨⟨⟨hkd', hini⟩, hcn⟩, hmx⟩, hag⟩, hown10⟩, hpl⟩, hnmh⟩, hkind⟩ := hq
            rw [← hkd', hkd] at hkind
            simp only [Bool.and_eq_true, decide_eq_true_eq] at hkind
            obtain ⟨hin, hpar⟩ := hkind
            have hM := mMet (l := l) mck_all hy1 ok2 (by rw [ok4, harg]) a1 a2 hsim1
            have hpl2 : (parseMethodDescriptor (mName q.1).desc).map (fun d => d.parameters.length) = some ((st.take k2).reverse.map (mrv b sz)).length := by
              rw [List.length_map, ok4, hpar, harg]
            have hstk : st.map (mrv b sz) = ((st.take k2).reverse.map (mrv b sz)).reverse ++ (st.drop k2).map (mrv b sz) := mstk rfl
            rcases hr with hr | hr
            · obtain ⟨-, -, hlink⟩ := mMr_ok hr
              refine hgo rfl (va_runS (As := (st.take k2).reverse.map (mrv b sz)) ⟨hx, hb, hml, hown, hts⟩ hM ⟨callB_of _ hts (mgood (mWs_in hy1)) rfl rfl rfl (hts _ (mAtw_mem hini)) (hts _ hlink) ⟨hnmh.1, hnmh.2, hpl2⟩ ⟨hRm.1, hRm.2 _ hmx⟩, hts _ (mAtw_mem hin)⟩ ⟨mFB, hPc⟩ rfl rfl hsize hstk (hroom ok3) hd hfit)
            · have hnw : va_Nw (.methodLinkNest (mCn (mOwn y)) idx (mName q.1) "CageKernel") s := hKn.2.1 _ (List.mem_map.mpr ⟨_, hr, rfl⟩)
              exact hgo rfl (va_runSN (As := (st.take k2).reverse.map (mrv b sz)) ⟨hx, hb, hml, hown, hts⟩ hM ⟨va_cnB _ hts (mgood (mWs_in hy1)) rfl rfl rfl hnw (hts _ (mAtw_mem hini)) ⟨hnmh.1, hnmh.2, hpl2⟩ ⟨hRm.1, hRm.2 _ hmx⟩, hts _ (mAtw_mem hin), trivial⟩ ⟨mFB, hPc⟩ rfl rfl hsize hstk (hroom ok3) hd hfit)
        all_goals (dsimp only [mcall] at hcall; cases hcall)
    · split at h
      · cases h
      rename_i q hdo
      obtain ⟨pc', L', st', M1⟩ := q
      obtain ⟨i, nx, r1, r2, cv⟩ := ee
      dsimp only at h hdec
      obtain ⟨a1, a2⟩ := mdo_mono hdo
      obtain ⟨a3, a4, hsim⟩ := ih d y pc' L' st' M1 r M' h
      refine ⟨Nat.le_trans a1 a3, Nat.le_trans a2 a4, ?_⟩
      intro p e R s m args below meth c H locs cells slots Q ls C hH hS hsz hl hLn hfr hlo hc hs fin
      refine mdo_W C hdec hst hdo hH hS hsz hl hLn (by omega) (by omega) (by omega) (by omega) (fun H1 locs1 ls1 cells1 slots1 e1 e2 hH1 hS1 hl1 hLl => ?_)
      exact hsim C hH1 hS1 hsz hl1 (hLl.trans hLn) hfr hlo (by omega) (by omega) (fun pc1 ee1 ls2 st1 H2 locs2 cells2 slots2 f1 f2 f3 f4 f5 f6 => fin pc1 ee1 ls2 st1 H2 locs2 cells2 slots2 f1 f2 (by omega) (by omega) f5 f6)
