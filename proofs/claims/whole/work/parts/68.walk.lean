theorem shr_bv (x : BitVec 32) (k : Nat) (hk : k < 28) : (x >>> k) &&& 15#32 = (x.sshiftRight k) &&& 15#32 := by
  apply BitVec.eq_of_getLsbD_eq
  intro i hi
  simp only [BitVec.getLsbD_and, BitVec.getLsbD_ushiftRight, BitVec.getLsbD_sshiftRight]
  by_cases h : i < 4
  · have : k + i < 32 := by omega
    have h32 : ¬ 32 ≤ i := by omega
    simp [this, hi, h32]
  · have : (15#32).getLsbD i = false := by
      have : ∀ i, i < 32 → ¬ i < 4 → (15#32).getLsbD i = false := by decide
      exact this i hi h
    rw [this, Bool.and_false, Bool.and_false]
theorem nib_u {p : Int32} : ∀ n, n < 7 → ((p.toUInt32 >>> ((nI (4 * n)).toUInt32 &&& Int32.toUInt32 31)).toInt32) &&& nI 15 = nib p n := by
  intro n hn
  unfold nib
  apply Int32.toBitVec_inj.1
  have h : ∀ n, n < 7 → ((nI (4 * n)).toUInt32 &&& Int32.toUInt32 31).toBitVec % 32 = BitVec.ofNat 32 (4 * n) ∧ (nI (4 * n) &&& 31).toBitVec.smod 32 = BitVec.ofNat 32 (4 * n) ∧ (BitVec.ofNat 32 (4 * n)).toNat = 4 * n := by decide
  obtain ⟨h1, h2, h3⟩ := h n hn
  have e1 : (p.toUInt32 >>> ((nI (4 * n)).toUInt32 &&& Int32.toUInt32 31)).toInt32.toBitVec = p.toBitVec >>> (4 * n) := by
    show (p.toUInt32 >>> ((nI (4 * n)).toUInt32 &&& Int32.toUInt32 31)).toBitVec = _
    rw [UInt32.toBitVec_shiftRight, h1]
    show p.toBitVec >>> (BitVec.ofNat 32 (4 * n)) = _
    rw [BitVec.ushiftRight_eq', h3]
  have e2 : (p >>> (nI (4 * n) &&& 31)).toBitVec = p.toBitVec.sshiftRight (4 * n) := by
    rw [Int32.toBitVec_shiftRight, h2, BitVec.sshiftRight_eq', h3]
  rw [Int32.toBitVec_and, Int32.toBitVec_and, e1, e2]
  exact shr_bv _ _ (by omega)
theorem tb1 : ∀ T, T < 16 → ∀ i, i < 4 → (decide (nI T &&& (nI 1 <<< (nI i &&& 31)) = 0)) = !T.testBit i := by decide
theorem tb2 : ∀ T, T < 16 → ∀ i, i < 4 → nI T ||| (nI 1 <<< (nI i &&& 31)) = nI (T ||| 2 ^ i) ∧ T ||| 2 ^ i < 16 ∧ ∀ j, j < 4 → (T ||| 2 ^ i).testBit j = (T.testBit j || decide (j = i)) := by decide
section
variable {d : Nat} {M : mH} {Q : Option Value → mH → Prop} {C t c w : Nat} {mp : MP} {I : CI} {O : CO} {r : RS}
theorem k_nameAt {p : Int32} {n : Nat} (hn : n < 7) : Vc d 48 [.int p, .int (nI n)] M Q = Q (some (.int (nib p n))) M := by
  show V d 48 0 [some (.int p), some (.int (nI n))] [] M Q = _
  simp only [s_48_0, s_48_1, s_48_2, s_48_3, s_48_4, s_48_5, s_48_7, s_48_8, pk_mul, nib_u n hn]
theorem k_namesIn_l {p : Int32} : ∀ k n, n + k = 7 → V (d + 1) 49 2 [some (.int p), some (.int (nI n))] [] M Q = Q (some (.int (nI ((ffind (pNib p) n k).getD 7)))) M := by
  intro k
  induction k with
  | zero =>
    intro n hn
    obtain rfl : n = 7 := by omega
    rw [s_49_2]
    simp only [s_49_0, s_49_1, s_49_3, s_49_5, s_49_8, s_49_9, s_49_10, s_49_13, s_49_16, s_49_19, s_49_22, s_49_23, eq_self, Nat.reduceLT, Nat.reduceLeDiff, Nat.reduceMod, Nat.reduceDiv, Nat.reduceAdd, Nat.reduceMul, Option.toList_some, Option.toList_none, List.cons_append, List.nil_append, List.append_nil, n10, n00, if_true, if_false, b0, b1, nI_add, true_and, and_true, and_self, show nI 7 ≤ nI 7 from Int32.le_refl _, ffind, Option.getD_none]
  | succ k ih =>
    intro n hn
    have h7 : n < 7 := by omega
    rw [s_49_2]
    simp only [s_49_0, s_49_1, s_49_3, s_49_5, s_49_8, s_49_9, s_49_10, s_49_13, s_49_16, s_49_19, s_49_22, s_49_23, eq_self, Nat.reduceLT, Nat.reduceLeDiff, Nat.reduceMod, Nat.reduceDiv, Nat.reduceAdd, Nat.reduceMul, Option.toList_some, Option.toList_none, List.cons_append, List.nil_append, List.append_nil, n10, n00, if_true, if_false, b0, b1, nI_add, true_and, and_true, and_self, nI_ge h7 (by decide), k_nameAt h7, ih (n + 1) (by omega), ffind, pNib]
    by_cases h : nib p n = 0
    · simp only [h, if_true, decide_true, cond_true, Option.getD_some]
    · simp only [h, if_false, decide_false, cond_false]
theorem k_namesIn {p : Int32} : Vc (d + 1) 49 [.int p] M Q = Q (some (.int (nI (nms p)))) M := by
  show V (d + 1) 49 0 [some (.int p), none] [] M Q = _
  rw [s_49_0, s_49_1, k_namesIn_l 7 0 rfl]
  rfl
/-! the latest MOUNT of a POINT -/
def fdn (q : Nat → Bool) : Nat → Option Nat
  | 0 => none
  | n + 1 => bif q n then some n else fdn q n
theorem fdn_some {q : Nat → Bool} : ∀ {n i : Nat}, fdn q n = some i → i < n ∧ q i = true ∧ ∀ j, i < j → j < n → q j = false := by
  intro n
  induction n with
  | zero => intro i h; exact absurd h (by simp [fdn])
  | succ n ih =>
    intro i h
    unfold fdn at h
    cases hq : q n with
    | true =>
      rw [hq, cond_true] at h
      obtain rfl := Option.some.inj h
      exact ⟨by omega, hq, fun j h1 h2 => by omega⟩
    | false =>
      rw [hq, cond_false] at h
      obtain ⟨h1, h2, h3⟩ := ih h
      exact ⟨by omega, h2, fun j g1 g2 => by
        by_cases e : j = n
        · rw [e]; exact hq
        · exact h3 j g1 (by omega)⟩
theorem fdn_none {q : Nat → Bool} : ∀ {n : Nat}, fdn q n = none → ∀ j, j < n → q j = false := by
  intro n
  induction n with
  | zero => intro h j hj; omega
  | succ n ih =>
    intro h j hj
    unfold fdn at h
    cases hq : q n with
    | true => rw [hq, cond_true] at h; exact absurd h (by simp)
    | false =>
      rw [hq, cond_false] at h
      by_cases e : j = n
      · rw [e]; exact hq
      · exact ih h j (by omega)
theorem mS_k {best : Option Nat} {k : Nat} (h : ¬ r 18 k = 0 ∧ r 23 k = 0 ∧ r 19 k = r 0 40) : ∃ b, mStep r best k = some b ∧ r 22 k ≤ r 22 b := by
  unfold mStep
  rw [decide_eq_true h, Bool.true_and]
  cases best with
  | none => exact ⟨k, rfl, Int32.le_refl _⟩
  | some b =>
    by_cases e : r 22 k ≤ r 22 b
    · exact ⟨b, by simp only [mBet, e, decide_true, Bool.not_true, cond_false], e⟩
    · exact ⟨k, by simp only [mBet, e, decide_false, Bool.not_false, cond_true], Int32.le_refl _⟩
theorem mS_old {b0 k : Nat} : ∃ b, mStep r (some b0) k = some b ∧ r 22 b0 ≤ r 22 b := by
  unfold mStep
  by_cases h : ¬ r 18 k = 0 ∧ r 23 k = 0 ∧ r 19 k = r 0 40
  · rw [decide_eq_true h, Bool.true_and]
    by_cases e : r 22 k ≤ r 22 b0
    · exact ⟨b0, by simp only [mBet, e, decide_true, Bool.not_true, cond_false], Int32.le_refl _⟩
    · exact ⟨k, by simp only [mBet, e, decide_false, Bool.not_false, cond_true], Int32.le_of_lt (Int32.not_le.1 e)⟩
  · rw [decide_eq_false h, Bool.false_and]
    exact ⟨b0, rfl, Int32.le_refl _⟩
theorem mt_max {j : Nat} (hj : j < 4) (h : ¬ r 18 (4 * c + j) = 0 ∧ r 23 (4 * c + j) = 0 ∧ r 19 (4 * c + j) = r 0 40) : ∃ b, mtAt r c = some b ∧ r 22 (4 * c + j) ≤ r 22 b := by
  unfold mtAt
  rcases (show j = 0 ∨ j = 1 ∨ j = 2 ∨ j = 3 by omega) with rfl | rfl | rfl | rfl
  · obtain ⟨b1, e1, l1⟩ := mS_k (best := none) h
    obtain ⟨b2, e2, l2⟩ := mS_old (r := r) (b0 := b1) (k := 4 * c + 1)
    obtain ⟨b3, e3, l3⟩ := mS_old (r := r) (b0 := b2) (k := 4 * c + 2)
    obtain ⟨b4, e4, l4⟩ := mS_old (r := r) (b0 := b3) (k := 4 * c + 3)
    refine ⟨b4, ?_, Int32.le_trans l1 (Int32.le_trans l2 (Int32.le_trans l3 l4))⟩
    rw [show 4 * c = 4 * c + 0 from rfl, e1, show 4 * c + 0 + 1 = 4 * c + 1 from rfl, e2, show 4 * c + 0 + 2 = 4 * c + 2 from rfl, e3]; exact e4
  · obtain ⟨b2, e2, l2⟩ := mS_k (best := mStep r none (4 * c)) h
    obtain ⟨b3, e3, l3⟩ := mS_old (r := r) (b0 := b2) (k := 4 * c + 2)
    obtain ⟨b4, e4, l4⟩ := mS_old (r := r) (b0 := b3) (k := 4 * c + 3)
    exact ⟨b4, by rw [e2, e3]; exact e4, Int32.le_trans l2 (Int32.le_trans l3 l4)⟩
  · obtain ⟨b3, e3, l3⟩ := mS_k (best := mStep r (mStep r none (4 * c)) (4 * c + 1)) h
    obtain ⟨b4, e4, l4⟩ := mS_old (r := r) (b0 := b3) (k := 4 * c + 3)
    exact ⟨b4, by rw [e3]; exact e4, Int32.le_trans l3 l4⟩
  · exact mS_k h
def qM (r : RS) (c : Nat) (mp : MP) (a T i : Nat) : Bool := decide (i < mp.1 c ∧ r 19 (mp.2.1 c i) = nI a) && !T.testBit i
def tkOK (r : RS) (c : Nat) (mp : MP) (T : Nat) : Prop := T < 16 ∧ ∀ i, i < mp.1 c → T.testBit i = decide (¬ r 23 (mp.2.1 c i) = 0)
theorem mt_fdn (iv : IV I O r C t mp) (ht : t < 2 ^ 30) (hc : c < 4) {a T : Nat} (ha : r 0 40 = nI a) (hT : tkOK r c mp T) : mtAt r c = (fdn (qM r c mp a T) 4).map (mp.2.1 c) := by
  have hn4 := (iv.m1 c hc).1
  have key : ∀ m, mtAt r c = some m → ∃ i, i < 4 ∧ i < mp.1 c ∧ mp.2.1 c i = m ∧ qM r c mp a T i = true := fun m h => by
    obtain ⟨i, g1, g2⟩ := mt_place iv hc h
    obtain ⟨-, -, h23, h19⟩ := mtAt_in h
    refine ⟨i, by omega, g1, g2, ?_⟩
    unfold qM
    rw [g2, hT.2 i g1, g2]
    simp only [h19, ha, g1, h23, and_self, decide_true, not_true, decide_false, Bool.not_false, Bool.and_self]
  cases hf : fdn (qM r c mp a T) 4 with
  | none =>
    cases hm : mtAt r c with
    | none => rfl
    | some m =>
      obtain ⟨i, g1, -, -, g4⟩ := key m hm
      have := fdn_none hf i g1
      rw [g4] at this
      exact absurd this (by decide)
  | some i =>
    obtain ⟨f1, f2, f3⟩ := fdn_some hf
    unfold qM at f2
    obtain ⟨q1, q2⟩ := Bool.and_eq_true_iff.1 f2
    obtain ⟨q3, q4⟩ := of_decide_eq_true q1
    obtain ⟨⟨j, hj, hj2⟩, h18, -⟩ := iv.m2 c hc i q3
    have h23 : r 23 (mp.2.1 c i) = 0 := by
      have h := hT.2 i q3
      by_cases z : r 23 (mp.2.1 c i) = 0
      · exact z
      · rw [decide_eq_true z] at h
        rw [h] at q2
        exact absurd q2 (by decide)
    obtain ⟨b, b1, b2⟩ := mt_max (r := r) (c := c) hj (by rw [← hj2]; exact ⟨h18, h23, by rw [q4, ha]⟩)
    obtain ⟨i2, g1, g2, g3, g4⟩ := key b b1
    have hle : ¬ i < i2 := fun z => by
      have := f3 i2 z g1
      rw [g4] at this
      exact absurd this (by decide)
    by_cases e : i2 = i
    · rw [b1, ← g3, e]; rfl
    · exfalso
      obtain ⟨g, k1, k2, k3⟩ := iv.m3
      obtain ⟨x, k4, k5, k6⟩ := k3 c hc i q3
      obtain ⟨y, k7, k8⟩ := k6 i2 (by omega)
      rw [← hj2, k5, ← g3, k8, nI_leI (by omega) (by omega)] at b2
      omega
theorem m1add {n : Nat} : nI n + (-1) = nI n - nI 1 := by rw [Int32.sub_eq_add_neg]; rfl
theorem k_latest_l (hw : wf M) (iv : IV (ig M) (og M) r C t mp) (hc : c < 4) {a T : Nat} (ha : a < 32) (hT : T < 16) : ∀ n, n ≤ 4 → V d 105 2 [some (rf (some (37 + 10 * c))), some (rf (some (4 + a))), some (.int (nI T)), some (.int (nI n - nI 1))] [] M Q = Q (some (.int (oI (fdn (qM r c mp a T) n)))) M := by
  have hn4 := (iv.m1 c hc).1
  intro n
  induction n with
  | zero =>
    intro _
    rw [s_105_2, show nI 0 - nI 1 = -1 by decide]
    simp only [s_105_3, s_105_43, s_105_44, m1lt, if_true, fdn, oI]
  | succ n ih =>
    intro hn
    have h4 : n < 4 := by omega
    have ih := ih (by omega)
    have e1 : nI (n + 1) - nI 1 = nI n := pk_sub (by omega)
    have hlt : ¬ nI n < 0 := nI_pos (by omega)
    obtain ⟨-, -, m3, m4, -⟩ := iv.m1 c hc
    obtain ⟨hpi, ho3⟩ := m4 n h4
    rw [e1, s_105_2]
    by_cases hlm : n < mp.1 c
    · obtain ⟨-, -, -, ⟨x, x1, x2, x3, x4, x5⟩, -⟩ := iv.m2 c hc n hlm
      by_cases hxa : x = a
      · subst hxa
        have hb := tb1 T hT n h4
        by_cases hb0 : nI T &&& (nI 1 <<< (nI n &&& 31)) = 0
        · have hq : qM r c mp x T n = true := by
            rw [decide_eq_true hb0] at hb
            unfold qM
            rw [decide_eq_true ⟨hlm, x2⟩, ← hb]; rfl
          simp only [s_105_0, s_105_1, s_105_3, s_105_6, s_105_7, s_105_8, s_105_11, s_105_14, s_105_15, s_105_18, s_105_19, s_105_20, s_105_23, s_105_24, s_105_27, s_105_28, s_105_29, s_105_30, s_105_31, s_105_32, s_105_35, s_105_36, s_105_37, s_105_40, s_105_43, s_105_44, eq_self, Nat.reduceLT, Nat.reduceLeDiff, Nat.reduceMod, Nat.reduceDiv, Nat.reduceAdd, Nat.reduceMul, Option.toList_some, Option.toList_none, List.cons_append, List.nil_append, List.append_nil, n10, n00, if_true, if_false, b0, b1, nI_add, true_and, and_true, and_self, sh_1, sh_2, sh_3, sh_36, sh_77, sh_126, k_1_0, k_1_1, k_1_2, k_1_3, k_1_4, k_1_5, k_2_0, sh_node, sh_cage, sh_cmts, sh_mrow, sh_que, sh_qv, sh_task, sh_tpow, sh_thld, sh_filt, sh_fop, sh_ffs, sh_fsc, sh_walk, ka_nodes, ka_cages, ka_tasks, ka_filts, kf_node_0, kf_cage_0, kf_cage_9, kf_task_0, kf_task_6, kf_task_7, kf_filt_0, kf_filt_1, kf_filt_2, kf_que, kf_cage_11, kf_cage_12, gi_K, gi_node1, gr_node, gi_cage1, gr_cage1, gr_cmts, gi_task1, gr_task1, gi_tpow, gr_thld, gi_filt, gi_fop, gi_ffs, gi_fsc, gr_walk, gr_mrow, gi_que, gi_qv, hw, hc, h4, hpi, hlt, iv.c_10 hc, nI_ge hlm (by omega), ho3, x5, hb0, fdn, hq, cond_true, oI]
        · have hq : qM r c mp x T n = false := by
            rw [decide_eq_false hb0] at hb
            unfold qM
            rw [← hb, Bool.and_false]
          simp only [s_105_0, s_105_1, s_105_3, s_105_6, s_105_7, s_105_8, s_105_11, s_105_14, s_105_15, s_105_18, s_105_19, s_105_20, s_105_23, s_105_24, s_105_27, s_105_28, s_105_29, s_105_30, s_105_31, s_105_32, s_105_35, s_105_36, s_105_37, s_105_40, s_105_43, s_105_44, eq_self, Nat.reduceLT, Nat.reduceLeDiff, Nat.reduceMod, Nat.reduceDiv, Nat.reduceAdd, Nat.reduceMul, Option.toList_some, Option.toList_none, List.cons_append, List.nil_append, List.append_nil, n10, n00, if_true, if_false, b0, b1, nI_add, true_and, and_true, and_self, sh_1, sh_2, sh_3, sh_36, sh_77, sh_126, k_1_0, k_1_1, k_1_2, k_1_3, k_1_4, k_1_5, k_2_0, sh_node, sh_cage, sh_cmts, sh_mrow, sh_que, sh_qv, sh_task, sh_tpow, sh_thld, sh_filt, sh_fop, sh_ffs, sh_fsc, sh_walk, ka_nodes, ka_cages, ka_tasks, ka_filts, kf_node_0, kf_cage_0, kf_cage_9, kf_task_0, kf_task_6, kf_task_7, kf_filt_0, kf_filt_1, kf_filt_2, kf_que, kf_cage_11, kf_cage_12, gi_K, gi_node1, gr_node, gi_cage1, gr_cage1, gr_cmts, gi_task1, gr_task1, gi_tpow, gr_thld, gi_filt, gi_fop, gi_ffs, gi_fsc, gr_walk, gr_mrow, gi_que, gi_qv, hw, hc, h4, hpi, hlt, iv.c_10 hc, nI_ge hlm (by omega), ho3, x5, hb0, fdn, hq, cond_false, m1add, ih]
      · have hq : qM r c mp a T n = false := by
          unfold qM
          rw [decide_eq_false (fun z => hxa ((nI_eq (by omega) (by omega)).1 (x2.symm.trans z.2))), Bool.false_and]
        simp only [s_105_0, s_105_1, s_105_3, s_105_6, s_105_7, s_105_8, s_105_11, s_105_14, s_105_15, s_105_18, s_105_19, s_105_20, s_105_23, s_105_24, s_105_27, s_105_28, s_105_29, s_105_30, s_105_31, s_105_32, s_105_35, s_105_36, s_105_37, s_105_40, s_105_43, s_105_44, eq_self, Nat.reduceLT, Nat.reduceLeDiff, Nat.reduceMod, Nat.reduceDiv, Nat.reduceAdd, Nat.reduceMul, Option.toList_some, Option.toList_none, List.cons_append, List.nil_append, List.append_nil, n10, n00, if_true, if_false, b0, b1, nI_add, true_and, and_true, and_self, sh_1, sh_2, sh_3, sh_36, sh_77, sh_126, k_1_0, k_1_1, k_1_2, k_1_3, k_1_4, k_1_5, k_2_0, sh_node, sh_cage, sh_cmts, sh_mrow, sh_que, sh_qv, sh_task, sh_tpow, sh_thld, sh_filt, sh_fop, sh_ffs, sh_fsc, sh_walk, ka_nodes, ka_cages, ka_tasks, ka_filts, kf_node_0, kf_cage_0, kf_cage_9, kf_task_0, kf_task_6, kf_task_7, kf_filt_0, kf_filt_1, kf_filt_2, kf_que, kf_cage_11, kf_cage_12, gi_K, gi_node1, gr_node, gi_cage1, gr_cage1, gr_cmts, gi_task1, gr_task1, gi_tpow, gr_thld, gi_filt, gi_fop, gi_ffs, gi_fsc, gr_walk, gr_mrow, gi_que, gi_qv, hw, hc, h4, hpi, hlt, iv.c_10 hc, nI_ge hlm (by omega), ho3, x5, nO_ne, hxa, fdn, hq, cond_false, m1add, ih]
    · have hq : qM r c mp a T n = false := by
        unfold qM
        rw [decide_eq_false (fun z => hlm z.1), Bool.false_and]
      have hge : nI (mp.1 c) ≤ nI n := nI_le (by omega) (by omega)
      simp only [s_105_0, s_105_1, s_105_3, s_105_6, s_105_7, s_105_8, s_105_11, s_105_14, s_105_15, s_105_18, s_105_19, s_105_20, s_105_23, s_105_24, s_105_27, s_105_28, s_105_29, s_105_30, s_105_31, s_105_32, s_105_35, s_105_36, s_105_37, s_105_40, s_105_43, s_105_44, eq_self, Nat.reduceLT, Nat.reduceLeDiff, Nat.reduceMod, Nat.reduceDiv, Nat.reduceAdd, Nat.reduceMul, Option.toList_some, Option.toList_none, List.cons_append, List.nil_append, List.append_nil, n10, n00, if_true, if_false, b0, b1, nI_add, true_and, and_true, and_self, sh_1, sh_2, sh_3, sh_36, sh_77, sh_126, k_1_0, k_1_1, k_1_2, k_1_3, k_1_4, k_1_5, k_2_0, sh_node, sh_cage, sh_cmts, sh_mrow, sh_que, sh_qv, sh_task, sh_tpow, sh_thld, sh_filt, sh_fop, sh_ffs, sh_fsc, sh_walk, ka_nodes, ka_cages, ka_tasks, ka_filts, kf_node_0, kf_cage_0, kf_cage_9, kf_task_0, kf_task_6, kf_task_7, kf_filt_0, kf_filt_1, kf_filt_2, kf_que, kf_cage_11, kf_cage_12, gi_K, gi_node1, gr_node, gi_cage1, gr_cage1, gr_cmts, gi_task1, gr_task1, gi_tpow, gr_thld, gi_filt, gi_fop, gi_ffs, gi_fsc, gr_walk, gr_mrow, gi_que, gi_qv, hw, hc, hlt, iv.c_10 hc, hge, fdn, hq, cond_false, m1add, ih]
theorem k_latest (hw : wf M) (iv : IV (ig M) (og M) r C t mp) (hc : c < 4) {a T : Nat} (ha : a < 32) (hT : T < 16) : Vc d 105 [rf (some (37 + 10 * c)), rf (some (4 + a)), .int (nI T)] M Q = Q (some (.int (oI (fdn (qM r c mp a T) 4)))) M := by
  show V d 105 0 [some (rf (some (37 + 10 * c))), some (rf (some (4 + a))), some (.int (nI T)), none] [] M Q = _
  have h := k_latest_l (d := d) (Q := Q) hw iv hc ha hT 4 (by omega)
  rw [show nI 4 - nI 1 = nI 3 by decide] at h
  rw [s_105_0, s_105_1, h]
/-! the class's walk, beside the reference's -/
def mtO (mp : MP) (c : Nat) (x : Int32) : Option Nat := if x < 0 then none else some (39 + 10 * c + mp.2.2.2 c (mp.2.2.1 x.toNatClampNeg))
def wk (w : Nat) (O : CO) (r : RS) (c : Nat) (mp : MP) : Prop := posV r c mp ∧ O 16 w 0 = ndO (r 0 40) ∧ O 16 w 1 = mtO mp c (r 0 41)
def Wst (M M' : mH) (w : Nat) : Prop := wf M' ∧ rg M' = rg M ∧ ig M' = ig M ∧ ∀ f i k, ¬ (f = 16 ∧ i = w) → og M' f i k = og M f i k
theorem Wst.refl (hw : wf M) : Wst M M w := ⟨hw, rfl, rfl, fun _ _ _ _ => rfl⟩
theorem Wst.trans {M1 M2 : mH} (h1 : Wst M M1 w) (h2 : Wst M1 M2 w) : Wst M M2 w := ⟨h2.1, h2.2.1.trans h1.2.1, h2.2.2.1.trans h1.2.2.1, fun f i k z => (h2.2.2.2 f i k z).trans (h1.2.2.2 f i k z)⟩
theorem Wst.of {M' : mH} {k : Nat} {x : Option Nat} (h : Wr M M' 16 w k x) : Wst M M' w := ⟨h.w, h.r, h.i, fun f i l z => by
  rw [h.o]
  have : ¬ (f = 16 ∧ i = w ∧ l = k) := fun y => z ⟨y.1, y.2.1⟩
  simp only [ou, this, if_false]⟩
theorem Wst.iv {M' : mH} (h : Wst M M' w) (iv : IV (ig M) (og M) r C t mp) : IV (ig M') (og M') r C t mp := by
  have H : ∀ f, ¬ f = 16 → og M' f = og M f := fun f hf => by funext i k; exact h.2.2.2 f i k (fun z => hf z.1)
  have H1 := H 1 (by decide)
  have H2 := H 2 (by decide)
  have H3 := H 3 (by decide)
  have H4 := H 4 (by decide)
  have H9 := H 9 (by decide)
  have H11 := H 11 (by decide)
  rw [h.2.2.1]
  refine ⟨iv.n1.cg (by simp only [H1, H2, H3, H4, H9, H11, ru, iu, ou, eq_self, Nat.reduceEqDiff, false_and, and_false, if_false, true_and, and_true, and_self, implies_true]) (by simp only [H1, H2, H3, H4, H9, H11, ru, iu, ou, eq_self, Nat.reduceEqDiff, false_and, and_false, if_false, true_and, and_true, and_self, implies_true]), iv.n2.cg (by simp only [H1, H2, H3, H4, H9, H11, ru, iu, ou, eq_self, Nat.reduceEqDiff, false_and, and_false, if_false, true_and, and_true, and_self, implies_true]) (by simp only [H1, H2, H3, H4, H9, H11, ru, iu, ou, eq_self, Nat.reduceEqDiff, false_and, and_false, if_false, true_and, and_true, and_self, implies_true]), iv.n3.cg (by simp only [H1, H2, H3, H4, H9, H11, ru, iu, ou, eq_self, Nat.reduceEqDiff, false_and, and_false, if_false, true_and, and_true, and_self, implies_true]), iv.k.cg (by simp only [H1, H2, H3, H4, H9, H11, ru, iu, ou, eq_self, Nat.reduceEqDiff, false_and, and_false, if_false, true_and, and_true, and_self, implies_true]) (by simp only [H1, H2, H3, H4, H9, H11, ru, iu, ou, eq_self, Nat.reduceEqDiff, false_and, and_false, if_false, true_and, and_true, and_self, implies_true]), iv.c.cg (by simp only [H1, H2, H3, H4, H9, H11, ru, iu, ou, eq_self, Nat.reduceEqDiff, false_and, and_false, if_false, true_and, and_true, and_self, implies_true]) (by simp only [H1, H2, H3, H4, H9, H11, ru, iu, ou, eq_self, Nat.reduceEqDiff, false_and, and_false, if_false, true_and, and_true, and_self, implies_true]), iv.g.cg (by simp only [H1, H2, H3, H4, H9, H11, ru, iu, ou, eq_self, Nat.reduceEqDiff, false_and, and_false, if_false, true_and, and_true, and_self, implies_true]) (by simp only [H1, H2, H3, H4, H9, H11, ru, iu, ou, eq_self, Nat.reduceEqDiff, false_and, and_false, if_false, true_and, and_true, and_self, implies_true]), iv.p1.cg (by simp only [H1, H2, H3, H4, H9, H11, ru, iu, ou, eq_self, Nat.reduceEqDiff, false_and, and_false, if_false, true_and, and_true, and_self, implies_true]) (by simp only [H1, H2, H3, H4, H9, H11, ru, iu, ou, eq_self, Nat.reduceEqDiff, false_and, and_false, if_false, true_and, and_true, and_self, implies_true]), iv.p2.cg (by simp only [H1, H2, H3, H4, H9, H11, ru, iu, ou, eq_self, Nat.reduceEqDiff, false_and, and_false, if_false, true_and, and_true, and_self, implies_true]) (by simp only [H1, H2, H3, H4, H9, H11, ru, iu, ou, eq_self, Nat.reduceEqDiff, false_and, and_false, if_false, true_and, and_true, and_self, implies_true]), iv.p3.cg (by simp only [H1, H2, H3, H4, H9, H11, ru, iu, ou, eq_self, Nat.reduceEqDiff, false_and, and_false, if_false, true_and, and_true, and_self, implies_true]), iv.p4.cg (by simp only [H1, H2, H3, H4, H9, H11, ru, iu, ou, eq_self, Nat.reduceEqDiff, false_and, and_false, if_false, true_and, and_true, and_self, implies_true]), iv.i.cg (by simp only [H1, H2, H3, H4, H9, H11, ru, iu, ou, eq_self, Nat.reduceEqDiff, false_and, and_false, if_false, true_and, and_true, and_self, implies_true]) (by simp only [H1, H2, H3, H4, H9, H11, ru, iu, ou, eq_self, Nat.reduceEqDiff, false_and, and_false, if_false, true_and, and_true, and_self, implies_true]), iv.h.cg (by simp only [H1, H2, H3, H4, H9, H11, ru, iu, ou, eq_self, Nat.reduceEqDiff, false_and, and_false, if_false, true_and, and_true, and_self, implies_true]) (by simp only [H1, H2, H3, H4, H9, H11, ru, iu, ou, eq_self, Nat.reduceEqDiff, false_and, and_false, if_false, true_and, and_true, and_self, implies_true]), iv.f1.cg (by simp only [H1, H2, H3, H4, H9, H11, ru, iu, ou, eq_self, Nat.reduceEqDiff, false_and, and_false, if_false, true_and, and_true, and_self, implies_true]) (by simp only [H1, H2, H3, H4, H9, H11, ru, iu, ou, eq_self, Nat.reduceEqDiff, false_and, and_false, if_false, true_and, and_true, and_self, implies_true]) (by simp only [H1, H2, H3, H4, H9, H11, ru, iu, ou, eq_self, Nat.reduceEqDiff, false_and, and_false, if_false, true_and, and_true, and_self, implies_true]), iv.f2.cg (by simp only [H1, H2, H3, H4, H9, H11, ru, iu, ou, eq_self, Nat.reduceEqDiff, false_and, and_false, if_false, true_and, and_true, and_self, implies_true]), iv.q.cg (by simp only [H1, H2, H3, H4, H9, H11, ru, iu, ou, eq_self, Nat.reduceEqDiff, false_and, and_false, if_false, true_and, and_true, and_self, implies_true]) (by simp only [H1, H2, H3, H4, H9, H11, ru, iu, ou, eq_self, Nat.reduceEqDiff, false_and, and_false, if_false, true_and, and_true, and_self, implies_true]) (by simp only [H1, H2, H3, H4, H9, H11, ru, iu, ou, eq_self, Nat.reduceEqDiff, false_and, and_false, if_false, true_and, and_true, and_self, implies_true]), iv.m1.cg (by simp only [H1, H2, H3, H4, H9, H11, ru, iu, ou, eq_self, Nat.reduceEqDiff, false_and, and_false, if_false, true_and, and_true, and_self, implies_true]) (by simp only [H1, H2, H3, H4, H9, H11, ru, iu, ou, eq_self, Nat.reduceEqDiff, false_and, and_false, if_false, true_and, and_true, and_self, implies_true]), iv.m2.cg (by simp only [H1, H2, H3, H4, H9, H11, ru, iu, ou, eq_self, Nat.reduceEqDiff, false_and, and_false, if_false, true_and, and_true, and_self, implies_true]) (by simp only [H1, H2, H3, H4, H9, H11, ru, iu, ou, eq_self, Nat.reduceEqDiff, false_and, and_false, if_false, true_and, and_true, and_self, implies_true]), iv.m3.cg (by simp only [H1, H2, H3, H4, H9, H11, ru, iu, ou, eq_self, Nat.reduceEqDiff, false_and, and_false, if_false, true_and, and_true, and_self, implies_true]) (by simp only [H1, H2, H3, H4, H9, H11, ru, iu, ou, eq_self, Nat.reduceEqDiff, false_and, and_false, if_false, true_and, and_true, and_self, implies_true]), iv.m4.cg (by simp only [H1, H2, H3, H4, H9, H11, ru, iu, ou, eq_self, Nat.reduceEqDiff, false_and, and_false, if_false, true_and, and_true, and_self, implies_true])⟩
theorem wk.w0 (h : wk w O r c mp) : ∃ a, a < 32 ∧ r 0 40 = nI a ∧ ¬ r 1 a = 0 ∧ O 16 w 0 = some (4 + a) := by
  obtain ⟨⟨a, h1, h2, h3, -⟩, h4, -⟩ := h
  exact ⟨a, h1, h2, h3, by rw [h4, h2, ndO_n (by omega)]⟩
theorem wk.w1 (iv : IV I O r C t mp) (hc : c < 4) (h : wk w O r c mp) : (r 0 41 = -1 ∧ O 16 w 1 = none) ∨ ∃ i, i < mp.1 c ∧ i < 4 ∧ r 0 41 = nI (mp.2.1 c i) ∧ (r 0 41).toNatClampNeg = mp.2.1 c i ∧ O 16 w 1 = some (39 + 10 * c + mp.2.2.2 c i) ∧ mp.2.2.2 c i < 4 := by
  obtain ⟨⟨a, h1, h2, h3, h4⟩, -, h5⟩ := h
  have hn4 := (iv.m1 c hc).1
  rcases h4 with ⟨h4, -⟩ | ⟨i, h4, h6, -⟩
  · exact Or.inl ⟨h4, by rw [h5, h4]; rfl⟩
  · have hlt := pos_lt iv.m2 hc h4
    have hcl : (r 0 41).toNatClampNeg = mp.2.1 c i := by rw [h6, nI_clamp (by omega)]
    refine Or.inr ⟨i, h4, by omega, h6, hcl, ?_, ((iv.m1 c hc).2.2.2.1 i (by omega)).1⟩
    rw [h5]; unfold mtO
    rw [if_neg (by rw [h6]; exact nI_pos (by omega)), hcl, (iv.m2 c hc i h4).2.2.1]
theorem mtO_n (iv : IV I O r C t mp) (hc : c < 4) {i : Nat} (hi : i < mp.1 c) : mtO mp c (nI (mp.2.1 c i)) = some (39 + 10 * c + mp.2.2.2 c i) := by
  have hlt := pos_lt iv.m2 hc hi
  unfold mtO
  rw [if_neg (nI_pos (by omega)), nI_clamp (by omega), (iv.m2 c hc i hi).2.2.1]
theorem k_isAtShown (hw : wf M) (iv : IV (ig M) (og M) r C t mp) (hc : c < 4) (hw2 : w < 2) (h : wk w (og M) r c mp) : Vc d 143 [rf (some (143 + w))] M Q = if ¬ r 0 41 < 0 ∧ r 0 40 = r 21 (r 0 41).toNatClampNeg then Q (some (.int (nI 1))) M else Q (some (.int (nI 0))) M := by
  obtain ⟨a, a1, a2, a3, a4⟩ := h.w0
  show V d 143 0 [some (rf (some (143 + w)))] [] M Q = _
  rcases h.w1 iv hc with ⟨v1, v2⟩ | ⟨i, v1, v2, v3, v4, v5, v6⟩
  · have hcon : ¬ (¬ r 0 41 < 0 ∧ r 0 40 = r 21 (r 0 41).toNatClampNeg) := fun z => z.1 (by rw [v1]; decide)
    rw [if_neg hcon]
    simp only [s_143_0, s_143_1, s_143_4, s_143_7, s_143_8, s_143_11, s_143_12, s_143_15, s_143_18, s_143_21, s_143_22, s_143_25, s_143_26, eq_self, Nat.reduceLT, Nat.reduceLeDiff, Nat.reduceMod, Nat.reduceDiv, Nat.reduceAdd, Nat.reduceMul, Option.toList_some, Option.toList_none, List.cons_append, List.nil_append, List.append_nil, n10, n00, if_true, if_false, b0, b1, nI_add, true_and, and_true, and_self, sh_1, sh_2, sh_3, sh_36, sh_77, sh_126, k_1_0, k_1_1, k_1_2, k_1_3, k_1_4, k_1_5, k_2_0, sh_node, sh_cage, sh_cmts, sh_mrow, sh_que, sh_qv, sh_task, sh_tpow, sh_thld, sh_filt, sh_fop, sh_ffs, sh_fsc, sh_walk, ka_nodes, ka_cages, ka_tasks, ka_filts, kf_node_0, kf_cage_0, kf_cage_9, kf_task_0, kf_task_6, kf_task_7, kf_filt_0, kf_filt_1, kf_filt_2, kf_que, kf_cage_11, kf_cage_12, gi_K, gi_node1, gr_node, gi_cage1, gr_cage1, gr_cmts, gi_task1, gr_task1, gi_tpow, gr_thld, gi_filt, gi_fop, gi_ffs, gi_fsc, gr_walk, gr_mrow, gi_que, gi_qv, hw, hw2, v2]
  · obtain ⟨-, -, -, -, ⟨b, y1, y2, y3, y4, y5⟩, -⟩ := iv.m2 c hc i v1
    have hlt := pos_lt iv.m2 hc v1
    have hcon : (¬ r 0 41 < 0 ∧ r 0 40 = r 21 (r 0 41).toNatClampNeg) = (a = b) := by
      rw [v4, y2, a2]
      exact propext ⟨fun z => (nI_eq (by omega) (by omega)).1 z.2, fun z => ⟨by rw [v3]; exact nI_pos (by omega), by rw [z]⟩⟩
    simp only [s_143_0, s_143_1, s_143_4, s_143_7, s_143_8, s_143_11, s_143_12, s_143_15, s_143_18, s_143_21, s_143_22, s_143_25, s_143_26, eq_self, Nat.reduceLT, Nat.reduceLeDiff, Nat.reduceMod, Nat.reduceDiv, Nat.reduceAdd, Nat.reduceMul, Option.toList_some, Option.toList_none, List.cons_append, List.nil_append, List.append_nil, n10, n00, if_true, if_false, b0, b1, nI_add, true_and, and_true, and_self, sh_1, sh_2, sh_3, sh_36, sh_77, sh_126, k_1_0, k_1_1, k_1_2, k_1_3, k_1_4, k_1_5, k_2_0, sh_node, sh_cage, sh_cmts, sh_mrow, sh_que, sh_qv, sh_task, sh_tpow, sh_thld, sh_filt, sh_fop, sh_ffs, sh_fsc, sh_walk, ka_nodes, ka_cages, ka_tasks, ka_filts, kf_node_0, kf_cage_0, kf_cage_9, kf_task_0, kf_task_6, kf_task_7, kf_filt_0, kf_filt_1, kf_filt_2, kf_que, kf_cage_11, kf_cage_12, gi_K, gi_node1, gr_node, gi_cage1, gr_cage1, gr_cmts, gi_task1, gr_task1, gi_tpow, gr_thld, gi_filt, gi_fop, gi_ffs, gi_fsc, gr_walk, gr_mrow, gi_que, gi_qv, hw, hw2, hc, v5, v6, so_no, a4, y5, nO_ne, hcon]
theorem k_isAtRoot (hw : wf M) (iv : IV (ig M) (og M) r C t mp) (hc : c < C) (hw2 : w < 2) (h : wk w (og M) r c mp) : Vc d 142 [rf (some (143 + w)), rf (some (37 + 10 * c))] M Q = if r 0 41 < 0 ∧ r 0 40 = r 8 c then Q (some (.int (nI 1))) M else Q (some (.int (nI 0))) M := by
  have hC4 := iv.C4
  have hc4 : c < 4 := by omega
  obtain ⟨a, a1, a2, a3, a4⟩ := h.w0
  obtain ⟨b, y1, y2, -⟩ := (iv.c c hc).2.2.2.2.2.2.1
  show V d 142 0 [some (rf (some (143 + w))), some (rf (some (37 + 10 * c)))] [] M Q = _
  rcases h.w1 iv hc4 with ⟨v1, v2⟩ | ⟨i, v1, v2, v3, v4, v5, v6⟩
  · have hcon : (r 0 41 < 0 ∧ r 0 40 = r 8 c) = (a = b) := by
      rw [y2, a2]
      exact propext ⟨fun z => (nI_eq (by omega) (by omega)).1 z.2, fun z => ⟨by rw [v1]; decide, by rw [z]⟩⟩
    simp only [hcon]
    simp only [s_142_0, s_142_1, s_142_4, s_142_7, s_142_8, s_142_11, s_142_12, s_142_15, s_142_18, s_142_19, s_142_22, s_142_23, eq_self, Nat.reduceLT, Nat.reduceLeDiff, Nat.reduceMod, Nat.reduceDiv, Nat.reduceAdd, Nat.reduceMul, Option.toList_some, Option.toList_none, List.cons_append, List.nil_append, List.append_nil, n10, n00, if_true, if_false, b0, b1, nI_add, true_and, and_true, and_self, sh_1, sh_2, sh_3, sh_36, sh_77, sh_126, k_1_0, k_1_1, k_1_2, k_1_3, k_1_4, k_1_5, k_2_0, sh_node, sh_cage, sh_cmts, sh_mrow, sh_que, sh_qv, sh_task, sh_tpow, sh_thld, sh_filt, sh_fop, sh_ffs, sh_fsc, sh_walk, ka_nodes, ka_cages, ka_tasks, ka_filts, kf_node_0, kf_cage_0, kf_cage_9, kf_task_0, kf_task_6, kf_task_7, kf_filt_0, kf_filt_1, kf_filt_2, kf_que, kf_cage_11, kf_cage_12, gi_K, gi_node1, gr_node, gi_cage1, gr_cage1, gr_cmts, gi_task1, gr_task1, gi_tpow, gr_thld, gi_filt, gi_fop, gi_ffs, gi_fsc, gr_walk, gr_mrow, gi_que, gi_qv, hw, hw2, hc4, v2, a4, iv.c_1 hc, y2, ndO_n (show b < 2 ^ 31 by omega), nO_ne]
  · have hlt := pos_lt iv.m2 hc4 v1
    have hcon : ¬ (r 0 41 < 0 ∧ r 0 40 = r 8 c) := fun z => absurd z.1 (by rw [v3]; exact nI_pos (by omega))
    rw [if_neg hcon]
    simp only [s_142_0, s_142_1, s_142_4, s_142_7, s_142_8, s_142_11, s_142_12, s_142_15, s_142_18, s_142_19, s_142_22, s_142_23, eq_self, Nat.reduceLT, Nat.reduceLeDiff, Nat.reduceMod, Nat.reduceDiv, Nat.reduceAdd, Nat.reduceMul, Option.toList_some, Option.toList_none, List.cons_append, List.nil_append, List.append_nil, n10, n00, if_true, if_false, b0, b1, nI_add, true_and, and_true, and_self, sh_1, sh_2, sh_3, sh_36, sh_77, sh_126, k_1_0, k_1_1, k_1_2, k_1_3, k_1_4, k_1_5, k_2_0, sh_node, sh_cage, sh_cmts, sh_mrow, sh_que, sh_qv, sh_task, sh_tpow, sh_thld, sh_filt, sh_fop, sh_ffs, sh_fsc, sh_walk, ka_nodes, ka_cages, ka_tasks, ka_filts, kf_node_0, kf_cage_0, kf_cage_9, kf_task_0, kf_task_6, kf_task_7, kf_filt_0, kf_filt_1, kf_filt_2, kf_que, kf_cage_11, kf_cage_12, gi_K, gi_node1, gr_node, gi_cage1, gr_cage1, gr_cmts, gi_task1, gr_task1, gi_tpow, gr_thld, gi_filt, gi_fop, gi_ffs, gi_fsc, gr_walk, gr_mrow, gi_que, gi_qv, hw, hw2, v5, so_no]
end
