/-! THE REFERENCE, method by method: what a call answers (equations over the heap's slots) -/
/-- the first n' from n on, among k, with p -/
def ffind (p : Nat → Bool) : Nat → Nat → Option Nat
  | _, 0 => none
  | n, k + 1 => bif p n then some n else ffind p (n + 1) k
/-- how many from n on, among k, with p -/
def cnt (p : Nat → Bool) : Nat → Nat → Nat
  | _, 0 => 0
  | n, k + 1 => (bif p n then 1 else 0) + cnt p (n + 1) k
/-- a number, or -1 -/
def oI (o : Option Nat) : Int32 := match o with
  | some n => nI n
  | none => -1
section
variable {d : Nat} {M : mH} {Q : Option Value → mH → Prop}
theorem c_is {x lo hi : Int32} : Vc d 51 [.int x, .int lo, .int hi] M Q = if lo ≤ x ∧ x ≤ hi then Q (some (.int (nI 1))) M else Q (some (.int (nI 0))) M := by
  show V d 51 0 [some (.int x), some (.int lo), some (.int hi)] [] M Q = _
  simp only [s_51_0, s_51_1, s_51_2, s_51_5, s_51_6, s_51_7, s_51_10, s_51_11, s_51_14, s_51_15, b0, b1]
  by_cases h1 : x < lo
  · have : ¬ lo ≤ x := by rw [Int32.le_iff_toInt_le]; rw [Int32.lt_iff_toInt_lt] at h1; omega
    simp only [h1, this, if_true, false_and, if_false]
  · have : lo ≤ x := by rw [Int32.le_iff_toInt_le]; rw [Int32.lt_iff_toInt_lt] at h1; omega
    by_cases h2 : hi < x
    · have h3 : ¬ x ≤ hi := by rw [Int32.le_iff_toInt_le]; rw [Int32.lt_iff_toInt_lt] at h2; omega
      simp only [h1, h2, this, h3, if_true, if_false, and_false]
    · have h3 : x ≤ hi := by rw [Int32.le_iff_toInt_le]; rw [Int32.lt_iff_toInt_lt] at h2; omega
      simp only [h1, h2, this, h3, if_true, if_false, and_self]
theorem in_nI {x : Int32} {m : Nat} (hm : m < 2 ^ 31) (h : nI 0 ≤ x ∧ x ≤ nI m) : ∃ n, n ≤ m ∧ x = nI n := by
  obtain ⟨j, hj, e⟩ := nI_of2 (M := nI m) (n := m) (nI_toInt hm) (x := x) (by rw [Int32.lt_iff_toInt_lt]; have := h.1; rw [Int32.le_iff_toInt_le] at this; exact Int.not_lt.mpr this) h.2
  exact ⟨j, hj, e⟩
theorem c_isThere (hw : wf M) {x : Int32} : Vc (d + 1) 52 [rf (some 145), .int x] M Q = if (nI 0 ≤ x ∧ x ≤ nI 31) ∧ ¬ rg M 1 x.toNatClampNeg = 0 then Q (some (.int (nI 1))) M else Q (some (.int (nI 0))) M := by
  show V (d + 1) 52 0 [some (rf (some 145)), some (.int x)] [] M Q = _
  simp only [s_52_0, s_52_1, s_52_2, s_52_4, c_is]
  by_cases h : nI 0 ≤ x ∧ x ≤ nI 31
  · obtain ⟨n, hn, rfl⟩ := in_nI (by decide) h
    have hn : n < 32 := by omega
    simp only [s_52_0, s_52_1, s_52_2, s_52_4, s_52_7, s_52_10, s_52_11, s_52_14, s_52_15, s_52_16, s_52_19, s_52_20, s_52_23, s_52_24, eq_self, Nat.reduceLT, Nat.reduceLeDiff, Nat.reduceMod, Nat.reduceDiv, Nat.reduceAdd, Nat.reduceMul, Option.toList_some, Option.toList_none, List.cons_append, List.nil_append, List.append_nil, n10, n00, if_true, if_false, b0, b1, nI_add, true_and, and_true, and_self, sh_145, k_145_0, k_145_1, k_145_2, k_145_3, k_145_4, k_145_5, k_145_6, k_145_7, k_145_8, k_145_9, k_145_10, k_145_11, k_145_12, k_145_13, k_145_14, k_145_15, k_145_16, k_145_17, k_145_18, k_145_19, k_145_20, k_145_21, k_145_22, k_145_23, k_145_24, k_145_25, k_145_26, k_145_27, k_145_28, k_145_29, k_145_30, k_145_31, k_145_32, k_145_33, k_145_34, k_145_35, sh_146, sh_147, sh_148, sh_149, sh_150, sh_151, sh_152, sh_153, sh_154, sh_155, sh_156, sh_157, sh_158, sh_159, sh_160, sh_161, sh_162, sh_163, sh_164, sh_165, sh_166, sh_167, sh_168, sh_169, sh_170, sh_171, sh_172, sh_173, sh_174, sh_175, sh_176, sh_177, sh_178, sh_179, sh_180, sh_181, g_146, g_147, g_148, g_149, g_150, g_151, g_152, g_153, g_154, g_155, g_156, g_157, g_158, g_159, g_160, g_161, g_162, g_163, g_164, g_165, g_166, g_167, g_168, g_169, g_170, g_171, g_172, g_173, g_174, g_175, g_176, g_177, g_178, g_179, g_180, g_181, g_145_36, g_145_37, g_145_38, g_145_39, g_145_40, g_145_41, h, hw, hn, nI_clamp (show n < 2 ^ 31 by omega)]
    by_cases h2 : rg M 1 n = 0
    · simp only [h2, if_true, not_true, if_false]
    · simp only [h2, if_false, not_false_eq_true, if_true]
  · simp only [h, false_and, s_52_0, s_52_1, s_52_2, s_52_4, s_52_7, s_52_10, s_52_11, s_52_14, s_52_15, s_52_16, s_52_19, s_52_20, s_52_23, s_52_24, eq_self, Nat.reduceLT, Nat.reduceLeDiff, Nat.reduceMod, Nat.reduceDiv, Nat.reduceAdd, Nat.reduceMul, Option.toList_some, Option.toList_none, List.cons_append, List.nil_append, List.append_nil, n10, n00, if_true, if_false, b0, b1, nI_add, true_and, and_true, and_self]
def pFind (r : RS) (a nm : Int32) (n : Nat) : Bool := decide (¬ r 1 n = 0 ∧ r 2 n = a ∧ r 3 n = nm)
theorem c_find_l (hw : wf M) {a nm : Int32} : ∀ k n, n + k = 32 → V d 55 2 [some (rf (some 145)), some (.int a), some (.int nm), some (.int (nI n))] [] M Q = Q (some (.int (oI (ffind (pFind (rg M) a nm) n k)))) M := by
  intro k
  induction k with
  | zero =>
    intro n hn
    obtain rfl : n = 32 := by omega
    rw [s_55_2]
    simp only [s_55_0, s_55_1, s_55_3, s_55_5, s_55_8, s_55_9, s_55_12, s_55_13, s_55_14, s_55_17, s_55_18, s_55_21, s_55_22, s_55_23, s_55_24, s_55_27, s_55_28, s_55_31, s_55_32, s_55_33, s_55_34, s_55_37, s_55_38, s_55_39, s_55_42, s_55_45, s_55_46, eq_self, Nat.reduceLT, Nat.reduceLeDiff, Nat.reduceMod, Nat.reduceDiv, Nat.reduceAdd, Nat.reduceMul, Option.toList_some, Option.toList_none, List.cons_append, List.nil_append, List.append_nil, n10, n00, if_true, if_false, b0, b1, nI_add, true_and, and_true, and_self, show nI 32 ≤ nI 32 from Int32.le_refl _, ffind, oI]
  | succ k ih =>
    intro n hn
    have h32 : n < 32 := by omega
    rw [s_55_2]
    simp only [s_55_0, s_55_1, s_55_3, s_55_5, s_55_8, s_55_9, s_55_12, s_55_13, s_55_14, s_55_17, s_55_18, s_55_21, s_55_22, s_55_23, s_55_24, s_55_27, s_55_28, s_55_31, s_55_32, s_55_33, s_55_34, s_55_37, s_55_38, s_55_39, s_55_42, s_55_45, s_55_46, eq_self, Nat.reduceLT, Nat.reduceLeDiff, Nat.reduceMod, Nat.reduceDiv, Nat.reduceAdd, Nat.reduceMul, Option.toList_some, Option.toList_none, List.cons_append, List.nil_append, List.append_nil, n10, n00, if_true, if_false, b0, b1, nI_add, true_and, and_true, and_self, sh_145, k_145_0, k_145_1, k_145_2, k_145_3, k_145_4, k_145_5, k_145_6, k_145_7, k_145_8, k_145_9, k_145_10, k_145_11, k_145_12, k_145_13, k_145_14, k_145_15, k_145_16, k_145_17, k_145_18, k_145_19, k_145_20, k_145_21, k_145_22, k_145_23, k_145_24, k_145_25, k_145_26, k_145_27, k_145_28, k_145_29, k_145_30, k_145_31, k_145_32, k_145_33, k_145_34, k_145_35, sh_146, sh_147, sh_148, sh_149, sh_150, sh_151, sh_152, sh_153, sh_154, sh_155, sh_156, sh_157, sh_158, sh_159, sh_160, sh_161, sh_162, sh_163, sh_164, sh_165, sh_166, sh_167, sh_168, sh_169, sh_170, sh_171, sh_172, sh_173, sh_174, sh_175, sh_176, sh_177, sh_178, sh_179, sh_180, sh_181, g_146, g_147, g_148, g_149, g_150, g_151, g_152, g_153, g_154, g_155, g_156, g_157, g_158, g_159, g_160, g_161, g_162, g_163, g_164, g_165, g_166, g_167, g_168, g_169, g_170, g_171, g_172, g_173, g_174, g_175, g_176, g_177, g_178, g_179, g_180, g_181, g_145_36, g_145_37, g_145_38, g_145_39, g_145_40, g_145_41, hw, h32, nI_ge h32 (by decide), ih (n + 1) (by omega), ffind]
    by_cases h1 : rg M 1 n = 0 <;> by_cases h2 : rg M 2 n = a <;> by_cases h3 : rg M 3 n = nm <;> simp [pFind, h1, h2, h3, oI]
theorem c_find (hw : wf M) {a nm : Int32} : Vc d 55 [rf (some 145), .int a, .int nm] M Q = Q (some (.int (oI (ffind (pFind (rg M) a nm) 1 31)))) M := by
  show V d 55 0 [some (rf (some 145)), some (.int a), some (.int nm), none] [] M Q = _
  rw [s_55_0, s_55_1, c_find_l hw 31 1 rfl]
def pEnt (r : RS) (a : Int32) (n : Nat) : Bool := decide (¬ r 1 n = 0 ∧ r 2 n = a)
theorem c_entries_l (hw : wf M) {a : Int32} : ∀ k n c, n + k = 32 → V d 56 4 [some (rf (some 145)), some (.int a), some (.int (nI c)), some (.int (nI n))] [] M Q = Q (some (.int (nI (c + cnt (pEnt (rg M) a) n k)))) M := by
  intro k
  induction k with
  | zero =>
    intro n c hn
    obtain rfl : n = 32 := by omega
    rw [s_56_4]
    simp only [s_56_0, s_56_1, s_56_2, s_56_3, s_56_5, s_56_7, s_56_10, s_56_11, s_56_14, s_56_15, s_56_16, s_56_19, s_56_20, s_56_23, s_56_24, s_56_25, s_56_26, s_56_29, s_56_32, s_56_35, s_56_38, s_56_39, eq_self, Nat.reduceLT, Nat.reduceLeDiff, Nat.reduceMod, Nat.reduceDiv, Nat.reduceAdd, Nat.reduceMul, Option.toList_some, Option.toList_none, List.cons_append, List.nil_append, List.append_nil, n10, n00, if_true, if_false, b0, b1, nI_add, true_and, and_true, and_self, show nI 32 ≤ nI 32 from Int32.le_refl _, cnt, Nat.add_zero]
  | succ k ih =>
    intro n c hn
    have h32 : n < 32 := by omega
    rw [s_56_4]
    simp only [s_56_0, s_56_1, s_56_2, s_56_3, s_56_5, s_56_7, s_56_10, s_56_11, s_56_14, s_56_15, s_56_16, s_56_19, s_56_20, s_56_23, s_56_24, s_56_25, s_56_26, s_56_29, s_56_32, s_56_35, s_56_38, s_56_39, eq_self, Nat.reduceLT, Nat.reduceLeDiff, Nat.reduceMod, Nat.reduceDiv, Nat.reduceAdd, Nat.reduceMul, Option.toList_some, Option.toList_none, List.cons_append, List.nil_append, List.append_nil, n10, n00, if_true, if_false, b0, b1, nI_add, true_and, and_true, and_self, sh_145, k_145_0, k_145_1, k_145_2, k_145_3, k_145_4, k_145_5, k_145_6, k_145_7, k_145_8, k_145_9, k_145_10, k_145_11, k_145_12, k_145_13, k_145_14, k_145_15, k_145_16, k_145_17, k_145_18, k_145_19, k_145_20, k_145_21, k_145_22, k_145_23, k_145_24, k_145_25, k_145_26, k_145_27, k_145_28, k_145_29, k_145_30, k_145_31, k_145_32, k_145_33, k_145_34, k_145_35, sh_146, sh_147, sh_148, sh_149, sh_150, sh_151, sh_152, sh_153, sh_154, sh_155, sh_156, sh_157, sh_158, sh_159, sh_160, sh_161, sh_162, sh_163, sh_164, sh_165, sh_166, sh_167, sh_168, sh_169, sh_170, sh_171, sh_172, sh_173, sh_174, sh_175, sh_176, sh_177, sh_178, sh_179, sh_180, sh_181, g_146, g_147, g_148, g_149, g_150, g_151, g_152, g_153, g_154, g_155, g_156, g_157, g_158, g_159, g_160, g_161, g_162, g_163, g_164, g_165, g_166, g_167, g_168, g_169, g_170, g_171, g_172, g_173, g_174, g_175, g_176, g_177, g_178, g_179, g_180, g_181, g_145_36, g_145_37, g_145_38, g_145_39, g_145_40, g_145_41, hw, h32, nI_ge h32 (by decide), ih (n + 1) _ (by omega), cnt]
    by_cases h1 : rg M 1 n = 0 <;> by_cases h2 : rg M 2 n = a <;> simp [pEnt, h1, h2, Nat.add_assoc]
theorem c_entries (hw : wf M) {a : Int32} : Vc d 56 [rf (some 145), .int a] M Q = Q (some (.int (nI (cnt (pEnt (rg M) a) 1 31)))) M := by
  show V d 56 0 [some (rf (some 145)), some (.int a), none, none] [] M Q = _
  rw [s_56_0, s_56_1, s_56_2, s_56_3, c_entries_l hw 31 1 0 rfl, Nat.zero_add]
end
