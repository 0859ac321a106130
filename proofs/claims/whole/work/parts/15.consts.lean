/-! PRINTED by wip/whole/consts.py: shapes, constants, what may be written, by families -/
theorem cstR {M : mH} (h : wf M) {a k v : Nat} (hm : CST.contains (a, k, .ref v) = true) : gr M a k = some v := by
  have h1 := h.2.2.2.2 _ (List.contains_iff_mem.mp hm)
  unfold gr
  rw [h1]
theorem cstI {M : mH} (h : wf M) {a k : Nat} {x : Int32} (hm : CST.contains (a, k, .int x) = true) : gi M a k = x := by
  have h1 := h.2.2.2.2 _ (List.contains_iff_mem.mp hm)
  unfold gi
  rw [h1]
  rfl
/-- no constant there -/
def fre (a k : Nat) : Bool := CST.all (fun q => !(Nat.beq q.1 a && Nat.beq q.2.1 k))
theorem wok_i {a k t n : Nat} {x : Int32} (hs : shp a = (t, n)) (ht : t < 999) (hk : k < n) (hn : tkind t k = 0) (hf : fre a k = true) : wok a k (.int x) := by
  refine ⟨by rw [hs]; exact hk, by rw [hs]; exact ht, ?_, hf⟩
  rw [hs, hn]
  exact ⟨x, rfl⟩
theorem wok_z {a k t n : Nat} {x : Int32} (hx : (x == 0 || x == 1) = true) (hs : shp a = (t, n)) (ht : t < 999) (hk : k < n) (hn : tkind t k = 1) (hf : fre a k = true) : wok a k (.int x) := by
  refine ⟨by rw [hs]; exact hk, by rw [hs]; exact ht, ?_, hf⟩
  rw [hs, hn]
  simp only [Bool.or_eq_true, beq_iff_eq] at hx
  rcases hx with rfl | rfl
  · exact Or.inl rfl
  · exact Or.inr rfl
theorem wok_r {a k t n : Nat} {o : Option Nat} (hs : shp a = (t, n)) (ht : t < 999) (hk : k < n) (hn : tkind t k = 2) (hf : fre a k = true) : wok a k (rf o) := by
  refine ⟨by rw [hs]; exact hk, by rw [hs]; exact ht, ?_, hf⟩
  rw [hs, hn]
  cases o with
  | none => exact Or.inl rfl
  | some v => exact Or.inr ⟨v, rfl⟩
theorem b0 : (nI 0 == 0 || nI 0 == 1) = true := by decide
theorem b1 : (nI 1 == 0 || nI 1 == 1) = true := by decide
theorem n00 : (nI 0 = 0) = True := eq_true (by decide)
theorem n10 : (nI 1 = 0) = False := eq_false (by decide)
theorem sh_1 : shp 1 = (0, 9) := by decide +kernel
theorem sh_2 : shp 2 = (2, 1) := by decide +kernel
theorem sh_145 : shp 145 = (18, 42) := by decide +kernel
theorem sh_143 : shp 143 = (16, 2) := by decide +kernel
theorem sh_144 : shp 144 = (16, 2) := by decide +kernel
theorem sh_3 : shp 3 = (5, 32) := by decide +kernel
theorem sh_36 : shp 36 = (7, 4) := by decide +kernel
theorem sh_77 : shp 77 = (11, 16) := by decide +kernel
theorem sh_126 : shp 126 = (13, 4) := by decide +kernel
theorem sh_146 : shp 146 = (3, 32) := by decide +kernel
theorem sh_147 : shp 147 = (1, 32) := by decide +kernel
theorem sh_148 : shp 148 = (1, 32) := by decide +kernel
theorem sh_149 : shp 149 = (1, 32) := by decide +kernel
theorem sh_150 : shp 150 = (1, 32) := by decide +kernel
theorem sh_151 : shp 151 = (1, 32) := by decide +kernel
theorem sh_152 : shp 152 = (1, 32) := by decide +kernel
theorem sh_153 : shp 153 = (1, 4) := by decide +kernel
theorem sh_154 : shp 154 = (1, 4) := by decide +kernel
theorem sh_155 : shp 155 = (1, 4) := by decide +kernel
theorem sh_156 : shp 156 = (1, 4) := by decide +kernel
theorem sh_157 : shp 157 = (1, 4) := by decide +kernel
theorem sh_158 : shp 158 = (1, 4) := by decide +kernel
theorem sh_159 : shp 159 = (1, 4) := by decide +kernel
theorem sh_160 : shp 160 = (1, 8) := by decide +kernel
theorem sh_161 : shp 161 = (1, 24) := by decide +kernel
theorem sh_162 : shp 162 = (3, 4) := by decide +kernel
theorem sh_163 : shp 163 = (3, 16) := by decide +kernel
theorem sh_164 : shp 164 = (1, 16) := by decide +kernel
theorem sh_165 : shp 165 = (1, 16) := by decide +kernel
theorem sh_166 : shp 166 = (1, 16) := by decide +kernel
theorem sh_167 : shp 167 = (1, 16) := by decide +kernel
theorem sh_168 : shp 168 = (3, 16) := by decide +kernel
theorem sh_169 : shp 169 = (1, 16) := by decide +kernel
theorem sh_170 : shp 170 = (1, 16) := by decide +kernel
theorem sh_171 : shp 171 = (1, 16) := by decide +kernel
theorem sh_172 : shp 172 = (1, 16) := by decide +kernel
theorem sh_173 : shp 173 = (1, 16) := by decide +kernel
theorem sh_174 : shp 174 = (1, 16) := by decide +kernel
theorem sh_175 : shp 175 = (1, 48) := by decide +kernel
theorem sh_176 : shp 176 = (1, 64) := by decide +kernel
theorem sh_177 : shp 177 = (1, 16) := by decide +kernel
theorem sh_178 : shp 178 = (1, 40) := by decide +kernel
theorem sh_179 : shp 179 = (1, 40) := by decide +kernel
theorem sh_180 : shp 180 = (1, 40) := by decide +kernel
theorem sh_181 : shp 181 = (1, 4) := by decide +kernel
theorem k_1_0 {M : mH} (h : wf M) : gr M 1 0 = some 2 := cstR h (by decide)
theorem k_1_1 {M : mH} (h : wf M) : gr M 1 1 = some 36 := cstR h (by decide)
theorem k_1_2 {M : mH} (h : wf M) : gr M 1 2 = some 77 := cstR h (by decide)
theorem k_1_3 {M : mH} (h : wf M) : gr M 1 3 = some 126 := cstR h (by decide)
theorem k_1_4 {M : mH} (h : wf M) : gr M 1 4 = some 143 := cstR h (by decide)
theorem k_1_5 {M : mH} (h : wf M) : gr M 1 5 = some 144 := cstR h (by decide)
theorem k_2_0 {M : mH} (h : wf M) : gr M 2 0 = some 3 := cstR h (by decide)
theorem k_145_0 {M : mH} (h : wf M) : gr M 145 0 = some 146 := cstR h (by decide)
theorem k_145_1 {M : mH} (h : wf M) : gr M 145 1 = some 147 := cstR h (by decide)
theorem k_145_2 {M : mH} (h : wf M) : gr M 145 2 = some 148 := cstR h (by decide)
theorem k_145_3 {M : mH} (h : wf M) : gr M 145 3 = some 149 := cstR h (by decide)
theorem k_145_4 {M : mH} (h : wf M) : gr M 145 4 = some 150 := cstR h (by decide)
theorem k_145_5 {M : mH} (h : wf M) : gr M 145 5 = some 151 := cstR h (by decide)
theorem k_145_6 {M : mH} (h : wf M) : gr M 145 6 = some 152 := cstR h (by decide)
theorem k_145_7 {M : mH} (h : wf M) : gr M 145 7 = some 153 := cstR h (by decide)
theorem k_145_8 {M : mH} (h : wf M) : gr M 145 8 = some 154 := cstR h (by decide)
theorem k_145_9 {M : mH} (h : wf M) : gr M 145 9 = some 155 := cstR h (by decide)
theorem k_145_10 {M : mH} (h : wf M) : gr M 145 10 = some 156 := cstR h (by decide)
theorem k_145_11 {M : mH} (h : wf M) : gr M 145 11 = some 157 := cstR h (by decide)
theorem k_145_12 {M : mH} (h : wf M) : gr M 145 12 = some 158 := cstR h (by decide)
theorem k_145_13 {M : mH} (h : wf M) : gr M 145 13 = some 159 := cstR h (by decide)
theorem k_145_14 {M : mH} (h : wf M) : gr M 145 14 = some 160 := cstR h (by decide)
theorem k_145_15 {M : mH} (h : wf M) : gr M 145 15 = some 161 := cstR h (by decide)
theorem k_145_16 {M : mH} (h : wf M) : gr M 145 16 = some 162 := cstR h (by decide)
theorem k_145_17 {M : mH} (h : wf M) : gr M 145 17 = some 163 := cstR h (by decide)
theorem k_145_18 {M : mH} (h : wf M) : gr M 145 18 = some 164 := cstR h (by decide)
theorem k_145_19 {M : mH} (h : wf M) : gr M 145 19 = some 165 := cstR h (by decide)
theorem k_145_20 {M : mH} (h : wf M) : gr M 145 20 = some 166 := cstR h (by decide)
theorem k_145_21 {M : mH} (h : wf M) : gr M 145 21 = some 167 := cstR h (by decide)
theorem k_145_22 {M : mH} (h : wf M) : gr M 145 22 = some 168 := cstR h (by decide)
theorem k_145_23 {M : mH} (h : wf M) : gr M 145 23 = some 169 := cstR h (by decide)
theorem k_145_24 {M : mH} (h : wf M) : gr M 145 24 = some 170 := cstR h (by decide)
theorem k_145_25 {M : mH} (h : wf M) : gr M 145 25 = some 171 := cstR h (by decide)
theorem k_145_26 {M : mH} (h : wf M) : gr M 145 26 = some 172 := cstR h (by decide)
theorem k_145_27 {M : mH} (h : wf M) : gr M 145 27 = some 173 := cstR h (by decide)
theorem k_145_28 {M : mH} (h : wf M) : gr M 145 28 = some 174 := cstR h (by decide)
theorem k_145_29 {M : mH} (h : wf M) : gr M 145 29 = some 175 := cstR h (by decide)
theorem k_145_30 {M : mH} (h : wf M) : gr M 145 30 = some 176 := cstR h (by decide)
theorem k_145_31 {M : mH} (h : wf M) : gr M 145 31 = some 177 := cstR h (by decide)
theorem k_145_32 {M : mH} (h : wf M) : gr M 145 32 = some 178 := cstR h (by decide)
theorem k_145_33 {M : mH} (h : wf M) : gr M 145 33 = some 179 := cstR h (by decide)
theorem k_145_34 {M : mH} (h : wf M) : gr M 145 34 = some 180 := cstR h (by decide)
theorem k_145_35 {M : mH} (h : wf M) : gr M 145 35 = some 181 := cstR h (by decide)
theorem sh_node : ∀ i, i < 32 → shp (4 + i) = (4, 8) := by decide +kernel
theorem kf_node_00 : ∀ i, i < 32 → CST.contains (4 + i, 0, .int (nI i)) = true := by decide +kernel
theorem kf_node_0 {M : mH} (h : wf M) {i : Nat} (hi : i < 32) : gi M (4 + i) 0 = nI i := cstI h (kf_node_00 i hi)
theorem fr_node_1 : ∀ i, i < 32 → fre (4 + i) 1 = true := by decide +kernel
theorem wk_node_1 {i : Nat} (hi : i < 32) {x : Int32} (hx : (x == 0 || x == 1) = true) : wok (4 + i) 1 (.int x) := wok_z hx (sh_node i hi) (by decide) (by decide) rfl (fr_node_1 i hi)
theorem fr_node_2 : ∀ i, i < 32 → fre (4 + i) 2 = true := by decide +kernel
theorem wk_node_2 {i : Nat} (hi : i < 32) {x : Int32} : wok (4 + i) 2 (.int x) := wok_i (sh_node i hi) (by decide) (by decide) rfl (fr_node_2 i hi)
theorem fr_node_3 : ∀ i, i < 32 → fre (4 + i) 3 = true := by decide +kernel
theorem wk_node_3 {i : Nat} (hi : i < 32) {x : Int32} : wok (4 + i) 3 (.int x) := wok_i (sh_node i hi) (by decide) (by decide) rfl (fr_node_3 i hi)
theorem fr_node_4 : ∀ i, i < 32 → fre (4 + i) 4 = true := by decide +kernel
theorem wk_node_4 {i : Nat} (hi : i < 32) {x : Int32} : wok (4 + i) 4 (.int x) := wok_i (sh_node i hi) (by decide) (by decide) rfl (fr_node_4 i hi)
theorem fr_node_5 : ∀ i, i < 32 → fre (4 + i) 5 = true := by decide +kernel
theorem wk_node_5 {i : Nat} (hi : i < 32) {x : Int32} : wok (4 + i) 5 (.int x) := wok_i (sh_node i hi) (by decide) (by decide) rfl (fr_node_5 i hi)
theorem fr_node_6 : ∀ i, i < 32 → fre (4 + i) 6 = true := by decide +kernel
theorem wk_node_6 {i : Nat} (hi : i < 32) {o : Option Nat} : wok (4 + i) 6 (rf o) := wok_r (sh_node i hi) (by decide) (by decide) rfl (fr_node_6 i hi)
theorem fr_node_7 : ∀ i, i < 32 → fre (4 + i) 7 = true := by decide +kernel
theorem wk_node_7 {i : Nat} (hi : i < 32) {o : Option Nat} : wok (4 + i) 7 (rf o) := wok_r (sh_node i hi) (by decide) (by decide) rfl (fr_node_7 i hi)
theorem sh_cage : ∀ i, i < 4 → shp (37 + 10 * i) = (6, 13) := by decide +kernel
theorem kf_cage_00 : ∀ i, i < 4 → CST.contains (37 + 10 * i, 0, .int (nI i)) = true := by decide +kernel
theorem kf_cage_0 {M : mH} (h : wf M) {i : Nat} (hi : i < 4) : gi M (37 + 10 * i) 0 = nI i := cstI h (kf_cage_00 i hi)
theorem fr_cage_1 : ∀ i, i < 4 → fre (37 + 10 * i) 1 = true := by decide +kernel
theorem wk_cage_1 {i : Nat} (hi : i < 4) {o : Option Nat} : wok (37 + 10 * i) 1 (rf o) := wok_r (sh_cage i hi) (by decide) (by decide) rfl (fr_cage_1 i hi)
theorem fr_cage_2 : ∀ i, i < 4 → fre (37 + 10 * i) 2 = true := by decide +kernel
theorem wk_cage_2 {i : Nat} (hi : i < 4) {x : Int32} : wok (37 + 10 * i) 2 (.int x) := wok_i (sh_cage i hi) (by decide) (by decide) rfl (fr_cage_2 i hi)
theorem fr_cage_3 : ∀ i, i < 4 → fre (37 + 10 * i) 3 = true := by decide +kernel
theorem wk_cage_3 {i : Nat} (hi : i < 4) {x : Int32} : wok (37 + 10 * i) 3 (.int x) := wok_i (sh_cage i hi) (by decide) (by decide) rfl (fr_cage_3 i hi)
theorem fr_cage_4 : ∀ i, i < 4 → fre (37 + 10 * i) 4 = true := by decide +kernel
theorem wk_cage_4 {i : Nat} (hi : i < 4) {x : Int32} : wok (37 + 10 * i) 4 (.int x) := wok_i (sh_cage i hi) (by decide) (by decide) rfl (fr_cage_4 i hi)
theorem fr_cage_5 : ∀ i, i < 4 → fre (37 + 10 * i) 5 = true := by decide +kernel
theorem wk_cage_5 {i : Nat} (hi : i < 4) {x : Int32} : wok (37 + 10 * i) 5 (.int x) := wok_i (sh_cage i hi) (by decide) (by decide) rfl (fr_cage_5 i hi)
theorem fr_cage_6 : ∀ i, i < 4 → fre (37 + 10 * i) 6 = true := by decide +kernel
theorem wk_cage_6 {i : Nat} (hi : i < 4) {o : Option Nat} : wok (37 + 10 * i) 6 (rf o) := wok_r (sh_cage i hi) (by decide) (by decide) rfl (fr_cage_6 i hi)
theorem fr_cage_7 : ∀ i, i < 4 → fre (37 + 10 * i) 7 = true := by decide +kernel
theorem wk_cage_7 {i : Nat} (hi : i < 4) {o : Option Nat} : wok (37 + 10 * i) 7 (rf o) := wok_r (sh_cage i hi) (by decide) (by decide) rfl (fr_cage_7 i hi)
theorem fr_cage_8 : ∀ i, i < 4 → fre (37 + 10 * i) 8 = true := by decide +kernel
theorem wk_cage_8 {i : Nat} (hi : i < 4) {x : Int32} : wok (37 + 10 * i) 8 (.int x) := wok_i (sh_cage i hi) (by decide) (by decide) rfl (fr_cage_8 i hi)
theorem kf_cage_90 : ∀ i, i < 4 → CST.contains (37 + 10 * i, 9, .ref (38 + 10 * i)) = true := by decide +kernel
theorem kf_cage_9 {M : mH} (h : wf M) {i : Nat} (hi : i < 4) : gr M (37 + 10 * i) 9 = some (38 + 10 * i) := cstR h (kf_cage_90 i hi)
theorem fr_cage_10 : ∀ i, i < 4 → fre (37 + 10 * i) 10 = true := by decide +kernel
theorem wk_cage_10 {i : Nat} (hi : i < 4) {x : Int32} : wok (37 + 10 * i) 10 (.int x) := wok_i (sh_cage i hi) (by decide) (by decide) rfl (fr_cage_10 i hi)
theorem kf_cage_110 : ∀ i, i < 4 → CST.contains (37 + 10 * i, 11, .ref (43 + 10 * i)) = true := by decide +kernel
theorem kf_cage_11 {M : mH} (h : wf M) {i : Nat} (hi : i < 4) : gr M (37 + 10 * i) 11 = some (43 + 10 * i) := cstR h (kf_cage_110 i hi)
theorem kf_cage_120 : ∀ i, i < 4 → CST.contains (37 + 10 * i, 12, .ref (45 + 10 * i)) = true := by decide +kernel
theorem kf_cage_12 {M : mH} (h : wf M) {i : Nat} (hi : i < 4) : gr M (37 + 10 * i) 12 = some (45 + 10 * i) := cstR h (kf_cage_120 i hi)
theorem sh_cmts : ∀ i, i < 4 → shp (38 + 10 * i) = (9, 4) := by decide +kernel
theorem fr_cmts : ∀ i, i < 4 → ∀ j, j < 4 → fre (38 + 10 * i) j = true := by decide +kernel
theorem wk_cmts {i j : Nat} (hi : i < 4) (hj : j < 4) {o : Option Nat} : wok (38 + 10 * i) j (rf o) := wok_r (sh_cmts i hi) (by decide) hj rfl (fr_cmts i hi j hj)
theorem sh_q1 : ∀ i, i < 4 → shp (43 + 10 * i) = (10, 2) := by decide +kernel
theorem kf_q1_00 : ∀ i, i < 4 → CST.contains (43 + 10 * i, 0, .ref (44 + 10 * i)) = true := by decide +kernel
theorem kf_q1_0 {M : mH} (h : wf M) {i : Nat} (hi : i < 4) : gr M (43 + 10 * i) 0 = some (44 + 10 * i) := cstR h (kf_q1_00 i hi)
theorem fr_q1_1 : ∀ i, i < 4 → fre (43 + 10 * i) 1 = true := by decide +kernel
theorem wk_q1_1 {i : Nat} (hi : i < 4) {x : Int32} : wok (43 + 10 * i) 1 (.int x) := wok_i (sh_q1 i hi) (by decide) (by decide) rfl (fr_q1_1 i hi)
theorem sh_v1 : ∀ i, i < 4 → shp (44 + 10 * i) = (1, 3) := by decide +kernel
theorem fr_v1 : ∀ i, i < 4 → ∀ j, j < 3 → fre (44 + 10 * i) j = true := by decide +kernel
theorem wk_v1 {i j : Nat} (hi : i < 4) (hj : j < 3) {x : Int32} : wok (44 + 10 * i) j (.int x) := wok_i (sh_v1 i hi) (by decide) hj rfl (fr_v1 i hi j hj)
theorem sh_q2 : ∀ i, i < 4 → shp (45 + 10 * i) = (10, 2) := by decide +kernel
theorem kf_q2_00 : ∀ i, i < 4 → CST.contains (45 + 10 * i, 0, .ref (46 + 10 * i)) = true := by decide +kernel
theorem kf_q2_0 {M : mH} (h : wf M) {i : Nat} (hi : i < 4) : gr M (45 + 10 * i) 0 = some (46 + 10 * i) := cstR h (kf_q2_00 i hi)
theorem fr_q2_1 : ∀ i, i < 4 → fre (45 + 10 * i) 1 = true := by decide +kernel
theorem wk_q2_1 {i : Nat} (hi : i < 4) {x : Int32} : wok (45 + 10 * i) 1 (.int x) := wok_i (sh_q2 i hi) (by decide) (by decide) rfl (fr_q2_1 i hi)
theorem sh_v2 : ∀ i, i < 4 → shp (46 + 10 * i) = (1, 3) := by decide +kernel
theorem fr_v2 : ∀ i, i < 4 → ∀ j, j < 3 → fre (46 + 10 * i) j = true := by decide +kernel
theorem wk_v2 {i j : Nat} (hi : i < 4) (hj : j < 3) {x : Int32} : wok (46 + 10 * i) j (.int x) := wok_i (sh_v2 i hi) (by decide) hj rfl (fr_v2 i hi j hj)
theorem sh_task : ∀ i, i < 16 → shp (78 + 3 * i) = (12, 10) := by decide +kernel
theorem kf_task_00 : ∀ i, i < 16 → CST.contains (78 + 3 * i, 0, .int (nI i)) = true := by decide +kernel
theorem kf_task_0 {M : mH} (h : wf M) {i : Nat} (hi : i < 16) : gi M (78 + 3 * i) 0 = nI i := cstI h (kf_task_00 i hi)
theorem fr_task_1 : ∀ i, i < 16 → fre (78 + 3 * i) 1 = true := by decide +kernel
theorem wk_task_1 {i : Nat} (hi : i < 16) {x : Int32} : wok (78 + 3 * i) 1 (.int x) := wok_i (sh_task i hi) (by decide) (by decide) rfl (fr_task_1 i hi)
theorem fr_task_2 : ∀ i, i < 16 → fre (78 + 3 * i) 2 = true := by decide +kernel
theorem wk_task_2 {i : Nat} (hi : i < 16) {o : Option Nat} : wok (78 + 3 * i) 2 (rf o) := wok_r (sh_task i hi) (by decide) (by decide) rfl (fr_task_2 i hi)
theorem fr_task_3 : ∀ i, i < 16 → fre (78 + 3 * i) 3 = true := by decide +kernel
theorem wk_task_3 {i : Nat} (hi : i < 16) {x : Int32} : wok (78 + 3 * i) 3 (.int x) := wok_i (sh_task i hi) (by decide) (by decide) rfl (fr_task_3 i hi)
theorem fr_task_4 : ∀ i, i < 16 → fre (78 + 3 * i) 4 = true := by decide +kernel
theorem wk_task_4 {i : Nat} (hi : i < 16) {x : Int32} : wok (78 + 3 * i) 4 (.int x) := wok_i (sh_task i hi) (by decide) (by decide) rfl (fr_task_4 i hi)
theorem fr_task_5 : ∀ i, i < 16 → fre (78 + 3 * i) 5 = true := by decide +kernel
theorem wk_task_5 {i : Nat} (hi : i < 16) {o : Option Nat} : wok (78 + 3 * i) 5 (rf o) := wok_r (sh_task i hi) (by decide) (by decide) rfl (fr_task_5 i hi)
theorem kf_task_60 : ∀ i, i < 16 → CST.contains (78 + 3 * i, 6, .ref (79 + 3 * i)) = true := by decide +kernel
theorem kf_task_6 {M : mH} (h : wf M) {i : Nat} (hi : i < 16) : gr M (78 + 3 * i) 6 = some (79 + 3 * i) := cstR h (kf_task_60 i hi)
theorem kf_task_70 : ∀ i, i < 16 → CST.contains (78 + 3 * i, 7, .ref (80 + 3 * i)) = true := by decide +kernel
theorem kf_task_7 {M : mH} (h : wf M) {i : Nat} (hi : i < 16) : gr M (78 + 3 * i) 7 = some (80 + 3 * i) := cstR h (kf_task_70 i hi)
theorem fr_task_8 : ∀ i, i < 16 → fre (78 + 3 * i) 8 = true := by decide +kernel
theorem wk_task_8 {i : Nat} (hi : i < 16) {x : Int32} : wok (78 + 3 * i) 8 (.int x) := wok_i (sh_task i hi) (by decide) (by decide) rfl (fr_task_8 i hi)
theorem fr_task_9 : ∀ i, i < 16 → fre (78 + 3 * i) 9 = true := by decide +kernel
theorem wk_task_9 {i : Nat} (hi : i < 16) {x : Int32} : wok (78 + 3 * i) 9 (.int x) := wok_i (sh_task i hi) (by decide) (by decide) rfl (fr_task_9 i hi)
theorem sh_tpow : ∀ i, i < 16 → shp (79 + 3 * i) = (1, 4) := by decide +kernel
theorem fr_tpow : ∀ i, i < 16 → ∀ j, j < 4 → fre (79 + 3 * i) j = true := by decide +kernel
theorem wk_tpow {i j : Nat} (hi : i < 16) (hj : j < 4) {x : Int32} : wok (79 + 3 * i) j (.int x) := wok_i (sh_tpow i hi) (by decide) hj rfl (fr_tpow i hi j hj)
theorem sh_thld : ∀ i, i < 16 → shp (80 + 3 * i) = (13, 3) := by decide +kernel
theorem fr_thld : ∀ i, i < 16 → ∀ j, j < 3 → fre (80 + 3 * i) j = true := by decide +kernel
theorem wk_thld {i j : Nat} (hi : i < 16) (hj : j < 3) {o : Option Nat} : wok (80 + 3 * i) j (rf o) := wok_r (sh_thld i hi) (by decide) hj rfl (fr_thld i hi j hj)
theorem sh_filt : ∀ i, i < 4 → shp (127 + 4 * i) = (14, 4) := by decide +kernel
theorem kf_filt_00 : ∀ i, i < 4 → CST.contains (127 + 4 * i, 0, .ref (128 + 4 * i)) = true := by decide +kernel
theorem kf_filt_0 {M : mH} (h : wf M) {i : Nat} (hi : i < 4) : gr M (127 + 4 * i) 0 = some (128 + 4 * i) := cstR h (kf_filt_00 i hi)
theorem kf_filt_10 : ∀ i, i < 4 → CST.contains (127 + 4 * i, 1, .ref (129 + 4 * i)) = true := by decide +kernel
theorem kf_filt_1 {M : mH} (h : wf M) {i : Nat} (hi : i < 4) : gr M (127 + 4 * i) 1 = some (129 + 4 * i) := cstR h (kf_filt_10 i hi)
theorem kf_filt_20 : ∀ i, i < 4 → CST.contains (127 + 4 * i, 2, .ref (130 + 4 * i)) = true := by decide +kernel
theorem kf_filt_2 {M : mH} (h : wf M) {i : Nat} (hi : i < 4) : gr M (127 + 4 * i) 2 = some (130 + 4 * i) := cstR h (kf_filt_20 i hi)
theorem fr_filt_3 : ∀ i, i < 4 → fre (127 + 4 * i) 3 = true := by decide +kernel
theorem wk_filt_3 {i : Nat} (hi : i < 4) {x : Int32} : wok (127 + 4 * i) 3 (.int x) := wok_i (sh_filt i hi) (by decide) (by decide) rfl (fr_filt_3 i hi)
theorem sh_fop : ∀ i, i < 4 → shp (128 + 4 * i) = (1, 10) := by decide +kernel
theorem fr_fop : ∀ i, i < 4 → ∀ j, j < 10 → fre (128 + 4 * i) j = true := by decide +kernel
theorem wk_fop {i j : Nat} (hi : i < 4) (hj : j < 10) {x : Int32} : wok (128 + 4 * i) j (.int x) := wok_i (sh_fop i hi) (by decide) hj rfl (fr_fop i hi j hj)
theorem sh_ffs : ∀ i, i < 4 → shp (129 + 4 * i) = (1, 10) := by decide +kernel
theorem fr_ffs : ∀ i, i < 4 → ∀ j, j < 10 → fre (129 + 4 * i) j = true := by decide +kernel
theorem wk_ffs {i j : Nat} (hi : i < 4) (hj : j < 10) {x : Int32} : wok (129 + 4 * i) j (.int x) := wok_i (sh_ffs i hi) (by decide) hj rfl (fr_ffs i hi j hj)
theorem sh_fsc : ∀ i, i < 4 → shp (130 + 4 * i) = (1, 10) := by decide +kernel
theorem fr_fsc : ∀ i, i < 4 → ∀ j, j < 10 → fre (130 + 4 * i) j = true := by decide +kernel
theorem wk_fsc {i j : Nat} (hi : i < 4) (hj : j < 10) {x : Int32} : wok (130 + 4 * i) j (.int x) := wok_i (sh_fsc i hi) (by decide) hj rfl (fr_fsc i hi j hj)
theorem sh_mrow : ∀ i, i < 4 → ∀ j, j < 4 → shp (39 + 10 * i + j) = (8, 3) := by decide +kernel
theorem fr_mrow_0 : ∀ i, i < 4 → ∀ j, j < 4 → fre (39 + 10 * i + j) 0 = true := by decide +kernel
theorem wk_mrow_0 {i j : Nat} (hi : i < 4) (hj : j < 4) {o : Option Nat} : wok (39 + 10 * i + j) 0 (rf o) := wok_r (sh_mrow i hi j hj) (by decide) (by decide) rfl (fr_mrow_0 i hi j hj)
theorem fr_mrow_1 : ∀ i, i < 4 → ∀ j, j < 4 → fre (39 + 10 * i + j) 1 = true := by decide +kernel
theorem wk_mrow_1 {i j : Nat} (hi : i < 4) (hj : j < 4) {o : Option Nat} : wok (39 + 10 * i + j) 1 (rf o) := wok_r (sh_mrow i hi j hj) (by decide) (by decide) rfl (fr_mrow_1 i hi j hj)
theorem fr_mrow_2 : ∀ i, i < 4 → ∀ j, j < 4 → fre (39 + 10 * i + j) 2 = true := by decide +kernel
theorem wk_mrow_2 {i j : Nat} (hi : i < 4) (hj : j < 4) {o : Option Nat} : wok (39 + 10 * i + j) 2 (rf o) := wok_r (sh_mrow i hi j hj) (by decide) (by decide) rfl (fr_mrow_2 i hi j hj)
theorem ka_nodes0 : ∀ i, i < 32 → CST.contains (3, i, .ref (4 + i)) = true := by decide +kernel
theorem ka_nodes {M : mH} (h : wf M) {i : Nat} (hi : i < 32) : gr M 3 i = some (4 + i) := cstR h (ka_nodes0 i hi)
theorem ka_cages0 : ∀ i, i < 4 → CST.contains (36, i, .ref (37 + 10 * i)) = true := by decide +kernel
theorem ka_cages {M : mH} (h : wf M) {i : Nat} (hi : i < 4) : gr M 36 i = some (37 + 10 * i) := cstR h (ka_cages0 i hi)
theorem ka_tasks0 : ∀ i, i < 16 → CST.contains (77, i, .ref (78 + 3 * i)) = true := by decide +kernel
theorem ka_tasks {M : mH} (h : wf M) {i : Nat} (hi : i < 16) : gr M 77 i = some (78 + 3 * i) := cstR h (ka_tasks0 i hi)
theorem ka_filts0 : ∀ i, i < 4 → CST.contains (126, i, .ref (127 + 4 * i)) = true := by decide +kernel
theorem ka_filts {M : mH} (h : wf M) {i : Nat} (hi : i < 4) : gr M 126 i = some (127 + 4 * i) := cstR h (ka_filts0 i hi)
theorem w_1_6 {x : Int32} : wok 1 6 (.int x) := wok_i sh_1 (by decide) (by decide) rfl (by decide)
theorem w_1_7 {x : Int32} : wok 1 7 (.int x) := wok_i sh_1 (by decide) (by decide) rfl (by decide)
theorem w_1_8 {x : Int32} : wok 1 8 (.int x) := wok_i sh_1 (by decide) (by decide) rfl (by decide)
theorem w_143_0 {o : Option Nat} : wok 143 0 (rf o) := wok_r sh_143 (by decide) (by decide) rfl (by decide)
theorem w_143_1 {o : Option Nat} : wok 143 1 (rf o) := wok_r sh_143 (by decide) (by decide) rfl (by decide)
theorem w_144_0 {o : Option Nat} : wok 144 0 (rf o) := wok_r sh_144 (by decide) (by decide) rfl (by decide)
theorem w_144_1 {o : Option Nat} : wok 144 1 (rf o) := wok_r sh_144 (by decide) (by decide) rfl (by decide)
theorem w_145_36 {x : Int32} : wok 145 36 (.int x) := wok_i sh_145 (by decide) (by decide) rfl (by decide)
theorem w_145_37 {x : Int32} : wok 145 37 (.int x) := wok_i sh_145 (by decide) (by decide) rfl (by decide)
theorem w_145_38 {x : Int32} : wok 145 38 (.int x) := wok_i sh_145 (by decide) (by decide) rfl (by decide)
theorem w_145_39 {x : Int32} : wok 145 39 (.int x) := wok_i sh_145 (by decide) (by decide) rfl (by decide)
theorem w_145_40 {x : Int32} : wok 145 40 (.int x) := wok_i sh_145 (by decide) (by decide) rfl (by decide)
theorem w_145_41 {x : Int32} : wok 145 41 (.int x) := wok_i sh_145 (by decide) (by decide) rfl (by decide)
theorem fr_146 : ∀ j, j < 32 → fre 146 j = true := by decide +kernel
theorem w_146 {j : Nat} (hj : j < 32) {x : Int32} (hx : (x == 0 || x == 1) = true) : wok 146 j (.int x) := wok_z hx sh_146 (by decide) hj rfl (fr_146 j hj)
theorem fr_147 : ∀ j, j < 32 → fre 147 j = true := by decide +kernel
theorem w_147 {j : Nat} (hj : j < 32) {x : Int32} : wok 147 j (.int x) := wok_i sh_147 (by decide) hj rfl (fr_147 j hj)
theorem fr_148 : ∀ j, j < 32 → fre 148 j = true := by decide +kernel
theorem w_148 {j : Nat} (hj : j < 32) {x : Int32} : wok 148 j (.int x) := wok_i sh_148 (by decide) hj rfl (fr_148 j hj)
theorem fr_149 : ∀ j, j < 32 → fre 149 j = true := by decide +kernel
theorem w_149 {j : Nat} (hj : j < 32) {x : Int32} : wok 149 j (.int x) := wok_i sh_149 (by decide) hj rfl (fr_149 j hj)
theorem fr_150 : ∀ j, j < 32 → fre 150 j = true := by decide +kernel
theorem w_150 {j : Nat} (hj : j < 32) {x : Int32} : wok 150 j (.int x) := wok_i sh_150 (by decide) hj rfl (fr_150 j hj)
theorem fr_151 : ∀ j, j < 32 → fre 151 j = true := by decide +kernel
theorem w_151 {j : Nat} (hj : j < 32) {x : Int32} : wok 151 j (.int x) := wok_i sh_151 (by decide) hj rfl (fr_151 j hj)
theorem fr_152 : ∀ j, j < 32 → fre 152 j = true := by decide +kernel
theorem w_152 {j : Nat} (hj : j < 32) {x : Int32} : wok 152 j (.int x) := wok_i sh_152 (by decide) hj rfl (fr_152 j hj)
theorem fr_153 : ∀ j, j < 4 → fre 153 j = true := by decide +kernel
theorem w_153 {j : Nat} (hj : j < 4) {x : Int32} : wok 153 j (.int x) := wok_i sh_153 (by decide) hj rfl (fr_153 j hj)
theorem fr_154 : ∀ j, j < 4 → fre 154 j = true := by decide +kernel
theorem w_154 {j : Nat} (hj : j < 4) {x : Int32} : wok 154 j (.int x) := wok_i sh_154 (by decide) hj rfl (fr_154 j hj)
theorem fr_155 : ∀ j, j < 4 → fre 155 j = true := by decide +kernel
theorem w_155 {j : Nat} (hj : j < 4) {x : Int32} : wok 155 j (.int x) := wok_i sh_155 (by decide) hj rfl (fr_155 j hj)
theorem fr_156 : ∀ j, j < 4 → fre 156 j = true := by decide +kernel
theorem w_156 {j : Nat} (hj : j < 4) {x : Int32} : wok 156 j (.int x) := wok_i sh_156 (by decide) hj rfl (fr_156 j hj)
theorem fr_157 : ∀ j, j < 4 → fre 157 j = true := by decide +kernel
theorem w_157 {j : Nat} (hj : j < 4) {x : Int32} : wok 157 j (.int x) := wok_i sh_157 (by decide) hj rfl (fr_157 j hj)
theorem fr_158 : ∀ j, j < 4 → fre 158 j = true := by decide +kernel
theorem w_158 {j : Nat} (hj : j < 4) {x : Int32} : wok 158 j (.int x) := wok_i sh_158 (by decide) hj rfl (fr_158 j hj)
theorem fr_159 : ∀ j, j < 4 → fre 159 j = true := by decide +kernel
theorem w_159 {j : Nat} (hj : j < 4) {x : Int32} : wok 159 j (.int x) := wok_i sh_159 (by decide) hj rfl (fr_159 j hj)
theorem fr_160 : ∀ j, j < 8 → fre 160 j = true := by decide +kernel
theorem w_160 {j : Nat} (hj : j < 8) {x : Int32} : wok 160 j (.int x) := wok_i sh_160 (by decide) hj rfl (fr_160 j hj)
theorem fr_161 : ∀ j, j < 24 → fre 161 j = true := by decide +kernel
theorem w_161 {j : Nat} (hj : j < 24) {x : Int32} : wok 161 j (.int x) := wok_i sh_161 (by decide) hj rfl (fr_161 j hj)
theorem fr_162 : ∀ j, j < 4 → fre 162 j = true := by decide +kernel
theorem w_162 {j : Nat} (hj : j < 4) {x : Int32} (hx : (x == 0 || x == 1) = true) : wok 162 j (.int x) := wok_z hx sh_162 (by decide) hj rfl (fr_162 j hj)
theorem fr_163 : ∀ j, j < 16 → fre 163 j = true := by decide +kernel
theorem w_163 {j : Nat} (hj : j < 16) {x : Int32} (hx : (x == 0 || x == 1) = true) : wok 163 j (.int x) := wok_z hx sh_163 (by decide) hj rfl (fr_163 j hj)
theorem fr_164 : ∀ j, j < 16 → fre 164 j = true := by decide +kernel
theorem w_164 {j : Nat} (hj : j < 16) {x : Int32} : wok 164 j (.int x) := wok_i sh_164 (by decide) hj rfl (fr_164 j hj)
theorem fr_165 : ∀ j, j < 16 → fre 165 j = true := by decide +kernel
theorem w_165 {j : Nat} (hj : j < 16) {x : Int32} : wok 165 j (.int x) := wok_i sh_165 (by decide) hj rfl (fr_165 j hj)
theorem fr_166 : ∀ j, j < 16 → fre 166 j = true := by decide +kernel
theorem w_166 {j : Nat} (hj : j < 16) {x : Int32} : wok 166 j (.int x) := wok_i sh_166 (by decide) hj rfl (fr_166 j hj)
theorem fr_167 : ∀ j, j < 16 → fre 167 j = true := by decide +kernel
theorem w_167 {j : Nat} (hj : j < 16) {x : Int32} : wok 167 j (.int x) := wok_i sh_167 (by decide) hj rfl (fr_167 j hj)
theorem fr_168 : ∀ j, j < 16 → fre 168 j = true := by decide +kernel
theorem w_168 {j : Nat} (hj : j < 16) {x : Int32} (hx : (x == 0 || x == 1) = true) : wok 168 j (.int x) := wok_z hx sh_168 (by decide) hj rfl (fr_168 j hj)
theorem fr_169 : ∀ j, j < 16 → fre 169 j = true := by decide +kernel
theorem w_169 {j : Nat} (hj : j < 16) {x : Int32} : wok 169 j (.int x) := wok_i sh_169 (by decide) hj rfl (fr_169 j hj)
theorem fr_170 : ∀ j, j < 16 → fre 170 j = true := by decide +kernel
theorem w_170 {j : Nat} (hj : j < 16) {x : Int32} : wok 170 j (.int x) := wok_i sh_170 (by decide) hj rfl (fr_170 j hj)
theorem fr_171 : ∀ j, j < 16 → fre 171 j = true := by decide +kernel
theorem w_171 {j : Nat} (hj : j < 16) {x : Int32} : wok 171 j (.int x) := wok_i sh_171 (by decide) hj rfl (fr_171 j hj)
theorem fr_172 : ∀ j, j < 16 → fre 172 j = true := by decide +kernel
theorem w_172 {j : Nat} (hj : j < 16) {x : Int32} : wok 172 j (.int x) := wok_i sh_172 (by decide) hj rfl (fr_172 j hj)
theorem fr_173 : ∀ j, j < 16 → fre 173 j = true := by decide +kernel
theorem w_173 {j : Nat} (hj : j < 16) {x : Int32} : wok 173 j (.int x) := wok_i sh_173 (by decide) hj rfl (fr_173 j hj)
theorem fr_174 : ∀ j, j < 16 → fre 174 j = true := by decide +kernel
theorem w_174 {j : Nat} (hj : j < 16) {x : Int32} : wok 174 j (.int x) := wok_i sh_174 (by decide) hj rfl (fr_174 j hj)
theorem fr_175 : ∀ j, j < 48 → fre 175 j = true := by decide +kernel
theorem w_175 {j : Nat} (hj : j < 48) {x : Int32} : wok 175 j (.int x) := wok_i sh_175 (by decide) hj rfl (fr_175 j hj)
theorem fr_176 : ∀ j, j < 64 → fre 176 j = true := by decide +kernel
theorem w_176 {j : Nat} (hj : j < 64) {x : Int32} : wok 176 j (.int x) := wok_i sh_176 (by decide) hj rfl (fr_176 j hj)
theorem fr_177 : ∀ j, j < 16 → fre 177 j = true := by decide +kernel
theorem w_177 {j : Nat} (hj : j < 16) {x : Int32} : wok 177 j (.int x) := wok_i sh_177 (by decide) hj rfl (fr_177 j hj)
theorem fr_178 : ∀ j, j < 40 → fre 178 j = true := by decide +kernel
theorem w_178 {j : Nat} (hj : j < 40) {x : Int32} : wok 178 j (.int x) := wok_i sh_178 (by decide) hj rfl (fr_178 j hj)
theorem fr_179 : ∀ j, j < 40 → fre 179 j = true := by decide +kernel
theorem w_179 {j : Nat} (hj : j < 40) {x : Int32} : wok 179 j (.int x) := wok_i sh_179 (by decide) hj rfl (fr_179 j hj)
theorem fr_180 : ∀ j, j < 40 → fre 180 j = true := by decide +kernel
theorem w_180 {j : Nat} (hj : j < 40) {x : Int32} : wok 180 j (.int x) := wok_i sh_180 (by decide) hj rfl (fr_180 j hj)
theorem fr_181 : ∀ j, j < 4 → fre 181 j = true := by decide +kernel
theorem w_181 {j : Nat} (hj : j < 4) {x : Int32} : wok 181 j (.int x) := wok_i sh_181 (by decide) hj rfl (fr_181 j hj)
