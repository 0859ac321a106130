/-! PRINTED by wip/whole/view.py: the reference's arrays as one function r (0: its own ints; 1 isNode, 2 inside, 3 name, 4 kind, 5 owner, 6 value, 7 maker, 8 root, 9 low, 10 users, 11 outer, 12 mostNodes, 13 mostProcesses, 14 given, 15 queued, 16 queue, 17 started, 18 isMount, 19 point, 20 pointBy, 21 shows, 22 age, 23 crossed, 24 state, 25 cageOf, 26 number, 27 user, 28 parent, 29 filters, 30 filter, 31 powers, 32 code, 33 op, 34 first, 35 second, 36 steps); the class's cells as another -/
abbrev RS : Type := Nat → Nat → Int32
def rg (M : mH) : RS := fun a k => gi M (145 + a) k
def ru (r : RS) (a k : Nat) (x : Int32) : RS := fun a' k' => if a' = a ∧ k' = k then x else r a' k'
def cg (M : mH) : Nat → Nat → Value := fun a k => if a < 145 then mv M a k else .null
def cu (c : Nat → Nat → Value) (a k : Nat) (v : Value) : Nat → Nat → Value := fun a' k' => if a' = a ∧ k' = k then v else c a' k'
theorem rg_lo {M : mH} (h : wf M) {a k : Nat} {v : Value} (hw : wok a k v) (ha : a < 145) : rg (mu M a k v) = rg M := by
  funext a' k'
  unfold rg
  rw [gi_mu h hw, if_neg (fun z => by omega)]
theorem rg_hi {M : mH} (h : wf M) {a k : Nat} {x : Int32} (hw : wok (145 + a) k (.int x)) : rg (mu M (145 + a) k (.int x)) = ru (rg M) a k x := by
  funext a' k'
  unfold rg ru
  rw [gi_mu h hw]
  by_cases h1 : a' = a
  · subst h1
    by_cases h2 : k' = k
    · rw [if_pos ⟨rfl, h2⟩, if_pos ⟨rfl, h2⟩]; rfl
    · rw [if_neg (fun z => h2 z.2), if_neg (fun z => h2 z.2)]
  · rw [if_neg (fun z => h1 (by omega)), if_neg (fun z => h1 z.1)]
theorem cg_hi {M : mH} (h : wf M) {a k : Nat} {v : Value} (hw : wok a k v) (ha : 145 ≤ a) : cg (mu M a k v) = cg M := by
  funext a' k'
  unfold cg
  by_cases h1 : a' < 145
  · rw [if_pos h1, if_pos h1, mv_mu h rfl hw.2.1 hw.1, if_neg (fun z => by omega)]
  · rw [if_neg h1, if_neg h1]
theorem cg_lo {M : mH} (h : wf M) {a k : Nat} {v : Value} (hw : wok a k v) (ha : a < 145) : cg (mu M a k v) = cu (cg M) a k v := by
  funext a' k'
  show (if a' < 145 then mv (mu M a k v) a' k' else .null) = if a' = a ∧ k' = k then v else (if a' < 145 then mv M a' k' else .null)
  by_cases h1 : a' < 145
  · rw [if_pos h1, if_pos h1, mv_mu h rfl hw.2.1 hw.1]
  · rw [if_neg h1, if_neg h1, if_neg (fun z => by omega)]
theorem g_146 {M : mH} {k : Nat} : gi M 146 k = rg M 1 k := rfl
theorem wm_146 {M : mH} (hw : wf M) {j : Nat} (hj : j < 32) {x : Int32} (hx : (x == 0 || x == 1) = true) : wf (mu M 146 j (.int x)) := hw.mu (w_146 hj hx)
theorem rm_146 {M : mH} (hw : wf M) {j : Nat} (hj : j < 32) {x : Int32} (hx : (x == 0 || x == 1) = true) : rg (mu M 146 j (.int x)) = ru (rg M) 1 j x := rg_hi (a := 1) hw (w_146 hj hx)
theorem cm_146 {M : mH} (hw : wf M) {j : Nat} (hj : j < 32) {x : Int32} (hx : (x == 0 || x == 1) = true) : cg (mu M 146 j (.int x)) = cg M := cg_hi hw (w_146 hj hx) (by decide)
theorem g_147 {M : mH} {k : Nat} : gi M 147 k = rg M 2 k := rfl
theorem wm_147 {M : mH} (hw : wf M) {j : Nat} (hj : j < 32) {x : Int32} : wf (mu M 147 j (.int x)) := hw.mu (w_147 hj)
theorem rm_147 {M : mH} (hw : wf M) {j : Nat} (hj : j < 32) {x : Int32} : rg (mu M 147 j (.int x)) = ru (rg M) 2 j x := rg_hi (a := 2) hw (w_147 hj)
theorem cm_147 {M : mH} (hw : wf M) {j : Nat} (hj : j < 32) {x : Int32} : cg (mu M 147 j (.int x)) = cg M := cg_hi hw (w_147 hj) (by decide)
theorem g_148 {M : mH} {k : Nat} : gi M 148 k = rg M 3 k := rfl
theorem wm_148 {M : mH} (hw : wf M) {j : Nat} (hj : j < 32) {x : Int32} : wf (mu M 148 j (.int x)) := hw.mu (w_148 hj)
theorem rm_148 {M : mH} (hw : wf M) {j : Nat} (hj : j < 32) {x : Int32} : rg (mu M 148 j (.int x)) = ru (rg M) 3 j x := rg_hi (a := 3) hw (w_148 hj)
theorem cm_148 {M : mH} (hw : wf M) {j : Nat} (hj : j < 32) {x : Int32} : cg (mu M 148 j (.int x)) = cg M := cg_hi hw (w_148 hj) (by decide)
theorem g_149 {M : mH} {k : Nat} : gi M 149 k = rg M 4 k := rfl
theorem wm_149 {M : mH} (hw : wf M) {j : Nat} (hj : j < 32) {x : Int32} : wf (mu M 149 j (.int x)) := hw.mu (w_149 hj)
theorem rm_149 {M : mH} (hw : wf M) {j : Nat} (hj : j < 32) {x : Int32} : rg (mu M 149 j (.int x)) = ru (rg M) 4 j x := rg_hi (a := 4) hw (w_149 hj)
theorem cm_149 {M : mH} (hw : wf M) {j : Nat} (hj : j < 32) {x : Int32} : cg (mu M 149 j (.int x)) = cg M := cg_hi hw (w_149 hj) (by decide)
theorem g_150 {M : mH} {k : Nat} : gi M 150 k = rg M 5 k := rfl
theorem wm_150 {M : mH} (hw : wf M) {j : Nat} (hj : j < 32) {x : Int32} : wf (mu M 150 j (.int x)) := hw.mu (w_150 hj)
theorem rm_150 {M : mH} (hw : wf M) {j : Nat} (hj : j < 32) {x : Int32} : rg (mu M 150 j (.int x)) = ru (rg M) 5 j x := rg_hi (a := 5) hw (w_150 hj)
theorem cm_150 {M : mH} (hw : wf M) {j : Nat} (hj : j < 32) {x : Int32} : cg (mu M 150 j (.int x)) = cg M := cg_hi hw (w_150 hj) (by decide)
theorem g_151 {M : mH} {k : Nat} : gi M 151 k = rg M 6 k := rfl
theorem wm_151 {M : mH} (hw : wf M) {j : Nat} (hj : j < 32) {x : Int32} : wf (mu M 151 j (.int x)) := hw.mu (w_151 hj)
theorem rm_151 {M : mH} (hw : wf M) {j : Nat} (hj : j < 32) {x : Int32} : rg (mu M 151 j (.int x)) = ru (rg M) 6 j x := rg_hi (a := 6) hw (w_151 hj)
theorem cm_151 {M : mH} (hw : wf M) {j : Nat} (hj : j < 32) {x : Int32} : cg (mu M 151 j (.int x)) = cg M := cg_hi hw (w_151 hj) (by decide)
theorem g_152 {M : mH} {k : Nat} : gi M 152 k = rg M 7 k := rfl
theorem wm_152 {M : mH} (hw : wf M) {j : Nat} (hj : j < 32) {x : Int32} : wf (mu M 152 j (.int x)) := hw.mu (w_152 hj)
theorem rm_152 {M : mH} (hw : wf M) {j : Nat} (hj : j < 32) {x : Int32} : rg (mu M 152 j (.int x)) = ru (rg M) 7 j x := rg_hi (a := 7) hw (w_152 hj)
theorem cm_152 {M : mH} (hw : wf M) {j : Nat} (hj : j < 32) {x : Int32} : cg (mu M 152 j (.int x)) = cg M := cg_hi hw (w_152 hj) (by decide)
theorem g_153 {M : mH} {k : Nat} : gi M 153 k = rg M 8 k := rfl
theorem wm_153 {M : mH} (hw : wf M) {j : Nat} (hj : j < 4) {x : Int32} : wf (mu M 153 j (.int x)) := hw.mu (w_153 hj)
theorem rm_153 {M : mH} (hw : wf M) {j : Nat} (hj : j < 4) {x : Int32} : rg (mu M 153 j (.int x)) = ru (rg M) 8 j x := rg_hi (a := 8) hw (w_153 hj)
theorem cm_153 {M : mH} (hw : wf M) {j : Nat} (hj : j < 4) {x : Int32} : cg (mu M 153 j (.int x)) = cg M := cg_hi hw (w_153 hj) (by decide)
theorem g_154 {M : mH} {k : Nat} : gi M 154 k = rg M 9 k := rfl
theorem wm_154 {M : mH} (hw : wf M) {j : Nat} (hj : j < 4) {x : Int32} : wf (mu M 154 j (.int x)) := hw.mu (w_154 hj)
theorem rm_154 {M : mH} (hw : wf M) {j : Nat} (hj : j < 4) {x : Int32} : rg (mu M 154 j (.int x)) = ru (rg M) 9 j x := rg_hi (a := 9) hw (w_154 hj)
theorem cm_154 {M : mH} (hw : wf M) {j : Nat} (hj : j < 4) {x : Int32} : cg (mu M 154 j (.int x)) = cg M := cg_hi hw (w_154 hj) (by decide)
theorem g_155 {M : mH} {k : Nat} : gi M 155 k = rg M 10 k := rfl
theorem wm_155 {M : mH} (hw : wf M) {j : Nat} (hj : j < 4) {x : Int32} : wf (mu M 155 j (.int x)) := hw.mu (w_155 hj)
theorem rm_155 {M : mH} (hw : wf M) {j : Nat} (hj : j < 4) {x : Int32} : rg (mu M 155 j (.int x)) = ru (rg M) 10 j x := rg_hi (a := 10) hw (w_155 hj)
theorem cm_155 {M : mH} (hw : wf M) {j : Nat} (hj : j < 4) {x : Int32} : cg (mu M 155 j (.int x)) = cg M := cg_hi hw (w_155 hj) (by decide)
theorem g_156 {M : mH} {k : Nat} : gi M 156 k = rg M 11 k := rfl
theorem wm_156 {M : mH} (hw : wf M) {j : Nat} (hj : j < 4) {x : Int32} : wf (mu M 156 j (.int x)) := hw.mu (w_156 hj)
theorem rm_156 {M : mH} (hw : wf M) {j : Nat} (hj : j < 4) {x : Int32} : rg (mu M 156 j (.int x)) = ru (rg M) 11 j x := rg_hi (a := 11) hw (w_156 hj)
theorem cm_156 {M : mH} (hw : wf M) {j : Nat} (hj : j < 4) {x : Int32} : cg (mu M 156 j (.int x)) = cg M := cg_hi hw (w_156 hj) (by decide)
theorem g_157 {M : mH} {k : Nat} : gi M 157 k = rg M 12 k := rfl
theorem wm_157 {M : mH} (hw : wf M) {j : Nat} (hj : j < 4) {x : Int32} : wf (mu M 157 j (.int x)) := hw.mu (w_157 hj)
theorem rm_157 {M : mH} (hw : wf M) {j : Nat} (hj : j < 4) {x : Int32} : rg (mu M 157 j (.int x)) = ru (rg M) 12 j x := rg_hi (a := 12) hw (w_157 hj)
theorem cm_157 {M : mH} (hw : wf M) {j : Nat} (hj : j < 4) {x : Int32} : cg (mu M 157 j (.int x)) = cg M := cg_hi hw (w_157 hj) (by decide)
theorem g_158 {M : mH} {k : Nat} : gi M 158 k = rg M 13 k := rfl
theorem wm_158 {M : mH} (hw : wf M) {j : Nat} (hj : j < 4) {x : Int32} : wf (mu M 158 j (.int x)) := hw.mu (w_158 hj)
theorem rm_158 {M : mH} (hw : wf M) {j : Nat} (hj : j < 4) {x : Int32} : rg (mu M 158 j (.int x)) = ru (rg M) 13 j x := rg_hi (a := 13) hw (w_158 hj)
theorem cm_158 {M : mH} (hw : wf M) {j : Nat} (hj : j < 4) {x : Int32} : cg (mu M 158 j (.int x)) = cg M := cg_hi hw (w_158 hj) (by decide)
theorem g_159 {M : mH} {k : Nat} : gi M 159 k = rg M 14 k := rfl
theorem wm_159 {M : mH} (hw : wf M) {j : Nat} (hj : j < 4) {x : Int32} : wf (mu M 159 j (.int x)) := hw.mu (w_159 hj)
theorem rm_159 {M : mH} (hw : wf M) {j : Nat} (hj : j < 4) {x : Int32} : rg (mu M 159 j (.int x)) = ru (rg M) 14 j x := rg_hi (a := 14) hw (w_159 hj)
theorem cm_159 {M : mH} (hw : wf M) {j : Nat} (hj : j < 4) {x : Int32} : cg (mu M 159 j (.int x)) = cg M := cg_hi hw (w_159 hj) (by decide)
theorem g_160 {M : mH} {k : Nat} : gi M 160 k = rg M 15 k := rfl
theorem wm_160 {M : mH} (hw : wf M) {j : Nat} (hj : j < 8) {x : Int32} : wf (mu M 160 j (.int x)) := hw.mu (w_160 hj)
theorem rm_160 {M : mH} (hw : wf M) {j : Nat} (hj : j < 8) {x : Int32} : rg (mu M 160 j (.int x)) = ru (rg M) 15 j x := rg_hi (a := 15) hw (w_160 hj)
theorem cm_160 {M : mH} (hw : wf M) {j : Nat} (hj : j < 8) {x : Int32} : cg (mu M 160 j (.int x)) = cg M := cg_hi hw (w_160 hj) (by decide)
theorem g_161 {M : mH} {k : Nat} : gi M 161 k = rg M 16 k := rfl
theorem wm_161 {M : mH} (hw : wf M) {j : Nat} (hj : j < 24) {x : Int32} : wf (mu M 161 j (.int x)) := hw.mu (w_161 hj)
theorem rm_161 {M : mH} (hw : wf M) {j : Nat} (hj : j < 24) {x : Int32} : rg (mu M 161 j (.int x)) = ru (rg M) 16 j x := rg_hi (a := 16) hw (w_161 hj)
theorem cm_161 {M : mH} (hw : wf M) {j : Nat} (hj : j < 24) {x : Int32} : cg (mu M 161 j (.int x)) = cg M := cg_hi hw (w_161 hj) (by decide)
theorem g_162 {M : mH} {k : Nat} : gi M 162 k = rg M 17 k := rfl
theorem wm_162 {M : mH} (hw : wf M) {j : Nat} (hj : j < 4) {x : Int32} (hx : (x == 0 || x == 1) = true) : wf (mu M 162 j (.int x)) := hw.mu (w_162 hj hx)
theorem rm_162 {M : mH} (hw : wf M) {j : Nat} (hj : j < 4) {x : Int32} (hx : (x == 0 || x == 1) = true) : rg (mu M 162 j (.int x)) = ru (rg M) 17 j x := rg_hi (a := 17) hw (w_162 hj hx)
theorem cm_162 {M : mH} (hw : wf M) {j : Nat} (hj : j < 4) {x : Int32} (hx : (x == 0 || x == 1) = true) : cg (mu M 162 j (.int x)) = cg M := cg_hi hw (w_162 hj hx) (by decide)
theorem g_163 {M : mH} {k : Nat} : gi M 163 k = rg M 18 k := rfl
theorem wm_163 {M : mH} (hw : wf M) {j : Nat} (hj : j < 16) {x : Int32} (hx : (x == 0 || x == 1) = true) : wf (mu M 163 j (.int x)) := hw.mu (w_163 hj hx)
theorem rm_163 {M : mH} (hw : wf M) {j : Nat} (hj : j < 16) {x : Int32} (hx : (x == 0 || x == 1) = true) : rg (mu M 163 j (.int x)) = ru (rg M) 18 j x := rg_hi (a := 18) hw (w_163 hj hx)
theorem cm_163 {M : mH} (hw : wf M) {j : Nat} (hj : j < 16) {x : Int32} (hx : (x == 0 || x == 1) = true) : cg (mu M 163 j (.int x)) = cg M := cg_hi hw (w_163 hj hx) (by decide)
theorem g_164 {M : mH} {k : Nat} : gi M 164 k = rg M 19 k := rfl
theorem wm_164 {M : mH} (hw : wf M) {j : Nat} (hj : j < 16) {x : Int32} : wf (mu M 164 j (.int x)) := hw.mu (w_164 hj)
theorem rm_164 {M : mH} (hw : wf M) {j : Nat} (hj : j < 16) {x : Int32} : rg (mu M 164 j (.int x)) = ru (rg M) 19 j x := rg_hi (a := 19) hw (w_164 hj)
theorem cm_164 {M : mH} (hw : wf M) {j : Nat} (hj : j < 16) {x : Int32} : cg (mu M 164 j (.int x)) = cg M := cg_hi hw (w_164 hj) (by decide)
theorem g_165 {M : mH} {k : Nat} : gi M 165 k = rg M 20 k := rfl
theorem wm_165 {M : mH} (hw : wf M) {j : Nat} (hj : j < 16) {x : Int32} : wf (mu M 165 j (.int x)) := hw.mu (w_165 hj)
theorem rm_165 {M : mH} (hw : wf M) {j : Nat} (hj : j < 16) {x : Int32} : rg (mu M 165 j (.int x)) = ru (rg M) 20 j x := rg_hi (a := 20) hw (w_165 hj)
theorem cm_165 {M : mH} (hw : wf M) {j : Nat} (hj : j < 16) {x : Int32} : cg (mu M 165 j (.int x)) = cg M := cg_hi hw (w_165 hj) (by decide)
theorem g_166 {M : mH} {k : Nat} : gi M 166 k = rg M 21 k := rfl
theorem wm_166 {M : mH} (hw : wf M) {j : Nat} (hj : j < 16) {x : Int32} : wf (mu M 166 j (.int x)) := hw.mu (w_166 hj)
theorem rm_166 {M : mH} (hw : wf M) {j : Nat} (hj : j < 16) {x : Int32} : rg (mu M 166 j (.int x)) = ru (rg M) 21 j x := rg_hi (a := 21) hw (w_166 hj)
theorem cm_166 {M : mH} (hw : wf M) {j : Nat} (hj : j < 16) {x : Int32} : cg (mu M 166 j (.int x)) = cg M := cg_hi hw (w_166 hj) (by decide)
theorem g_167 {M : mH} {k : Nat} : gi M 167 k = rg M 22 k := rfl
theorem wm_167 {M : mH} (hw : wf M) {j : Nat} (hj : j < 16) {x : Int32} : wf (mu M 167 j (.int x)) := hw.mu (w_167 hj)
theorem rm_167 {M : mH} (hw : wf M) {j : Nat} (hj : j < 16) {x : Int32} : rg (mu M 167 j (.int x)) = ru (rg M) 22 j x := rg_hi (a := 22) hw (w_167 hj)
theorem cm_167 {M : mH} (hw : wf M) {j : Nat} (hj : j < 16) {x : Int32} : cg (mu M 167 j (.int x)) = cg M := cg_hi hw (w_167 hj) (by decide)
theorem g_168 {M : mH} {k : Nat} : gi M 168 k = rg M 23 k := rfl
theorem wm_168 {M : mH} (hw : wf M) {j : Nat} (hj : j < 16) {x : Int32} (hx : (x == 0 || x == 1) = true) : wf (mu M 168 j (.int x)) := hw.mu (w_168 hj hx)
theorem rm_168 {M : mH} (hw : wf M) {j : Nat} (hj : j < 16) {x : Int32} (hx : (x == 0 || x == 1) = true) : rg (mu M 168 j (.int x)) = ru (rg M) 23 j x := rg_hi (a := 23) hw (w_168 hj hx)
theorem cm_168 {M : mH} (hw : wf M) {j : Nat} (hj : j < 16) {x : Int32} (hx : (x == 0 || x == 1) = true) : cg (mu M 168 j (.int x)) = cg M := cg_hi hw (w_168 hj hx) (by decide)
theorem g_169 {M : mH} {k : Nat} : gi M 169 k = rg M 24 k := rfl
theorem wm_169 {M : mH} (hw : wf M) {j : Nat} (hj : j < 16) {x : Int32} : wf (mu M 169 j (.int x)) := hw.mu (w_169 hj)
theorem rm_169 {M : mH} (hw : wf M) {j : Nat} (hj : j < 16) {x : Int32} : rg (mu M 169 j (.int x)) = ru (rg M) 24 j x := rg_hi (a := 24) hw (w_169 hj)
theorem cm_169 {M : mH} (hw : wf M) {j : Nat} (hj : j < 16) {x : Int32} : cg (mu M 169 j (.int x)) = cg M := cg_hi hw (w_169 hj) (by decide)
theorem g_170 {M : mH} {k : Nat} : gi M 170 k = rg M 25 k := rfl
theorem wm_170 {M : mH} (hw : wf M) {j : Nat} (hj : j < 16) {x : Int32} : wf (mu M 170 j (.int x)) := hw.mu (w_170 hj)
theorem rm_170 {M : mH} (hw : wf M) {j : Nat} (hj : j < 16) {x : Int32} : rg (mu M 170 j (.int x)) = ru (rg M) 25 j x := rg_hi (a := 25) hw (w_170 hj)
theorem cm_170 {M : mH} (hw : wf M) {j : Nat} (hj : j < 16) {x : Int32} : cg (mu M 170 j (.int x)) = cg M := cg_hi hw (w_170 hj) (by decide)
theorem g_171 {M : mH} {k : Nat} : gi M 171 k = rg M 26 k := rfl
theorem wm_171 {M : mH} (hw : wf M) {j : Nat} (hj : j < 16) {x : Int32} : wf (mu M 171 j (.int x)) := hw.mu (w_171 hj)
theorem rm_171 {M : mH} (hw : wf M) {j : Nat} (hj : j < 16) {x : Int32} : rg (mu M 171 j (.int x)) = ru (rg M) 26 j x := rg_hi (a := 26) hw (w_171 hj)
theorem cm_171 {M : mH} (hw : wf M) {j : Nat} (hj : j < 16) {x : Int32} : cg (mu M 171 j (.int x)) = cg M := cg_hi hw (w_171 hj) (by decide)
theorem g_172 {M : mH} {k : Nat} : gi M 172 k = rg M 27 k := rfl
theorem wm_172 {M : mH} (hw : wf M) {j : Nat} (hj : j < 16) {x : Int32} : wf (mu M 172 j (.int x)) := hw.mu (w_172 hj)
theorem rm_172 {M : mH} (hw : wf M) {j : Nat} (hj : j < 16) {x : Int32} : rg (mu M 172 j (.int x)) = ru (rg M) 27 j x := rg_hi (a := 27) hw (w_172 hj)
theorem cm_172 {M : mH} (hw : wf M) {j : Nat} (hj : j < 16) {x : Int32} : cg (mu M 172 j (.int x)) = cg M := cg_hi hw (w_172 hj) (by decide)
theorem g_173 {M : mH} {k : Nat} : gi M 173 k = rg M 28 k := rfl
theorem wm_173 {M : mH} (hw : wf M) {j : Nat} (hj : j < 16) {x : Int32} : wf (mu M 173 j (.int x)) := hw.mu (w_173 hj)
theorem rm_173 {M : mH} (hw : wf M) {j : Nat} (hj : j < 16) {x : Int32} : rg (mu M 173 j (.int x)) = ru (rg M) 28 j x := rg_hi (a := 28) hw (w_173 hj)
theorem cm_173 {M : mH} (hw : wf M) {j : Nat} (hj : j < 16) {x : Int32} : cg (mu M 173 j (.int x)) = cg M := cg_hi hw (w_173 hj) (by decide)
theorem g_174 {M : mH} {k : Nat} : gi M 174 k = rg M 29 k := rfl
theorem wm_174 {M : mH} (hw : wf M) {j : Nat} (hj : j < 16) {x : Int32} : wf (mu M 174 j (.int x)) := hw.mu (w_174 hj)
theorem rm_174 {M : mH} (hw : wf M) {j : Nat} (hj : j < 16) {x : Int32} : rg (mu M 174 j (.int x)) = ru (rg M) 29 j x := rg_hi (a := 29) hw (w_174 hj)
theorem cm_174 {M : mH} (hw : wf M) {j : Nat} (hj : j < 16) {x : Int32} : cg (mu M 174 j (.int x)) = cg M := cg_hi hw (w_174 hj) (by decide)
theorem g_175 {M : mH} {k : Nat} : gi M 175 k = rg M 30 k := rfl
theorem wm_175 {M : mH} (hw : wf M) {j : Nat} (hj : j < 48) {x : Int32} : wf (mu M 175 j (.int x)) := hw.mu (w_175 hj)
theorem rm_175 {M : mH} (hw : wf M) {j : Nat} (hj : j < 48) {x : Int32} : rg (mu M 175 j (.int x)) = ru (rg M) 30 j x := rg_hi (a := 30) hw (w_175 hj)
theorem cm_175 {M : mH} (hw : wf M) {j : Nat} (hj : j < 48) {x : Int32} : cg (mu M 175 j (.int x)) = cg M := cg_hi hw (w_175 hj) (by decide)
theorem g_176 {M : mH} {k : Nat} : gi M 176 k = rg M 31 k := rfl
theorem wm_176 {M : mH} (hw : wf M) {j : Nat} (hj : j < 64) {x : Int32} : wf (mu M 176 j (.int x)) := hw.mu (w_176 hj)
theorem rm_176 {M : mH} (hw : wf M) {j : Nat} (hj : j < 64) {x : Int32} : rg (mu M 176 j (.int x)) = ru (rg M) 31 j x := rg_hi (a := 31) hw (w_176 hj)
theorem cm_176 {M : mH} (hw : wf M) {j : Nat} (hj : j < 64) {x : Int32} : cg (mu M 176 j (.int x)) = cg M := cg_hi hw (w_176 hj) (by decide)
theorem g_177 {M : mH} {k : Nat} : gi M 177 k = rg M 32 k := rfl
theorem wm_177 {M : mH} (hw : wf M) {j : Nat} (hj : j < 16) {x : Int32} : wf (mu M 177 j (.int x)) := hw.mu (w_177 hj)
theorem rm_177 {M : mH} (hw : wf M) {j : Nat} (hj : j < 16) {x : Int32} : rg (mu M 177 j (.int x)) = ru (rg M) 32 j x := rg_hi (a := 32) hw (w_177 hj)
theorem cm_177 {M : mH} (hw : wf M) {j : Nat} (hj : j < 16) {x : Int32} : cg (mu M 177 j (.int x)) = cg M := cg_hi hw (w_177 hj) (by decide)
theorem g_178 {M : mH} {k : Nat} : gi M 178 k = rg M 33 k := rfl
theorem wm_178 {M : mH} (hw : wf M) {j : Nat} (hj : j < 40) {x : Int32} : wf (mu M 178 j (.int x)) := hw.mu (w_178 hj)
theorem rm_178 {M : mH} (hw : wf M) {j : Nat} (hj : j < 40) {x : Int32} : rg (mu M 178 j (.int x)) = ru (rg M) 33 j x := rg_hi (a := 33) hw (w_178 hj)
theorem cm_178 {M : mH} (hw : wf M) {j : Nat} (hj : j < 40) {x : Int32} : cg (mu M 178 j (.int x)) = cg M := cg_hi hw (w_178 hj) (by decide)
theorem g_179 {M : mH} {k : Nat} : gi M 179 k = rg M 34 k := rfl
theorem wm_179 {M : mH} (hw : wf M) {j : Nat} (hj : j < 40) {x : Int32} : wf (mu M 179 j (.int x)) := hw.mu (w_179 hj)
theorem rm_179 {M : mH} (hw : wf M) {j : Nat} (hj : j < 40) {x : Int32} : rg (mu M 179 j (.int x)) = ru (rg M) 34 j x := rg_hi (a := 34) hw (w_179 hj)
theorem cm_179 {M : mH} (hw : wf M) {j : Nat} (hj : j < 40) {x : Int32} : cg (mu M 179 j (.int x)) = cg M := cg_hi hw (w_179 hj) (by decide)
theorem g_180 {M : mH} {k : Nat} : gi M 180 k = rg M 35 k := rfl
theorem wm_180 {M : mH} (hw : wf M) {j : Nat} (hj : j < 40) {x : Int32} : wf (mu M 180 j (.int x)) := hw.mu (w_180 hj)
theorem rm_180 {M : mH} (hw : wf M) {j : Nat} (hj : j < 40) {x : Int32} : rg (mu M 180 j (.int x)) = ru (rg M) 35 j x := rg_hi (a := 35) hw (w_180 hj)
theorem cm_180 {M : mH} (hw : wf M) {j : Nat} (hj : j < 40) {x : Int32} : cg (mu M 180 j (.int x)) = cg M := cg_hi hw (w_180 hj) (by decide)
theorem g_181 {M : mH} {k : Nat} : gi M 181 k = rg M 36 k := rfl
theorem wm_181 {M : mH} (hw : wf M) {j : Nat} (hj : j < 4) {x : Int32} : wf (mu M 181 j (.int x)) := hw.mu (w_181 hj)
theorem rm_181 {M : mH} (hw : wf M) {j : Nat} (hj : j < 4) {x : Int32} : rg (mu M 181 j (.int x)) = ru (rg M) 36 j x := rg_hi (a := 36) hw (w_181 hj)
theorem cm_181 {M : mH} (hw : wf M) {j : Nat} (hj : j < 4) {x : Int32} : cg (mu M 181 j (.int x)) = cg M := cg_hi hw (w_181 hj) (by decide)
theorem g_145_36 {M : mH} : gi M 145 36 = rg M 0 36 := rfl
theorem wm_145_36 {M : mH} (hw : wf M) {x : Int32} : wf (mu M 145 36 (.int x)) := hw.mu w_145_36
theorem rm_145_36 {M : mH} (hw : wf M) {x : Int32} : rg (mu M 145 36 (.int x)) = ru (rg M) 0 36 x := rg_hi (a := 0) hw w_145_36
theorem cm_145_36 {M : mH} (hw : wf M) {x : Int32} : cg (mu M 145 36 (.int x)) = cg M := cg_hi hw w_145_36 (by decide)
theorem g_145_37 {M : mH} : gi M 145 37 = rg M 0 37 := rfl
theorem wm_145_37 {M : mH} (hw : wf M) {x : Int32} : wf (mu M 145 37 (.int x)) := hw.mu w_145_37
theorem rm_145_37 {M : mH} (hw : wf M) {x : Int32} : rg (mu M 145 37 (.int x)) = ru (rg M) 0 37 x := rg_hi (a := 0) hw w_145_37
theorem cm_145_37 {M : mH} (hw : wf M) {x : Int32} : cg (mu M 145 37 (.int x)) = cg M := cg_hi hw w_145_37 (by decide)
theorem g_145_38 {M : mH} : gi M 145 38 = rg M 0 38 := rfl
theorem wm_145_38 {M : mH} (hw : wf M) {x : Int32} : wf (mu M 145 38 (.int x)) := hw.mu w_145_38
theorem rm_145_38 {M : mH} (hw : wf M) {x : Int32} : rg (mu M 145 38 (.int x)) = ru (rg M) 0 38 x := rg_hi (a := 0) hw w_145_38
theorem cm_145_38 {M : mH} (hw : wf M) {x : Int32} : cg (mu M 145 38 (.int x)) = cg M := cg_hi hw w_145_38 (by decide)
theorem g_145_39 {M : mH} : gi M 145 39 = rg M 0 39 := rfl
theorem wm_145_39 {M : mH} (hw : wf M) {x : Int32} : wf (mu M 145 39 (.int x)) := hw.mu w_145_39
theorem rm_145_39 {M : mH} (hw : wf M) {x : Int32} : rg (mu M 145 39 (.int x)) = ru (rg M) 0 39 x := rg_hi (a := 0) hw w_145_39
theorem cm_145_39 {M : mH} (hw : wf M) {x : Int32} : cg (mu M 145 39 (.int x)) = cg M := cg_hi hw w_145_39 (by decide)
theorem g_145_40 {M : mH} : gi M 145 40 = rg M 0 40 := rfl
theorem wm_145_40 {M : mH} (hw : wf M) {x : Int32} : wf (mu M 145 40 (.int x)) := hw.mu w_145_40
theorem rm_145_40 {M : mH} (hw : wf M) {x : Int32} : rg (mu M 145 40 (.int x)) = ru (rg M) 0 40 x := rg_hi (a := 0) hw w_145_40
theorem cm_145_40 {M : mH} (hw : wf M) {x : Int32} : cg (mu M 145 40 (.int x)) = cg M := cg_hi hw w_145_40 (by decide)
theorem g_145_41 {M : mH} : gi M 145 41 = rg M 0 41 := rfl
theorem wm_145_41 {M : mH} (hw : wf M) {x : Int32} : wf (mu M 145 41 (.int x)) := hw.mu w_145_41
theorem rm_145_41 {M : mH} (hw : wf M) {x : Int32} : rg (mu M 145 41 (.int x)) = ru (rg M) 0 41 x := rg_hi (a := 0) hw w_145_41
theorem cm_145_41 {M : mH} (hw : wf M) {x : Int32} : cg (mu M 145 41 (.int x)) = cg M := cg_hi hw w_145_41 (by decide)
