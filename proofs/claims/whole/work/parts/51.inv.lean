/-! THE INVARIANT: the class's cells against the reference's arrays, and what the reference's arrays keep -/
/-- references by number: NODES, cages, PROCESSES (none below 0) -/
def ndO (x : Int32) : Option Nat := if x < 0 then none else some (4 + x.toNatClampNeg)
def cgO (x : Int32) : Option Nat := if x < 0 then none else some (37 + 10 * x.toNatClampNeg)
def tkO (x : Int32) : Option Nat := if x < 0 then none else some (78 + 3 * x.toNatClampNeg)
theorem ndO_n {n : Nat} (h : n < 2 ^ 31) : ndO (nI n) = some (4 + n) := by unfold ndO; rw [if_neg (nI_pos h), nI_clamp h]
theorem cgO_n {n : Nat} (h : n < 2 ^ 31) : cgO (nI n) = some (37 + 10 * n) := by unfold cgO; rw [if_neg (nI_pos h), nI_clamp h]
theorem tkO_n {n : Nat} (h : n < 2 ^ 31) : tkO (nI n) = some (78 + 3 * n) := by unfold tkO; rw [if_neg (nI_pos h), nI_clamp h]
theorem ndO_m : ndO (-1) = none := by decide
theorem cgO_m : cgO (-1) = none := by decide
theorem tkO_m : tkO (-1) = none := by decide
/-- y lies below x in the tree, or is x -/
def dsc (r : RS) : Nat → Int32 → Int32 → Prop
  | 0, x, y => x = y
  | f + 1, x, y => x = y ∨ dsc r f x (r 2 y.toNatClampNeg)
def Desc (r : RS) (x y : Int32) : Prop := ∃ f, dsc r f x y
def gN1 (I : CI) (r : RS) : Prop := ∀ n, n < 32 → I 1 n 1 = r 1 n ∧ I 1 n 2 = r 4 n ∧ I 1 n 3 = r 3 n ∧ I 1 n 4 = r 5 n ∧ I 1 n 5 = r 6 n
def gN2 (O : CO) (r : RS) (C : Nat) : Prop := ∀ n, n < 32 → ¬ r 1 n = 0 → O 1 n 6 = ndO (r 2 n) ∧ O 1 n 7 = cgO (r 7 n) ∧ (n = 0 ∨ ∃ m, m < 32 ∧ r 2 n = nI m ∧ ¬ r 1 m = 0 ∧ r 4 m = 0) ∧ (r 4 n = 0 ∨ r 4 n = nI 1) ∧ (r 7 n = -1 ∨ ∃ c, c < C ∧ r 7 n = nI c) ∧ ∃ o, o < 256 ∧ r 5 n = nI o
def gN3 (r : RS) : Prop := ¬ r 1 0 = 0 ∧ r 2 0 = -1 ∧ r 7 0 = -1 ∧ r 4 0 = 0
def gK (I : CI) (r : RS) (C : Nat) : Prop := C ≤ 4 ∧ r 0 36 = nI C ∧ I 0 0 6 = nI C ∧ I 0 0 7 = r 0 38 ∧ I 0 0 8 = r 0 39
def gC (I : CI) (O : CO) (r : RS) (C : Nat) : Prop := ∀ c, c < C → O 2 c 1 = ndO (r 8 c) ∧ I 2 c 2 = r 9 c ∧ I 2 c 3 = r 10 c ∧ I 2 c 4 = r 12 c ∧ I 2 c 5 = r 13 c ∧ O 2 c 6 = cgO (r 11 c) ∧ (∃ a, a < 32 ∧ r 8 c = nI a ∧ ¬ r 1 a = 0 ∧ r 4 a = 0) ∧ (∃ lo us, r 9 c = nI lo ∧ r 10 c = nI us ∧ 1 ≤ us ∧ lo + us ≤ 256) ∧ (r 11 c = -1 ∨ ∃ c', c' < c ∧ r 11 c = nI c')
def gG (I : CI) (r : RS) (t : Nat) : Prop := ∀ c, c < 4 → I 2 c 8 = r 14 c ∧ ∃ g, g ≤ t ∧ r 14 c = nI g
def gP1 (I : CI) (O : CO) (r : RS) : Prop := ∀ p, p < 16 → I 9 p 1 = r 24 p ∧ I 9 p 3 = r 26 p ∧ I 9 p 4 = r 27 p ∧ I 9 p 8 = r 29 p ∧ I 9 p 9 = r 32 p ∧ O 9 p 2 = (if r 24 p = 0 then none else cgO (r 25 p)) ∧ O 9 p 5 = (if r 24 p = 0 then none else tkO (r 28 p))
def gP2 (I : CI) (r : RS) : Prop := ∀ p, p < 16 → ∀ k, k < 4 → I 10 p k = r 31 (4 * p + k)
def gP3 (r : RS) (C : Nat) : Prop := ∀ p, p < 16 → (r 24 p = 0 ∨ r 24 p = nI 1 ∨ r 24 p = nI 2) ∧ (r 24 p = nI 1 → r 32 p = 0) ∧ (¬ r 24 p = 0 → ∃ c, c < C ∧ r 25 p = nI c ∧ ¬ r 17 c = 0 ∧ (∃ x g, r 26 p = nI x ∧ r 14 c = nI g ∧ 1 ≤ x ∧ x ≤ g ∧ g < 2 ^ 31) ∧ (∃ u us, r 27 p = nI u ∧ r 10 c = nI us ∧ u < us ∧ us ≤ 256) ∧ ((r 26 p = nI 1 ∧ r 28 p = -1) ∨ (¬ r 26 p = nI 1 ∧ ∃ q, q < 16 ∧ r 28 p = nI q)))
def gP4 (r : RS) : Prop := ∀ p q, p < 16 → q < 16 → ¬ r 24 p = 0 → ¬ r 24 q = 0 → r 25 p = r 25 q → r 26 p = r 26 q → p = q
def gI (O : CO) (r : RS) : Prop := ∀ c, c < 4 → (r 17 c = 0 ∧ O 2 c 7 = none) ∨ (¬ r 17 c = 0 ∧ ∃ p, p < 16 ∧ O 2 c 7 = some (78 + 3 * p) ∧ r 24 p = nI 1 ∧ r 25 p = nI c ∧ r 26 p = nI 1)
def gH (O : CO) (r : RS) : Prop := ∀ p, p < 16 → ∃ m, m ≤ 3 ∧ r 29 p = nI m ∧ (r 24 p = 0 → m = 0) ∧ ∀ k, k < m → ∃ f, f < 4 ∧ r 30 (3 * p + k) = nI f ∧ O 11 p k = some (127 + 4 * f) ∧ ∃ s, s ≤ 10 ∧ r 36 f = nI s ∧ good r f s
def gF1 (I : CI) (r : RS) : Prop := ∀ f, f < 4 → I 12 f 3 = r 36 f ∧ ∀ k, k < 10 → I 13 f k = r 33 (10 * f + k) ∧ I 14 f k = r 34 (10 * f + k) ∧ I 15 f k = r 35 (10 * f + k)
def gF2 (r : RS) : Prop := ∀ f, f < 4 → ∃ s, s ≤ 10 ∧ r 36 f = nI s ∧ WRs r f s ∧ ∀ k, k < s → (∃ o, o < 8 ∧ r 33 (10 * f + k) = nI o) ∧ (r 33 (10 * f + k) = nI 7 → ∃ g, g < 3 ∧ r 34 (10 * f + k) = nI g)
def gQ (I : CI) (r : RS) : Prop := ∀ q, q < 8 → ∃ m, m ≤ 3 ∧ r 15 q = nI m ∧ I 5 q 1 = nI m ∧ ∀ k, k < m → I 6 q k = r 16 (3 * q + k)
/-- the MOUNTS: n of a cage, the slot at each place, the place of a slot, the row at each place -/
abbrev MP : Type := (Nat → Nat) × (Nat → Nat → Nat) × (Nat → Nat) × (Nat → Nat → Nat)
def gM1 (I : CI) (O : CO) (C : Nat) (mp : MP) : Prop := ∀ c, c < 4 → mp.1 c ≤ 4 ∧ (C ≤ c → mp.1 c = 0) ∧ I 2 c 10 = nI (mp.1 c) ∧ (∀ i, i < 4 → mp.2.2.2 c i < 4 ∧ O 3 c i = some (39 + 10 * c + mp.2.2.2 c i)) ∧ (∀ i i', i < 4 → i' < 4 → mp.2.2.2 c i = mp.2.2.2 c i' → i = i')
def gM2 (O : CO) (r : RS) (mp : MP) : Prop := ∀ c, c < 4 → ∀ i, i < mp.1 c → (∃ j, j < 4 ∧ mp.2.1 c i = 4 * c + j) ∧ ¬ r 18 (mp.2.1 c i) = 0 ∧ mp.2.2.1 (mp.2.1 c i) = i ∧ (∃ a, a < 32 ∧ r 19 (mp.2.1 c i) = nI a ∧ ¬ r 1 a = 0 ∧ r 4 a = 0 ∧ O 4 (4 * c + mp.2.2.2 c i) 0 = some (4 + a)) ∧ (∃ b, b < 32 ∧ r 21 (mp.2.1 c i) = nI b ∧ ¬ r 1 b = 0 ∧ r 4 b = 0 ∧ O 4 (4 * c + mp.2.2.2 c i) 2 = some (4 + b)) ∧ ((r 20 (mp.2.1 c i) = -1 ∧ O 4 (4 * c + mp.2.2.2 c i) 1 = none ∧ Desc r (r 8 c) (r 19 (mp.2.1 c i))) ∨ ∃ i', i' < i ∧ r 20 (mp.2.1 c i) = nI (mp.2.1 c i') ∧ O 4 (4 * c + mp.2.2.2 c i) 1 = some (39 + 10 * c + mp.2.2.2 c i') ∧ Desc r (r 21 (mp.2.1 c i')) (r 19 (mp.2.1 c i)))
def gM3 (r : RS) (mp : MP) (t : Nat) : Prop := ∃ g, g ≤ t ∧ r 0 37 = nI g ∧ ∀ c, c < 4 → ∀ i, i < mp.1 c → ∃ a, a ≤ g ∧ r 22 (mp.2.1 c i) = nI a ∧ ∀ i', i' < i → ∃ a', a' < a ∧ r 22 (mp.2.1 c i') = nI a'
def gM4 (r : RS) (mp : MP) : Prop := ∀ s, s < 16 → ¬ r 18 s = 0 → ∃ c i, c < 4 ∧ i < mp.1 c ∧ mp.2.1 c i = s
def IV (I : CI) (O : CO) (r : RS) (C t : Nat) (mp : MP) : Prop := gN1 I r ∧ gN2 O r C ∧ gN3 r ∧ gK I r C ∧ gC I O r C ∧ gG I r t ∧ gP1 I O r ∧ gP2 I r ∧ gP3 r C ∧ gP4 r ∧ gI O r ∧ gH O r ∧ gF1 I r ∧ gF2 r ∧ gQ I r ∧ gM1 I O C mp ∧ gM2 O r mp ∧ gM3 r mp t ∧ gM4 r mp
section
variable {I : CI} {O : CO} {r : RS} {C t : Nat} {mp : MP}
theorem IV.n1 (h : IV I O r C t mp) : gN1 I r := h.1
theorem IV.n2 (h : IV I O r C t mp) : gN2 O r C := h.2.1
theorem IV.n3 (h : IV I O r C t mp) : gN3 r := h.2.2.1
theorem IV.k (h : IV I O r C t mp) : gK I r C := h.2.2.2.1
theorem IV.c (h : IV I O r C t mp) : gC I O r C := h.2.2.2.2.1
theorem IV.g (h : IV I O r C t mp) : gG I r t := h.2.2.2.2.2.1
theorem IV.p1 (h : IV I O r C t mp) : gP1 I O r := h.2.2.2.2.2.2.1
theorem IV.p2 (h : IV I O r C t mp) : gP2 I r := h.2.2.2.2.2.2.2.1
theorem IV.p3 (h : IV I O r C t mp) : gP3 r C := h.2.2.2.2.2.2.2.2.1
theorem IV.p4 (h : IV I O r C t mp) : gP4 r := h.2.2.2.2.2.2.2.2.2.1
theorem IV.i (h : IV I O r C t mp) : gI O r := h.2.2.2.2.2.2.2.2.2.2.1
theorem IV.h (h : IV I O r C t mp) : gH O r := h.2.2.2.2.2.2.2.2.2.2.2.1
theorem IV.f1 (h : IV I O r C t mp) : gF1 I r := h.2.2.2.2.2.2.2.2.2.2.2.2.1
theorem IV.f2 (h : IV I O r C t mp) : gF2 r := h.2.2.2.2.2.2.2.2.2.2.2.2.2.1
theorem IV.q (h : IV I O r C t mp) : gQ I r := h.2.2.2.2.2.2.2.2.2.2.2.2.2.2.1
theorem IV.m1 (h : IV I O r C t mp) : gM1 I O C mp := h.2.2.2.2.2.2.2.2.2.2.2.2.2.2.2.1
theorem IV.m2 (h : IV I O r C t mp) : gM2 O r mp := h.2.2.2.2.2.2.2.2.2.2.2.2.2.2.2.2.1
theorem IV.m3 (h : IV I O r C t mp) : gM3 r mp t := h.2.2.2.2.2.2.2.2.2.2.2.2.2.2.2.2.2.1
theorem IV.m4 (h : IV I O r C t mp) : gM4 r mp := h.2.2.2.2.2.2.2.2.2.2.2.2.2.2.2.2.2.2
/-! what the reference's contracts ask -/
theorem IV.wo (h : IV I O r C t mp) : WRo r C := fun c hc => (h.c c hc).2.2.2.2.2.2.2.2
theorem IV.wm (h : IV I O r C t mp) : WRm r C := fun n hn hr => (h.n2 n hn hr).2.2.2.2.1
theorem IV.wp (h : IV I O r C t mp) : WRp r C := fun p hp hr => by
  obtain ⟨c, h1, h2, -⟩ := (h.p3 p hp).2.2 hr
  exact ⟨c, h1, h2⟩
theorem IV.wh (h : IV I O r C t mp) : WRh r := fun p hp => by
  obtain ⟨m, h1, h2, -⟩ := h.h p hp
  exact ⟨m, h1, h2⟩
theorem IV.wg (h : IV I O r C t mp) : WRg r := fun f hf => by
  obtain ⟨s, h1, h2, -⟩ := h.f2 f hf
  exact ⟨s, h1, h2⟩
theorem IV.wq (h : IV I O r C t mp) : WRq r := fun q hq => by
  obtain ⟨m, h1, h2, -⟩ := h.q q hq
  exact ⟨m, h1, h2⟩
/-! the class's slots, by the reference's -/
theorem IV.n_1 (h : IV I O r C t mp) {n : Nat} (hn : n < 32) : I 1 n 1 = r 1 n := (h.n1 n hn).1
theorem IV.n_2 (h : IV I O r C t mp) {n : Nat} (hn : n < 32) : I 1 n 2 = r 4 n := (h.n1 n hn).2.1
theorem IV.n_3 (h : IV I O r C t mp) {n : Nat} (hn : n < 32) : I 1 n 3 = r 3 n := (h.n1 n hn).2.2.1
theorem IV.n_4 (h : IV I O r C t mp) {n : Nat} (hn : n < 32) : I 1 n 4 = r 5 n := (h.n1 n hn).2.2.2.1
theorem IV.n_5 (h : IV I O r C t mp) {n : Nat} (hn : n < 32) : I 1 n 5 = r 6 n := (h.n1 n hn).2.2.2.2
theorem IV.k_6 (h : IV I O r C t mp) : I 0 0 6 = nI C := h.k.2.2.1
theorem IV.k_7 (h : IV I O r C t mp) : I 0 0 7 = r 0 38 := h.k.2.2.2.1
theorem IV.k_8 (h : IV I O r C t mp) : I 0 0 8 = r 0 39 := h.k.2.2.2.2
theorem IV.C4 (h : IV I O r C t mp) : C ≤ 4 := h.k.1
theorem IV.Cn (h : IV I O r C t mp) : r 0 36 = nI C := h.k.2.1
theorem IV.c_1 (h : IV I O r C t mp) {c : Nat} (hc : c < C) : O 2 c 1 = ndO (r 8 c) := (h.c c hc).1
theorem IV.c_2 (h : IV I O r C t mp) {c : Nat} (hc : c < C) : I 2 c 2 = r 9 c := (h.c c hc).2.1
theorem IV.c_3 (h : IV I O r C t mp) {c : Nat} (hc : c < C) : I 2 c 3 = r 10 c := (h.c c hc).2.2.1
theorem IV.c_4 (h : IV I O r C t mp) {c : Nat} (hc : c < C) : I 2 c 4 = r 12 c := (h.c c hc).2.2.2.1
theorem IV.c_5 (h : IV I O r C t mp) {c : Nat} (hc : c < C) : I 2 c 5 = r 13 c := (h.c c hc).2.2.2.2.1
theorem IV.c_6 (h : IV I O r C t mp) {c : Nat} (hc : c < C) : O 2 c 6 = cgO (r 11 c) := (h.c c hc).2.2.2.2.2.1
theorem IV.c_8 (h : IV I O r C t mp) {c : Nat} (hc : c < 4) : I 2 c 8 = r 14 c := (h.g c hc).1
theorem IV.c_10 (h : IV I O r C t mp) {c : Nat} (hc : c < 4) : I 2 c 10 = nI (mp.1 c) := (h.m1 c hc).2.2.1
theorem IV.p_1 (h : IV I O r C t mp) {p : Nat} (hp : p < 16) : I 9 p 1 = r 24 p := (h.p1 p hp).1
theorem IV.p_3 (h : IV I O r C t mp) {p : Nat} (hp : p < 16) : I 9 p 3 = r 26 p := (h.p1 p hp).2.1
theorem IV.p_4 (h : IV I O r C t mp) {p : Nat} (hp : p < 16) : I 9 p 4 = r 27 p := (h.p1 p hp).2.2.1
theorem IV.p_8 (h : IV I O r C t mp) {p : Nat} (hp : p < 16) : I 9 p 8 = r 29 p := (h.p1 p hp).2.2.2.1
theorem IV.p_9 (h : IV I O r C t mp) {p : Nat} (hp : p < 16) : I 9 p 9 = r 32 p := (h.p1 p hp).2.2.2.2.1
theorem IV.p_2 (h : IV I O r C t mp) {p : Nat} (hp : p < 16) : O 9 p 2 = (if r 24 p = 0 then none else cgO (r 25 p)) := (h.p1 p hp).2.2.2.2.2.1
theorem IV.p_5 (h : IV I O r C t mp) {p : Nat} (hp : p < 16) : O 9 p 5 = (if r 24 p = 0 then none else tkO (r 28 p)) := (h.p1 p hp).2.2.2.2.2.2
theorem IV.w_k (h : IV I O r C t mp) {p k : Nat} (hp : p < 16) (hk : k < 4) : I 10 p k = r 31 (4 * p + k) := h.p2 p hp k hk
theorem IV.f_3 (h : IV I O r C t mp) {f : Nat} (hf : f < 4) : I 12 f 3 = r 36 f := (h.f1 f hf).1
theorem IV.f_o (h : IV I O r C t mp) {f k : Nat} (hf : f < 4) (hk : k < 10) : I 13 f k = r 33 (10 * f + k) := ((h.f1 f hf).2 k hk).1
theorem IV.f_a (h : IV I O r C t mp) {f k : Nat} (hf : f < 4) (hk : k < 10) : I 14 f k = r 34 (10 * f + k) := ((h.f1 f hf).2 k hk).2.1
theorem IV.f_b (h : IV I O r C t mp) {f k : Nat} (hf : f < 4) (hk : k < 10) : I 15 f k = r 35 (10 * f + k) := ((h.f1 f hf).2 k hk).2.2
end
