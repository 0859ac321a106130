section
variable {C t c : Nat} {mp : MP} {I : CI} {O : CO} {r r0 : RS}
/-- the same but for where one is -/
def Agr (s r : RS) : Prop := ∀ a i, ¬ a = 23 → ¬ (a = 0 ∧ (i = 40 ∨ i = 41)) → s a i = r a i
theorem Agr.row {s : RS} (h : Agr s r) {a : Nat} (h1 : ¬ a = 23) (h2 : ¬ a = 0) : s a = r a := funext (fun i => h a i h1 (fun z => h2 z.1))
theorem Agr.refl : Agr r r := fun _ _ _ _ => rfl
theorem Agr.trans {s s' : RS} (h : Agr s' s) (h' : Agr s r) : Agr s' r := fun a i h1 h2 => (h a i h1 h2).trans (h' a i h1 h2)
theorem Agr.a40 {x : Int32} : Agr (ru r 0 40 x) r := fun a i h1 h2 => by
  have : ¬ (a = 0 ∧ i = 40) := fun z => h2 ⟨z.1, Or.inl z.2⟩
  simp only [ru, this, if_false]
theorem Agr.a41 {x : Int32} : Agr (ru r 0 41 x) r := fun a i h1 h2 => by
  have : ¬ (a = 0 ∧ i = 41) := fun z => h2 ⟨z.1, Or.inr z.2⟩
  simp only [ru, this, if_false]
theorem Agr.a23 {m : Nat} {x : Int32} : Agr (ru r 23 m x) r := fun a i h1 h2 => by
  simp only [ru, h1, false_and, if_false]
theorem iv_agr {s : RS} (iv : IV I O r C t mp) (h : Agr s r) : IV I O s C t mp := by
  have hA : ∀ a k, ¬ a = 23 → ¬ a = 0 → s a k = r a k := fun a k h1 h2 => h a k h1 (fun z => h2 z.1)
  refine ⟨iv.n1.cg (fun k => ⟨hA 1 k (by decide) (by decide), hA 4 k (by decide) (by decide), hA 3 k (by decide) (by decide), hA 5 k (by decide) (by decide), hA 6 k (by decide) (by decide)⟩) (by simp only [eq_self, and_self, implies_true]), iv.n2.cg (fun k => ⟨hA 1 k (by decide) (by decide), hA 2 k (by decide) (by decide), hA 4 k (by decide) (by decide), hA 5 k (by decide) (by decide), hA 7 k (by decide) (by decide)⟩) (by simp only [eq_self, and_self, implies_true]), iv.n3.cg (fun k => ⟨hA 1 k (by decide) (by decide), hA 2 k (by decide) (by decide), hA 4 k (by decide) (by decide), hA 7 k (by decide) (by decide)⟩), iv.k.cg ⟨h 0 36 (by decide) (by decide), h 0 38 (by decide) (by decide), h 0 39 (by decide) (by decide)⟩ (by simp only [eq_self, and_self, implies_true]), iv.c.cg (fun k => ⟨hA 8 k (by decide) (by decide), hA 9 k (by decide) (by decide), hA 10 k (by decide) (by decide), hA 11 k (by decide) (by decide), hA 12 k (by decide) (by decide), hA 13 k (by decide) (by decide), hA 1 k (by decide) (by decide), hA 4 k (by decide) (by decide)⟩) (by simp only [eq_self, and_self, implies_true]), iv.g.cg (fun k => hA 14 k (by decide) (by decide)) (by simp only [eq_self, and_self, implies_true]), iv.p1.cg (fun k => ⟨hA 24 k (by decide) (by decide), hA 25 k (by decide) (by decide), hA 26 k (by decide) (by decide), hA 27 k (by decide) (by decide), hA 28 k (by decide) (by decide), hA 29 k (by decide) (by decide), hA 32 k (by decide) (by decide)⟩) (by simp only [eq_self, and_self, implies_true]), iv.p2.cg (fun k => hA 31 k (by decide) (by decide)) (by simp only [eq_self, and_self, implies_true]), iv.p3.cg (fun k => ⟨hA 24 k (by decide) (by decide), hA 25 k (by decide) (by decide), hA 26 k (by decide) (by decide), hA 27 k (by decide) (by decide), hA 28 k (by decide) (by decide), hA 32 k (by decide) (by decide), hA 17 k (by decide) (by decide), hA 14 k (by decide) (by decide), hA 10 k (by decide) (by decide)⟩), iv.p4.cg (fun k => ⟨hA 24 k (by decide) (by decide), hA 25 k (by decide) (by decide), hA 26 k (by decide) (by decide)⟩), iv.i.cg (fun k => ⟨hA 17 k (by decide) (by decide), hA 24 k (by decide) (by decide), hA 25 k (by decide) (by decide), hA 26 k (by decide) (by decide)⟩) (by simp only [eq_self, and_self, implies_true]), iv.h.cg (fun k => ⟨hA 29 k (by decide) (by decide), hA 24 k (by decide) (by decide), hA 30 k (by decide) (by decide), hA 36 k (by decide) (by decide), hA 33 k (by decide) (by decide), hA 35 k (by decide) (by decide)⟩) (by simp only [eq_self, and_self, implies_true]), iv.f1.cg (fun k => ⟨hA 36 k (by decide) (by decide), hA 33 k (by decide) (by decide), hA 34 k (by decide) (by decide), hA 35 k (by decide) (by decide)⟩) (by simp only [eq_self, and_self, implies_true]) (by simp only [eq_self, and_self, implies_true]), iv.f2.cg (fun k => ⟨hA 33 k (by decide) (by decide), hA 34 k (by decide) (by decide), hA 35 k (by decide) (by decide), hA 36 k (by decide) (by decide)⟩), iv.q.cg (fun k => ⟨hA 15 k (by decide) (by decide), hA 16 k (by decide) (by decide)⟩) (by simp only [eq_self, and_self, implies_true]) (by simp only [eq_self, and_self, implies_true]), iv.m1, iv.m2.cg (fun k => ⟨hA 18 k (by decide) (by decide), hA 19 k (by decide) (by decide), hA 20 k (by decide) (by decide), hA 21 k (by decide) (by decide), hA 1 k (by decide) (by decide), hA 4 k (by decide) (by decide), hA 8 k (by decide) (by decide), hA 2 k (by decide) (by decide)⟩) (by simp only [eq_self, and_self, implies_true]), iv.m3.cg (h 0 37 (by decide) (by decide)) (fun k => hA 22 k (by decide) (by decide)), iv.m4.cg (fun k => hA 18 k (by decide) (by decide))⟩
/-! where one may be -/
def posV (r : RS) (c : Nat) (mp : MP) : Prop := ∃ a, a < 32 ∧ r 0 40 = nI a ∧ ¬ r 1 a = 0 ∧ ((r 0 41 = -1 ∧ Desc r (r 8 c) (nI a)) ∨ ∃ i, i < mp.1 c ∧ r 0 41 = nI (mp.2.1 c i) ∧ Desc r (r 21 (mp.2.1 c i)) (nI a))
theorem Desc.rfl' {x : Int32} : Desc r x x := ⟨0, rfl⟩
theorem dsc_m1 (h0 : r 2 0 = -1) {b : Nat} (hb : b < 2 ^ 31) : ∀ f, ¬ dsc r f (nI b) (-1) := by
  intro f
  induction f with
  | zero => exact fun h => m1ne hb h.symm
  | succ f ih =>
    intro h
    rcases h with h | h
    · exact m1ne hb h.symm
    · rw [show ((-1 : Int32)).toNatClampNeg = 0 by decide, h0] at h
      exact ih h
theorem Desc.step (h0 : r 2 0 = -1) {a b : Nat} (ha : a < 32) (hb : b < 32) (h : Desc r (nI b) (nI a)) (hne : ¬ nI a = nI b) : ¬ a = 0 ∧ Desc r (nI b) (r 2 a) := by
  obtain ⟨f, h⟩ := h
  cases f with
  | zero => exact absurd h.symm hne
  | succ f =>
    rcases h with h | h
    · exact absurd h.symm hne
    · rw [nI_clamp (by omega)] at h
      refine ⟨fun z => ?_, f, h⟩
      subst z
      rw [h0] at h
      exact dsc_m1 h0 (by omega) f h
theorem posV_S (iv : IV I O r C t mp) (hc : c < C) : posV (folS c r) c mp := by
  obtain ⟨a, h1, h2, h3, -⟩ := (iv.c c hc).2.2.2.2.2.2.1
  have hd : ∀ x y, Desc (folS c r) x y = Desc r x y := fun x y => Desc.eq (fun k => by simp only [folS, ru, iu, ou, eq_self, Nat.reduceEqDiff, false_and, and_false, if_false, true_and, and_true, and_self])
  refine ⟨a, h1, by simp only [folS, ru, iu, ou, eq_self, Nat.reduceEqDiff, false_and, and_false, if_false, true_and, and_true, and_self, if_true]; exact h2, by simp only [folS, ru, iu, ou, eq_self, Nat.reduceEqDiff, false_and, and_false, if_false, true_and, and_true, and_self]; exact h3, Or.inl ⟨by simp only [folS, ru, iu, ou, eq_self, Nat.reduceEqDiff, false_and, and_false, if_false, true_and, and_true, and_self, if_true], ?_⟩⟩
  rw [hd, ← h2]
  simp only [folS, ru, iu, ou, eq_self, Nat.reduceEqDiff, false_and, and_false, if_false, true_and, and_true, and_self]
  exact Desc.rfl'
theorem Agr.S : Agr (folS c r) r := Agr.a41.trans Agr.a40
theorem Agr.up1 : Agr (up1 r) r := Agr.a41.trans Agr.a40
theorem posV_up1 (iv : IV I O r C t mp) (hc : c < 4) {i : Nat} (hi : i < mp.1 c) (hb : r 0 41 = nI (mp.2.1 c i)) : posV (up1 r) c mp ∧ (up1 r 0 41 = -1 ∨ ∃ i', i' < i ∧ i' < mp.1 c ∧ up1 r 0 41 = nI (mp.2.1 c i')) := by
  obtain ⟨h1, h2, h3, ⟨x, x1, x2, x3, x4, x5⟩, -, h6⟩ := iv.m2 c hc i hi
  have hlt := pos_lt iv.m2 hc hi
  have hcl : (r 0 41).toNatClampNeg = mp.2.1 c i := by rw [hb, nI_clamp (by omega)]
  have e40 : up1 r 0 40 = nI x := by simp only [up1, ru, iu, ou, eq_self, Nat.reduceEqDiff, false_and, and_false, if_false, true_and, and_true, and_self, hcl, if_true]; exact x2
  have e41 : up1 r 0 41 = r 20 (mp.2.1 c i) := by simp only [up1, ru, iu, ou, eq_self, Nat.reduceEqDiff, false_and, and_false, if_false, true_and, and_true, and_self, hcl, if_true]
  have hA : ∀ {a}, ¬ a = 23 → ¬ a = 0 → up1 r a = r a := fun h1 h2 => Agr.up1.row h1 h2
  have hd : ∀ x y, Desc (up1 r) x y = Desc r x y := fun x y => Desc.eq (fun k => by rw [hA (by decide) (by decide)])
  rcases h6 with ⟨z1, z2, z3⟩ | ⟨i', z1, z2, z3, z4⟩
  · refine ⟨⟨x, x1, e40, by rw [hA (by decide) (by decide)]; exact x3, Or.inl ⟨e41.trans z1, ?_⟩⟩, Or.inl (e41.trans z1)⟩
    rw [hd, hA (by decide) (by decide), ← x2]; exact z3
  · refine ⟨⟨x, x1, e40, by rw [hA (by decide) (by decide)]; exact x3, Or.inr ⟨i', by omega, e41.trans z2, ?_⟩⟩, Or.inr ⟨i', z1, by omega, e41.trans z2⟩⟩
    rw [hd, hA (by decide) (by decide), ← x2]; exact z4
theorem posV_upL (iv : IV I O r0 C t mp) (hc : c < 4) : ∀ n r, Agr r r0 → posV r c mp → (posV (upL n r) c mp ∧ Agr (upL n r) r0) ∧ ((r 0 41 = -1 ∨ ∃ i, i < n ∧ i < mp.1 c ∧ r 0 41 = nI (mp.2.1 c i)) → ¬ (¬ upL n r 0 41 < 0 ∧ upL n r 0 40 = upL n r 21 (upL n r 0 41).toNatClampNeg)) := by
  intro n
  induction n with
  | zero =>
    intro r ha hv
    refine ⟨⟨hv, ha⟩, fun h z => ?_⟩
    rcases h with h | ⟨i, h, -⟩
    · have := z.1
      rw [show upL 0 r 0 41 = r 0 41 from rfl, h] at this
      exact this (by decide)
    · omega
  | succ n ih =>
    intro r ha hv
    by_cases hs : ¬ r 0 41 < 0 ∧ r 0 40 = r 21 (r 0 41).toNatClampNeg
    · have e : upL (n + 1) r = upL n (up1 r) := by rw [upL, if_pos hs]
      have iv' := iv_agr iv ha
      obtain ⟨a, h1, h2, h3, h4⟩ := hv
      rcases h4 with ⟨h4, -⟩ | ⟨i, h4, h5, -⟩
      · exact absurd (show r 0 41 < 0 by rw [h4]; decide) hs.1
      · obtain ⟨g1, g2⟩ := posV_up1 iv' hc h4 h5
        obtain ⟨k1, k2⟩ := ih (up1 r) (Agr.up1.trans ha) g1
        rw [e]
        refine ⟨k1, fun h => k2 ?_⟩
        rcases g2 with g2 | ⟨i', g2, g3, g4⟩
        · exact Or.inl g2
        · refine Or.inr ⟨i', ?_, g3, g4⟩
          rcases h with h | ⟨i'', q1, q2, q3⟩
          · exact absurd (h.symm.trans h5) (m1ne (by have := pos_lt iv.m2 hc h4; omega))
          · have : i'' = i := pos_inj iv.m2 hc q2 h4 ((nI_eq (by have := pos_lt iv.m2 hc q2; omega) (by have := pos_lt iv.m2 hc h4; omega)).1 (q3.symm.trans h5))
            omega
    · have e : upL (n + 1) r = r := by rw [upL, if_neg hs]
      rw [e]
      exact ⟨⟨hv, ha⟩, fun _ => hs⟩
theorem posV.by4 (iv : IV I O r C t mp) (hc : c < 4) (h : posV r c mp) : r 0 41 = -1 ∨ ∃ i, i < 4 ∧ i < mp.1 c ∧ r 0 41 = nI (mp.2.1 c i) := by
  obtain ⟨a, h1, h2, h3, h4⟩ := h
  have := (iv.m1 c hc).1
  rcases h4 with ⟨h4, -⟩ | ⟨i, h4, h5, -⟩
  · exact Or.inl h4
  · exact Or.inr ⟨i, by omega, h4, h5⟩
theorem posV_upR (iv : IV I O r0 C t mp) (hc : c < C) {r : RS} (ha : Agr r r0) (hv : posV r c mp) : posV (upR c 4 r) c mp ∧ Agr (upR c 4 r) r0 ∧ (¬ (upL 4 r 0 41 < 0 ∧ upL 4 r 0 40 = upL 4 r 8 c) → ∃ a m, a < 32 ∧ m < 32 ∧ upL 4 r 0 40 = nI a ∧ upL 4 r 2 a = nI m ∧ ¬ upL 4 r 1 a = 0) := by
  have hC4 := iv.C4
  have hc4 : c < 4 := by omega
  obtain ⟨⟨g1, g2⟩, g3⟩ := posV_upL iv hc4 4 r ha hv
  have g3 := g3 (posV.by4 (iv_agr iv ha) hc4 hv)
  have iv' := iv_agr iv g2
  unfold upR
  generalize upL 4 r = s at g1 g2 g3 iv' ⊢
  by_cases hs : s 0 41 < 0 ∧ s 0 40 = s 8 c
  · rw [if_pos hs]; exact ⟨g1, g2, fun z => absurd hs z⟩
  · rw [if_neg hs]
    obtain ⟨a, h1, h2, h3, h4⟩ := g1
    have key : ¬ a = 0 ∧ ((s 0 41 = -1 ∧ Desc s (s 8 c) (s 2 a)) ∨ ∃ i, i < mp.1 c ∧ s 0 41 = nI (mp.2.1 c i) ∧ Desc s (s 21 (mp.2.1 c i)) (s 2 a)) := by
      rcases h4 with ⟨h4, h5⟩ | ⟨i, h4, h5, h6⟩
      · obtain ⟨b, b1, b2, -⟩ := (iv'.c c hc).2.2.2.2.2.2.1
        have hne : ¬ nI a = nI b := fun z => hs ⟨by rw [h4]; decide, by rw [h2, b2, z]⟩
        rw [b2] at h5 ⊢
        obtain ⟨q1, q2⟩ := Desc.step iv'.n3.2.1 h1 b1 h5 hne
        exact ⟨q1, Or.inl ⟨h4, q2⟩⟩
      · obtain ⟨-, -, -, -, ⟨b, b1, b2, -⟩, -⟩ := iv'.m2 c hc4 i h4
        have hlt := pos_lt iv'.m2 hc4 h4
        have hne : ¬ nI a = nI b := fun z => g3 ⟨by rw [h5]; exact nI_pos (by omega), by rw [h5, nI_clamp (by omega), h2, b2, z]⟩
        rw [b2] at h6
        obtain ⟨q1, q2⟩ := Desc.step iv'.n3.2.1 h1 b1 h6 hne
        exact ⟨q1, Or.inr ⟨i, h4, h5, by rw [b2]; exact q2⟩⟩
    obtain ⟨k0, k1⟩ := key
    rcases iv'.par a h1 h3 with hp | ⟨m, m1, m2, m3⟩
    · exact absurd hp k0
    · have hcl : (s 0 40).toNatClampNeg = a := by rw [h2, nI_clamp (by omega)]
      rw [hcl]
      have hA : ∀ {b}, ¬ b = 23 → ¬ b = 0 → ru s 0 40 (s 2 a) b = s b := fun h1 h2 => Agr.a40.row h1 h2
      have hd : ∀ x y, Desc (ru s 0 40 (s 2 a)) x y = Desc s x y := fun x y => Desc.eq (fun k => by rw [hA (by decide) (by decide)])
      have e41 : ru s 0 40 (s 2 a) 0 41 = s 0 41 := by simp only [ru, iu, ou, eq_self, Nat.reduceEqDiff, false_and, and_false, if_false, true_and, and_true, and_self]
      refine ⟨⟨m, m1, by simp only [ru, iu, ou, eq_self, Nat.reduceEqDiff, false_and, and_false, if_false, true_and, and_true, and_self, if_true]; exact m2, by rw [hA (by decide) (by decide)]; exact m3, ?_⟩, Agr.a40.trans g2, fun _ => ⟨a, m, h1, m1, h2, m2, h3⟩⟩
      rw [e41, hA (by decide) (by decide), hA (by decide) (by decide), ← m2]
      simp only [hd]
      exact k1
theorem posV_child {nm : Int32} {n : Nat} (hv : posV r c mp) (h : ffind (pFind r (r 0 40) nm) 1 31 = some n) : posV (ru r 0 40 (nI n)) c mp := by
  obtain ⟨n1, n2, n3⟩ := ffind_in h
  obtain ⟨k1, k2, -⟩ := of_decide_eq_true n3
  obtain ⟨a, h1, h2, h3, h4⟩ := hv
  have hA : ∀ {b}, ¬ b = 23 → ¬ b = 0 → ru r 0 40 (nI n) b = r b := fun h1 h2 => Agr.a40.row h1 h2
  have hd : ∀ x y, Desc (ru r 0 40 (nI n)) x y = Desc r x y := fun x y => Desc.eq (fun k => by rw [hA (by decide) (by decide)])
  have hs : ∀ x, Desc r x (nI a) → Desc r x (nI n) := fun x hx => by
    obtain ⟨f, hf⟩ := hx
    refine ⟨f + 1, Or.inr ?_⟩
    rw [nI_clamp (by omega), k2, h2]; exact hf
  have e41 : ru r 0 40 (nI n) 0 41 = r 0 41 := by simp only [ru, iu, ou, eq_self, Nat.reduceEqDiff, false_and, and_false, if_false, true_and, and_true, and_self]
  refine ⟨n, by omega, by simp only [ru, iu, ou, eq_self, Nat.reduceEqDiff, false_and, and_false, if_false, true_and, and_true, and_self, if_true], by rw [hA (by decide) (by decide)]; exact k1, ?_⟩
  rw [e41, hA (by decide) (by decide), hA (by decide) (by decide)]
  simp only [hd]
  rcases h4 with ⟨h4, h5⟩ | ⟨i, h4, h5, h6⟩
  · exact Or.inl ⟨h4, hs _ h5⟩
  · exact Or.inr ⟨i, h4, h5, hs _ h6⟩
theorem Agr.clr : Agr (clr c r) r := Agr.a23.trans (Agr.a23.trans (Agr.a23.trans Agr.a23))
theorem Agr.crs1 {m : Nat} : Agr (crs1 r m) r := Agr.a41.trans (Agr.a40.trans Agr.a23)
theorem mt_place (iv : IV I O r C t mp) (hc : c < 4) {m : Nat} (h : mtAt r c = some m) : ∃ i, i < mp.1 c ∧ mp.2.1 c i = m := by
  obtain ⟨⟨j, hj, hm⟩, h18, -⟩ := mtAt_in h
  obtain ⟨c', i, g1, g2, g3⟩ := iv.m4 m (by omega) h18
  have hlt := pos_lt iv.m2 g1 g2
  obtain rfl : c' = c := by omega
  exact ⟨i, g2, g3⟩
theorem posV_clr (hv : posV r c mp) : posV (clr c r) c mp := by
  obtain ⟨a, h1, h2, h3, h4⟩ := hv
  have hA : ∀ {b}, ¬ b = 23 → ¬ b = 0 → clr c r b = r b := fun h1 h2 => Agr.clr.row h1 h2
  have hd : ∀ x y, Desc (clr c r) x y = Desc r x y := fun x y => Desc.eq (fun k => by rw [hA (by decide) (by decide)])
  have e40 : clr c r 0 40 = r 0 40 := by simp only [clr, ru, iu, ou, eq_self, Nat.reduceEqDiff, false_and, and_false, if_false, true_and, and_true, and_self]
  have e41 : clr c r 0 41 = r 0 41 := by simp only [clr, ru, iu, ou, eq_self, Nat.reduceEqDiff, false_and, and_false, if_false, true_and, and_true, and_self]
  refine ⟨a, h1, e40.trans h2, by rw [hA (by decide) (by decide)]; exact h3, ?_⟩
  rw [e41, hA (by decide) (by decide), hA (by decide) (by decide)]
  simp only [hd]
  exact h4
theorem posV_crs1 (iv : IV I O r C t mp) (hc : c < 4) {m : Nat} (h : mtAt r c = some m) : posV (crs1 r m) c mp := by
  obtain ⟨i, g2, g3⟩ := mt_place iv hc h
  obtain ⟨-, -, -, -, ⟨b, b1, b2, b3, -⟩, -⟩ := iv.m2 c hc i g2
  rw [g3] at b2
  have hA : ∀ {b}, ¬ b = 23 → ¬ b = 0 → crs1 r m b = r b := fun h1 h2 => Agr.crs1.row h1 h2
  have hd : ∀ x y, Desc (crs1 r m) x y = Desc r x y := fun x y => Desc.eq (fun k => by rw [hA (by decide) (by decide)])
  refine ⟨b, b1, by simp only [crs1, ru, iu, ou, eq_self, Nat.reduceEqDiff, false_and, and_false, if_false, true_and, and_true, and_self, if_true]; exact b2, by rw [hA (by decide) (by decide)]; exact b3, Or.inr ⟨i, g2, by simp only [crs1, ru, iu, ou, eq_self, Nat.reduceEqDiff, false_and, and_false, if_false, true_and, and_true, and_self, if_true]; rw [g3], ?_⟩⟩
  rw [hd, hA (by decide) (by decide), g3, b2]
  exact Desc.rfl'
theorem posV_crsL (iv : IV I O r0 C t mp) (hc : c < 4) : ∀ f r, Agr r r0 → posV r c mp → posV (crsL c f r) c mp ∧ Agr (crsL c f r) r0 := by
  intro f
  induction f with
  | zero => intro r ha hv; exact ⟨hv, ha⟩
  | succ f ih =>
    intro r ha hv
    cases hm : mtAt r c with
    | none => simp only [crsL, hm]; exact ⟨hv, ha⟩
    | some m =>
      simp only [crsL, hm]
      exact ih (crs1 r m) (Agr.crs1.trans ha) (posV_crs1 (iv_agr iv ha) hc hm)
theorem posV_cross (iv : IV I O r0 C t mp) (hc : c < 4) {r : RS} (ha : Agr r r0) (hv : posV r c mp) : posV (crossR c r) c mp ∧ Agr (crossR c r) r0 :=
  posV_crsL iv hc 4 (clr c r) (Agr.clr.trans ha) (posV_clr hv)
def Jw (r0 : RS) (c : Nat) (mp : MP) (r : RS) : Prop := Agr r r0 ∧ posV r c mp
theorem Jw_S (iv : IV I O r0 C t mp) (hc : c < C) {r : RS} (ha : Agr r r0) : Jw r0 c mp (folS c r) := ⟨Agr.S.trans ha, posV_S (iv_agr iv ha) hc⟩
theorem Jw_on (iv : IV I O r0 C t mp) (hc : c < C) : onWay c 4 mp.2.2.1 (Jw r0 c mp) := by
  have hC4 := iv.C4
  have hc4 : c < 4 := by omega
  intro r ⟨ha, hv⟩
  have iv' := iv_agr iv ha
  obtain ⟨u1, u2, -⟩ := posV_upR iv hc ha hv
  obtain ⟨⟨u3, -⟩, -⟩ := posV_upL iv hc4 4 r ha hv
  refine ⟨?_, ?_, ?_, ?_, ⟨u2, u1⟩, fun nm n _ hf => ?_⟩
  · obtain ⟨a, h1, h2, -⟩ := hv; exact ⟨a, h1, h2⟩
  · intro k hk h18
    obtain ⟨c', i, g1, g2, g3⟩ := iv'.m4 k hk h18
    obtain ⟨-, -, h3, -, -, h6⟩ := iv'.m2 c' g1 i g2
    rw [g3] at h3 h6
    rcases h6 with ⟨z1, -⟩ | ⟨i', z1, z2, -⟩
    · exact Or.inl z1
    · have hi' : i' < mp.1 c' := by omega
      obtain ⟨-, q2, q3, -⟩ := iv'.m2 c' g1 i' hi'
      have hlt := pos_lt iv'.m2 g1 hi'
      exact Or.inr ⟨mp.2.1 c' i', by omega, z2, q2, by rw [q3, h3]; exact z1⟩
  · rcases posV.by4 iv' hc4 hv with h | ⟨i, h1, h2, h3⟩
    · exact Or.inl h
    · obtain ⟨-, q2, q3, -⟩ := iv'.m2 c hc4 i h2
      have hlt := pos_lt iv'.m2 hc4 h2
      exact Or.inr ⟨mp.2.1 c i, by omega, h3, q2, by rw [q3]; exact h1⟩
  · obtain ⟨a, h1, h2, -⟩ := u3; exact ⟨a, h1, h2⟩
  · obtain ⟨q1, q2⟩ := posV_cross iv hc4 (r := ru r 0 40 (nI n)) (Agr.a40.trans ha) (posV_child hv hf)
    exact ⟨q2, q1⟩
theorem Jw_ok2 (iv : IV I O r0 C t mp) (hc : c < C) {p : Nat} (hpc : r0 25 p = nI c) : wayOK2 C p c 4 mp.2.2.1 (Jw r0 c mp) := by
  refine ⟨⟨Jw_on iv hc, fun r ⟨ha, hv⟩ => ?_⟩, fun r ⟨ha, hv⟩ => ⟨?_, Jw_S iv hc ha⟩⟩
  · have iv' := iv_agr iv ha
    exact ⟨iv'.wo, iv'.wm, iv'.wp, by rw [ha.row (by decide) (by decide)]; exact hpc, iv'.Cn⟩
  · have iv' := iv_agr iv ha
    obtain ⟨a, h1, h2, h3, -⟩ := hv
    refine ⟨a, h1, h2, ?_⟩
    rcases iv'.par a h1 h3 with h | ⟨m, m1, m2, -⟩
    · exact Or.inl h
    · exact Or.inr ⟨m, m1, m2⟩
end
