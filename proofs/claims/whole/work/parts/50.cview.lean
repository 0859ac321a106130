/-! PRINTED by wip/whole/cview.py: the class's cells by families: 0 K, 1 node, 2 cage, 3 cmts, 4 mrow, 5 que, 6 qv, 9 task, 10 tpow, 11 thld, 12 filt, 13 fop, 14 ffs, 15 fsc, 16 walk; ig their ints, og their references -/
def ad (f i : Nat) : Nat := match f with
  | 0 => 1
  | 1 => 4 + i
  | 2 => 37 + 10 * i
  | 3 => 38 + 10 * i
  | 4 => 39 + 10 * (i / 4) + i % 4
  | 5 => 43 + 10 * (i / 2) + 2 * (i % 2)
  | 6 => 44 + 10 * (i / 2) + 2 * (i % 2)
  | 9 => 78 + 3 * i
  | 10 => 79 + 3 * i
  | 11 => 80 + 3 * i
  | 12 => 127 + 4 * i
  | 13 => 128 + 4 * i
  | 14 => 129 + 4 * i
  | 15 => 130 + 4 * i
  | 16 => 143 + i
  | _ => 0
def vaS (f : Nat) : Nat := match f with
  | 0 => 1
  | 1 => 32
  | 2 => 4
  | 3 => 4
  | 4 => 16
  | 5 => 8
  | 6 => 8
  | 9 => 16
  | 10 => 16
  | 11 => 16
  | 12 => 4
  | 13 => 4
  | 14 => 4
  | 15 => 4
  | 16 => 2
  | _ => 0
def AL : List (Nat × Nat) := [(0, 0), (1, 0), (1, 1), (1, 2), (1, 3), (1, 4), (1, 5), (1, 6), (1, 7), (1, 8), (1, 9), (1, 10), (1, 11), (1, 12), (1, 13), (1, 14), (1, 15), (1, 16), (1, 17), (1, 18), (1, 19), (1, 20), (1, 21), (1, 22), (1, 23), (1, 24), (1, 25), (1, 26), (1, 27), (1, 28), (1, 29), (1, 30), (1, 31), (2, 0), (2, 1), (2, 2), (2, 3), (3, 0), (3, 1), (3, 2), (3, 3), (4, 0), (4, 1), (4, 2), (4, 3), (4, 4), (4, 5), (4, 6), (4, 7), (4, 8), (4, 9), (4, 10), (4, 11), (4, 12), (4, 13), (4, 14), (4, 15), (5, 0), (5, 1), (5, 2), (5, 3), (5, 4), (5, 5), (5, 6), (5, 7), (6, 0), (6, 1), (6, 2), (6, 3), (6, 4), (6, 5), (6, 6), (6, 7), (9, 0), (9, 1), (9, 2), (9, 3), (9, 4), (9, 5), (9, 6), (9, 7), (9, 8), (9, 9), (9, 10), (9, 11), (9, 12), (9, 13), (9, 14), (9, 15), (10, 0), (10, 1), (10, 2), (10, 3), (10, 4), (10, 5), (10, 6), (10, 7), (10, 8), (10, 9), (10, 10), (10, 11), (10, 12), (10, 13), (10, 14), (10, 15), (11, 0), (11, 1), (11, 2), (11, 3), (11, 4), (11, 5), (11, 6), (11, 7), (11, 8), (11, 9), (11, 10), (11, 11), (11, 12), (11, 13), (11, 14), (11, 15), (12, 0), (12, 1), (12, 2), (12, 3), (13, 0), (13, 1), (13, 2), (13, 3), (14, 0), (14, 1), (14, 2), (14, 3), (15, 0), (15, 1), (15, 2), (15, 3), (16, 0), (16, 1)]
def adi (a : Nat) : Nat × Nat := (AL.find? (fun p => Nat.beq (ad p.1 p.2) a)).getD (99, 0)
theorem AL_ok : AL.all (fun p => Nat.beq (adi (ad p.1 p.2)).1 p.1 && Nat.beq (adi (ad p.1 p.2)).2 p.2 && Nat.blt (ad p.1 p.2) 145) = true := by decide +kernel
theorem AL_in : ∀ f, f < 17 → ∀ i, i < vaS f → AL.contains (f, i) = true := by decide +kernel
theorem vaS_f {f i : Nat} (h : i < vaS f) : f < 17 := by
  rcases Nat.lt_or_ge f 17 with h1 | h1
  · exact h1
  · obtain ⟨g, rfl⟩ : ∃ g, f = g + 17 := ⟨f - 17, by omega⟩
    have : vaS (g + 17) = 0 := rfl
    omega
theorem ad_inj {f i f' i' : Nat} (h : i < vaS f) (h' : i' < vaS f') (e : ad f i = ad f' i') : f = f' ∧ i = i' := by
  have h1 := List.all_eq_true.mp AL_ok _ (List.contains_iff_mem.mp (AL_in f (vaS_f h) i h))
  have h2 := List.all_eq_true.mp AL_ok _ (List.contains_iff_mem.mp (AL_in f' (vaS_f h') i' h'))
  simp only [Bool.and_eq_true, Nat.beq_eq] at h1 h2
  rw [e] at h1
  exact ⟨h1.1.1.symm.trans h2.1.1, h1.1.2.symm.trans h2.1.2⟩
theorem ad_lt {f i : Nat} (h : i < vaS f) : ad f i < 145 := by
  have h1 := List.all_eq_true.mp AL_ok _ (List.contains_iff_mem.mp (AL_in f (vaS_f h) i h))
  simp only [Bool.and_eq_true, Nat.blt_eq] at h1
  exact h1.2
abbrev CI : Type := Nat → Nat → Nat → Int32
abbrev CO : Type := Nat → Nat → Nat → Option Nat
def ig (M : mH) : CI := fun f i k => if i < vaS f then gi M (ad f i) k else 0
def og (M : mH) : CO := fun f i k => if i < vaS f then gr M (ad f i) k else none
def iu (m : CI) (f i k : Nat) (x : Int32) : CI := fun f' i' k' => if f' = f ∧ i' = i ∧ k' = k then x else m f' i' k'
def ou (m : CO) (f i k : Nat) (x : Option Nat) : CO := fun f' i' k' => if f' = f ∧ i' = i ∧ k' = k then x else m f' i' k'
theorem ig_eq {M : mH} {f i k : Nat} (h : i < vaS f) : gi M (ad f i) k = ig M f i k := by unfold ig; rw [if_pos h]
theorem og_eq {M : mH} {f i k : Nat} (h : i < vaS f) : gr M (ad f i) k = og M f i k := by unfold og; rw [if_pos h]
theorem cg_ig {M M' : mH} (h : cg M' = cg M) : ig M' = ig M := by
  funext f i k
  unfold ig
  by_cases hi : i < vaS f
  · rw [if_pos hi, if_pos hi]
    have := congrFun (congrFun h (ad f i)) k
    unfold cg at this
    rw [if_pos (ad_lt hi), if_pos (ad_lt hi)] at this
    unfold gi
    rw [this]
  · rw [if_neg hi, if_neg hi]
theorem cg_og {M M' : mH} (h : cg M' = cg M) : og M' = og M := by
  funext f i k
  unfold og
  by_cases hi : i < vaS f
  · rw [if_pos hi, if_pos hi]
    have := congrFun (congrFun h (ad f i)) k
    unfold cg at this
    rw [if_pos (ad_lt hi), if_pos (ad_lt hi)] at this
    rw [gr_eq, gr_eq, this]
  · rw [if_neg hi, if_neg hi]
theorem ad_iff {f i f' i' : Nat} (h : i < vaS f) (h' : i' < vaS f') {k k' : Nat} : (ad f' i' = ad f i ∧ k' = k) ↔ (f' = f ∧ i' = i ∧ k' = k) := by
  constructor
  · rintro ⟨e, e2⟩
    obtain ⟨a, b⟩ := ad_inj h' h e
    exact ⟨a, b, e2⟩
  · rintro ⟨rfl, rfl, rfl⟩
    exact ⟨rfl, rfl⟩
theorem wi_ig {M : mH} (hw : wf M) {f i k : Nat} (h : i < vaS f) {x : Int32} (ho : wok (ad f i) k (.int x)) : ig (mu M (ad f i) k (.int x)) = iu (ig M) f i k x := by
  funext f' i' k'
  show (if i' < vaS f' then gi (mu M (ad f i) k (.int x)) (ad f' i') k' else 0) = if f' = f ∧ i' = i ∧ k' = k then x else (if i' < vaS f' then gi M (ad f' i') k' else 0)
  by_cases hi : i' < vaS f'
  · rw [if_pos hi, if_pos hi, gi_mu hw ho]
    by_cases hh : ad f' i' = ad f i ∧ k' = k
    · rw [if_pos hh, if_pos ((ad_iff h hi).mp hh)]; rfl
    · rw [if_neg hh, if_neg (fun z => hh ((ad_iff h hi).mpr z))]
  · rw [if_neg hi, if_neg hi, if_neg (fun z => hi (by rw [z.1, z.2.1]; exact h))]
theorem wok_gr {M : mH} (hw : wf M) {a k : Nat} {x : Int32} (ho : wok a k (.int x)) : gr M a k = none := by
  have h := hw.kind (a := a) (t := (shp a).1) (n := (shp a).2) (k := k) rfl ho.2.1 ho.1
  have h2 := ho.2.2.1
  rw [gr_eq]
  generalize tkind (shp a).1 k = q at h h2
  rcases q with _ | _ | q
  · obtain ⟨y, e⟩ := h; rw [e]; rfl
  · rcases h with e | e <;> rw [e] <;> rfl
  · rcases h2 with e | ⟨y, e⟩ <;> cases e
theorem wi_og {M : mH} (hw : wf M) {f i k : Nat} {x : Int32} (ho : wok (ad f i) k (.int x)) : og (mu M (ad f i) k (.int x)) = og M := by
  funext f' i' k'
  unfold og
  by_cases hi : i' < vaS f'
  · rw [if_pos hi, if_pos hi, gr_mu hw ho]
    by_cases hh : ad f' i' = ad f i ∧ k' = k
    · rw [if_pos hh, hh.1, hh.2, wok_gr hw ho]; rfl
    · rw [if_neg hh]
  · rw [if_neg hi, if_neg hi]
theorem mvi_rf {o : Option Nat} : mvi (rf o) = 0 := by cases o <;> rfl
theorem vrf_rf {o : Option Nat} : vrf (rf o) = o := by cases o <;> rfl
theorem wok_gi {M : mH} (hw : wf M) {a k : Nat} {o : Option Nat} (ho : wok a k (rf o)) : gi M a k = 0 := by
  have h := hw.kind (a := a) (t := (shp a).1) (n := (shp a).2) (k := k) rfl ho.2.1 ho.1
  have h2 := ho.2.2.1
  unfold gi
  generalize tkind (shp a).1 k = q at h h2
  rcases q with _ | _ | q
  · obtain ⟨y, e⟩ := h2; cases o <;> cases e
  · rcases h2 with e | e <;> cases o <;> cases e
  · rcases h with e | ⟨y, e⟩ <;> rw [e] <;> rfl
theorem wr_ig {M : mH} (hw : wf M) {f i k : Nat} {o : Option Nat} (ho : wok (ad f i) k (rf o)) : ig (mu M (ad f i) k (rf o)) = ig M := by
  funext f' i' k'
  unfold ig
  by_cases hi : i' < vaS f'
  · rw [if_pos hi, if_pos hi, gi_mu hw ho]
    by_cases hh : ad f' i' = ad f i ∧ k' = k
    · rw [if_pos hh, hh.1, hh.2, wok_gi hw ho, mvi_rf]
    · rw [if_neg hh]
  · rw [if_neg hi, if_neg hi]
theorem wr_og {M : mH} (hw : wf M) {f i k : Nat} (h : i < vaS f) {o : Option Nat} (ho : wok (ad f i) k (rf o)) : og (mu M (ad f i) k (rf o)) = ou (og M) f i k o := by
  funext f' i' k'
  show (if i' < vaS f' then gr (mu M (ad f i) k (rf o)) (ad f' i') k' else none) = if f' = f ∧ i' = i ∧ k' = k then o else (if i' < vaS f' then gr M (ad f' i') k' else none)
  by_cases hi : i' < vaS f'
  · rw [if_pos hi, if_pos hi, gr_mu hw ho]
    by_cases hh : ad f' i' = ad f i ∧ k' = k
    · rw [if_pos hh, if_pos ((ad_iff h hi).mp hh), vrf_rf]
    · rw [if_neg hh, if_neg (fun z => hh ((ad_iff h hi).mpr z))]
  · rw [if_neg hi, if_neg hi, if_neg (fun z => hi (by rw [z.1, z.2.1]; exact h))]
/-- what a write of an int does: shape, the reference's arrays, the class's ints and references -/
def Wi (M M' : mH) (f i k : Nat) (x : Int32) : Prop := wf M' ∧ rg M' = rg M ∧ ig M' = iu (ig M) f i k x ∧ og M' = og M
def Wr (M M' : mH) (f i k : Nat) (x : Option Nat) : Prop := wf M' ∧ rg M' = rg M ∧ ig M' = ig M ∧ og M' = ou (og M) f i k x
theorem Wi.w {M M' : mH} {f i k : Nat} {x : Int32} (h : Wi M M' f i k x) : wf M' := h.1
theorem Wi.r {M M' : mH} {f i k : Nat} {x : Int32} (h : Wi M M' f i k x) : rg M' = rg M := h.2.1
theorem Wi.i {M M' : mH} {f i k : Nat} {x : Int32} (h : Wi M M' f i k x) : ig M' = iu (ig M) f i k x := h.2.2.1
theorem Wi.o {M M' : mH} {f i k : Nat} {x : Int32} (h : Wi M M' f i k x) : og M' = og M := h.2.2.2
theorem Wr.w {M M' : mH} {f i k : Nat} {x : Option Nat} (h : Wr M M' f i k x) : wf M' := h.1
theorem Wr.r {M M' : mH} {f i k : Nat} {x : Option Nat} (h : Wr M M' f i k x) : rg M' = rg M := h.2.1
theorem Wr.i {M M' : mH} {f i k : Nat} {x : Option Nat} (h : Wr M M' f i k x) : ig M' = ig M := h.2.2.1
theorem Wr.o {M M' : mH} {f i k : Nat} {x : Option Nat} (h : Wr M M' f i k x) : og M' = ou (og M) f i k x := h.2.2.2
theorem Wi_mk {M : mH} (hw : wf M) {a f i k : Nat} (h : i < vaS f) (ha : a = ad f i) {x : Int32} (ho : wok a k (.int x)) : Wi M (mu M a k (.int x)) f i k x := by
  subst ha
  exact ⟨hw.mu ho, rg_lo hw ho (ad_lt h), wi_ig hw h ho, wi_og hw ho⟩
theorem Wr_mk {M : mH} (hw : wf M) {a f i k : Nat} (h : i < vaS f) (ha : a = ad f i) {x : Option Nat} (ho : wok a k (rf x)) : Wr M (mu M a k (rf x)) f i k x := by
  subst ha
  exact ⟨hw.mu ho, rg_lo hw ho (ad_lt h), wr_ig hw ho, wr_og hw h ho⟩
theorem gi_K {M : mH} {k : Nat} : gi M 1 k = ig M 0 0 k := ig_eq (f := 0) (i := 0) (by decide)
theorem gi_node {M : mH} {i k : Nat} (hi : i < 32) : gi M (4 + i) k = ig M 1 i k := ig_eq (f := 1) hi
theorem gr_node {M : mH} {i k : Nat} (hi : i < 32) : gr M (4 + i) k = og M 1 i k := og_eq (f := 1) hi
theorem gi_cage {M : mH} {i k : Nat} (hi : i < 4) : gi M (37 + 10 * i) k = ig M 2 i k := ig_eq (f := 2) hi
theorem gr_cage {M : mH} {i k : Nat} (hi : i < 4) : gr M (37 + 10 * i) k = og M 2 i k := og_eq (f := 2) hi
theorem gi_cmts {M : mH} {i k : Nat} (hi : i < 4) : gi M (38 + 10 * i) k = ig M 3 i k := ig_eq (f := 3) hi
theorem gr_cmts {M : mH} {i k : Nat} (hi : i < 4) : gr M (38 + 10 * i) k = og M 3 i k := og_eq (f := 3) hi
theorem gi_task {M : mH} {i k : Nat} (hi : i < 16) : gi M (78 + 3 * i) k = ig M 9 i k := ig_eq (f := 9) hi
theorem gr_task {M : mH} {i k : Nat} (hi : i < 16) : gr M (78 + 3 * i) k = og M 9 i k := og_eq (f := 9) hi
theorem gi_tpow {M : mH} {i k : Nat} (hi : i < 16) : gi M (79 + 3 * i) k = ig M 10 i k := ig_eq (f := 10) hi
theorem gr_tpow {M : mH} {i k : Nat} (hi : i < 16) : gr M (79 + 3 * i) k = og M 10 i k := og_eq (f := 10) hi
theorem gi_thld {M : mH} {i k : Nat} (hi : i < 16) : gi M (80 + 3 * i) k = ig M 11 i k := ig_eq (f := 11) hi
theorem gr_thld {M : mH} {i k : Nat} (hi : i < 16) : gr M (80 + 3 * i) k = og M 11 i k := og_eq (f := 11) hi
theorem gi_filt {M : mH} {i k : Nat} (hi : i < 4) : gi M (127 + 4 * i) k = ig M 12 i k := ig_eq (f := 12) hi
theorem gr_filt {M : mH} {i k : Nat} (hi : i < 4) : gr M (127 + 4 * i) k = og M 12 i k := og_eq (f := 12) hi
theorem gi_fop {M : mH} {i k : Nat} (hi : i < 4) : gi M (128 + 4 * i) k = ig M 13 i k := ig_eq (f := 13) hi
theorem gr_fop {M : mH} {i k : Nat} (hi : i < 4) : gr M (128 + 4 * i) k = og M 13 i k := og_eq (f := 13) hi
theorem gi_ffs {M : mH} {i k : Nat} (hi : i < 4) : gi M (129 + 4 * i) k = ig M 14 i k := ig_eq (f := 14) hi
theorem gr_ffs {M : mH} {i k : Nat} (hi : i < 4) : gr M (129 + 4 * i) k = og M 14 i k := og_eq (f := 14) hi
theorem gi_fsc {M : mH} {i k : Nat} (hi : i < 4) : gi M (130 + 4 * i) k = ig M 15 i k := ig_eq (f := 15) hi
theorem gr_fsc {M : mH} {i k : Nat} (hi : i < 4) : gr M (130 + 4 * i) k = og M 15 i k := og_eq (f := 15) hi
theorem gi_walk {M : mH} {i k : Nat} (hi : i < 2) : gi M (143 + i) k = ig M 16 i k := ig_eq (f := 16) hi
theorem gr_walk {M : mH} {i k : Nat} (hi : i < 2) : gr M (143 + i) k = og M 16 i k := og_eq (f := 16) hi
theorem ad_mrow {c j : Nat} (hj : j < 4) : 39 + 10 * c + j = ad 4 (4 * c + j) := by show _ = 39 + 10 * ((4 * c + j) / 4) + (4 * c + j) % 4; omega
theorem ad_que {c j : Nat} (hj : j < 2) : 43 + 10 * c + 2 * j = ad 5 (2 * c + j) := by show _ = 43 + 10 * ((2 * c + j) / 2) + 2 * ((2 * c + j) % 2); omega
theorem ad_qv {c j : Nat} (hj : j < 2) : 44 + 10 * c + 2 * j = ad 6 (2 * c + j) := by show _ = 44 + 10 * ((2 * c + j) / 2) + 2 * ((2 * c + j) % 2); omega
theorem gr_mrow {M : mH} {c j k : Nat} (hc : c < 4) (hj : j < 4) : gr M (39 + 10 * c + j) k = og M 4 (4 * c + j) k := by rw [ad_mrow hj]; exact og_eq (f := 4) (show 4 * c + j < 16 by omega)
theorem gi_que {M : mH} {c j k : Nat} (hc : c < 4) (hj : j < 2) : gi M (43 + 10 * c + 2 * j) k = ig M 5 (2 * c + j) k := by rw [ad_que hj]; exact ig_eq (f := 5) (show 2 * c + j < 8 by omega)
theorem gi_qv {M : mH} {c j k : Nat} (hc : c < 4) (hj : j < 2) : gi M (44 + 10 * c + 2 * j) k = ig M 6 (2 * c + j) k := by rw [ad_qv hj]; exact ig_eq (f := 6) (show 2 * c + j < 8 by omega)
theorem sh_que : ∀ c, c < 4 → ∀ j, j < 2 → shp (43 + 10 * c + 2 * j) = (10, 2) := by decide +kernel
theorem sh_qv : ∀ c, c < 4 → ∀ j, j < 2 → shp (44 + 10 * c + 2 * j) = (1, 3) := by decide +kernel
theorem kf_que0 : ∀ c, c < 4 → ∀ j, j < 2 → CST.contains (43 + 10 * c + 2 * j, 0, .ref (44 + 10 * c + 2 * j)) = true := by decide +kernel
theorem kf_que {M : mH} (h : wf M) {c j : Nat} (hc : c < 4) (hj : j < 2) : gr M (43 + 10 * c + 2 * j) 0 = some (44 + 10 * c + 2 * j) := cstR h (kf_que0 c hc j hj)
theorem fr_que : ∀ c, c < 4 → ∀ j, j < 2 → fre (43 + 10 * c + 2 * j) 1 = true := by decide +kernel
theorem fr_qv : ∀ c, c < 4 → ∀ j, j < 2 → ∀ k, k < 3 → fre (44 + 10 * c + 2 * j) k = true := by decide +kernel
theorem C_que {M : mH} (hw : wf M) {c j : Nat} (hc : c < 4) (hj : j < 2) {x : Int32} : Wi M (mu M (43 + 10 * c + 2 * j) 1 (.int x)) 5 (2 * c + j) 1 x := Wi_mk hw (show 2 * c + j < 8 by omega) (ad_que hj) (wok_i (sh_que c hc j hj) (by decide) (by decide) rfl (fr_que c hc j hj))
theorem C_qv {M : mH} (hw : wf M) {c j k : Nat} (hc : c < 4) (hj : j < 2) (hk : k < 3) {x : Int32} : Wi M (mu M (44 + 10 * c + 2 * j) k (.int x)) 6 (2 * c + j) k x := Wi_mk hw (show 2 * c + j < 8 by omega) (ad_qv hj) (wok_i (sh_qv c hc j hj) (by decide) hk rfl (fr_qv c hc j hj k hk))
theorem C_mrow_0 {M : mH} (hw : wf M) {c j : Nat} (hc : c < 4) (hj : j < 4) {x : Option Nat} : Wr M (mu M (39 + 10 * c + j) 0 (rf x)) 4 (4 * c + j) 0 x := Wr_mk hw (show 4 * c + j < 16 by omega) (ad_mrow hj) (wk_mrow_0 hc hj)
theorem C_mrow_1 {M : mH} (hw : wf M) {c j : Nat} (hc : c < 4) (hj : j < 4) {x : Option Nat} : Wr M (mu M (39 + 10 * c + j) 1 (rf x)) 4 (4 * c + j) 1 x := Wr_mk hw (show 4 * c + j < 16 by omega) (ad_mrow hj) (wk_mrow_1 hc hj)
theorem C_mrow_2 {M : mH} (hw : wf M) {c j : Nat} (hc : c < 4) (hj : j < 4) {x : Option Nat} : Wr M (mu M (39 + 10 * c + j) 2 (rf x)) 4 (4 * c + j) 2 x := Wr_mk hw (show 4 * c + j < 16 by omega) (ad_mrow hj) (wk_mrow_2 hc hj)
theorem C_K_6 {M : mH} (hw : wf M) {x : Int32} : Wi M (mu M 1 6 (.int x)) 0 0 6 x := Wi_mk hw (f := 0) (i := 0) (by decide) rfl w_1_6
theorem C_K_7 {M : mH} (hw : wf M) {x : Int32} : Wi M (mu M 1 7 (.int x)) 0 0 7 x := Wi_mk hw (f := 0) (i := 0) (by decide) rfl w_1_7
theorem C_K_8 {M : mH} (hw : wf M) {x : Int32} : Wi M (mu M 1 8 (.int x)) 0 0 8 x := Wi_mk hw (f := 0) (i := 0) (by decide) rfl w_1_8
theorem C_node_1 {M : mH} (hw : wf M) {i : Nat} (hi : i < 32) {x : Int32} (hx : (x == 0 || x == 1) = true) : Wi M (mu M (4 + i) 1 (.int x)) 1 i 1 x := Wi_mk hw (f := 1) hi rfl (wk_node_1 hi hx)
theorem C_node_2 {M : mH} (hw : wf M) {i : Nat} (hi : i < 32) {x : Int32} : Wi M (mu M (4 + i) 2 (.int x)) 1 i 2 x := Wi_mk hw (f := 1) hi rfl (wk_node_2 hi)
theorem C_node_3 {M : mH} (hw : wf M) {i : Nat} (hi : i < 32) {x : Int32} : Wi M (mu M (4 + i) 3 (.int x)) 1 i 3 x := Wi_mk hw (f := 1) hi rfl (wk_node_3 hi)
theorem C_node_4 {M : mH} (hw : wf M) {i : Nat} (hi : i < 32) {x : Int32} : Wi M (mu M (4 + i) 4 (.int x)) 1 i 4 x := Wi_mk hw (f := 1) hi rfl (wk_node_4 hi)
theorem C_node_5 {M : mH} (hw : wf M) {i : Nat} (hi : i < 32) {x : Int32} : Wi M (mu M (4 + i) 5 (.int x)) 1 i 5 x := Wi_mk hw (f := 1) hi rfl (wk_node_5 hi)
theorem C_node_6 {M : mH} (hw : wf M) {i : Nat} (hi : i < 32) {x : Option Nat} : Wr M (mu M (4 + i) 6 (rf x)) 1 i 6 x := Wr_mk hw (f := 1) hi rfl (wk_node_6 hi)
theorem C_node_7 {M : mH} (hw : wf M) {i : Nat} (hi : i < 32) {x : Option Nat} : Wr M (mu M (4 + i) 7 (rf x)) 1 i 7 x := Wr_mk hw (f := 1) hi rfl (wk_node_7 hi)
theorem C_cage_1 {M : mH} (hw : wf M) {i : Nat} (hi : i < 4) {x : Option Nat} : Wr M (mu M (37 + 10 * i) 1 (rf x)) 2 i 1 x := Wr_mk hw (f := 2) hi rfl (wk_cage_1 hi)
theorem C_cage_2 {M : mH} (hw : wf M) {i : Nat} (hi : i < 4) {x : Int32} : Wi M (mu M (37 + 10 * i) 2 (.int x)) 2 i 2 x := Wi_mk hw (f := 2) hi rfl (wk_cage_2 hi)
theorem C_cage_3 {M : mH} (hw : wf M) {i : Nat} (hi : i < 4) {x : Int32} : Wi M (mu M (37 + 10 * i) 3 (.int x)) 2 i 3 x := Wi_mk hw (f := 2) hi rfl (wk_cage_3 hi)
theorem C_cage_4 {M : mH} (hw : wf M) {i : Nat} (hi : i < 4) {x : Int32} : Wi M (mu M (37 + 10 * i) 4 (.int x)) 2 i 4 x := Wi_mk hw (f := 2) hi rfl (wk_cage_4 hi)
theorem C_cage_5 {M : mH} (hw : wf M) {i : Nat} (hi : i < 4) {x : Int32} : Wi M (mu M (37 + 10 * i) 5 (.int x)) 2 i 5 x := Wi_mk hw (f := 2) hi rfl (wk_cage_5 hi)
theorem C_cage_6 {M : mH} (hw : wf M) {i : Nat} (hi : i < 4) {x : Option Nat} : Wr M (mu M (37 + 10 * i) 6 (rf x)) 2 i 6 x := Wr_mk hw (f := 2) hi rfl (wk_cage_6 hi)
theorem C_cage_7 {M : mH} (hw : wf M) {i : Nat} (hi : i < 4) {x : Option Nat} : Wr M (mu M (37 + 10 * i) 7 (rf x)) 2 i 7 x := Wr_mk hw (f := 2) hi rfl (wk_cage_7 hi)
theorem C_cage_8 {M : mH} (hw : wf M) {i : Nat} (hi : i < 4) {x : Int32} : Wi M (mu M (37 + 10 * i) 8 (.int x)) 2 i 8 x := Wi_mk hw (f := 2) hi rfl (wk_cage_8 hi)
theorem C_cage_10 {M : mH} (hw : wf M) {i : Nat} (hi : i < 4) {x : Int32} : Wi M (mu M (37 + 10 * i) 10 (.int x)) 2 i 10 x := Wi_mk hw (f := 2) hi rfl (wk_cage_10 hi)
theorem C_task_1 {M : mH} (hw : wf M) {i : Nat} (hi : i < 16) {x : Int32} : Wi M (mu M (78 + 3 * i) 1 (.int x)) 9 i 1 x := Wi_mk hw (f := 9) hi rfl (wk_task_1 hi)
theorem C_task_2 {M : mH} (hw : wf M) {i : Nat} (hi : i < 16) {x : Option Nat} : Wr M (mu M (78 + 3 * i) 2 (rf x)) 9 i 2 x := Wr_mk hw (f := 9) hi rfl (wk_task_2 hi)
theorem C_task_3 {M : mH} (hw : wf M) {i : Nat} (hi : i < 16) {x : Int32} : Wi M (mu M (78 + 3 * i) 3 (.int x)) 9 i 3 x := Wi_mk hw (f := 9) hi rfl (wk_task_3 hi)
theorem C_task_4 {M : mH} (hw : wf M) {i : Nat} (hi : i < 16) {x : Int32} : Wi M (mu M (78 + 3 * i) 4 (.int x)) 9 i 4 x := Wi_mk hw (f := 9) hi rfl (wk_task_4 hi)
theorem C_task_5 {M : mH} (hw : wf M) {i : Nat} (hi : i < 16) {x : Option Nat} : Wr M (mu M (78 + 3 * i) 5 (rf x)) 9 i 5 x := Wr_mk hw (f := 9) hi rfl (wk_task_5 hi)
theorem C_task_8 {M : mH} (hw : wf M) {i : Nat} (hi : i < 16) {x : Int32} : Wi M (mu M (78 + 3 * i) 8 (.int x)) 9 i 8 x := Wi_mk hw (f := 9) hi rfl (wk_task_8 hi)
theorem C_task_9 {M : mH} (hw : wf M) {i : Nat} (hi : i < 16) {x : Int32} : Wi M (mu M (78 + 3 * i) 9 (.int x)) 9 i 9 x := Wi_mk hw (f := 9) hi rfl (wk_task_9 hi)
theorem C_filt_3 {M : mH} (hw : wf M) {i : Nat} (hi : i < 4) {x : Int32} : Wi M (mu M (127 + 4 * i) 3 (.int x)) 12 i 3 x := Wi_mk hw (f := 12) hi rfl (wk_filt_3 hi)
theorem C_cmts {M : mH} (hw : wf M) {i k : Nat} (hi : i < 4) (hk : k < 4) {x : Option Nat} : Wr M (mu M (38 + 10 * i) k (rf x)) 3 i k x := Wr_mk hw (f := 3) hi rfl (wk_cmts hi hk)
theorem C_tpow {M : mH} (hw : wf M) {i k : Nat} (hi : i < 16) (hk : k < 4) {x : Int32} : Wi M (mu M (79 + 3 * i) k (.int x)) 10 i k x := Wi_mk hw (f := 10) hi rfl (wk_tpow hi hk)
theorem C_thld {M : mH} (hw : wf M) {i k : Nat} (hi : i < 16) (hk : k < 3) {x : Option Nat} : Wr M (mu M (80 + 3 * i) k (rf x)) 11 i k x := Wr_mk hw (f := 11) hi rfl (wk_thld hi hk)
theorem C_fop {M : mH} (hw : wf M) {i k : Nat} (hi : i < 4) (hk : k < 10) {x : Int32} : Wi M (mu M (128 + 4 * i) k (.int x)) 13 i k x := Wi_mk hw (f := 13) hi rfl (wk_fop hi hk)
theorem C_ffs {M : mH} (hw : wf M) {i k : Nat} (hi : i < 4) (hk : k < 10) {x : Int32} : Wi M (mu M (129 + 4 * i) k (.int x)) 14 i k x := Wi_mk hw (f := 14) hi rfl (wk_ffs hi hk)
theorem C_fsc {M : mH} (hw : wf M) {i k : Nat} (hi : i < 4) (hk : k < 10) {x : Int32} : Wi M (mu M (130 + 4 * i) k (.int x)) 15 i k x := Wi_mk hw (f := 15) hi rfl (wk_fsc hi hk)
theorem sh_walk : ∀ i, i < 2 → shp (143 + i) = (16, 2) := by decide +kernel
theorem fr_walk : ∀ i, i < 2 → ∀ k, k < 2 → fre (143 + i) k = true := by decide +kernel
theorem C_walk_0 {M : mH} (hw : wf M) {i : Nat} (hi : i < 2) {x : Option Nat} : Wr M (mu M (143 + i) 0 (rf x)) 16 i 0 x := Wr_mk hw (f := 16) hi rfl (wok_r (sh_walk i hi) (by decide) (by decide) rfl (fr_walk i hi 0 (by decide)))
theorem C_walk_1 {M : mH} (hw : wf M) {i : Nat} (hi : i < 2) {x : Option Nat} : Wr M (mu M (143 + i) 1 (rf x)) 16 i 1 x := Wr_mk hw (f := 16) hi rfl (wok_r (sh_walk i hi) (by decide) (by decide) rfl (fr_walk i hi 1 (by decide)))
