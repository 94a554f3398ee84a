/-! ===== what the model's find and place need ===== -/
theorem WfS_sc {R R' : mR} (e : ∀ f, f ∉ [0, 30, 31, 32, 33, 34] → R' f = R f) (h31 : inn (R' 31 0) 0 9999 = true) (hw : WfS R) : WfS R' := by
  obtain ⟨⟨⟨a1, a2, a3, a4, a5⟩, ab⟩, ⟨b1, b2, b3, b4, b5⟩, c, d, e9, f, ⟨g1, g2⟩, h, i, j, k, l⟩ := hw
  have e1 := e 1 (by decide)
  have e3 := e 3 (by decide)
  have e4 := e 4 (by decide)
  have e5 := e 5 (by decide)
  have e6 := e 6 (by decide)
  have e7 := e 7 (by decide)
  have e8 := e 8 (by decide)
  have e10 := e 10 (by decide)
  have e11 := e 11 (by decide)
  have e12 := e 12 (by decide)
  have e13 := e 13 (by decide)
  have e14 := e 14 (by decide)
  have e15 := e 15 (by decide)
  have e16 := e 16 (by decide)
  have e17 := e 17 (by decide)
  have e19 := e 19 (by decide)
  have e20 := e 20 (by decide)
  have e21 := e 21 (by decide)
  have e24 := e 24 (by decide)
  have e25 := e 25 (by decide)
  have e26 := e 26 (by decide)
  have e28 := e 28 (by decide)
  have e29 := e 29 (by decide)
  have e99 := e 9 (by decide)
  simp only [WfS, Bd, nS, nL, nC, nW, nF, Wz, e1, e3, e4, e5, e6, e7, e8, e99, e10, e11, e12, e13, e14, e15, e16, e17, e19, e20, e21, e24, e25, e26, e28, e29]
  exact ⟨⟨⟨a1, a2, a3, a4, a5⟩, ab⟩, ⟨b1, b2, b3, b4, b5⟩, c, d, e9, f, ⟨g1, g2⟩, h, i, j, h31, l⟩
theorem asM_cg {R R' : mR} (h5 : R' 5 = R 5) (h6 : R' 6 = R 6) (h26 : R' 26 = R 26) (h27 : R' 27 = R 27) (s : Nat) : ∀ j, asM R' s j = asM R s j := by
  intro j
  induction j with
  | zero => rfl
  | succ j ih => rw [asM, asM, ih, h5, h6, h27, nW, nW, h26]
theorem apF_s {R R' : mR} (e : ∀ f, f ∉ [0, 30, 31, 32, 33, 34] → R' f = R f) {i : Nat} (hi : i < nS R) : asM R' i (tn (R' 4 i)) = apF R i := by
  rw [asM_cg (e 5 (by decide)) (e 6 (by decide)) (e 26 (by decide)) (e 27 (by decide)), e 4 (by decide), apF, if_pos hi]
theorem apF_m {R R' : mR} (e : ∀ f, f ∉ [0, 30, 31, 32, 33, 34] → R' f = R f) {i : Nat} (hi : nS R ≤ i) : amM R' (i - nS R) = apF R i := by
  rw [apF, if_neg (by omega), amM, amM, e 27 (by decide), e 20 (by decide), e 19 (by decide), nW, nW, e 26 (by decide)]
theorem fu_fu (f : Nat → Int32) (i : Nat) (v w : Int32) : fu (fu f i v) i w = fu f i w := by
  funext j
  by_cases h : j = i
  · rw [h, fu_s, fu_s]
  · rw [fu_n h, fu_n h, fu_n h]
/-- f, but g below i -/
def mixF (g f : Nat → Int32) (i : Nat) : Nat → Int32 := fun j => if j < i then g j else f j
theorem mixF_0 (g f : Nat → Int32) : mixF g f 0 = f := by funext j; rw [mixF, if_neg (by omega)]
theorem mixF_s (g f : Nat → Int32) (i : Nat) : fu (mixF g f i) i (g i) = mixF g f (i + 1) := by
  funext j
  by_cases h : j = i
  · rw [h, fu_s, mixF, if_pos (by omega)]
  · rw [fu_n h, mixF, mixF]
    by_cases h2 : j < i
    · rw [if_pos h2, if_pos (by omega)]
    · rw [if_neg h2, if_neg (by omega)]
theorem mixF_lt {g f : Nat → Int32} {i j : Nat} (h : j < i) : mixF g f i j = g j := if_pos h
theorem sqL_mem (ap : Nat → Int32) (T : Nat) : ∀ t i, i ∈ sqL ap T t ↔ ∃ j, j < t ∧ psq ap T j = i := by
  intro t
  induction t with
  | zero => intro i; exact ⟨fun z => (by cases z), fun ⟨j, hj, _⟩ => by omega⟩
  | succ t ih =>
    intro i
    rw [sqL, List.mem_cons, ih]
    constructor
    · rintro (e | ⟨j, hj, e⟩)
      · exact ⟨t, by omega, e.symm⟩
      · exact ⟨j, by omega, e⟩
    · rintro ⟨j, hj, e⟩
      by_cases h : j = t
      · subst h; exact Or.inl e.symm
      · exact Or.inr ⟨j, by omega, e⟩
theorem bsI_nn {ap : Nat → Int32} {fl : Nat → Bool} {n : Nat} (hn : n < 2 ^ 31) (h : ¬ bsI ap fl n < 0) : ∃ p, p < n ∧ bsI ap fl n = nI p := by
  rcases bsI_sp ap fl n hn with ⟨e, _⟩ | ⟨p, hp, e, _⟩
  · rw [e] at h; exact absurd (by decide) h
  · exact ⟨p, hp, e⟩
theorem bsq_eq {R : mR} (h : WfS R) (k t : Nat) (ht : t < min k (nS R + nL R)) : bsI (apF R) (fun i => decide (i ∈ sqL (apF R) (nS R + nL R) t)) (nS R + nL R) = nI (psq (apF R) (nS R + nL R) t) := by
  have hb := h.1.1
  obtain ⟨h1, q, hS, hC, hV⟩ := rk_sel R (R 27) (sa_k (R 27) (R 27) (R 27) (nW R)) k (R 27) (R 27) (nS R + nL R)
  have hap : ∀ i, i < nS R + nL R → (rkO R (R 27) (sa_k (R 27) (R 27) (R 27) (nW R)) i).2 = apF R i := by
    intro i hi
    rw [rkO, apF]
    by_cases hS9 : i < nS R
    · rw [if_pos hS9, if_pos hS9]; exact dsk_M h (fun _ _ => rfl) hS9 _ (Nat.le_refl _)
    · rw [if_neg hS9, if_neg hS9]; exact nrD_M h (fun _ _ => rfl) (by omega)
  have hS2 : SelP (apF R) (nS R + nL R) (min k (nS R + nL R)) q := by
    intro t ht
    obtain ⟨a1, a2, a3⟩ := hS t ht
    refine ⟨a1, a2, fun i hi hn => ?_⟩
    have := a3 i hi hn
    simp only [hap _ a1, hap i hi] at this
    exact this
  have hm := (sel_sq (by omega) hS2 t (by omega)).1
  rcases bsI_sp (apF R) (fun i => decide (i ∈ sqL (apF R) (nS R + nL R) t)) (nS R + nL R) (by omega) with ⟨_, b⟩ | ⟨p, hp, e, _⟩
  · have := b (q t) (hS2 t ht).1
    simp only [decide_eq_true_eq, hm] at this
    obtain ⟨u, hu, e⟩ := this
    exact absurd e ((hS2 t ht).2.1 u hu)
  · rw [psq, e, tn_nI (by omega)]
theorem fnd_mem {R : mR} (h : WfS R) {k t i : Nat} (ht : t ≤ min k (nS R + nL R)) (hi : i < nS R + nL R) (f : Nat → Int32) : (∃ j, j < t ∧ mixF (fun j => nI (psq (apF R) (nS R + nL R) j)) f t j = nI i) ↔ i ∈ sqL (apF R) (nS R + nL R) t := by
  have hb := h.1.1
  rw [sqL_mem]
  constructor
  · rintro ⟨j, hj, e⟩
    rw [mixF_lt hj] at e
    have := psq_lt h k j (by omega)
    exact ⟨j, hj, (nI_eq (by omega) (by omega)).mp e⟩
  · rintro ⟨j, hj, e⟩
    exact ⟨j, hj, by rw [mixF_lt hj]; show nI _ = _; rw [e]⟩
theorem fd_fin {R Rb Rg : mR} {k : Nat} (hg : ∀ f, f ≠ 0 → Rg f = R f) (h0 : Rg 0 = fu (R 0) 0 0) (hR : ∀ f, f ∉ [28, 29, 30, 31, 32, 33, 34] → Rb f = Rg f) (h28 : Rb 28 = fu (R 28) 0 (nI (min k (nS R + nL R)))) (h29 : Rb 29 = mixF (fun j => nI (psq (apF R) (nS R + nL R) j)) (R 29) (min k (nS R + nL R))) (h30 : Rb 30 = mixF (apF R) (R 30) (nS R + nL R)) (h31 : Rb 31 = fu (R 31) 0 (hsM (R 27) (nW R))) : ∀ f, f ∉ [32, 33, 34] → Rb f = uR (fdR R k) 0 0 0 f := by
  intro f hf
  by_cases f0 : f = 0
  · subst f0; rw [hR 0 (by decide), h0]; rfl
  · rw [uR_n f0]
    by_cases f28 : f = 28
    · subst f28; rw [h28]; rfl
    by_cases f29 : f = 29
    · subst f29; rw [h29]; rfl
    by_cases f30 : f = 30
    · subst f30; rw [h30]; rfl
    by_cases f31 : f = 31
    · subst f31; rw [h31]; rfl
    rw [fdR_o R k (by simp only [List.mem_cons, List.not_mem_nil, or_false]; omega), hR f (by simp only [List.mem_cons, List.not_mem_nil, or_false] at hf ⊢; omega), hg f f0]
theorem inn_cnt {c : Int32} {n : Nat} (hc : c = nI n) (hn : n ≤ 30) (s : Int32) : inn s 0 (c - 1) = true ↔ 0 ≤ s ∧ s < nI n := by
  subst hc
  simp only [inn, Bool.and_eq_true, decide_eq_true_eq]
  cases n with
  | zero =>
    constructor
    · rintro ⟨h1, h2⟩
      have h3 : (0 : Int32) ≤ nI 0 - 1 := Int32.le_trans h1 h2
      exact absurd h3 (by decide)
    · rintro ⟨h1, h2⟩
      exact (Int32.lt_irrefl (Int32.lt_of_le_of_lt h1 h2)).elim
  | succ n =>
    rw [nI_pred]
    constructor
    · rintro ⟨h1, h2⟩
      obtain ⟨a, ha, rfl⟩ := nI_of (Int32.not_lt.mpr h1)
      have := (nI_leI ha (by omega)).mp h2
      exact ⟨h1, (nI_ltI ha (by omega)).mpr (by omega)⟩
    · rintro ⟨h1, h2⟩
      obtain ⟨a, ha, rfl⟩ := nI_of (Int32.not_lt.mpr h1)
      have := (nI_ltI ha (by omega)).mp h2
      exact ⟨h1, (nI_leI ha (by omega)).mpr (by omega)⟩
theorem gq_find {R : mR} {k : Int32} : gbQ True (inn k 1 10 = true) (nW R ≠ 0) True true (inn k 1 10) (decide (nW R ≠ 0)) true := ⟨gq_tt, fun _ => Iff.rfl, fun _ _ => gq_d, fun _ _ _ => gq_tt⟩
theorem gq_place {R : mR} (hw : WfS R) {i w : Int32} : gbQ (0 ≤ i ∧ i < nI (nF R)) (inn w 0 5 = true) True True (inn i 0 (R 28 0 - 1)) (inn w 0 5) true true := ⟨(inn_cnt hw.2.1.2.2.2.2 (by have := hw.1.1.2.2.2.2; omega) i).symm, fun _ => Iff.rfl, fun _ _ => gq_tt, fun _ _ _ => gq_tt⟩
theorem twC_cg {R R' : mR} (h : ∀ f, f ≠ 0 → R' f = R f) : nS R' = nS R := by rw [nS, nS, h 1 (by decide)]
