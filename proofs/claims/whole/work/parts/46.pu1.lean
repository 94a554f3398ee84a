/-! ===== the words said: what the class keeps and what the model looks through ===== -/
def wOk (ws wl : Nat → Int32) : List (Nat × Nat) → Prop
  | [] => True
  | w :: t => (ws t.length = nI w.1 ∧ wl t.length = nI w.2) ∧ wOk ws wl t
theorem wOk_cg {ws wl ws' wl' : Nat → Int32} : ∀ l : List (Nat × Nat), (∀ t, t < l.length → ws' t = ws t ∧ wl' t = wl t) → wOk ws wl l → wOk ws' wl' l := by
  intro l
  induction l with
  | nil => intro _ _; exact trivial
  | cons w t ih =>
    intro h hw
    have h1 := h t.length (by simp)
    exact ⟨⟨h1.1.trans hw.1.1, h1.2.trans hw.1.2⟩, ih (fun q hq => h q (by simp; omega)) hw.2⟩
theorem wdD_len (sg : Nat → Int32) : ∀ i, 2 * (wdD sg i).length ≤ i - rnL sg i := by
  intro i
  induction i with
  | zero => exact Nat.le_refl _
  | succ i ih =>
    have hr := rnL_le sg i
    rw [wdD, rnL]
    by_cases h : is_l (sg i) = true
    · rw [if_pos h, if_pos h]; omega
    · rw [if_neg h, if_neg h]
      by_cases h2 : 0 < rnL sg i
      · rw [if_pos h2, List.length_cons]; omega
      · rw [if_neg h2]; omega
theorem wdL_in (sg : Nat → Int32) : ∀ i, (∀ w ∈ wdD sg i, w.1 + w.2 ≤ i) := by
  intro i
  induction i with
  | zero => intro w hw; cases hw
  | succ i ih =>
    have hr := rnL_le sg i
    rw [wdD]
    intro w
    split
    · intro hw; have := ih w hw; omega
    · split
      · intro hw
        rcases List.mem_cons.mp hw with e | hw
        · subst e; show i - rnL sg i + rnL sg i ≤ i + 1; omega
        · have := ih w hw; omega
      · intro hw; have := ih w hw; omega
theorem wdL_bd {sg : Nat → Int32} {i : Nat} {w : Nat × Nat} (h : w ∈ wdL sg i) : w.1 + w.2 ≤ i := by
  have hr := rnL_le sg i
  rw [wdL] at h
  split at h
  · rcases List.mem_cons.mp h with e | h
    · subst e; show i - rnL sg i + rnL sg i ≤ i; omega
    · exact wdL_in sg i w h
  · exact wdL_in sg i w h
theorem rnL_st (sg : Nat → Int32) : ∀ i, sa_st is_l sg i = true ↔ rnL sg i = 0 := by
  intro i
  cases i with
  | zero => simp [sa_st, rnL]
  | succ i =>
    rw [sa_st, rnL]
    by_cases h : is_l (sg i) = true
    · rw [if_pos h]; simp [h]
    · rw [if_neg h]; simp [h]
theorem sa_wd (fs f g : Nat → Int32) : ∀ i, i ≤ 40 → (sa_k fs f g i).1 = (wdL fs i).length ∧ wOk (sa_k fs f g i).2.2.2.2.1 (sa_k fs f g i).2.2.2.2.2 (wdL fs i) := by
  intro i
  induction i with
  | zero => intro _; exact ⟨rfl, trivial⟩
  | succ i ih =>
    intro hi
    obtain ⟨h1, h2⟩ := ih (by omega)
    have hl := wdD_len fs i
    have hs := rnL_st fs i
    rw [sa_k]
    generalize sa_k fs f g i = s at h1 h2
    obtain ⟨s1, s2, s3, s4, s5, s6⟩ := s
    simp only at h1 h2
    by_cases h : is_l (fs i) = true
    · rw [if_pos h]
      have e1 : wdL fs (i + 1) = (i - rnL fs i, rnL fs i + 1) :: wdD fs i := by
        rw [wdL, rnL, wdD, if_pos h, if_pos h, if_pos (by omega)]
        congr 2; omega
      by_cases h0 : rnL fs i = 0
      · have e2 : wdL fs i = wdD fs i := by rw [wdL, if_neg (by omega)]
        rw [e2] at h1 h2
        have e3 : sa_L1 fs i (s1, s2, s3, s4, s5, s6) = (s1 + 1, s2, s3, s4, fu s5 s1 (nI i), fu s6 s1 0) := by
          rw [sa_L1, if_pos ⟨hs.mpr h0, show s1 < 20 by omega⟩]
        rw [e3, sa_L2, if_pos (show 0 < s1 + 1 by omega), e1, h0]
        refine ⟨by rw [List.length_cons, ← h1], ⟨?_, ?_⟩, ?_⟩
        · show fu s5 s1 (nI i) (wdD fs i).length = nI (i - 0)
          rw [← h1]; simp [fu]
        · show fu (fu s6 s1 0) (s1 + 1 - 1) (fu s6 s1 0 (s1 + 1 - 1) + 1) (wdD fs i).length = nI (0 + 1)
          rw [← h1]; simp [fu]; rfl
        · refine wOk_cg _ (fun t ht => ?_) h2
          have ht1 : t ≠ s1 := by omega
          simp [fu, ht1]
      · have e2 : wdL fs i = (i - rnL fs i, rnL fs i) :: wdD fs i := by rw [wdL, if_pos (by omega)]
        rw [e2] at h1 h2
        rw [List.length_cons] at h1
        have e3 : sa_L1 fs i (s1, s2, s3, s4, s5, s6) = (s1, s2, s3, s4, s5, s6) := by
          rw [sa_L1, if_neg (fun z => h0 (hs.mp z.1))]
        rw [e3, sa_L2, if_pos (show 0 < s1 by omega), e1]
        have e4 : s1 - 1 = (wdD fs i).length := by omega
        refine ⟨by rw [List.length_cons]; exact h1, ⟨h2.1.1, ?_⟩, ?_⟩
        · show fu s6 (s1 - 1) (s6 (s1 - 1) + 1) (wdD fs i).length = nI (rnL fs i + 1)
          rw [e4, ← nI_1, ← h2.1.2]; simp [fu]
        · refine wOk_cg _ (fun t ht => ?_) h2.2
          have ht1 : t ≠ s1 - 1 := by omega
          simp [fu, ht1]
    · rw [if_neg h]
      have e1 : wdL fs (i + 1) = wdL fs i := by
        rw [wdL, rnL, wdD, if_neg h, if_neg h, if_neg (by omega), wdL]
      rw [e1]
      split
      · rw [sa_D2, sa_D1]
        split <;> split <;> exact ⟨h1, h2⟩
      · exact ⟨h1, h2⟩
theorem wOk_at {ws wl : Nat → Int32} : ∀ l : List (Nat × Nat), wOk ws wl l → ∀ t, t < l.length → ∃ w ∈ l, ws t = nI w.1 ∧ wl t = nI w.2 := by
  intro l
  induction l with
  | nil => intro _ t ht; simp at ht
  | cons w q ih =>
    intro h t ht
    by_cases e : t = q.length
    · subst e; exact ⟨w, List.mem_cons_self, h.1⟩
    · obtain ⟨w', h1, h2⟩ := ih h.2 t (by simp at ht; omega)
      exact ⟨w', List.mem_cons_of_mem _ h1, h2⟩
theorem sa_okW {fs f g : Nat → Int32} {n : Nat} (hn : n ≤ 40) : okW (sa_k fs f g n) := by
  refine ⟨(sa_b fs f g n).1, fun i hi => ?_⟩
  obtain ⟨h1, h2⟩ := sa_wd fs f g n hn
  obtain ⟨w, hw, e1, e2⟩ := wOk_at _ h2 i (by omega)
  exact ⟨w.1, w.2, e1, e2, by have := wdL_bd hw; omega⟩
theorem rnL_cg {a b : Nat → Int32} {n : Nat} (h : ∀ q, q < n → a q = b q) : ∀ i, i ≤ n → rnL a i = rnL b i ∧ wdD a i = wdD b i := by
  intro i
  induction i with
  | zero => intro _; exact ⟨rfl, rfl⟩
  | succ i ih =>
    intro hi
    obtain ⟨h1, h2⟩ := ih (by omega)
    rw [rnL, rnL, wdD, wdD, h i (by omega), h1, h2]
    exact ⟨rfl, rfl⟩
theorem wdL_cg {a b : Nat → Int32} {n : Nat} (h : ∀ q, q < n → a q = b q) : wdL a n = wdL b n := by
  obtain ⟨h1, h2⟩ := rnL_cg h n (Nat.le_refl _)
  rw [wdL, wdL, h1, h2]
/-! ===== the house said ===== -/
theorem d_not_l {c : Int32} (h : is_d c = true) : ¬ is_l c = true := by
  simp only [is_d, is_l, Bool.and_eq_true, Bool.not_eq_true', decide_eq_false_iff_not, Int32.not_lt] at h ⊢
  intro z
  have h1 := h.2
  have h2 := z.1
  rw [Int32.le_iff_toInt_le] at h1 h2
  have : (97 : Int32).toInt ≤ (57 : Int32).toInt := Int.le_trans h2 h1
  exact absurd this (by decide)
theorem sa_after (fs f g : Nat → Int32) (i : Nat) (h : 2 ≤ (sa_k fs f g i).2.1 ∨ ((sa_k fs f g i).2.1 = 1 ∧ sa_st is_d fs i = true)) : ∀ j, (2 ≤ (sa_k fs f g (i + j)).2.1 ∨ ((sa_k fs f g (i + j)).2.1 = 1 ∧ sa_st is_d fs (i + j) = true)) ∧ (sa_k fs f g (i + j)).2.2.2.1 = (sa_k fs f g i).2.2.2.1 := by
  intro j
  induction j with
  | zero => exact ⟨h, rfl⟩
  | succ j ih =>
    obtain ⟨h1, h2⟩ := ih
    rw [← Nat.add_assoc, sa_k]
    have e0 : sa_st is_d fs (i + j + 1) = !is_d (fs (i + j)) := by simp [sa_st]
    rw [e0, ← h2]
    generalize sa_k fs f g (i + j) = s at h1 ⊢
    obtain ⟨s1, s2, s3, s4, s5, s6⟩ := s
    simp only at h1
    by_cases hl : is_l (fs (i + j)) = true
    · rw [if_pos hl]
      have hd : is_d (fs (i + j)) = false := by
        cases hh : is_d (fs (i + j)) with
        | false => rfl
        | true => exact absurd hl (d_not_l hh)
      rw [hd, sa_L2, sa_L1]
      split <;> split <;> exact ⟨by simp; omega, rfl⟩
    · rw [if_neg hl]
      by_cases hd : is_d (fs (i + j)) = true
      · rw [if_pos hd, sa_D1]
        by_cases hs : sa_st is_d fs (i + j) = true
        · rw [if_pos hs, sa_D2, if_neg (show ¬ s2 + 1 = 1 by omega)]
          exact ⟨Or.inl (show 2 ≤ s2 + 1 by omega), rfl⟩
        · rw [if_neg hs, sa_D2]
          have h2 : 2 ≤ s2 := by
            rcases h1 with h1 | h1
            · exact h1
            · exact absurd h1.2 hs
          rw [if_neg (show ¬ s2 = 1 by omega)]
          exact ⟨Or.inl h2, rfl⟩
      · rw [if_neg hd]
        exact ⟨by simp [hd]; omega, rfl⟩
theorem sa_run (fs f g : Nat → Int32) : ∀ (r i dg : Nat) (v : Int32), (sa_k fs f g i).2.1 = 1 → sa_st is_d fs i = false → (sa_k fs f g i).2.2.1 = dg → 0 < dg → (sa_k fs f g i).2.2.2.1 = (if 4 < dg then 9999 else v) → (sa_k fs f g (i + r)).2.2.2.1 = fdV fs r i dg v := by
  intro r
  induction r with
  | zero => intro i dg v h1 h2 h3 h0 h4; exact h4
  | succ r ih =>
    intro i dg v h1 h2 h3 h0 h4
    rw [fdV]
    by_cases hd : is_d (fs i) = true
    · rw [if_pos hd, show i + (r + 1) = i + 1 + r by omega]
      have e0 : sa_k fs f g (i + 1) = sa_D2 (fs i) (sa_k fs f g i) := by
        rw [sa_k, if_neg (d_not_l hd), if_pos hd, sa_D1, if_neg (by rw [h2]; simp)]
      have e1 : sa_st is_d fs (i + 1) = false := by simp [sa_st, hd]
      rw [sa_D2, if_pos h1] at e0
      refine ih (i + 1) (dg + 1) _ (by rw [e0]; exact h1) e1 (by rw [e0]; show _ + 1 = _; rw [h3]) (by omega) ?_
      rw [e0]
      show (if 4 < (sa_k fs f g i).2.2.1 + 1 then (9999 : Int32) else 10 * (sa_k fs f g i).2.2.2.1 + (fs i - 48)) = _
      rw [h3, h4]
      by_cases h5 : 4 < dg + 1
      · rw [if_pos h5, if_pos h5]
      · rw [if_neg h5, if_neg h5, if_neg (by omega), if_pos (by omega)]
        grind
    · rw [if_neg hd, ← h4]
      have e0 : (sa_k fs f g (i + 1)).2.2.2.1 = (sa_k fs f g i).2.2.2.1 ∧ (sa_k fs f g (i + 1)).2.1 = 1 := by
        rw [sa_k]
        split
        · rw [sa_L2, sa_L1]
          split <;> split <;> exact ⟨rfl, h1⟩
        · exact ⟨rfl, h1⟩
      have e1 : sa_st is_d fs (i + 1) = true := by simp [sa_st, hd]
      have := (sa_after fs f g (i + 1) (Or.inr ⟨e0.2, e1⟩) r).2
      rw [show i + (r + 1) = i + 1 + r by omega, this, e0.1]
theorem fdI_le (sg : Nat → Int32) : ∀ r i, i ≤ fdI sg r i ∧ fdI sg r i ≤ i + r := by
  intro r
  induction r with
  | zero => intro i; exact ⟨Nat.le_refl _, Nat.le_refl _⟩
  | succ r ih =>
    intro i
    rw [fdI]
    split
    · omega
    · have := ih (i + 1); omega
theorem sa_none (fs f g : Nat → Int32) : ∀ (r i : Nat), (sa_k fs f g i).2.1 = 0 → (sa_k fs f g i).2.2.1 = 0 → (sa_k fs f g i).2.2.2.1 = 0 → sa_st is_d fs i = true → (sa_k fs f g (i + r)).2.2.2.1 = fdV fs (i + r - fdI fs r i) (fdI fs r i) 0 0 := by
  intro r
  induction r with
  | zero =>
    intro i h1 h2 h3 h4
    rw [fdI, show i + 0 - i = 0 by omega, fdV]; exact h3
  | succ r ih =>
    intro i h1 h2 h3 h4
    rw [fdI]
    by_cases hd : is_d (fs i) = true
    · rw [if_pos hd, show i + (r + 1) - i = r + 1 by omega, fdV, if_pos hd, show i + (r + 1) = i + 1 + r by omega]
      have e0 : sa_k fs f g (i + 1) = sa_D2 (fs i) (sa_D1 fs i (sa_k fs f g i)) := by
        rw [sa_k, if_neg (d_not_l hd), if_pos hd]
      rw [sa_D1, if_pos h4, sa_D2, if_pos (show (sa_k fs f g i).2.1 + 1 = 1 by omega)] at e0
      have e1 : sa_st is_d fs (i + 1) = false := by simp [sa_st, hd]
      refine sa_run fs f g r (i + 1) 1 _ (by rw [e0]; show (sa_k fs f g i).2.1 + 1 = 1; omega) e1 (by rw [e0]; show (sa_k fs f g i).2.2.1 + 1 = 1; omega) (by decide) ?_
      rw [e0]
      show (if 4 < (sa_k fs f g i).2.2.1 + 1 then (9999 : Int32) else 10 * (sa_k fs f g i).2.2.2.1 + (fs i - 48)) = _
      rw [h2, h3, if_neg (by decide), if_neg (by decide), if_pos (by decide)]
      grind
    · rw [if_neg hd]
      have e0 : (sa_k fs f g (i + 1)).2.1 = 0 ∧ (sa_k fs f g (i + 1)).2.2.1 = 0 ∧ (sa_k fs f g (i + 1)).2.2.2.1 = 0 := by
        rw [sa_k]
        split
        · rw [sa_L2, sa_L1]
          split <;> split <;> exact ⟨h1, h2, h3⟩
        · exact ⟨h1, h2, h3⟩
      have e1 : sa_st is_d fs (i + 1) = true := by simp [sa_st, hd]
      rw [show i + (r + 1) = i + 1 + r by omega]
      exact ih (i + 1) e0.1 e0.2.1 e0.2.2 e1
theorem sa_house (fs f g : Nat → Int32) (n : Nat) : (sa_k fs f g n).2.2.2.1 = hsM fs n := by
  have := sa_none fs f g n 0 rfl rfl rfl rfl
  rw [Nat.zero_add] at this
  exact this
theorem fdI_cg {a b : Nat → Int32} {n : Nat} (h : ∀ q, q < n → a q = b q) : ∀ r i, i + r ≤ n → fdI a r i = fdI b r i := by
  intro r
  induction r with
  | zero => intro i _; rfl
  | succ r ih => intro i hi; rw [fdI, fdI, h i (by omega), ih (i + 1) (by omega)]
theorem fdV_cg {a b : Nat → Int32} {n : Nat} (h : ∀ q, q < n → a q = b q) : ∀ r i dg v, i + r ≤ n → fdV a r i dg v = fdV b r i dg v := by
  intro r
  induction r with
  | zero => intro i dg v _; rfl
  | succ r ih => intro i dg v hi; rw [fdV, fdV, h i (by omega), ih (i + 1) _ _ (by omega)]
theorem hsM_cg {a b : Nat → Int32} {n : Nat} (h : ∀ q, q < n → a q = b q) : hsM a n = hsM b n := by
  have h1 := fdI_cg h n 0 (by omega)
  have h2 := (fdI_le b n 0).2
  rw [hsM, hsM, h1, fdV_cg h _ _ _ _ (by omega)]
