/-! ===== what is refused: the class's order and the model's ===== -/
def gbQ (p q r s : Prop) (p' q' r' s' : Bool) : Prop := (p ↔ p' = true) ∧ (p → (q ↔ q' = true)) ∧ (p → q → (r ↔ r' = true)) ∧ (p → q → r → (s ↔ s' = true))
theorem gbQ.n {p q r s : Prop} {p' q' r' s' : Bool} (h : gbQ p q r s p' q' r' s') (h0 : p ∧ q ∧ r ∧ s) : gbN p' q' r' s' = 0 := by
  rw [h.1.mp h0.1, (h.2.1 h0.1).mp h0.2.1, (h.2.2.1 h0.1 h0.2.1).mp h0.2.2.1, (h.2.2.2 h0.1 h0.2.1 h0.2.2.1).mp h0.2.2.2]; rfl
theorem b_f {b : Bool} {p : Prop} (h : p ↔ b = true) (hp : ¬ p) : b = false := by
  cases b with
  | false => rfl
  | true => exact absurd (h.mpr rfl) hp
theorem gbQ.x {p q r s : Prop} {p' q' r' s' : Bool} (h : gbQ p q r s p' q' r' s') {E : String} (hx : gbx p q r s E) : (E = x_IA ∧ gbN p' q' r' s' = 1) ∨ (E = x_IO ∧ gbN p' q' r' s' = 2) ∨ (E = x_IS ∧ gbN p' q' r' s' = 3) ∨ (E = x_UO ∧ gbN p' q' r' s' = 4) := by
  rcases hx with ⟨h1, e⟩ | ⟨h1, h2, e⟩ | ⟨h1, h2, h3, e⟩ | ⟨h1, h2, h3, h4, e⟩
  · exact Or.inl ⟨e, by rw [b_f h.1 h1]; rfl⟩
  · exact Or.inr (Or.inl ⟨e, by rw [h.1.mp h1, b_f (h.2.1 h1) h2]; rfl⟩)
  · exact Or.inr (Or.inr (Or.inl ⟨e, by rw [h.1.mp h1, (h.2.1 h1).mp h2, b_f (h.2.2.1 h1 h2) h3]; rfl⟩))
  · exact Or.inr (Or.inr (Or.inr ⟨e, by rw [h.1.mp h1, (h.2.1 h1).mp h2, (h.2.2.1 h1 h2).mp h3, b_f (h.2.2.2 h1 h2 h3) h4]; rfl⟩))
theorem gq_t {p : Prop} : p → (True ↔ true = true) := fun _ => ⟨fun _ => rfl, fun _ => trivial⟩
theorem gq_tt : True ↔ true = true := ⟨fun _ => rfl, fun _ => trivial⟩
theorem gq_d {p : Prop} [Decidable p] : p ↔ decide p = true := (decide_eq_true_iff).symm
theorem gq_L {p : Int64} {n : Int32} : gdL p n ↔ (inn n 1 8 && decide (∀ i, i < tn n → is_l (sgn p (tn n) i) = true)) = true := by
  rw [gdL, Bool.and_eq_true, decide_eq_true_eq]
theorem gq_street {R : mR} {ar : Int32} : gbQ True (inn ar 0 9 = true) True (nS R < 30) true (inn ar 0 9) true (decide (nS R < 30)) := ⟨gq_tt, fun _ => Iff.rfl, fun _ _ => gq_tt, fun _ _ _ => gq_d⟩
theorem gq_sign {R : mR} (hw : WfS R) {s : Int32} {p : Int64} {n : Int32} : gbQ (kn R s = true) (gdL p n) True (tn (R 5 (3 * tn s + (tn (R 4 (tn s)) - 1))) + tn n ≤ 16) (kn R s) (inn n 1 8 && decide (∀ i, i < tn n → is_l (sgn p (tn n) i) = true)) true (decide (R 5 (if kn R s = true then 3 * tn s + (tn (R 4 (tn s)) - 1) else 0) + n ≤ 16)) := by
  refine ⟨Iff.rfl, fun _ => gq_L, fun _ _ => gq_tt, fun hk hg _ => ?_⟩
  rw [if_pos hk, decide_eq_true_eq]
  obtain ⟨i, hi, _, ei⟩ := kn_i hw.1 hk
  have h4 := (hw.1.2 i hi).1
  have h30 := hw.1.1.1
  rw [ei]
  have h5 := hw.2.2.2.1 (3 * i + (tn (R 4 i) - 1)) (by omega)
  obtain ⟨a, ha, e, et⟩ := inn18 hg.1
  rw [h5.1, et, e, tn_nI (by omega), nI_add, show (16 : Int32) = nI 16 from rfl, nI_leI (by omega) (by decide)]
theorem gq_alias {R : mR} (hw : WfS R) {s : Int32} : gbQ (kn R s = true) True (tn (R 5 (3 * tn s + (tn (R 4 (tn s)) - 1))) ≠ 0) (tn (R 4 (tn s)) < 3) (kn R s) true (kn R s && decide (0 < R 5 (3 * tn s + (tn (R 4 (tn s)) - 1)))) (kn R s && decide (tn (R 4 (tn s)) < 3)) := by
  refine ⟨Iff.rfl, fun _ => gq_tt, fun hk _ => ?_, fun hk _ _ => ?_⟩
  · rw [hk, Bool.true_and, decide_eq_true_eq]
    obtain ⟨i, hi, _, ei⟩ := kn_i hw.1 hk
    have h4 := (hw.1.2 i hi).1
    have h30 := hw.1.1.1
    rw [ei]
    have h5 := hw.2.2.2.1 (3 * i + (tn (R 4 i) - 1)) (by omega)
    rw [h5.1, tn_nI (by omega), show (0 : Int32) = nI 0 from rfl, nI_ltI (by decide) (by omega)]
    omega
  · rw [hk, Bool.true_and]; exact gq_d
theorem gq_H {sd lo hi : Int32} : gdH sd lo hi ↔ (inn sd 0 2 && inn lo 1 9999 && inn hi lo 9999 && (iOf sd lo || decide (lo < hi))) = true := by
  constructor
  · intro h
    obtain ⟨w, l, u, F, L, rfl, rfl, rfl, hw, hl1, hl2, hu1, hu2, e1, e2, eF, eL, hFL⟩ := gdH_N h
    have c1 : inn (nI w) 0 2 = true := h.1
    have c2 : inn (nI l) 1 9999 = true := h.2.1
    have key : l ≤ u ∧ (onN w l ∨ l < u) := by
      subst eF; subst eL
      by_cases z1 : onN w l
      · rw [if_pos z1] at hFL
        by_cases z2 : onN w u
        · rw [if_pos z2] at hFL; exact ⟨hFL, Or.inl z1⟩
        · rw [if_neg z2] at hFL; exact ⟨by omega, Or.inl z1⟩
      · rw [if_neg z1] at hFL
        by_cases z2 : onN w u
        · rw [if_pos z2] at hFL; exact ⟨by omega, Or.inr (by omega)⟩
        · rw [if_neg z2] at hFL; exact ⟨by omega, Or.inr (by omega)⟩
    have c3 : inn (nI u) (nI l) 9999 = true := (inn_N (a := u) (b := l) (c := 9999) (by omega) (by omega) (by decide)).trans (decide_eq_true ⟨key.1, hu2⟩)
    have c4 : (iOf (nI w) (nI l) || decide (nI l < nI u)) = true := by
      rw [iOf_N hw (by omega)]
      simp only [nI_ltI (show l < 2 ^ 31 by omega) (show u < 2 ^ 31 by omega), Bool.or_eq_true, decide_eq_true_eq]
      exact key.2
    rw [c1, c2, c3, c4]; rfl
  · intro h
    simp only [Bool.and_eq_true] at h
    obtain ⟨⟨⟨h1, h2⟩, h3⟩, h4⟩ := h
    obtain ⟨w, rfl, _, hw⟩ := inn_nat (b := 0) (c := 2) (by decide) (by decide) h1
    obtain ⟨l, rfl, hl1, hl2⟩ := inn_nat (b := 1) (c := 9999) (by decide) (by decide) h2
    obtain ⟨u, rfl, hu1, hu2⟩ := inn_nat (b := l) (c := 9999) (by omega) (by decide) h3
    rw [iOf_N hw (by omega)] at h4
    simp only [nI_ltI (show l < 2 ^ 31 by omega) (show u < 2 ^ 31 by omega), Bool.or_eq_true, decide_eq_true_eq] at h4
    have c3 : inn (nI u) 1 9999 = true := (inn_N (a := u) (b := 1) (c := 9999) (by omega) (by decide) (by decide)).trans (decide_eq_true ⟨by omega, hu2⟩)
    refine ⟨h1, h2, c3, ?_⟩
    have e1 : hs_first (nI w) (nI l) = nI (if onN w l then l else l + 1) := by
      rw [hs_first, hs_on_N hw (by omega)]
      by_cases z : onN w l
      · simp [z]
      · simp [z, nI_1]
    have e2 : hs_last (nI w) (nI u) = nI (if onN w u then u else u - 1) := by
      rw [hs_last, hs_on_N hw (by omega)]
      by_cases z : onN w u
      · simp [z]
      · simp [z, nI_sub1 (show 0 < u by omega)]
    rw [e1, e2]
    by_cases z1 : onN w l
    · rw [if_pos z1]
      by_cases z2 : onN w u
      · rw [if_pos z2]; exact nI_le (by omega) (by omega)
      · rw [if_neg z2]; refine nI_le ?_ (by omega)
        have : u ≠ l := fun z => z2 (by rw [z]; exact z1)
        omega
    · rw [if_neg z1]
      by_cases z2 : onN w u
      · rw [if_pos z2]; exact nI_le (by rcases h4 with z | z; exact absurd z z1; omega) (by omega)
      · rw [if_neg z2]; refine nI_le ?_ (by omega)
        rcases h4 with z | z
        · exact absurd z z1
        · unfold onN at z1 z2; omega
theorem gq_range {R : mR} {s sd lo hi : Int32} : gbQ (kn R s = true) (gdH sd lo hi) True (tn (R 7 (tn s)) < 6) (kn R s) (inn sd 0 2 && inn lo 1 9999 && inn hi lo 9999 && (iOf sd lo || decide (lo < hi))) true (kn R s && decide (tn (R 7 (tn s)) < 6)) :=
  ⟨Iff.rfl, fun _ => gq_H, fun _ _ => gq_tt, fun hk _ _ => by rw [hk, Bool.true_and]; exact gq_d⟩
theorem gq_line {R : mR} {s x y tx ty : Int32} : gbQ (kn R s = true) (gdP x y ∧ gdP tx ty) True True (kn R s) (inn x (-9999) 9999 && inn y (-9999) 9999 && inn tx (-9999) 9999 && inn ty (-9999) 9999) true true :=
  ⟨Iff.rfl, fun _ => by simp only [gdP, Bool.and_eq_true, and_assoc], fun _ _ => gq_tt, fun _ _ _ => gq_tt⟩
theorem gq_close {R : mR} {s : Int32} : gbQ (kn R s = true) True True True (kn R s) true true true := ⟨Iff.rfl, fun _ => gq_tt, fun _ _ => gq_tt, fun _ _ _ => gq_tt⟩
theorem gq_landmark {R : mR} {s h : Int32} {p : Int64} {n : Int32} : gbQ (kn R s = true) (inn h 1 9999 = true ∧ gdL p n) (¬ ∃ m, m < nL R ∧ lmL R m = sgns p (tn n) (tn n)) (nL R < 20) (kn R s) (inn h 1 9999 && inn n 1 8 && decide (∀ i, i < tn n → is_l (sgn p (tn n) i) = true)) ((inn h 1 9999 && inn n 1 8 && decide (∀ i, i < tn n → is_l (sgn p (tn n) i) = true)) && !decide (∃ k, k < nL R ∧ lmL R k = sgns p (tn n) (tn n))) (decide (nL R < 20)) := by
  have h1 : (inn h 1 9999 = true ∧ gdL p n) ↔ (inn h 1 9999 && inn n 1 8 && decide (∀ i, i < tn n → is_l (sgn p (tn n) i) = true)) = true := by
    simp only [gdL, Bool.and_eq_true, decide_eq_true_eq, and_assoc]
  refine ⟨Iff.rfl, fun _ => h1, fun _ hq => ?_, fun _ _ _ => gq_d⟩
  rw [h1.mp hq, Bool.true_and, Bool.not_eq_true', decide_eq_false_iff_not]
theorem coF_or {R : mR} (hw : WfS R) (s o : Int32) : ∀ n k, k + n ≤ nC R → coF R s o n k = -1 ∨ 0 ≤ coF R s o n k := by
  have hl := hw.2.2.2.2.2.2.2.2.2.2.2
  intro n
  induction n with
  | zero => intro k _; exact Or.inl rfl
  | succ n ih =>
    intro k hk
    rw [coF]
    have := hl k (by omega)
    split
    · exact Or.inr this.1
    · split
      · exact Or.inr this.2
      · exact ih (k + 1) (by omega)
theorem gq_meet {R : mR} (hw : WfS R) {s o a b : Int32} : gbQ (kn R s = true ∧ kn R o = true) (inn a 0 (R 15 (tn s)) = true ∧ inn b 0 (R 15 (tn o)) = true) (s ≠ o ∧ coF R s o (nC R) 0 = -1) (nC R < 40) (kn R s && kn R o) ((kn R s && kn R o) && inn a 0 (R 15 (tn s)) && inn b 0 (R 15 (tn o))) (!decide (s = o) && decide (coF R s o (nC R) 0 < 0)) (decide (nC R < 40)) := by
  refine ⟨by rw [Bool.and_eq_true], fun hk => ?_, fun _ _ => ?_, fun _ _ _ => gq_d⟩
  · rw [hk.1, hk.2, Bool.true_and, Bool.true_and, Bool.and_eq_true]
  · simp only [Bool.and_eq_true, Bool.not_eq_true', decide_eq_false_iff_not, decide_eq_true_eq]
    have : coF R s o (nC R) 0 = -1 ↔ coF R s o (nC R) 0 < 0 := by
      rcases coF_or hw s o (nC R) 0 (by omega) with h | h
      · rw [h]; decide
      · constructor
        · intro z; rw [z] at h; exact absurd h (by decide)
        · intro z; exact (Int32.lt_irrefl (Int32.lt_of_lt_of_le z h)).elim
    rw [this]
theorem gq_corner {R : mR} {s o : Int32} : gbQ (kn R s = true ∧ kn R o = true) True True True (kn R s && kn R o) true true true := ⟨by rw [Bool.and_eq_true], fun _ => gq_tt, fun _ _ => gq_tt, fun _ _ _ => gq_tt⟩
theorem gq_post {R : mR} {s a : Int32} : gbQ (kn R s = true) (inn a 0 (R 15 (tn s)) = true) True True (kn R s) (kn R s && inn a 0 (R 15 (tn s))) true true := ⟨Iff.rfl, fun hk => by rw [hk, Bool.true_and], fun _ _ => gq_tt, fun _ _ _ => gq_tt⟩
theorem gq_near {x y : Int32} : gbQ True (gdP x y) True True true (inn x (-9999) 9999 && inn y (-9999) 9999) true true := ⟨gq_tt, fun _ => by rw [gdP, Bool.and_eq_true], fun _ _ => gq_tt, fun _ _ _ => gq_tt⟩
theorem gq_word {R : mR} (hw : WfS R) {p : Int64} {n : Int32} : gbQ True (inn n 0 8 = true ∧ gdS p n) True (nW R + tn n ≤ 40) true (inn n 0 8 && decide (∀ i, i < tn n → is_s (sgn p (tn n) i) = true)) true (decide (R 26 0 + n ≤ 40)) := by
  refine ⟨gq_tt, fun _ => by rw [gdS, Bool.and_eq_true, decide_eq_true_eq], fun _ _ => gq_tt, fun _ hg _ => ?_⟩
  obtain ⟨a, ha, e, et⟩ := inn08 hg.1
  have h26 : R 26 0 = nI (nW R) := hw.2.1.2.2.2.1
  have h40 := hw.1.1.2.2.2.1
  rw [decide_eq_true_eq, et, h26, e, nI_add, show (40 : Int32) = nI 40 from rfl, nI_leI (by omega) (by decide)]
