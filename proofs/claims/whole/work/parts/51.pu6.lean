/-! ===== what every call keeps ===== -/
theorem tn_I {x : Int32} (h : 0 ≤ x) : x = nI (tn x) := (tn_of h).1
theorem sa_hs {sg : Nat → Int32} : ∀ (f k dg : Nat) (v : Int32), (dg ≤ 4 → ∃ a : Nat, v = nI a ∧ a < 10 ^ dg) → ∃ a : Nat, fdV sg f k dg v = nI a ∧ a ≤ 9999 := by
  intro f
  have fin : ∀ (dg : Nat) (v : Int32), (dg ≤ 4 → ∃ a : Nat, v = nI a ∧ a < 10 ^ dg) → ∃ a : Nat, (if 4 < dg then (9999 : Int32) else v) = nI a ∧ a ≤ 9999 := by
    intro dg v h
    by_cases h4 : 4 < dg
    · rw [if_pos h4]; exact ⟨9999, rfl, Nat.le_refl _⟩
    · rw [if_neg h4]
      obtain ⟨a, e, ha⟩ := h (by omega)
      refine ⟨a, e, ?_⟩
      have : 10 ^ dg ≤ 10 ^ 4 := Nat.pow_le_pow_right (by decide) (by omega)
      have h9 : (10 : Nat) ^ 4 = 10000 := by decide
      omega
  induction f with
  | zero => intro k dg v h; exact fin dg v h
  | succ f ih =>
    intro k dg v h
    rw [fdV]
    by_cases hd : is_d (sg k) = true
    · rw [if_pos hd]
      refine ih _ _ _ (fun h4 => ?_)
      have h5 : dg < 4 := by omega
      rw [if_pos h5]
      obtain ⟨a, e, ha⟩ := h (by omega)
      obtain ⟨c, hc, hc1, hc2⟩ := inn_nat (b := 48) (c := 57) (by decide) (by decide) (show inn (sg k) (nI 48) (nI 57) = true by rw [← is_d_inn] at hd; exact hd)
      refine ⟨10 * a + c - 48, ?_, ?_⟩
      · rw [e, hc, show (10 : Int32) = nI 10 from rfl, pk_mul, nI_add, show (48 : Int32) = nI 48 from rfl, pk_sub (by omega)]
      · rw [Nat.pow_succ]; omega
    · rw [if_neg hd]; exact fin dg v h
theorem hsM_in (sg : Nat → Int32) (n : Nat) : inn (hsM sg n) 0 9999 = true := by
  obtain ⟨a, e, ha⟩ := sa_hs (sg := sg) (n - fdI sg n 0) (fdI sg n 0) 0 0 (fun _ => ⟨0, rfl, by decide⟩)
  rw [hsM, e]
  have := inn_N (a := a) (b := 0) (c := 9999) (by omega) (by decide) (by decide)
  exact this.trans (decide_eq_true ⟨by omega, ha⟩)
theorem tn_1 : tn 1 = 1 := rfl
theorem WfS_0 : WfS (fun _ _ => 0) := by
  have z : tn (0 : Int32) = 0 := rfl
  refine ⟨⟨⟨by decide, by decide, by decide, by decide, by decide⟩, fun i hi => absurd hi (by simp [nS, z])⟩, ⟨rfl, rfl, rfl, rfl, rfl⟩, fun i hi => absurd hi (by simp [nS, z]), fun k _ => ⟨rfl, Nat.zero_le _⟩, fun i hi => absurd hi (by simp [nL, z]), fun i _ => ⟨fun _ => ⟨rfl, rfl, rfl, rfl, rfl, rfl, rfl⟩, fun _ _ _ => rfl⟩, ⟨fun k c _ hc => absurd hc (by simp [z]), fun m c hm => absurd hm (by simp [nL, z])⟩, fun i hi => absurd hi (by simp [nS, z]), fun i j hi => absurd hi (by simp [nS, z]), fun i hi => absurd hi (by simp [nF, z]), by decide, fun k hk => absurd hk (by simp [nC, z])⟩

theorem wf_street {R : mR} (hw : WfS R) (ar : Int32) (hlt : nS R < 30) : WfS (uR (uR (uR (uR (uR R 2 (nS R) ar) 4 (nS R) 1) 5 (3 * nS R) 0) 1 0 (nI (nS R + 1))) 28 0 0) := by
  obtain ⟨R1, hR1⟩ : ∃ R1 : mR, R1 = uR (uR (uR (uR (uR R 2 (nS R) ar) 4 (nS R) 1) 5 (3 * nS R) 0) 1 0 (nI (nS R + 1))) 28 0 0 := ⟨_, rfl⟩
  rw [← hR1]
  have h0 : R1 0 = R 0 := by rw [hR1]; rfl
  have h3 : R1 3 = R 3 := by rw [hR1]; rfl
  have h6 : R1 6 = R 6 := by rw [hR1]; rfl
  have h7 : R1 7 = R 7 := by rw [hR1]; rfl
  have h8 : R1 8 = R 8 := by rw [hR1]; rfl
  have h9 : R1 9 = R 9 := by rw [hR1]; rfl
  have h10 : R1 10 = R 10 := by rw [hR1]; rfl
  have h11 : R1 11 = R 11 := by rw [hR1]; rfl
  have h12 : R1 12 = R 12 := by rw [hR1]; rfl
  have h13 : R1 13 = R 13 := by rw [hR1]; rfl
  have h14 : R1 14 = R 14 := by rw [hR1]; rfl
  have h15 : R1 15 = R 15 := by rw [hR1]; rfl
  have h16 : R1 16 = R 16 := by rw [hR1]; rfl
  have h17 : R1 17 = R 17 := by rw [hR1]; rfl
  have h18 : R1 18 = R 18 := by rw [hR1]; rfl
  have h19 : R1 19 = R 19 := by rw [hR1]; rfl
  have h20 : R1 20 = R 20 := by rw [hR1]; rfl
  have h21 : R1 21 = R 21 := by rw [hR1]; rfl
  have h22 : R1 22 = R 22 := by rw [hR1]; rfl
  have h23 : R1 23 = R 23 := by rw [hR1]; rfl
  have h24 : R1 24 = R 24 := by rw [hR1]; rfl
  have h25 : R1 25 = R 25 := by rw [hR1]; rfl
  have h26 : R1 26 = R 26 := by rw [hR1]; rfl
  have h27 : R1 27 = R 27 := by rw [hR1]; rfl
  have h29 : R1 29 = R 29 := by rw [hR1]; rfl
  have h30 : R1 30 = R 30 := by rw [hR1]; rfl
  have h31 : R1 31 = R 31 := by rw [hR1]; rfl
  have h32 : R1 32 = R 32 := by rw [hR1]; rfl
  have h33 : R1 33 = R 33 := by rw [hR1]; rfl
  have h34 : R1 34 = R 34 := by rw [hR1]; rfl
  have h2 : R1 2 = fu (R 2) (nS R) ar := by rw [hR1]; rfl
  have h4 : R1 4 = fu (R 4) (nS R) 1 := by rw [hR1]; rfl
  have h5 : R1 5 = fu (R 5) (3 * nS R) 0 := by rw [hR1]; rfl
  have h1 : R1 1 = fu (R 1) 0 (nI (nS R + 1)) := by rw [hR1]; rfl
  have h28 : R1 28 = fu (R 28) 0 0 := by rw [hR1]; rfl
  clear hR1
  obtain ⟨⟨⟨wA1a, wA1b, wA1c, wA1d, wA1e⟩, wA2⟩, ⟨wB1, wB2, wB3, wB4, wB5⟩, wC, wD, wE, wF, ⟨wG1, wG2⟩, wH, wI, wJ, wK, wL⟩ := hw
  have eS : nS R1 = nS R + 1 := by
    simp only [nS, h1, fu_s]; exact tn_nI (by simp only [nS] at hlt; omega)
  have eF : nF R1 = 0 := by simp only [nF, h28]; rfl
  refine ⟨⟨⟨?_, by simp only [nS, nL, nC, nW, nF, Wz, h3, h6, h7, h8, h9, h10, h11, h12, h13, h14, h15, h16, h17, h19, h20, h21, h24, h25, h26, h29, h31]; exact wA1b, by simp only [nS, nL, nC, nW, nF, Wz, h3, h6, h7, h8, h9, h10, h11, h12, h13, h14, h15, h16, h17, h19, h20, h21, h24, h25, h26, h29, h31]; exact wA1c, by simp only [nS, nL, nC, nW, nF, Wz, h3, h6, h7, h8, h9, h10, h11, h12, h13, h14, h15, h16, h17, h19, h20, h21, h24, h25, h26, h29, h31]; exact wA1d, ?_⟩, ?_⟩, ⟨?_, by simp only [nS, nL, nC, nW, nF, Wz, h3, h6, h7, h8, h9, h10, h11, h12, h13, h14, h15, h16, h17, h19, h20, h21, h24, h25, h26, h29, h31]; exact wB2, by simp only [nS, nL, nC, nW, nF, Wz, h3, h6, h7, h8, h9, h10, h11, h12, h13, h14, h15, h16, h17, h19, h20, h21, h24, h25, h26, h29, h31]; exact wB3, by simp only [nS, nL, nC, nW, nF, Wz, h3, h6, h7, h8, h9, h10, h11, h12, h13, h14, h15, h16, h17, h19, h20, h21, h24, h25, h26, h29, h31]; exact wB4, ?_⟩, ?_, ?_, ?_, ?_, ⟨?_, by simp only [nS, nL, nC, nW, nF, Wz, h3, h6, h7, h8, h9, h10, h11, h12, h13, h14, h15, h16, h17, h19, h20, h21, h24, h25, h26, h29, h31]; exact wG2⟩, ?_, ?_, ?_, by simp only [nS, nL, nC, nW, nF, Wz, h3, h6, h7, h8, h9, h10, h11, h12, h13, h14, h15, h16, h17, h19, h20, h21, h24, h25, h26, h29, h31]; exact wK, by simp only [nS, nL, nC, nW, nF, Wz, h3, h6, h7, h8, h9, h10, h11, h12, h13, h14, h15, h16, h17, h19, h20, h21, h24, h25, h26, h29, h31]; exact wL⟩
  · rw [eS]; omega
  · rw [eF]; decide
  · intro i hi
    rw [eS] at hi
    by_cases e : i = nS R
    · subst e
      have z := (wF (nS R) hlt).1 (Nat.le_refl _)
      rw [h4, h7, h15, fu_s, z.2.1, z.2.2.2.2.2.2]
      decide
    · rw [h4, h7, h15, fu_n e]; exact wA2 i (by omega)
  · rw [eS, h1]; exact fu_s
  · rw [eF, h28]; rfl
  · intro i hi
    rw [eS] at hi
    by_cases e : i = nS R
    · subst e
      have z := (wF (nS R) hlt).1 (Nat.le_refl _)
      rw [h4, h7, fu_s, z.2.1]
      exact ⟨rfl, rfl⟩
    · rw [h4, h7, fu_n e]; exact wC i (by omega)
  · intro k hk
    by_cases e : k = 3 * nS R
    · rw [h5, e, fu_s]; exact ⟨rfl, by decide⟩
    · rw [h5, fu_n e]; exact wD k hk
  · intro m hm
    have eL : nL R1 = nL R := by simp only [nL, h16]
    rw [eL] at hm
    obtain ⟨q1, g, q2, q3⟩ := wE m hm
    rw [h19, h17, eS]
    exact ⟨q1, g, by omega, q3⟩
  · intro i hi
    obtain ⟨z1, z2⟩ := wF i hi
    refine ⟨fun z => ?_, fun j hj z => ?_⟩
    · rw [eS] at z
      rw [h3, h7, h11, h12, h13, h14, h15]; exact z1 (by omega)
    · rw [eS] at z
      rw [h5]
      by_cases e : 3 * i + j = 3 * nS R
      · rw [e, fu_s]
      · rw [fu_n e]
        refine z2 j hj ?_
        by_cases e2 : i = nS R
        · left; omega
        · rw [h4, fu_n e2] at z; omega
  · intro k c hk hc
    by_cases e : k = 3 * nS R
    · rw [h5, e, fu_s] at hc; exact absurd hc (by simp [tn_0])
    · rw [h5, fu_n e] at hc; rw [h6]; exact wG1 k c hk hc
  · intro i hi
    rw [eS] at hi
    by_cases e : i = nS R
    · subst e
      have z := (wF (nS R) hlt).1 (Nat.le_refl _)
      rw [h11, h12, h13, h14, h15, z.2.2.1, z.2.2.2.1, z.2.2.2.2.1, z.2.2.2.2.2.1, z.2.2.2.2.2.2]
      exact ⟨by decide, by decide +kernel⟩
    · rw [h11, h12, h13, h14, h15]; exact wH i (by omega)
  · intro i j hi hj
    rw [eS] at hi
    by_cases e : i = nS R
    · subst e
      have z := (wF (nS R) hlt).1 (Nat.le_refl _)
      rw [h7, z.2.1] at hj; exact absurd hj (by simp [tn_0])
    · rw [h7] at hj; rw [h8, h9, h10]; exact wI i j (by omega) hj
  · intro i hi; rw [eF] at hi; omega
theorem wf_sign {R : mR} (hw : WfS R) {s : Int32} {p : Int64} {n : Int32} (hk : kn R s = true) (hg : gdL p n) (hl : tn (R 5 (3 * tn s + (tn (R 4 (tn s)) - 1))) + tn n ≤ 16) : WfS (uR (uR (setF R 6 (fa (R 6) (16 * (3 * tn s + (tn (R 4 (tn s)) - 1)) + tn (R 5 (3 * tn s + (tn (R 4 (tn s)) - 1)))) p (tn n) (tn n))) 5 (3 * tn s + (tn (R 4 (tn s)) - 1)) (nI (tn (R 5 (3 * tn s + (tn (R 4 (tn s)) - 1))) + tn n))) 28 0 0) := by
  obtain ⟨R1, hR1⟩ : ∃ R1 : mR, R1 = uR (uR (setF R 6 (fa (R 6) (16 * (3 * tn s + (tn (R 4 (tn s)) - 1)) + tn (R 5 (3 * tn s + (tn (R 4 (tn s)) - 1)))) p (tn n) (tn n))) 5 (3 * tn s + (tn (R 4 (tn s)) - 1)) (nI (tn (R 5 (3 * tn s + (tn (R 4 (tn s)) - 1))) + tn n))) 28 0 0 := ⟨_, rfl⟩
  rw [← hR1]
  have h0 : R1 0 = R 0 := by rw [hR1]; rfl
  have h1 : R1 1 = R 1 := by rw [hR1]; rfl
  have h2 : R1 2 = R 2 := by rw [hR1]; rfl
  have h3 : R1 3 = R 3 := by rw [hR1]; rfl
  have h4 : R1 4 = R 4 := by rw [hR1]; rfl
  have h7 : R1 7 = R 7 := by rw [hR1]; rfl
  have h8 : R1 8 = R 8 := by rw [hR1]; rfl
  have h9 : R1 9 = R 9 := by rw [hR1]; rfl
  have h10 : R1 10 = R 10 := by rw [hR1]; rfl
  have h11 : R1 11 = R 11 := by rw [hR1]; rfl
  have h12 : R1 12 = R 12 := by rw [hR1]; rfl
  have h13 : R1 13 = R 13 := by rw [hR1]; rfl
  have h14 : R1 14 = R 14 := by rw [hR1]; rfl
  have h15 : R1 15 = R 15 := by rw [hR1]; rfl
  have h16 : R1 16 = R 16 := by rw [hR1]; rfl
  have h17 : R1 17 = R 17 := by rw [hR1]; rfl
  have h18 : R1 18 = R 18 := by rw [hR1]; rfl
  have h19 : R1 19 = R 19 := by rw [hR1]; rfl
  have h20 : R1 20 = R 20 := by rw [hR1]; rfl
  have h21 : R1 21 = R 21 := by rw [hR1]; rfl
  have h22 : R1 22 = R 22 := by rw [hR1]; rfl
  have h23 : R1 23 = R 23 := by rw [hR1]; rfl
  have h24 : R1 24 = R 24 := by rw [hR1]; rfl
  have h25 : R1 25 = R 25 := by rw [hR1]; rfl
  have h26 : R1 26 = R 26 := by rw [hR1]; rfl
  have h27 : R1 27 = R 27 := by rw [hR1]; rfl
  have h29 : R1 29 = R 29 := by rw [hR1]; rfl
  have h30 : R1 30 = R 30 := by rw [hR1]; rfl
  have h31 : R1 31 = R 31 := by rw [hR1]; rfl
  have h32 : R1 32 = R 32 := by rw [hR1]; rfl
  have h33 : R1 33 = R 33 := by rw [hR1]; rfl
  have h34 : R1 34 = R 34 := by rw [hR1]; rfl
  have h6 : R1 6 = fa (R 6) (16 * (3 * tn s + (tn (R 4 (tn s)) - 1)) + tn (R 5 (3 * tn s + (tn (R 4 (tn s)) - 1)))) p (tn n) (tn n) := by rw [hR1]; rfl
  have h5 : R1 5 = fu (R 5) (3 * tn s + (tn (R 4 (tn s)) - 1)) (nI (tn (R 5 (3 * tn s + (tn (R 4 (tn s)) - 1))) + tn n)) := by rw [hR1]; rfl
  have h28 : R1 28 = fu (R 28) 0 0 := by rw [hR1]; rfl
  clear hR1
  obtain ⟨⟨⟨wA1a, wA1b, wA1c, wA1d, wA1e⟩, wA2⟩, ⟨wB1, wB2, wB3, wB4, wB5⟩, wC, wD, wE, wF, ⟨wG1, wG2⟩, wH, wI, wJ, wK, wL⟩ := hw
  obtain ⟨i9, hi9, es, ei⟩ := kn_i ⟨⟨wA1a, wA1b, wA1c, wA1d, wA1e⟩, wA2⟩ hk
  simp only [ei] at h5 h6 hl
  have eS : nS R1 = nS R := by simp only [nS, h1]
  have eF : nF R1 = 0 := by simp only [nF, h28]; rfl
  obtain ⟨K, eK⟩ : ∃ K : Nat, K = 3 * i9 + (tn (R 4 i9) - 1) := ⟨_, rfl⟩
  rw [← eK] at h5 h6 hl
  have hK : K < 90 := by have := (wA2 i9 hi9).1; omega
  refine ⟨⟨⟨by simp only [nS, nL, nC, nW, nF, Wz, h1, h3, h4, h7, h8, h9, h10, h11, h12, h13, h14, h15, h16, h17, h19, h20, h21, h24, h25, h26, h29, h31]; exact wA1a, by simp only [nS, nL, nC, nW, nF, Wz, h1, h3, h4, h7, h8, h9, h10, h11, h12, h13, h14, h15, h16, h17, h19, h20, h21, h24, h25, h26, h29, h31]; exact wA1b, by simp only [nS, nL, nC, nW, nF, Wz, h1, h3, h4, h7, h8, h9, h10, h11, h12, h13, h14, h15, h16, h17, h19, h20, h21, h24, h25, h26, h29, h31]; exact wA1c, by simp only [nS, nL, nC, nW, nF, Wz, h1, h3, h4, h7, h8, h9, h10, h11, h12, h13, h14, h15, h16, h17, h19, h20, h21, h24, h25, h26, h29, h31]; exact wA1d, ?_⟩, by simp only [nS, nL, nC, nW, nF, Wz, h1, h3, h4, h7, h8, h9, h10, h11, h12, h13, h14, h15, h16, h17, h19, h20, h21, h24, h25, h26, h29, h31]; exact wA2⟩, ⟨by simp only [nS, nL, nC, nW, nF, Wz, h1, h3, h4, h7, h8, h9, h10, h11, h12, h13, h14, h15, h16, h17, h19, h20, h21, h24, h25, h26, h29, h31]; exact wB1, by simp only [nS, nL, nC, nW, nF, Wz, h1, h3, h4, h7, h8, h9, h10, h11, h12, h13, h14, h15, h16, h17, h19, h20, h21, h24, h25, h26, h29, h31]; exact wB2, by simp only [nS, nL, nC, nW, nF, Wz, h1, h3, h4, h7, h8, h9, h10, h11, h12, h13, h14, h15, h16, h17, h19, h20, h21, h24, h25, h26, h29, h31]; exact wB3, by simp only [nS, nL, nC, nW, nF, Wz, h1, h3, h4, h7, h8, h9, h10, h11, h12, h13, h14, h15, h16, h17, h19, h20, h21, h24, h25, h26, h29, h31]; exact wB4, ?_⟩, by simp only [nS, nL, nC, nW, nF, Wz, h1, h3, h4, h7, h8, h9, h10, h11, h12, h13, h14, h15, h16, h17, h19, h20, h21, h24, h25, h26, h29, h31]; exact wC, ?_, by simp only [nS, nL, nC, nW, nF, Wz, h1, h3, h4, h7, h8, h9, h10, h11, h12, h13, h14, h15, h16, h17, h19, h20, h21, h24, h25, h26, h29, h31]; exact wE, ?_, ⟨?_, by simp only [nS, nL, nC, nW, nF, Wz, h1, h3, h4, h7, h8, h9, h10, h11, h12, h13, h14, h15, h16, h17, h19, h20, h21, h24, h25, h26, h29, h31]; exact wG2⟩, by simp only [nS, nL, nC, nW, nF, Wz, h1, h3, h4, h7, h8, h9, h10, h11, h12, h13, h14, h15, h16, h17, h19, h20, h21, h24, h25, h26, h29, h31]; exact wH, by simp only [nS, nL, nC, nW, nF, Wz, h1, h3, h4, h7, h8, h9, h10, h11, h12, h13, h14, h15, h16, h17, h19, h20, h21, h24, h25, h26, h29, h31]; exact wI, ?_, by simp only [nS, nL, nC, nW, nF, Wz, h1, h3, h4, h7, h8, h9, h10, h11, h12, h13, h14, h15, h16, h17, h19, h20, h21, h24, h25, h26, h29, h31]; exact wK, by simp only [nS, nL, nC, nW, nF, Wz, h1, h3, h4, h7, h8, h9, h10, h11, h12, h13, h14, h15, h16, h17, h19, h20, h21, h24, h25, h26, h29, h31]; exact wL⟩
  · rw [eF]; decide
  · rw [eF, h28]; rfl
  · intro k hk
    by_cases e : k = K
    · rw [h5, e, fu_s, tn_nI (by omega)]; exact ⟨rfl, hl⟩
    · rw [h5, fu_n e]; exact wD k hk
  · intro i hi
    obtain ⟨z1, z2⟩ := wF i hi
    refine ⟨fun z => ?_, fun j hj z => ?_⟩
    · rw [eS] at z
      rw [h3, h7, h11, h12, h13, h14, h15]; exact z1 z
    · rw [eS, h4] at z
      have e : 3 * i + j ≠ K := by
        have := (wA2 i9 hi9).1
        intro y
        have y1 : i = i9 := by omega
        subst y1
        omega
      rw [h5, fu_n e]; exact z2 j hj z
  · intro k c hk9 hc
    by_cases e : k = K
    · rw [h5, e, fu_s, tn_nI (by omega)] at hc
      rw [h6, e, fa]
      by_cases y : tn (R 5 K) ≤ c
      · rw [if_pos (by omega)]
        have e9 : 16 * K + c - (16 * K + tn (R 5 K)) = c - tn (R 5 K) := by omega
        rw [e9]; exact hg.2 _ (by omega)
      · rw [if_neg (by omega)]; exact wG1 K c hK (by omega)
    · rw [h5, fu_n e] at hc
      have := (wD k hk9).2
      rw [h6, fa, if_neg (by omega)]; exact wG1 k c hk9 hc
  · intro i hi; rw [eF] at hi; omega
theorem wf_alias {R : mR} (hw : WfS R) {s : Int32} (hk : kn R s = true) (hl : tn (R 4 (tn s)) < 3) : WfS (uR (uR (uR R 5 (3 * tn s + tn (R 4 (tn s))) 0) 4 (tn s) (nI (tn (R 4 (tn s)) + 1))) 28 0 0) := by
  obtain ⟨R1, hR1⟩ : ∃ R1 : mR, R1 = uR (uR (uR R 5 (3 * tn s + tn (R 4 (tn s))) 0) 4 (tn s) (nI (tn (R 4 (tn s)) + 1))) 28 0 0 := ⟨_, rfl⟩
  rw [← hR1]
  have h0 : R1 0 = R 0 := by rw [hR1]; rfl
  have h1 : R1 1 = R 1 := by rw [hR1]; rfl
  have h2 : R1 2 = R 2 := by rw [hR1]; rfl
  have h3 : R1 3 = R 3 := by rw [hR1]; rfl
  have h6 : R1 6 = R 6 := by rw [hR1]; rfl
  have h7 : R1 7 = R 7 := by rw [hR1]; rfl
  have h8 : R1 8 = R 8 := by rw [hR1]; rfl
  have h9 : R1 9 = R 9 := by rw [hR1]; rfl
  have h10 : R1 10 = R 10 := by rw [hR1]; rfl
  have h11 : R1 11 = R 11 := by rw [hR1]; rfl
  have h12 : R1 12 = R 12 := by rw [hR1]; rfl
  have h13 : R1 13 = R 13 := by rw [hR1]; rfl
  have h14 : R1 14 = R 14 := by rw [hR1]; rfl
  have h15 : R1 15 = R 15 := by rw [hR1]; rfl
  have h16 : R1 16 = R 16 := by rw [hR1]; rfl
  have h17 : R1 17 = R 17 := by rw [hR1]; rfl
  have h18 : R1 18 = R 18 := by rw [hR1]; rfl
  have h19 : R1 19 = R 19 := by rw [hR1]; rfl
  have h20 : R1 20 = R 20 := by rw [hR1]; rfl
  have h21 : R1 21 = R 21 := by rw [hR1]; rfl
  have h22 : R1 22 = R 22 := by rw [hR1]; rfl
  have h23 : R1 23 = R 23 := by rw [hR1]; rfl
  have h24 : R1 24 = R 24 := by rw [hR1]; rfl
  have h25 : R1 25 = R 25 := by rw [hR1]; rfl
  have h26 : R1 26 = R 26 := by rw [hR1]; rfl
  have h27 : R1 27 = R 27 := by rw [hR1]; rfl
  have h29 : R1 29 = R 29 := by rw [hR1]; rfl
  have h30 : R1 30 = R 30 := by rw [hR1]; rfl
  have h31 : R1 31 = R 31 := by rw [hR1]; rfl
  have h32 : R1 32 = R 32 := by rw [hR1]; rfl
  have h33 : R1 33 = R 33 := by rw [hR1]; rfl
  have h34 : R1 34 = R 34 := by rw [hR1]; rfl
  have h5 : R1 5 = fu (R 5) (3 * tn s + tn (R 4 (tn s))) 0 := by rw [hR1]; rfl
  have h4 : R1 4 = fu (R 4) (tn s) (nI (tn (R 4 (tn s)) + 1)) := by rw [hR1]; rfl
  have h28 : R1 28 = fu (R 28) 0 0 := by rw [hR1]; rfl
  clear hR1
  obtain ⟨⟨⟨wA1a, wA1b, wA1c, wA1d, wA1e⟩, wA2⟩, ⟨wB1, wB2, wB3, wB4, wB5⟩, wC, wD, wE, wF, ⟨wG1, wG2⟩, wH, wI, wJ, wK, wL⟩ := hw
  obtain ⟨i9, hi9, es, ei⟩ := kn_i ⟨⟨wA1a, wA1b, wA1c, wA1d, wA1e⟩, wA2⟩ hk
  simp only [ei] at h5 h4 hl
  have eS : nS R1 = nS R := by simp only [nS, h1]
  have eF : nF R1 = 0 := by simp only [nF, h28]; rfl
  refine ⟨⟨⟨by simp only [nS, nL, nC, nW, nF, Wz, h1, h3, h6, h7, h8, h9, h10, h11, h12, h13, h14, h15, h16, h17, h19, h20, h21, h24, h25, h26, h29, h31]; exact wA1a, by simp only [nS, nL, nC, nW, nF, Wz, h1, h3, h6, h7, h8, h9, h10, h11, h12, h13, h14, h15, h16, h17, h19, h20, h21, h24, h25, h26, h29, h31]; exact wA1b, by simp only [nS, nL, nC, nW, nF, Wz, h1, h3, h6, h7, h8, h9, h10, h11, h12, h13, h14, h15, h16, h17, h19, h20, h21, h24, h25, h26, h29, h31]; exact wA1c, by simp only [nS, nL, nC, nW, nF, Wz, h1, h3, h6, h7, h8, h9, h10, h11, h12, h13, h14, h15, h16, h17, h19, h20, h21, h24, h25, h26, h29, h31]; exact wA1d, ?_⟩, ?_⟩, ⟨by simp only [nS, nL, nC, nW, nF, Wz, h1, h3, h6, h7, h8, h9, h10, h11, h12, h13, h14, h15, h16, h17, h19, h20, h21, h24, h25, h26, h29, h31]; exact wB1, by simp only [nS, nL, nC, nW, nF, Wz, h1, h3, h6, h7, h8, h9, h10, h11, h12, h13, h14, h15, h16, h17, h19, h20, h21, h24, h25, h26, h29, h31]; exact wB2, by simp only [nS, nL, nC, nW, nF, Wz, h1, h3, h6, h7, h8, h9, h10, h11, h12, h13, h14, h15, h16, h17, h19, h20, h21, h24, h25, h26, h29, h31]; exact wB3, by simp only [nS, nL, nC, nW, nF, Wz, h1, h3, h6, h7, h8, h9, h10, h11, h12, h13, h14, h15, h16, h17, h19, h20, h21, h24, h25, h26, h29, h31]; exact wB4, ?_⟩, ?_, ?_, by simp only [nS, nL, nC, nW, nF, Wz, h1, h3, h6, h7, h8, h9, h10, h11, h12, h13, h14, h15, h16, h17, h19, h20, h21, h24, h25, h26, h29, h31]; exact wE, ?_, ⟨?_, by simp only [nS, nL, nC, nW, nF, Wz, h1, h3, h6, h7, h8, h9, h10, h11, h12, h13, h14, h15, h16, h17, h19, h20, h21, h24, h25, h26, h29, h31]; exact wG2⟩, by simp only [nS, nL, nC, nW, nF, Wz, h1, h3, h6, h7, h8, h9, h10, h11, h12, h13, h14, h15, h16, h17, h19, h20, h21, h24, h25, h26, h29, h31]; exact wH, by simp only [nS, nL, nC, nW, nF, Wz, h1, h3, h6, h7, h8, h9, h10, h11, h12, h13, h14, h15, h16, h17, h19, h20, h21, h24, h25, h26, h29, h31]; exact wI, ?_, by simp only [nS, nL, nC, nW, nF, Wz, h1, h3, h6, h7, h8, h9, h10, h11, h12, h13, h14, h15, h16, h17, h19, h20, h21, h24, h25, h26, h29, h31]; exact wK, by simp only [nS, nL, nC, nW, nF, Wz, h1, h3, h6, h7, h8, h9, h10, h11, h12, h13, h14, h15, h16, h17, h19, h20, h21, h24, h25, h26, h29, h31]; exact wL⟩
  · rw [eF]; decide
  · intro i hi
    rw [eS] at hi
    by_cases e : i = i9
    · subst e
      have z := wA2 i hi
      rw [h4, h7, h15, fu_s, tn_nI (by omega)]
      exact ⟨by omega, z.2⟩
    · rw [h4, h7, h15, fu_n e]; exact wA2 i hi
  · rw [eF, h28]; rfl
  · intro i hi
    rw [eS] at hi
    by_cases e : i = i9
    · subst e
      rw [h4, h7, fu_s, tn_nI (by omega)]
      exact ⟨rfl, (wC i hi).2⟩
    · rw [h4, h7, fu_n e]; exact wC i hi
  · intro k hk
    by_cases e : k = 3 * i9 + tn (R 4 i9)
    · rw [h5, e, fu_s]; exact ⟨rfl, by decide⟩
    · rw [h5, fu_n e]; exact wD k hk
  · intro i hi
    obtain ⟨z1, z2⟩ := wF i hi
    refine ⟨fun z => ?_, fun j hj z => ?_⟩
    · rw [eS] at z
      rw [h3, h7, h11, h12, h13, h14, h15]; exact z1 z
    · rw [eS, h4] at z
      rw [h5]
      by_cases e : 3 * i + j = 3 * i9 + tn (R 4 i9)
      · rw [e, fu_s]
      · rw [fu_n e]
        refine z2 j hj ?_
        by_cases e2 : i = i9
        · subst e2
          rw [fu_s, tn_nI (by omega)] at z; omega
        · rw [fu_n e2] at z; exact z
  · intro k c hk hc
    by_cases e : k = 3 * i9 + tn (R 4 i9)
    · rw [h5, e, fu_s] at hc; exact absurd hc (by simp [tn_0])
    · rw [h5, fu_n e] at hc; rw [h6]; exact wG1 k c hk hc
  · intro i hi; rw [eF] at hi; omega
theorem wf_range {R : mR} (hw : WfS R) {s sd lo hi : Int32} (hk : kn R s = true) (hg : gdH sd lo hi) (hl : tn (R 7 (tn s)) < 6) : WfS (uR (uR (uR (uR (uR R 8 (6 * tn s + tn (R 7 (tn s))) sd) 9 (6 * tn s + tn (R 7 (tn s))) lo) 10 (6 * tn s + tn (R 7 (tn s))) hi) 7 (tn s) (nI (tn (R 7 (tn s)) + 1))) 28 0 0) := by
  obtain ⟨R1, hR1⟩ : ∃ R1 : mR, R1 = uR (uR (uR (uR (uR R 8 (6 * tn s + tn (R 7 (tn s))) sd) 9 (6 * tn s + tn (R 7 (tn s))) lo) 10 (6 * tn s + tn (R 7 (tn s))) hi) 7 (tn s) (nI (tn (R 7 (tn s)) + 1))) 28 0 0 := ⟨_, rfl⟩
  rw [← hR1]
  have h0 : R1 0 = R 0 := by rw [hR1]; rfl
  have h1 : R1 1 = R 1 := by rw [hR1]; rfl
  have h2 : R1 2 = R 2 := by rw [hR1]; rfl
  have h3 : R1 3 = R 3 := by rw [hR1]; rfl
  have h4 : R1 4 = R 4 := by rw [hR1]; rfl
  have h5 : R1 5 = R 5 := by rw [hR1]; rfl
  have h6 : R1 6 = R 6 := by rw [hR1]; rfl
  have h11 : R1 11 = R 11 := by rw [hR1]; rfl
  have h12 : R1 12 = R 12 := by rw [hR1]; rfl
  have h13 : R1 13 = R 13 := by rw [hR1]; rfl
  have h14 : R1 14 = R 14 := by rw [hR1]; rfl
  have h15 : R1 15 = R 15 := by rw [hR1]; rfl
  have h16 : R1 16 = R 16 := by rw [hR1]; rfl
  have h17 : R1 17 = R 17 := by rw [hR1]; rfl
  have h18 : R1 18 = R 18 := by rw [hR1]; rfl
  have h19 : R1 19 = R 19 := by rw [hR1]; rfl
  have h20 : R1 20 = R 20 := by rw [hR1]; rfl
  have h21 : R1 21 = R 21 := by rw [hR1]; rfl
  have h22 : R1 22 = R 22 := by rw [hR1]; rfl
  have h23 : R1 23 = R 23 := by rw [hR1]; rfl
  have h24 : R1 24 = R 24 := by rw [hR1]; rfl
  have h25 : R1 25 = R 25 := by rw [hR1]; rfl
  have h26 : R1 26 = R 26 := by rw [hR1]; rfl
  have h27 : R1 27 = R 27 := by rw [hR1]; rfl
  have h29 : R1 29 = R 29 := by rw [hR1]; rfl
  have h30 : R1 30 = R 30 := by rw [hR1]; rfl
  have h31 : R1 31 = R 31 := by rw [hR1]; rfl
  have h32 : R1 32 = R 32 := by rw [hR1]; rfl
  have h33 : R1 33 = R 33 := by rw [hR1]; rfl
  have h34 : R1 34 = R 34 := by rw [hR1]; rfl
  have h8 : R1 8 = fu (R 8) (6 * tn s + tn (R 7 (tn s))) sd := by rw [hR1]; rfl
  have h9 : R1 9 = fu (R 9) (6 * tn s + tn (R 7 (tn s))) lo := by rw [hR1]; rfl
  have h10 : R1 10 = fu (R 10) (6 * tn s + tn (R 7 (tn s))) hi := by rw [hR1]; rfl
  have h7 : R1 7 = fu (R 7) (tn s) (nI (tn (R 7 (tn s)) + 1)) := by rw [hR1]; rfl
  have h28 : R1 28 = fu (R 28) 0 0 := by rw [hR1]; rfl
  clear hR1
  obtain ⟨⟨⟨wA1a, wA1b, wA1c, wA1d, wA1e⟩, wA2⟩, ⟨wB1, wB2, wB3, wB4, wB5⟩, wC, wD, wE, wF, ⟨wG1, wG2⟩, wH, wI, wJ, wK, wL⟩ := hw
  obtain ⟨i9, hi9, es, ei⟩ := kn_i ⟨⟨wA1a, wA1b, wA1c, wA1d, wA1e⟩, wA2⟩ hk
  simp only [ei] at h7 h8 h9 h10 hl
  have eS : nS R1 = nS R := by simp only [nS, h1]
  have eF : nF R1 = 0 := by simp only [nF, h28]; rfl
  refine ⟨⟨⟨by simp only [nS, nL, nC, nW, nF, Wz, h1, h3, h4, h5, h6, h11, h12, h13, h14, h15, h16, h17, h19, h20, h21, h24, h25, h26, h29, h31]; exact wA1a, by simp only [nS, nL, nC, nW, nF, Wz, h1, h3, h4, h5, h6, h11, h12, h13, h14, h15, h16, h17, h19, h20, h21, h24, h25, h26, h29, h31]; exact wA1b, by simp only [nS, nL, nC, nW, nF, Wz, h1, h3, h4, h5, h6, h11, h12, h13, h14, h15, h16, h17, h19, h20, h21, h24, h25, h26, h29, h31]; exact wA1c, by simp only [nS, nL, nC, nW, nF, Wz, h1, h3, h4, h5, h6, h11, h12, h13, h14, h15, h16, h17, h19, h20, h21, h24, h25, h26, h29, h31]; exact wA1d, ?_⟩, ?_⟩, ⟨by simp only [nS, nL, nC, nW, nF, Wz, h1, h3, h4, h5, h6, h11, h12, h13, h14, h15, h16, h17, h19, h20, h21, h24, h25, h26, h29, h31]; exact wB1, by simp only [nS, nL, nC, nW, nF, Wz, h1, h3, h4, h5, h6, h11, h12, h13, h14, h15, h16, h17, h19, h20, h21, h24, h25, h26, h29, h31]; exact wB2, by simp only [nS, nL, nC, nW, nF, Wz, h1, h3, h4, h5, h6, h11, h12, h13, h14, h15, h16, h17, h19, h20, h21, h24, h25, h26, h29, h31]; exact wB3, by simp only [nS, nL, nC, nW, nF, Wz, h1, h3, h4, h5, h6, h11, h12, h13, h14, h15, h16, h17, h19, h20, h21, h24, h25, h26, h29, h31]; exact wB4, ?_⟩, ?_, by simp only [nS, nL, nC, nW, nF, Wz, h1, h3, h4, h5, h6, h11, h12, h13, h14, h15, h16, h17, h19, h20, h21, h24, h25, h26, h29, h31]; exact wD, by simp only [nS, nL, nC, nW, nF, Wz, h1, h3, h4, h5, h6, h11, h12, h13, h14, h15, h16, h17, h19, h20, h21, h24, h25, h26, h29, h31]; exact wE, ?_, ⟨by simp only [nS, nL, nC, nW, nF, Wz, h1, h3, h4, h5, h6, h11, h12, h13, h14, h15, h16, h17, h19, h20, h21, h24, h25, h26, h29, h31]; exact wG1, by simp only [nS, nL, nC, nW, nF, Wz, h1, h3, h4, h5, h6, h11, h12, h13, h14, h15, h16, h17, h19, h20, h21, h24, h25, h26, h29, h31]; exact wG2⟩, by simp only [nS, nL, nC, nW, nF, Wz, h1, h3, h4, h5, h6, h11, h12, h13, h14, h15, h16, h17, h19, h20, h21, h24, h25, h26, h29, h31]; exact wH, ?_, ?_, by simp only [nS, nL, nC, nW, nF, Wz, h1, h3, h4, h5, h6, h11, h12, h13, h14, h15, h16, h17, h19, h20, h21, h24, h25, h26, h29, h31]; exact wK, by simp only [nS, nL, nC, nW, nF, Wz, h1, h3, h4, h5, h6, h11, h12, h13, h14, h15, h16, h17, h19, h20, h21, h24, h25, h26, h29, h31]; exact wL⟩
  · rw [eF]; decide
  · intro i hi
    rw [eS] at hi
    by_cases e : i = i9
    · subst e
      have z := wA2 i hi
      rw [h4, h7, h15, fu_s, tn_nI (by omega)]
      exact ⟨z.1, by omega, z.2.2⟩
    · rw [h4, h7, h15, fu_n e]; exact wA2 i hi
  · rw [eF, h28]; rfl
  · intro i hi
    rw [eS] at hi
    by_cases e : i = i9
    · subst e
      rw [h4, h7, fu_s, tn_nI (by omega)]
      exact ⟨(wC i hi).1, rfl⟩
    · rw [h4, h7, fu_n e]; exact wC i hi
  · intro i hi
    obtain ⟨z1, z2⟩ := wF i hi
    refine ⟨fun z => ?_, fun j hj z => ?_⟩
    · rw [eS] at z
      rw [h3, h7, h11, h12, h13, h14, h15, fu_n (show i ≠ i9 by omega)]; exact z1 z
    · rw [eS, h4] at z
      rw [h5]; exact z2 j hj z
  · intro i j hi hj
    rw [eS] at hi
    have l7 := (wA2 i9 hi9).2.1
    by_cases e : i = i9 ∧ j = tn (R 7 i9)
    · rw [h8, h9, h10, e.1, e.2, fu_s, fu_s, fu_s]; exact hg
    · have l7' := (wA2 i hi).2.1
      have hj2 : j < tn (R 7 i) := by
        by_cases e2 : i = i9
        · subst e2
          rw [h7, fu_s, tn_nI (by omega)] at hj; omega
        · rw [h7, fu_n e2] at hj; exact hj
      have e3 : 6 * i + j ≠ 6 * i9 + tn (R 7 i9) := by omega
      rw [h8, h9, h10, fu_n e3, fu_n e3, fu_n e3]; exact wI i j hi hj2
  · intro i hi; rw [eF] at hi; omega
theorem wf_line {R : mR} (hw : WfS R) {s x y tx ty : Int32} (hk : kn R s = true) (hg : gdP x y ∧ gdP tx ty) : WfS (uR (uR (uR (uR (uR (uR R 11 (tn s) x) 12 (tn s) y) 13 (tn s) (tx - x)) 14 (tn s) (ty - y)) 15 (tn s) (w_root (sq_way x y tx ty))) 28 0 0) := by
  obtain ⟨R1, hR1⟩ : ∃ R1 : mR, R1 = uR (uR (uR (uR (uR (uR R 11 (tn s) x) 12 (tn s) y) 13 (tn s) (tx - x)) 14 (tn s) (ty - y)) 15 (tn s) (w_root (sq_way x y tx ty))) 28 0 0 := ⟨_, rfl⟩
  rw [← hR1]
  have h0 : R1 0 = R 0 := by rw [hR1]; rfl
  have h1 : R1 1 = R 1 := by rw [hR1]; rfl
  have h2 : R1 2 = R 2 := by rw [hR1]; rfl
  have h3 : R1 3 = R 3 := by rw [hR1]; rfl
  have h4 : R1 4 = R 4 := by rw [hR1]; rfl
  have h5 : R1 5 = R 5 := by rw [hR1]; rfl
  have h6 : R1 6 = R 6 := by rw [hR1]; rfl
  have h7 : R1 7 = R 7 := by rw [hR1]; rfl
  have h8 : R1 8 = R 8 := by rw [hR1]; rfl
  have h9 : R1 9 = R 9 := by rw [hR1]; rfl
  have h10 : R1 10 = R 10 := by rw [hR1]; rfl
  have h16 : R1 16 = R 16 := by rw [hR1]; rfl
  have h17 : R1 17 = R 17 := by rw [hR1]; rfl
  have h18 : R1 18 = R 18 := by rw [hR1]; rfl
  have h19 : R1 19 = R 19 := by rw [hR1]; rfl
  have h20 : R1 20 = R 20 := by rw [hR1]; rfl
  have h21 : R1 21 = R 21 := by rw [hR1]; rfl
  have h22 : R1 22 = R 22 := by rw [hR1]; rfl
  have h23 : R1 23 = R 23 := by rw [hR1]; rfl
  have h24 : R1 24 = R 24 := by rw [hR1]; rfl
  have h25 : R1 25 = R 25 := by rw [hR1]; rfl
  have h26 : R1 26 = R 26 := by rw [hR1]; rfl
  have h27 : R1 27 = R 27 := by rw [hR1]; rfl
  have h29 : R1 29 = R 29 := by rw [hR1]; rfl
  have h30 : R1 30 = R 30 := by rw [hR1]; rfl
  have h31 : R1 31 = R 31 := by rw [hR1]; rfl
  have h32 : R1 32 = R 32 := by rw [hR1]; rfl
  have h33 : R1 33 = R 33 := by rw [hR1]; rfl
  have h34 : R1 34 = R 34 := by rw [hR1]; rfl
  have h11 : R1 11 = fu (R 11) (tn s) x := by rw [hR1]; rfl
  have h12 : R1 12 = fu (R 12) (tn s) y := by rw [hR1]; rfl
  have h13 : R1 13 = fu (R 13) (tn s) (tx - x) := by rw [hR1]; rfl
  have h14 : R1 14 = fu (R 14) (tn s) (ty - y) := by rw [hR1]; rfl
  have h15 : R1 15 = fu (R 15) (tn s) (w_root (sq_way x y tx ty)) := by rw [hR1]; rfl
  have h28 : R1 28 = fu (R 28) 0 0 := by rw [hR1]; rfl
  clear hR1
  obtain ⟨⟨⟨wA1a, wA1b, wA1c, wA1d, wA1e⟩, wA2⟩, ⟨wB1, wB2, wB3, wB4, wB5⟩, wC, wD, wE, wF, ⟨wG1, wG2⟩, wH, wI, wJ, wK, wL⟩ := hw
  obtain ⟨i9, hi9, es, ei⟩ := kn_i ⟨⟨wA1a, wA1b, wA1c, wA1d, wA1e⟩, wA2⟩ hk
  simp only [ei] at h11 h12 h13 h14 h15
  have eS : nS R1 = nS R := by simp only [nS, h1]
  have eF : nF R1 = 0 := by simp only [nF, h28]; rfl
  have rt := root_eq hg.1.1 hg.1.2 hg.2.1 hg.2.2
  refine ⟨⟨⟨by simp only [nS, nL, nC, nW, nF, Wz, h1, h3, h4, h5, h6, h7, h8, h9, h10, h16, h17, h19, h20, h21, h24, h25, h26, h29, h31]; exact wA1a, by simp only [nS, nL, nC, nW, nF, Wz, h1, h3, h4, h5, h6, h7, h8, h9, h10, h16, h17, h19, h20, h21, h24, h25, h26, h29, h31]; exact wA1b, by simp only [nS, nL, nC, nW, nF, Wz, h1, h3, h4, h5, h6, h7, h8, h9, h10, h16, h17, h19, h20, h21, h24, h25, h26, h29, h31]; exact wA1c, by simp only [nS, nL, nC, nW, nF, Wz, h1, h3, h4, h5, h6, h7, h8, h9, h10, h16, h17, h19, h20, h21, h24, h25, h26, h29, h31]; exact wA1d, ?_⟩, ?_⟩, ⟨by simp only [nS, nL, nC, nW, nF, Wz, h1, h3, h4, h5, h6, h7, h8, h9, h10, h16, h17, h19, h20, h21, h24, h25, h26, h29, h31]; exact wB1, by simp only [nS, nL, nC, nW, nF, Wz, h1, h3, h4, h5, h6, h7, h8, h9, h10, h16, h17, h19, h20, h21, h24, h25, h26, h29, h31]; exact wB2, by simp only [nS, nL, nC, nW, nF, Wz, h1, h3, h4, h5, h6, h7, h8, h9, h10, h16, h17, h19, h20, h21, h24, h25, h26, h29, h31]; exact wB3, by simp only [nS, nL, nC, nW, nF, Wz, h1, h3, h4, h5, h6, h7, h8, h9, h10, h16, h17, h19, h20, h21, h24, h25, h26, h29, h31]; exact wB4, ?_⟩, by simp only [nS, nL, nC, nW, nF, Wz, h1, h3, h4, h5, h6, h7, h8, h9, h10, h16, h17, h19, h20, h21, h24, h25, h26, h29, h31]; exact wC, by simp only [nS, nL, nC, nW, nF, Wz, h1, h3, h4, h5, h6, h7, h8, h9, h10, h16, h17, h19, h20, h21, h24, h25, h26, h29, h31]; exact wD, by simp only [nS, nL, nC, nW, nF, Wz, h1, h3, h4, h5, h6, h7, h8, h9, h10, h16, h17, h19, h20, h21, h24, h25, h26, h29, h31]; exact wE, ?_, ⟨by simp only [nS, nL, nC, nW, nF, Wz, h1, h3, h4, h5, h6, h7, h8, h9, h10, h16, h17, h19, h20, h21, h24, h25, h26, h29, h31]; exact wG1, by simp only [nS, nL, nC, nW, nF, Wz, h1, h3, h4, h5, h6, h7, h8, h9, h10, h16, h17, h19, h20, h21, h24, h25, h26, h29, h31]; exact wG2⟩, ?_, by simp only [nS, nL, nC, nW, nF, Wz, h1, h3, h4, h5, h6, h7, h8, h9, h10, h16, h17, h19, h20, h21, h24, h25, h26, h29, h31]; exact wI, ?_, by simp only [nS, nL, nC, nW, nF, Wz, h1, h3, h4, h5, h6, h7, h8, h9, h10, h16, h17, h19, h20, h21, h24, h25, h26, h29, h31]; exact wK, by simp only [nS, nL, nC, nW, nF, Wz, h1, h3, h4, h5, h6, h7, h8, h9, h10, h16, h17, h19, h20, h21, h24, h25, h26, h29, h31]; exact wL⟩
  · rw [eF]; decide
  · intro i hi
    rw [eS] at hi
    by_cases e : i = i9
    · subst e
      have z := wA2 i hi
      rw [h4, h7, h15, fu_s]
      exact ⟨z.1, z.2.1, rt.2⟩
    · rw [h4, h7, h15, fu_n e]; exact wA2 i hi
  · rw [eF, h28]; rfl
  · intro i hi
    obtain ⟨z1, z2⟩ := wF i hi
    refine ⟨fun z => ?_, fun j hj z => ?_⟩
    · rw [eS] at z
      have e : i ≠ i9 := by omega
      rw [h3, h7, h11, h12, h13, h14, h15, fu_n e, fu_n e, fu_n e, fu_n e, fu_n e]; exact z1 z
    · rw [eS, h4] at z
      rw [h5]; exact z2 j hj z
  · intro i hi
    rw [eS] at hi
    by_cases e : i = i9
    · subst e
      rw [h11, h12, h13, h14, h15, fu_s, fu_s, fu_s, fu_s, fu_s, show x + (tx - x) = tx by grind, show y + (ty - y) = ty by grind]
      exact ⟨⟨hg.1.1, hg.1.2, hg.2.1, hg.2.2⟩, rfl⟩
    · rw [h11, h12, h13, h14, h15, fu_n e, fu_n e, fu_n e, fu_n e, fu_n e]; exact wH i hi
  · intro i hi; rw [eF] at hi; omega
theorem wf_close {R : mR} (hw : WfS R) {s b : Int32} (hk : kn R s = true) : WfS (uR (uR R 3 (tn s) b) 28 0 0) := by
  obtain ⟨R1, hR1⟩ : ∃ R1 : mR, R1 = uR (uR R 3 (tn s) b) 28 0 0 := ⟨_, rfl⟩
  rw [← hR1]
  have h0 : R1 0 = R 0 := by rw [hR1]; rfl
  have h1 : R1 1 = R 1 := by rw [hR1]; rfl
  have h2 : R1 2 = R 2 := by rw [hR1]; rfl
  have h4 : R1 4 = R 4 := by rw [hR1]; rfl
  have h5 : R1 5 = R 5 := by rw [hR1]; rfl
  have h6 : R1 6 = R 6 := by rw [hR1]; rfl
  have h7 : R1 7 = R 7 := by rw [hR1]; rfl
  have h8 : R1 8 = R 8 := by rw [hR1]; rfl
  have h9 : R1 9 = R 9 := by rw [hR1]; rfl
  have h10 : R1 10 = R 10 := by rw [hR1]; rfl
  have h11 : R1 11 = R 11 := by rw [hR1]; rfl
  have h12 : R1 12 = R 12 := by rw [hR1]; rfl
  have h13 : R1 13 = R 13 := by rw [hR1]; rfl
  have h14 : R1 14 = R 14 := by rw [hR1]; rfl
  have h15 : R1 15 = R 15 := by rw [hR1]; rfl
  have h16 : R1 16 = R 16 := by rw [hR1]; rfl
  have h17 : R1 17 = R 17 := by rw [hR1]; rfl
  have h18 : R1 18 = R 18 := by rw [hR1]; rfl
  have h19 : R1 19 = R 19 := by rw [hR1]; rfl
  have h20 : R1 20 = R 20 := by rw [hR1]; rfl
  have h21 : R1 21 = R 21 := by rw [hR1]; rfl
  have h22 : R1 22 = R 22 := by rw [hR1]; rfl
  have h23 : R1 23 = R 23 := by rw [hR1]; rfl
  have h24 : R1 24 = R 24 := by rw [hR1]; rfl
  have h25 : R1 25 = R 25 := by rw [hR1]; rfl
  have h26 : R1 26 = R 26 := by rw [hR1]; rfl
  have h27 : R1 27 = R 27 := by rw [hR1]; rfl
  have h29 : R1 29 = R 29 := by rw [hR1]; rfl
  have h30 : R1 30 = R 30 := by rw [hR1]; rfl
  have h31 : R1 31 = R 31 := by rw [hR1]; rfl
  have h32 : R1 32 = R 32 := by rw [hR1]; rfl
  have h33 : R1 33 = R 33 := by rw [hR1]; rfl
  have h34 : R1 34 = R 34 := by rw [hR1]; rfl
  have h3 : R1 3 = fu (R 3) (tn s) b := by rw [hR1]; rfl
  have h28 : R1 28 = fu (R 28) 0 0 := by rw [hR1]; rfl
  clear hR1
  obtain ⟨⟨⟨wA1a, wA1b, wA1c, wA1d, wA1e⟩, wA2⟩, ⟨wB1, wB2, wB3, wB4, wB5⟩, wC, wD, wE, wF, ⟨wG1, wG2⟩, wH, wI, wJ, wK, wL⟩ := hw
  obtain ⟨i9, hi9, es, ei⟩ := kn_i ⟨⟨wA1a, wA1b, wA1c, wA1d, wA1e⟩, wA2⟩ hk
  simp only [ei] at h3
  have eS : nS R1 = nS R := by simp only [nS, h1]
  have eF : nF R1 = 0 := by simp only [nF, h28]; rfl
  refine ⟨⟨⟨by simp only [nS, nL, nC, nW, nF, Wz, h1, h4, h5, h6, h7, h8, h9, h10, h11, h12, h13, h14, h15, h16, h17, h19, h20, h21, h24, h25, h26, h29, h31]; exact wA1a, by simp only [nS, nL, nC, nW, nF, Wz, h1, h4, h5, h6, h7, h8, h9, h10, h11, h12, h13, h14, h15, h16, h17, h19, h20, h21, h24, h25, h26, h29, h31]; exact wA1b, by simp only [nS, nL, nC, nW, nF, Wz, h1, h4, h5, h6, h7, h8, h9, h10, h11, h12, h13, h14, h15, h16, h17, h19, h20, h21, h24, h25, h26, h29, h31]; exact wA1c, by simp only [nS, nL, nC, nW, nF, Wz, h1, h4, h5, h6, h7, h8, h9, h10, h11, h12, h13, h14, h15, h16, h17, h19, h20, h21, h24, h25, h26, h29, h31]; exact wA1d, ?_⟩, by simp only [nS, nL, nC, nW, nF, Wz, h1, h4, h5, h6, h7, h8, h9, h10, h11, h12, h13, h14, h15, h16, h17, h19, h20, h21, h24, h25, h26, h29, h31]; exact wA2⟩, ⟨by simp only [nS, nL, nC, nW, nF, Wz, h1, h4, h5, h6, h7, h8, h9, h10, h11, h12, h13, h14, h15, h16, h17, h19, h20, h21, h24, h25, h26, h29, h31]; exact wB1, by simp only [nS, nL, nC, nW, nF, Wz, h1, h4, h5, h6, h7, h8, h9, h10, h11, h12, h13, h14, h15, h16, h17, h19, h20, h21, h24, h25, h26, h29, h31]; exact wB2, by simp only [nS, nL, nC, nW, nF, Wz, h1, h4, h5, h6, h7, h8, h9, h10, h11, h12, h13, h14, h15, h16, h17, h19, h20, h21, h24, h25, h26, h29, h31]; exact wB3, by simp only [nS, nL, nC, nW, nF, Wz, h1, h4, h5, h6, h7, h8, h9, h10, h11, h12, h13, h14, h15, h16, h17, h19, h20, h21, h24, h25, h26, h29, h31]; exact wB4, ?_⟩, by simp only [nS, nL, nC, nW, nF, Wz, h1, h4, h5, h6, h7, h8, h9, h10, h11, h12, h13, h14, h15, h16, h17, h19, h20, h21, h24, h25, h26, h29, h31]; exact wC, by simp only [nS, nL, nC, nW, nF, Wz, h1, h4, h5, h6, h7, h8, h9, h10, h11, h12, h13, h14, h15, h16, h17, h19, h20, h21, h24, h25, h26, h29, h31]; exact wD, by simp only [nS, nL, nC, nW, nF, Wz, h1, h4, h5, h6, h7, h8, h9, h10, h11, h12, h13, h14, h15, h16, h17, h19, h20, h21, h24, h25, h26, h29, h31]; exact wE, ?_, ⟨by simp only [nS, nL, nC, nW, nF, Wz, h1, h4, h5, h6, h7, h8, h9, h10, h11, h12, h13, h14, h15, h16, h17, h19, h20, h21, h24, h25, h26, h29, h31]; exact wG1, by simp only [nS, nL, nC, nW, nF, Wz, h1, h4, h5, h6, h7, h8, h9, h10, h11, h12, h13, h14, h15, h16, h17, h19, h20, h21, h24, h25, h26, h29, h31]; exact wG2⟩, by simp only [nS, nL, nC, nW, nF, Wz, h1, h4, h5, h6, h7, h8, h9, h10, h11, h12, h13, h14, h15, h16, h17, h19, h20, h21, h24, h25, h26, h29, h31]; exact wH, by simp only [nS, nL, nC, nW, nF, Wz, h1, h4, h5, h6, h7, h8, h9, h10, h11, h12, h13, h14, h15, h16, h17, h19, h20, h21, h24, h25, h26, h29, h31]; exact wI, ?_, by simp only [nS, nL, nC, nW, nF, Wz, h1, h4, h5, h6, h7, h8, h9, h10, h11, h12, h13, h14, h15, h16, h17, h19, h20, h21, h24, h25, h26, h29, h31]; exact wK, by simp only [nS, nL, nC, nW, nF, Wz, h1, h4, h5, h6, h7, h8, h9, h10, h11, h12, h13, h14, h15, h16, h17, h19, h20, h21, h24, h25, h26, h29, h31]; exact wL⟩
  · rw [eF]; decide
  · rw [eF, h28]; rfl
  · intro i hi
    obtain ⟨z1, z2⟩ := wF i hi
    refine ⟨fun z => ?_, fun j hj z => ?_⟩
    · rw [eS] at z
      have e : i ≠ i9 := by omega
      rw [h3, h7, h11, h12, h13, h14, h15, fu_n e]; exact z1 z
    · rw [eS, h4] at z
      rw [h5]; exact z2 j hj z
  · intro i hi; rw [eF] at hi; omega
theorem wf_landmark {R : mR} (hw : WfS R) {s h : Int32} {p : Int64} {n : Int32} (hk : kn R s = true) (hg : gdL p n) (hl : nL R < 20) : WfS (uR (uR (setF (uR (uR (uR R 17 (nL R) s) 18 (nL R) h) 19 (nL R) (nI (tn n))) 20 (fa (R 20) (8 * nL R) p (tn n) (tn n))) 16 0 (nI (nL R + 1))) 28 0 0) := by
  obtain ⟨R1, hR1⟩ : ∃ R1 : mR, R1 = uR (uR (setF (uR (uR (uR R 17 (nL R) s) 18 (nL R) h) 19 (nL R) (nI (tn n))) 20 (fa (R 20) (8 * nL R) p (tn n) (tn n))) 16 0 (nI (nL R + 1))) 28 0 0 := ⟨_, rfl⟩
  rw [← hR1]
  have h0 : R1 0 = R 0 := by rw [hR1]; rfl
  have h1 : R1 1 = R 1 := by rw [hR1]; rfl
  have h2 : R1 2 = R 2 := by rw [hR1]; rfl
  have h3 : R1 3 = R 3 := by rw [hR1]; rfl
  have h4 : R1 4 = R 4 := by rw [hR1]; rfl
  have h5 : R1 5 = R 5 := by rw [hR1]; rfl
  have h6 : R1 6 = R 6 := by rw [hR1]; rfl
  have h7 : R1 7 = R 7 := by rw [hR1]; rfl
  have h8 : R1 8 = R 8 := by rw [hR1]; rfl
  have h9 : R1 9 = R 9 := by rw [hR1]; rfl
  have h10 : R1 10 = R 10 := by rw [hR1]; rfl
  have h11 : R1 11 = R 11 := by rw [hR1]; rfl
  have h12 : R1 12 = R 12 := by rw [hR1]; rfl
  have h13 : R1 13 = R 13 := by rw [hR1]; rfl
  have h14 : R1 14 = R 14 := by rw [hR1]; rfl
  have h15 : R1 15 = R 15 := by rw [hR1]; rfl
  have h21 : R1 21 = R 21 := by rw [hR1]; rfl
  have h22 : R1 22 = R 22 := by rw [hR1]; rfl
  have h23 : R1 23 = R 23 := by rw [hR1]; rfl
  have h24 : R1 24 = R 24 := by rw [hR1]; rfl
  have h25 : R1 25 = R 25 := by rw [hR1]; rfl
  have h26 : R1 26 = R 26 := by rw [hR1]; rfl
  have h27 : R1 27 = R 27 := by rw [hR1]; rfl
  have h29 : R1 29 = R 29 := by rw [hR1]; rfl
  have h30 : R1 30 = R 30 := by rw [hR1]; rfl
  have h31 : R1 31 = R 31 := by rw [hR1]; rfl
  have h32 : R1 32 = R 32 := by rw [hR1]; rfl
  have h33 : R1 33 = R 33 := by rw [hR1]; rfl
  have h34 : R1 34 = R 34 := by rw [hR1]; rfl
  have h17 : R1 17 = fu (R 17) (nL R) s := by rw [hR1]; rfl
  have h18 : R1 18 = fu (R 18) (nL R) h := by rw [hR1]; rfl
  have h19 : R1 19 = fu (R 19) (nL R) (nI (tn n)) := by rw [hR1]; rfl
  have h20 : R1 20 = fa (R 20) (8 * nL R) p (tn n) (tn n) := by rw [hR1]; rfl
  have h16 : R1 16 = fu (R 16) 0 (nI (nL R + 1)) := by rw [hR1]; rfl
  have h28 : R1 28 = fu (R 28) 0 0 := by rw [hR1]; rfl
  clear hR1
  obtain ⟨⟨⟨wA1a, wA1b, wA1c, wA1d, wA1e⟩, wA2⟩, ⟨wB1, wB2, wB3, wB4, wB5⟩, wC, wD, wE, wF, ⟨wG1, wG2⟩, wH, wI, wJ, wK, wL⟩ := hw
  obtain ⟨i9, hi9, es, ei⟩ := kn_i ⟨⟨wA1a, wA1b, wA1c, wA1d, wA1e⟩, wA2⟩ hk
  have eS : nS R1 = nS R := by simp only [nS, h1]
  have eF : nF R1 = 0 := by simp only [nF, h28]; rfl
  have eL : nL R1 = nL R + 1 := by
    simp only [nL, h16, fu_s]; exact tn_nI (by simp only [nL] at hl; omega)
  obtain ⟨n8, hn8, en0, hn81⟩ : ∃ n8 : Nat, n8 ≤ 8 ∧ n = nI n8 ∧ 1 ≤ n8 := by
    obtain ⟨a, e, h1, h2⟩ := inn_nat (b := 1) (c := 8) (by decide) (by decide) hg.1
    exact ⟨a, h2, e, h1⟩
  have en : tn n = n8 := by rw [en0]; exact tn_nI (by omega)
  rw [en] at h19 h20
  refine ⟨⟨⟨by simp only [nS, nL, nC, nW, nF, Wz, h1, h3, h4, h5, h6, h7, h8, h9, h10, h11, h12, h13, h14, h15, h21, h24, h25, h26, h29, h31]; exact wA1a, ?_, by simp only [nS, nL, nC, nW, nF, Wz, h1, h3, h4, h5, h6, h7, h8, h9, h10, h11, h12, h13, h14, h15, h21, h24, h25, h26, h29, h31]; exact wA1c, by simp only [nS, nL, nC, nW, nF, Wz, h1, h3, h4, h5, h6, h7, h8, h9, h10, h11, h12, h13, h14, h15, h21, h24, h25, h26, h29, h31]; exact wA1d, ?_⟩, by simp only [nS, nL, nC, nW, nF, Wz, h1, h3, h4, h5, h6, h7, h8, h9, h10, h11, h12, h13, h14, h15, h21, h24, h25, h26, h29, h31]; exact wA2⟩, ⟨by simp only [nS, nL, nC, nW, nF, Wz, h1, h3, h4, h5, h6, h7, h8, h9, h10, h11, h12, h13, h14, h15, h21, h24, h25, h26, h29, h31]; exact wB1, ?_, by simp only [nS, nL, nC, nW, nF, Wz, h1, h3, h4, h5, h6, h7, h8, h9, h10, h11, h12, h13, h14, h15, h21, h24, h25, h26, h29, h31]; exact wB3, by simp only [nS, nL, nC, nW, nF, Wz, h1, h3, h4, h5, h6, h7, h8, h9, h10, h11, h12, h13, h14, h15, h21, h24, h25, h26, h29, h31]; exact wB4, ?_⟩, by simp only [nS, nL, nC, nW, nF, Wz, h1, h3, h4, h5, h6, h7, h8, h9, h10, h11, h12, h13, h14, h15, h21, h24, h25, h26, h29, h31]; exact wC, by simp only [nS, nL, nC, nW, nF, Wz, h1, h3, h4, h5, h6, h7, h8, h9, h10, h11, h12, h13, h14, h15, h21, h24, h25, h26, h29, h31]; exact wD, ?_, by simp only [nS, nL, nC, nW, nF, Wz, h1, h3, h4, h5, h6, h7, h8, h9, h10, h11, h12, h13, h14, h15, h21, h24, h25, h26, h29, h31]; exact wF, ⟨by simp only [nS, nL, nC, nW, nF, Wz, h1, h3, h4, h5, h6, h7, h8, h9, h10, h11, h12, h13, h14, h15, h21, h24, h25, h26, h29, h31]; exact wG1, ?_⟩, by simp only [nS, nL, nC, nW, nF, Wz, h1, h3, h4, h5, h6, h7, h8, h9, h10, h11, h12, h13, h14, h15, h21, h24, h25, h26, h29, h31]; exact wH, by simp only [nS, nL, nC, nW, nF, Wz, h1, h3, h4, h5, h6, h7, h8, h9, h10, h11, h12, h13, h14, h15, h21, h24, h25, h26, h29, h31]; exact wI, ?_, by simp only [nS, nL, nC, nW, nF, Wz, h1, h3, h4, h5, h6, h7, h8, h9, h10, h11, h12, h13, h14, h15, h21, h24, h25, h26, h29, h31]; exact wK, by simp only [nS, nL, nC, nW, nF, Wz, h1, h3, h4, h5, h6, h7, h8, h9, h10, h11, h12, h13, h14, h15, h21, h24, h25, h26, h29, h31]; exact wL⟩
  · rw [eL]; omega
  · rw [eF]; decide
  · rw [eL, h16]; exact fu_s
  · rw [eF, h28]; rfl
  · intro m hm
    rw [eL] at hm
    rw [eS]
    by_cases e : m = nL R
    · rw [h19, h17, e, fu_s, fu_s, tn_nI (by omega)]
      exact ⟨⟨rfl, by omega, by omega⟩, i9, hi9, es⟩
    · rw [h19, h17, fu_n e, fu_n e]; exact wE m (by omega)
  · intro m c hm hc
    rw [eL] at hm
    by_cases e : m = nL R
    · rw [h19, e, fu_s, tn_nI (by omega)] at hc
      rw [h20, e, fa, if_pos (by omega)]
      have e9 : 8 * nL R + c - 8 * nL R = c := by omega
      rw [e9, ← en]; exact hg.2 _ (by rw [en]; exact hc)
    · rw [h19, fu_n e] at hc
      have := (wE m (by omega)).1.2.2
      rw [h20, fa, if_neg (by omega)]; exact wG2 m c (by omega) hc
  · intro i hi; rw [eF] at hi; omega
theorem wf_meet {R : mR} (hw : WfS R) {s o m n : Int32} (hm : 0 ≤ m) (hn : 0 ≤ n) (hl : nC R < 40) : WfS (uR (uR (uR (uR (uR R 22 (nC R) s) 23 (nC R) o) 24 (nC R) m) 25 (nC R) n) 21 0 (nI (nC R + 1))) := by
  obtain ⟨R1, hR1⟩ : ∃ R1 : mR, R1 = uR (uR (uR (uR (uR R 22 (nC R) s) 23 (nC R) o) 24 (nC R) m) 25 (nC R) n) 21 0 (nI (nC R + 1)) := ⟨_, rfl⟩
  rw [← hR1]
  have h0 : R1 0 = R 0 := by rw [hR1]; rfl
  have h1 : R1 1 = R 1 := by rw [hR1]; rfl
  have h2 : R1 2 = R 2 := by rw [hR1]; rfl
  have h3 : R1 3 = R 3 := by rw [hR1]; rfl
  have h4 : R1 4 = R 4 := by rw [hR1]; rfl
  have h5 : R1 5 = R 5 := by rw [hR1]; rfl
  have h6 : R1 6 = R 6 := by rw [hR1]; rfl
  have h7 : R1 7 = R 7 := by rw [hR1]; rfl
  have h8 : R1 8 = R 8 := by rw [hR1]; rfl
  have h9 : R1 9 = R 9 := by rw [hR1]; rfl
  have h10 : R1 10 = R 10 := by rw [hR1]; rfl
  have h11 : R1 11 = R 11 := by rw [hR1]; rfl
  have h12 : R1 12 = R 12 := by rw [hR1]; rfl
  have h13 : R1 13 = R 13 := by rw [hR1]; rfl
  have h14 : R1 14 = R 14 := by rw [hR1]; rfl
  have h15 : R1 15 = R 15 := by rw [hR1]; rfl
  have h16 : R1 16 = R 16 := by rw [hR1]; rfl
  have h17 : R1 17 = R 17 := by rw [hR1]; rfl
  have h18 : R1 18 = R 18 := by rw [hR1]; rfl
  have h19 : R1 19 = R 19 := by rw [hR1]; rfl
  have h20 : R1 20 = R 20 := by rw [hR1]; rfl
  have h26 : R1 26 = R 26 := by rw [hR1]; rfl
  have h27 : R1 27 = R 27 := by rw [hR1]; rfl
  have h28 : R1 28 = R 28 := by rw [hR1]; rfl
  have h29 : R1 29 = R 29 := by rw [hR1]; rfl
  have h30 : R1 30 = R 30 := by rw [hR1]; rfl
  have h31 : R1 31 = R 31 := by rw [hR1]; rfl
  have h32 : R1 32 = R 32 := by rw [hR1]; rfl
  have h33 : R1 33 = R 33 := by rw [hR1]; rfl
  have h34 : R1 34 = R 34 := by rw [hR1]; rfl
  have h22 : R1 22 = fu (R 22) (nC R) s := by rw [hR1]; rfl
  have h23 : R1 23 = fu (R 23) (nC R) o := by rw [hR1]; rfl
  have h24 : R1 24 = fu (R 24) (nC R) m := by rw [hR1]; rfl
  have h25 : R1 25 = fu (R 25) (nC R) n := by rw [hR1]; rfl
  have h21 : R1 21 = fu (R 21) 0 (nI (nC R + 1)) := by rw [hR1]; rfl
  clear hR1
  obtain ⟨⟨⟨wA1a, wA1b, wA1c, wA1d, wA1e⟩, wA2⟩, ⟨wB1, wB2, wB3, wB4, wB5⟩, wC, wD, wE, wF, ⟨wG1, wG2⟩, wH, wI, wJ, wK, wL⟩ := hw
  have eC : nC R1 = nC R + 1 := by
    simp only [nC, h21, fu_s]; exact tn_nI (by simp only [nC] at hl; omega)
  refine ⟨⟨⟨by simp only [nS, nL, nC, nW, nF, Wz, h1, h3, h4, h5, h6, h7, h8, h9, h10, h11, h12, h13, h14, h15, h16, h17, h19, h20, h26, h28, h29, h31]; exact wA1a, by simp only [nS, nL, nC, nW, nF, Wz, h1, h3, h4, h5, h6, h7, h8, h9, h10, h11, h12, h13, h14, h15, h16, h17, h19, h20, h26, h28, h29, h31]; exact wA1b, ?_, by simp only [nS, nL, nC, nW, nF, Wz, h1, h3, h4, h5, h6, h7, h8, h9, h10, h11, h12, h13, h14, h15, h16, h17, h19, h20, h26, h28, h29, h31]; exact wA1d, by simp only [nS, nL, nC, nW, nF, Wz, h1, h3, h4, h5, h6, h7, h8, h9, h10, h11, h12, h13, h14, h15, h16, h17, h19, h20, h26, h28, h29, h31]; exact wA1e⟩, by simp only [nS, nL, nC, nW, nF, Wz, h1, h3, h4, h5, h6, h7, h8, h9, h10, h11, h12, h13, h14, h15, h16, h17, h19, h20, h26, h28, h29, h31]; exact wA2⟩, ⟨by simp only [nS, nL, nC, nW, nF, Wz, h1, h3, h4, h5, h6, h7, h8, h9, h10, h11, h12, h13, h14, h15, h16, h17, h19, h20, h26, h28, h29, h31]; exact wB1, by simp only [nS, nL, nC, nW, nF, Wz, h1, h3, h4, h5, h6, h7, h8, h9, h10, h11, h12, h13, h14, h15, h16, h17, h19, h20, h26, h28, h29, h31]; exact wB2, ?_, by simp only [nS, nL, nC, nW, nF, Wz, h1, h3, h4, h5, h6, h7, h8, h9, h10, h11, h12, h13, h14, h15, h16, h17, h19, h20, h26, h28, h29, h31]; exact wB4, by simp only [nS, nL, nC, nW, nF, Wz, h1, h3, h4, h5, h6, h7, h8, h9, h10, h11, h12, h13, h14, h15, h16, h17, h19, h20, h26, h28, h29, h31]; exact wB5⟩, by simp only [nS, nL, nC, nW, nF, Wz, h1, h3, h4, h5, h6, h7, h8, h9, h10, h11, h12, h13, h14, h15, h16, h17, h19, h20, h26, h28, h29, h31]; exact wC, by simp only [nS, nL, nC, nW, nF, Wz, h1, h3, h4, h5, h6, h7, h8, h9, h10, h11, h12, h13, h14, h15, h16, h17, h19, h20, h26, h28, h29, h31]; exact wD, by simp only [nS, nL, nC, nW, nF, Wz, h1, h3, h4, h5, h6, h7, h8, h9, h10, h11, h12, h13, h14, h15, h16, h17, h19, h20, h26, h28, h29, h31]; exact wE, by simp only [nS, nL, nC, nW, nF, Wz, h1, h3, h4, h5, h6, h7, h8, h9, h10, h11, h12, h13, h14, h15, h16, h17, h19, h20, h26, h28, h29, h31]; exact wF, ⟨by simp only [nS, nL, nC, nW, nF, Wz, h1, h3, h4, h5, h6, h7, h8, h9, h10, h11, h12, h13, h14, h15, h16, h17, h19, h20, h26, h28, h29, h31]; exact wG1, by simp only [nS, nL, nC, nW, nF, Wz, h1, h3, h4, h5, h6, h7, h8, h9, h10, h11, h12, h13, h14, h15, h16, h17, h19, h20, h26, h28, h29, h31]; exact wG2⟩, by simp only [nS, nL, nC, nW, nF, Wz, h1, h3, h4, h5, h6, h7, h8, h9, h10, h11, h12, h13, h14, h15, h16, h17, h19, h20, h26, h28, h29, h31]; exact wH, by simp only [nS, nL, nC, nW, nF, Wz, h1, h3, h4, h5, h6, h7, h8, h9, h10, h11, h12, h13, h14, h15, h16, h17, h19, h20, h26, h28, h29, h31]; exact wI, by simp only [nS, nL, nC, nW, nF, Wz, h1, h3, h4, h5, h6, h7, h8, h9, h10, h11, h12, h13, h14, h15, h16, h17, h19, h20, h26, h28, h29, h31]; exact wJ, by simp only [nS, nL, nC, nW, nF, Wz, h1, h3, h4, h5, h6, h7, h8, h9, h10, h11, h12, h13, h14, h15, h16, h17, h19, h20, h26, h28, h29, h31]; exact wK, ?_⟩
  · rw [eC]; omega
  · rw [eC, h21]; exact fu_s
  · intro k hk
    rw [eC] at hk
    by_cases e : k = nC R
    · rw [h24, h25, e, fu_s, fu_s]; exact ⟨hm, hn⟩
    · rw [h24, h25, fu_n e, fu_n e]; exact wL k (by omega)
theorem wf_word {R : mR} (hw : WfS R) {f : Nat → Int32} {n : Nat} (hl : n ≤ 40) : WfS (uR (uR (setF R 27 f) 26 0 (nI n)) 28 0 0) := by
  obtain ⟨R1, hR1⟩ : ∃ R1 : mR, R1 = uR (uR (setF R 27 f) 26 0 (nI n)) 28 0 0 := ⟨_, rfl⟩
  rw [← hR1]
  have h0 : R1 0 = R 0 := by rw [hR1]; rfl
  have h1 : R1 1 = R 1 := by rw [hR1]; rfl
  have h2 : R1 2 = R 2 := by rw [hR1]; rfl
  have h3 : R1 3 = R 3 := by rw [hR1]; rfl
  have h4 : R1 4 = R 4 := by rw [hR1]; rfl
  have h5 : R1 5 = R 5 := by rw [hR1]; rfl
  have h6 : R1 6 = R 6 := by rw [hR1]; rfl
  have h7 : R1 7 = R 7 := by rw [hR1]; rfl
  have h8 : R1 8 = R 8 := by rw [hR1]; rfl
  have h9 : R1 9 = R 9 := by rw [hR1]; rfl
  have h10 : R1 10 = R 10 := by rw [hR1]; rfl
  have h11 : R1 11 = R 11 := by rw [hR1]; rfl
  have h12 : R1 12 = R 12 := by rw [hR1]; rfl
  have h13 : R1 13 = R 13 := by rw [hR1]; rfl
  have h14 : R1 14 = R 14 := by rw [hR1]; rfl
  have h15 : R1 15 = R 15 := by rw [hR1]; rfl
  have h16 : R1 16 = R 16 := by rw [hR1]; rfl
  have h17 : R1 17 = R 17 := by rw [hR1]; rfl
  have h18 : R1 18 = R 18 := by rw [hR1]; rfl
  have h19 : R1 19 = R 19 := by rw [hR1]; rfl
  have h20 : R1 20 = R 20 := by rw [hR1]; rfl
  have h21 : R1 21 = R 21 := by rw [hR1]; rfl
  have h22 : R1 22 = R 22 := by rw [hR1]; rfl
  have h23 : R1 23 = R 23 := by rw [hR1]; rfl
  have h24 : R1 24 = R 24 := by rw [hR1]; rfl
  have h25 : R1 25 = R 25 := by rw [hR1]; rfl
  have h29 : R1 29 = R 29 := by rw [hR1]; rfl
  have h30 : R1 30 = R 30 := by rw [hR1]; rfl
  have h31 : R1 31 = R 31 := by rw [hR1]; rfl
  have h32 : R1 32 = R 32 := by rw [hR1]; rfl
  have h33 : R1 33 = R 33 := by rw [hR1]; rfl
  have h34 : R1 34 = R 34 := by rw [hR1]; rfl
  have h27 : R1 27 = f := by rw [hR1]; rfl
  have h26 : R1 26 = fu (R 26) 0 (nI n) := by rw [hR1]; rfl
  have h28 : R1 28 = fu (R 28) 0 0 := by rw [hR1]; rfl
  clear hR1
  obtain ⟨⟨⟨wA1a, wA1b, wA1c, wA1d, wA1e⟩, wA2⟩, ⟨wB1, wB2, wB3, wB4, wB5⟩, wC, wD, wE, wF, ⟨wG1, wG2⟩, wH, wI, wJ, wK, wL⟩ := hw
  have eW : nW R1 = n := by
    simp only [nW, h26, fu_s]; exact tn_nI (by omega)
  have eF : nF R1 = 0 := by simp only [nF, h28]; rfl
  refine ⟨⟨⟨by simp only [nS, nL, nC, nW, nF, Wz, h1, h3, h4, h5, h6, h7, h8, h9, h10, h11, h12, h13, h14, h15, h16, h17, h19, h20, h21, h24, h25, h29, h31]; exact wA1a, by simp only [nS, nL, nC, nW, nF, Wz, h1, h3, h4, h5, h6, h7, h8, h9, h10, h11, h12, h13, h14, h15, h16, h17, h19, h20, h21, h24, h25, h29, h31]; exact wA1b, by simp only [nS, nL, nC, nW, nF, Wz, h1, h3, h4, h5, h6, h7, h8, h9, h10, h11, h12, h13, h14, h15, h16, h17, h19, h20, h21, h24, h25, h29, h31]; exact wA1c, ?_, ?_⟩, by simp only [nS, nL, nC, nW, nF, Wz, h1, h3, h4, h5, h6, h7, h8, h9, h10, h11, h12, h13, h14, h15, h16, h17, h19, h20, h21, h24, h25, h29, h31]; exact wA2⟩, ⟨by simp only [nS, nL, nC, nW, nF, Wz, h1, h3, h4, h5, h6, h7, h8, h9, h10, h11, h12, h13, h14, h15, h16, h17, h19, h20, h21, h24, h25, h29, h31]; exact wB1, by simp only [nS, nL, nC, nW, nF, Wz, h1, h3, h4, h5, h6, h7, h8, h9, h10, h11, h12, h13, h14, h15, h16, h17, h19, h20, h21, h24, h25, h29, h31]; exact wB2, by simp only [nS, nL, nC, nW, nF, Wz, h1, h3, h4, h5, h6, h7, h8, h9, h10, h11, h12, h13, h14, h15, h16, h17, h19, h20, h21, h24, h25, h29, h31]; exact wB3, ?_, ?_⟩, by simp only [nS, nL, nC, nW, nF, Wz, h1, h3, h4, h5, h6, h7, h8, h9, h10, h11, h12, h13, h14, h15, h16, h17, h19, h20, h21, h24, h25, h29, h31]; exact wC, by simp only [nS, nL, nC, nW, nF, Wz, h1, h3, h4, h5, h6, h7, h8, h9, h10, h11, h12, h13, h14, h15, h16, h17, h19, h20, h21, h24, h25, h29, h31]; exact wD, by simp only [nS, nL, nC, nW, nF, Wz, h1, h3, h4, h5, h6, h7, h8, h9, h10, h11, h12, h13, h14, h15, h16, h17, h19, h20, h21, h24, h25, h29, h31]; exact wE, by simp only [nS, nL, nC, nW, nF, Wz, h1, h3, h4, h5, h6, h7, h8, h9, h10, h11, h12, h13, h14, h15, h16, h17, h19, h20, h21, h24, h25, h29, h31]; exact wF, ⟨by simp only [nS, nL, nC, nW, nF, Wz, h1, h3, h4, h5, h6, h7, h8, h9, h10, h11, h12, h13, h14, h15, h16, h17, h19, h20, h21, h24, h25, h29, h31]; exact wG1, by simp only [nS, nL, nC, nW, nF, Wz, h1, h3, h4, h5, h6, h7, h8, h9, h10, h11, h12, h13, h14, h15, h16, h17, h19, h20, h21, h24, h25, h29, h31]; exact wG2⟩, by simp only [nS, nL, nC, nW, nF, Wz, h1, h3, h4, h5, h6, h7, h8, h9, h10, h11, h12, h13, h14, h15, h16, h17, h19, h20, h21, h24, h25, h29, h31]; exact wH, by simp only [nS, nL, nC, nW, nF, Wz, h1, h3, h4, h5, h6, h7, h8, h9, h10, h11, h12, h13, h14, h15, h16, h17, h19, h20, h21, h24, h25, h29, h31]; exact wI, ?_, by simp only [nS, nL, nC, nW, nF, Wz, h1, h3, h4, h5, h6, h7, h8, h9, h10, h11, h12, h13, h14, h15, h16, h17, h19, h20, h21, h24, h25, h29, h31]; exact wK, by simp only [nS, nL, nC, nW, nF, Wz, h1, h3, h4, h5, h6, h7, h8, h9, h10, h11, h12, h13, h14, h15, h16, h17, h19, h20, h21, h24, h25, h29, h31]; exact wL⟩
  · rw [eW]; exact hl
  · rw [eF]; decide
  · rw [eW, h26]; exact fu_s
  · rw [eF, h28]; rfl
  · intro i hi; rw [eF] at hi; omega
theorem wf_find {R : mR} (hw : WfS R) {k : Nat} (hk : k ≤ 10) : WfS (fdR R k) := by
  obtain ⟨R1, hR1⟩ : ∃ R1 : mR, R1 = fdR R k := ⟨_, rfl⟩
  have hp := psq_lt hw k
  rw [← hR1]
  have h0 : R1 0 = R 0 := by rw [hR1]; exact fdR_o R k (by decide)
  have h1 : R1 1 = R 1 := by rw [hR1]; exact fdR_o R k (by decide)
  have h2 : R1 2 = R 2 := by rw [hR1]; exact fdR_o R k (by decide)
  have h3 : R1 3 = R 3 := by rw [hR1]; exact fdR_o R k (by decide)
  have h4 : R1 4 = R 4 := by rw [hR1]; exact fdR_o R k (by decide)
  have h5 : R1 5 = R 5 := by rw [hR1]; exact fdR_o R k (by decide)
  have h6 : R1 6 = R 6 := by rw [hR1]; exact fdR_o R k (by decide)
  have h7 : R1 7 = R 7 := by rw [hR1]; exact fdR_o R k (by decide)
  have h8 : R1 8 = R 8 := by rw [hR1]; exact fdR_o R k (by decide)
  have h9 : R1 9 = R 9 := by rw [hR1]; exact fdR_o R k (by decide)
  have h10 : R1 10 = R 10 := by rw [hR1]; exact fdR_o R k (by decide)
  have h11 : R1 11 = R 11 := by rw [hR1]; exact fdR_o R k (by decide)
  have h12 : R1 12 = R 12 := by rw [hR1]; exact fdR_o R k (by decide)
  have h13 : R1 13 = R 13 := by rw [hR1]; exact fdR_o R k (by decide)
  have h14 : R1 14 = R 14 := by rw [hR1]; exact fdR_o R k (by decide)
  have h15 : R1 15 = R 15 := by rw [hR1]; exact fdR_o R k (by decide)
  have h16 : R1 16 = R 16 := by rw [hR1]; exact fdR_o R k (by decide)
  have h17 : R1 17 = R 17 := by rw [hR1]; exact fdR_o R k (by decide)
  have h18 : R1 18 = R 18 := by rw [hR1]; exact fdR_o R k (by decide)
  have h19 : R1 19 = R 19 := by rw [hR1]; exact fdR_o R k (by decide)
  have h20 : R1 20 = R 20 := by rw [hR1]; exact fdR_o R k (by decide)
  have h21 : R1 21 = R 21 := by rw [hR1]; exact fdR_o R k (by decide)
  have h22 : R1 22 = R 22 := by rw [hR1]; exact fdR_o R k (by decide)
  have h23 : R1 23 = R 23 := by rw [hR1]; exact fdR_o R k (by decide)
  have h24 : R1 24 = R 24 := by rw [hR1]; exact fdR_o R k (by decide)
  have h25 : R1 25 = R 25 := by rw [hR1]; exact fdR_o R k (by decide)
  have h26 : R1 26 = R 26 := by rw [hR1]; exact fdR_o R k (by decide)
  have h27 : R1 27 = R 27 := by rw [hR1]; exact fdR_o R k (by decide)
  have h32 : R1 32 = R 32 := by rw [hR1]; exact fdR_o R k (by decide)
  have h33 : R1 33 = R 33 := by rw [hR1]; exact fdR_o R k (by decide)
  have h34 : R1 34 = R 34 := by rw [hR1]; exact fdR_o R k (by decide)
  have h28 : R1 28 0 = nI (min k (nS R + nL R)) := by rw [hR1]; rfl
  have h31 : R1 31 0 = hsM (R 27) (nW R) := by rw [hR1]; rfl
  have h29 : ∀ t, t < min k (nS R + nL R) → R1 29 t = nI (psq (apF R) (nS R + nL R) t) := fun t ht => by rw [hR1, fdR_29]; exact if_pos ht
  clear hR1
  obtain ⟨⟨⟨wA1a, wA1b, wA1c, wA1d, wA1e⟩, wA2⟩, ⟨wB1, wB2, wB3, wB4, wB5⟩, wC, wD, wE, wF, ⟨wG1, wG2⟩, wH, wI, wJ, wK, wL⟩ := hw
  have eF : nF R1 = min k (nS R + nL R) := by rw [nF, h28]; exact tn_nI (by omega)
  have eS : nS R1 = nS R := by simp only [nS, h1]
  have eL : nL R1 = nL R := by simp only [nL, h16]
  refine ⟨⟨⟨by simp only [nS, nL, nC, nW, nF, Wz, h1, h3, h4, h5, h6, h7, h8, h9, h10, h11, h12, h13, h14, h15, h16, h17, h19, h20, h21, h24, h25, h26]; exact wA1a, by simp only [nS, nL, nC, nW, nF, Wz, h1, h3, h4, h5, h6, h7, h8, h9, h10, h11, h12, h13, h14, h15, h16, h17, h19, h20, h21, h24, h25, h26]; exact wA1b, by simp only [nS, nL, nC, nW, nF, Wz, h1, h3, h4, h5, h6, h7, h8, h9, h10, h11, h12, h13, h14, h15, h16, h17, h19, h20, h21, h24, h25, h26]; exact wA1c, by simp only [nS, nL, nC, nW, nF, Wz, h1, h3, h4, h5, h6, h7, h8, h9, h10, h11, h12, h13, h14, h15, h16, h17, h19, h20, h21, h24, h25, h26]; exact wA1d, by rw [eF]; omega⟩, by simp only [nS, nL, nC, nW, nF, Wz, h1, h3, h4, h5, h6, h7, h8, h9, h10, h11, h12, h13, h14, h15, h16, h17, h19, h20, h21, h24, h25, h26]; exact wA2⟩, ⟨by simp only [nS, nL, nC, nW, nF, Wz, h1, h3, h4, h5, h6, h7, h8, h9, h10, h11, h12, h13, h14, h15, h16, h17, h19, h20, h21, h24, h25, h26]; exact wB1, by simp only [nS, nL, nC, nW, nF, Wz, h1, h3, h4, h5, h6, h7, h8, h9, h10, h11, h12, h13, h14, h15, h16, h17, h19, h20, h21, h24, h25, h26]; exact wB2, by simp only [nS, nL, nC, nW, nF, Wz, h1, h3, h4, h5, h6, h7, h8, h9, h10, h11, h12, h13, h14, h15, h16, h17, h19, h20, h21, h24, h25, h26]; exact wB3, by simp only [nS, nL, nC, nW, nF, Wz, h1, h3, h4, h5, h6, h7, h8, h9, h10, h11, h12, h13, h14, h15, h16, h17, h19, h20, h21, h24, h25, h26]; exact wB4, by rw [eF, h28]⟩, by simp only [nS, nL, nC, nW, nF, Wz, h1, h3, h4, h5, h6, h7, h8, h9, h10, h11, h12, h13, h14, h15, h16, h17, h19, h20, h21, h24, h25, h26]; exact wC, by simp only [nS, nL, nC, nW, nF, Wz, h1, h3, h4, h5, h6, h7, h8, h9, h10, h11, h12, h13, h14, h15, h16, h17, h19, h20, h21, h24, h25, h26]; exact wD, by simp only [nS, nL, nC, nW, nF, Wz, h1, h3, h4, h5, h6, h7, h8, h9, h10, h11, h12, h13, h14, h15, h16, h17, h19, h20, h21, h24, h25, h26]; exact wE, by simp only [nS, nL, nC, nW, nF, Wz, h1, h3, h4, h5, h6, h7, h8, h9, h10, h11, h12, h13, h14, h15, h16, h17, h19, h20, h21, h24, h25, h26]; exact wF, ⟨by simp only [nS, nL, nC, nW, nF, Wz, h1, h3, h4, h5, h6, h7, h8, h9, h10, h11, h12, h13, h14, h15, h16, h17, h19, h20, h21, h24, h25, h26]; exact wG1, by simp only [nS, nL, nC, nW, nF, Wz, h1, h3, h4, h5, h6, h7, h8, h9, h10, h11, h12, h13, h14, h15, h16, h17, h19, h20, h21, h24, h25, h26]; exact wG2⟩, by simp only [nS, nL, nC, nW, nF, Wz, h1, h3, h4, h5, h6, h7, h8, h9, h10, h11, h12, h13, h14, h15, h16, h17, h19, h20, h21, h24, h25, h26]; exact wH, by simp only [nS, nL, nC, nW, nF, Wz, h1, h3, h4, h5, h6, h7, h8, h9, h10, h11, h12, h13, h14, h15, h16, h17, h19, h20, h21, h24, h25, h26]; exact wI, ?_, by rw [h31]; exact hsM_in _ _, by simp only [nS, nL, nC, nW, nF, Wz, h1, h3, h4, h5, h6, h7, h8, h9, h10, h11, h12, h13, h14, h15, h16, h17, h19, h20, h21, h24, h25, h26]; exact wL⟩
  intro i hi
  rw [eF] at hi
  have := hp i hi
  rw [eS, eL, h29 i hi, tn_nI (by omega)]
  exact ⟨rfl, this⟩
