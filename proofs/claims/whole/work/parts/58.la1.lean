/-! ===== the law's own helpers ===== -/
theorem gbN_1 {p q r s : Bool} (h : gbN p q r s = 1) : p = false := by cases p <;> cases q <;> cases r <;> cases s <;> first | rfl | exact absurd h (by decide)
theorem gbN_2 {p q r s : Bool} (h : gbN p q r s = 2) : q = false := by cases p <;> cases q <;> cases r <;> cases s <;> first | rfl | exact absurd h (by decide)
theorem gbN_3 {p q r s : Bool} (h : gbN p q r s = 3) : r = false := by cases p <;> cases q <;> cases r <;> cases s <;> first | rfl | exact absurd h (by decide)
theorem gbN_4 {p q r s : Bool} (h : gbN p q r s = 4) : s = false := by cases p <;> cases q <;> cases r <;> cases s <;> first | rfl | exact absurd h (by decide)
theorem inn_lo {x a : Int32} (h : inn x 0 a = true) : 0 ≤ x := by
  simp only [inn, Bool.and_eq_true, decide_eq_true_eq] at h; exact h.1
theorem wd_le {n : Int32} {w : Nat} (h : w + tn n ≤ 40) : (if tn n = 0 then 0 else w + tn n) ≤ 40 := by split <;> omega
theorem in10 {k : Int32} (h : inn k 1 10 = true) : tn k ≤ 10 := by
  obtain ⟨a, rfl, _, h2⟩ := inn_nat (b := 1) (c := 10) (by decide) (by decide) h
  rw [tn_nI (by omega)]; exact h2

theorem th_1_1 : thN 1 1 = 1 := by decide
theorem th_2_2 : thN 2 2 = 1 := by decide
theorem th_3_1 : thN 3 1 = 1 := by decide
theorem th_3_2 : thN 3 2 = 2 := by decide
theorem th_6_2 : thN 6 2 = 1 := by decide
theorem th_6_3 : thN 6 3 = 2 := by decide
theorem th_10_2 : thN 10 2 = 1 := by decide
theorem th_10_4 : thN 10 4 = 2 := by decide
theorem th_11_1 : thN 11 1 = 1 := by decide
theorem th_11_2 : thN 11 2 = 2 := by decide
theorem th_11_4 : thN 11 4 = 3 := by decide
theorem th_13_1 : thN 13 1 = 1 := by decide
theorem th_13_3 : thN 13 3 = 2 := by decide
theorem th_13_4 : thN 13 4 = 3 := by decide
theorem th_15_1 : thN 15 1 = 1 := by decide
theorem th_15_2 : thN 15 2 = 2 := by decide
theorem th_15_3 : thN 15 3 = 3 := by decide
theorem th_15_4 : thN 15 4 = 4 := by decide

theorem foot_lv {R R' : mR} {ad : mAd} (h : ∀ k i j, lv R' k i j → lv R k i j) {q : Nat} (hq : foot R' ad q) : foot R ad q := by
  obtain ⟨k, i, j, hv, ha⟩ := hq
  exact ⟨k, i, j, h k i j hv, ha⟩

set_option maxHeartbeats 4000000 in
set_option maxRecDepth 100000 in
theorem ct_La_street (l : Launch) (D : ma_D) (s0 : State) (R : mR) (ad : mAd) (o : Nat) (ov : Int64) (p0 : Int32) (M : ma_H) (hR : RepC R ad M) (hwf : WfS R) (ho : M o = some (.inr (.long, [.long ov]))) (hof : ¬ foot R ad o) : Cw l D s0 y_La_street c_La_street 4 (some .int) [(0, 9, 12, 13), (0, 9, 15, 15)] 7 9 74 103 [.ref (ad 0 0 0), .int p0, .ref o] M (fun q => foot R ad q ∨ q = o) (fun v M' => ((gbN (true) (inn p0 0 9) (true) (decide (nS R < 30))) = 0 ∧ v = some (.int 0) ∧ M' o = some (.inr (.long, [.long (nI (nS R)).toInt64])) ∧ ∃ ad1 : mAd, ad1 0 0 0 = ad 0 0 0 ∧ RepC (uR (uR (uR (uR (uR R 2 (nS R) p0) 4 (nS R) 1) 5 (3 * nS R) 0) 1 0 (nI (nS R + 1))) 28 0 0) ad1 M' ∧ ∀ q, foot (uR (uR (uR (uR (uR R 2 (nS R) p0) 4 (nS R) 1) 5 (3 * nS R) 0) 1 0 (nI (nS R + 1))) 28 0 0) ad1 q → foot R ad q ∨ M q = none) ∨ (¬ (gbN (true) (inn p0 0 9) (true) (decide (nS R < 30))) = 0 ∧ 0 < thN 10 (gbN (true) (inn p0 0 9) (true) (decide (nS R < 30))) ∧ v = some (.int (nI (thN 10 (gbN (true) (inn p0 0 9) (true) (decide (nS R < 30)))))) ∧ M' o = some (.inr (.long, [.long ov])) ∧ RepC R ad M')) := by
  refine Cw_i 1 [some (.ref (ad 0 0 0)), some (.int p0), some (.ref o), none] mh_La_72.2.2.1 (by decide +kernel) (Nat.le_of_ble_eq_true rfl) rfl ?_
  intro G e1 e2 e3 C hT hw Rt
  subst e1; subst e2; subst e3
  refine m_aload_n C d_La_street_0 rfl rfl ?_
  refine m_iconst (v := 0) C d_La_street_1 (by decide) ?_
  refine m_aload_n C d_La_street_2 rfl rfl ?_
  refine m_iload_n C d_La_street_3 rfl rfl ?_
  refine m_callVX (ci := 0) C d_La_street_4 ml_La_7 mw_La_7 mi_AW_street se_AW_street rfl (ct_AW_street _ _ _ R ad p0 M hR hwf.1 hwf.2.2.2.2.2.1) (fun q h => hw q (Or.inl h)) rfl rfl (Nat.le_of_ble_eq_true rfl) hR.root (by decide) (fun v9 M9 hp h5 h6 => ?_) (fun E9 M9 hp h5 h6 => ?_)
  · obtain ⟨hc0, rfl, ad9, ha9, hR9, hf9⟩ := hp
    show mj G 4 9 74 M9 7 [some (.ref (ad 0 0 0)), some (.int p0), some (.ref o), none] [.int (nI (nS R)), .int 0, .ref o]
    refine m_i2l C d_La_street_7 ?_
    have hMo : M9 o = some (.inr (.long, [.long ov])) := (h5 o (by rw [ho]; simp) hof).trans ho
    refine m_lastE C d_La_street_8 (hw _ (Or.inr rfl)) hMo kt_long (by decide) (show 0 < 1 by decide) (fun M1 M1a M1o => ?_)
    refine m_goto (tgt := 18) C d_La_street_9 (by decide) ?_
    refine m_iconst (v := 0) C d_La_street_18 (by decide) ?_
    have nof : ∀ q, foot (uR (uR (uR (uR (uR R 2 (nS R) p0) 4 (nS R) 1) 5 (3 * nS R) 0) 1 0 (nI (nS R + 1))) 28 0 0) ad9 q → q ≠ o := fun q hq z => (hf9 q hq).elim (fun y => hof (by rw [← z]; exact y)) (fun y => by rw [z, ho] at y; cases y)
    exact Rt _ _ _ _ _ _ (by decide) (by decide) d_La_street_19 (Or.inl ⟨(gq_street (R := R) (ar := p0)).n hc0, rfl, M1a, ad9, ha9, hR9.keep (fun q hq => M1o q (nof q hq)), hf9⟩)
  · obtain ⟨hx9, hR9⟩ := hp
    have hMo : M9 o = some (.inr (.long, [.long ov])) := (h5 o (by rw [ho]; simp) hof).trans ho
    rcases (gq_street (R := R) (ar := p0)).x hx9 with ⟨hE, hg⟩ | ⟨hE, hg⟩ | ⟨hE, hg⟩ | ⟨hE, hg⟩
    · exact absurd (gbN_1 hg) (by decide)
    · subst hE
      refine mX_c C hT [] [(0, 9, 15, 15)] (0, 9, 12, 13) rfl (fun z hz => by cases hz) (by decide) (by decide) cl_La_13 ca_IO (fun q9 => ?_)
      show mj G 4 9 74 M9 12 [some (.ref (ad 0 0 0)), some (.int p0), some (.ref o), none] [.ref q9]
      refine m_astore_n (L' := [some (.ref (ad 0 0 0)), some (.int p0), some (.ref o), some (.ref q9)]) C d_La_street_12 rfl (by decide) rfl ?_
      refine m_iconst (v := 1) C d_La_street_13 (by decide) ?_
      exact Rt _ _ _ _ _ _ (by decide) (by decide) d_La_street_14 (Or.inr ⟨by rw [hg]; decide, by rw [hg, th_10_2]; decide, by rw [hg, th_10_2]; rfl, hMo, hR9⟩)
    · exact absurd (gbN_3 hg) (by decide)
    · subst hE
      refine mX_c C hT [(0, 9, 12, 13)] [] (0, 9, 15, 15) rfl (fun z hz => by simp only [List.mem_cons, List.not_mem_nil, or_false] at hz; rcases hz with rfl <;> first | exact ⟨by decide, _, cl_La_13, by simp [knc]⟩) (by decide) (by decide) cl_La_15 ca_UO (fun q9 => ?_)
      show mj G 4 9 74 M9 15 [some (.ref (ad 0 0 0)), some (.int p0), some (.ref o), none] [.ref q9]
      refine m_astore_n (L' := [some (.ref (ad 0 0 0)), some (.int p0), some (.ref o), some (.ref q9)]) C d_La_street_15 rfl (by decide) rfl ?_
      refine m_iconst (v := 2) C d_La_street_16 (by decide) ?_
      exact Rt _ _ _ _ _ _ (by decide) (by decide) d_La_street_17 (Or.inr ⟨by rw [hg]; decide, by rw [hg, th_10_4]; decide, by rw [hg, th_10_4]; rfl, hMo, hR9⟩)

set_option maxHeartbeats 4000000 in
set_option maxRecDepth 100000 in
theorem ct_La_sign (l : Launch) (D : ma_D) (s0 : State) (R : mR) (ad : mAd) (o : Nat) (ov : Int64) (p0 : Int32) (p1 : Int64) (p2 : Int32) (M : ma_H) (hR : RepC R ad M) (hwf : WfS R) (ho : M o = some (.inr (.long, [.long ov]))) (hof : ¬ foot R ad o) : Cw l D s0 y_La_sign c_La_sign 7 (some .int) [(0, 13, 16, 21), (0, 13, 20, 13), (0, 13, 24, 15)] 8 3 18 130 [.ref (ad 0 0 0), .int p0, .long p1, .int p2, .ref o] M (fun q => foot R ad q ∨ q = o) (fun v M' => ((gbN (kn R p0) ((inn p2 1 8 && decide (∀ i, i < tn p2 → is_l (sgn p1 (tn p2) i) = true))) (true) (decide (R 5 (if kn R p0 = true then 3 * tn p0 + (tn (R 4 (tn p0)) - 1) else 0) + p2 ≤ 16))) = 0 ∧ v = some (.int 0) ∧ M' o = some (.inr (.long, [.long (nI (tn (R 5 (3 * tn p0 + (tn (R 4 (tn p0)) - 1))) + tn p2)).toInt64])) ∧ ∃ ad1 : mAd, ad1 0 0 0 = ad 0 0 0 ∧ RepC (uR (uR (setF R 6 (fa (R 6) (16 * (3 * tn p0 + (tn (R 4 (tn p0)) - 1)) + tn (R 5 (3 * tn p0 + (tn (R 4 (tn p0)) - 1)))) p1 (tn p2) (tn p2))) 5 (3 * tn p0 + (tn (R 4 (tn p0)) - 1)) (nI (tn (R 5 (3 * tn p0 + (tn (R 4 (tn p0)) - 1))) + tn p2))) 28 0 0) ad1 M' ∧ ∀ q, foot (uR (uR (setF R 6 (fa (R 6) (16 * (3 * tn p0 + (tn (R 4 (tn p0)) - 1)) + tn (R 5 (3 * tn p0 + (tn (R 4 (tn p0)) - 1)))) p1 (tn p2) (tn p2))) 5 (3 * tn p0 + (tn (R 4 (tn p0)) - 1)) (nI (tn (R 5 (3 * tn p0 + (tn (R 4 (tn p0)) - 1))) + tn p2))) 28 0 0) ad1 q → foot R ad q ∨ M q = none) ∨ (¬ (gbN (kn R p0) ((inn p2 1 8 && decide (∀ i, i < tn p2 → is_l (sgn p1 (tn p2) i) = true))) (true) (decide (R 5 (if kn R p0 = true then 3 * tn p0 + (tn (R 4 (tn p0)) - 1) else 0) + p2 ≤ 16))) = 0 ∧ 0 < thN 11 (gbN (kn R p0) ((inn p2 1 8 && decide (∀ i, i < tn p2 → is_l (sgn p1 (tn p2) i) = true))) (true) (decide (R 5 (if kn R p0 = true then 3 * tn p0 + (tn (R 4 (tn p0)) - 1) else 0) + p2 ≤ 16))) ∧ v = some (.int (nI (thN 11 (gbN (kn R p0) ((inn p2 1 8 && decide (∀ i, i < tn p2 → is_l (sgn p1 (tn p2) i) = true))) (true) (decide (R 5 (if kn R p0 = true then 3 * tn p0 + (tn (R 4 (tn p0)) - 1) else 0) + p2 ≤ 16)))))) ∧ M' o = some (.inr (.long, [.long ov])) ∧ RepC R ad M')) := by
  refine Cw_i 1 [some (.ref (ad 0 0 0)), some (.int p0), some (.long p1), none, some (.int p2), some (.ref o), none] mh_La_84.2.2.1 (by decide +kernel) (Nat.le_of_ble_eq_true rfl) rfl ?_
  intro G e1 e2 e3 C hT hw Rt
  subst e1; subst e2; subst e3
  refine m_aload C d_La_sign_0 rfl ?_
  refine m_iconst (v := 0) C d_La_sign_2 (by decide) ?_
  refine m_aload_n C d_La_sign_3 rfl rfl ?_
  refine m_iload_n C d_La_sign_4 rfl rfl ?_
  refine m_lload_n C d_La_sign_5 rfl rfl ?_
  refine m_iload C d_La_sign_6 rfl ?_
  refine m_callVX (ci := 0) C d_La_sign_8 ml_La_17 mw_La_17 mi_AW_sign se_AW_sign rfl (ct_AW_sign _ _ _ R ad p0 p1 p2 M hR hwf.1) (fun q h => hw q (Or.inl h)) rfl rfl (Nat.le_of_ble_eq_true rfl) hR.root (by decide) (fun v9 M9 hp h5 h6 => ?_) (fun E9 M9 hp h5 h6 => ?_)
  · obtain ⟨hc0, rfl, hR9⟩ := hp; obtain ⟨ad9, ha9, hR9, hf9⟩ : ∃ ad1 : mAd, ad1 0 0 0 = ad 0 0 0 ∧ RepC (uR (uR (setF R 6 (fa (R 6) (16 * (3 * tn p0 + (tn (R 4 (tn p0)) - 1)) + tn (R 5 (3 * tn p0 + (tn (R 4 (tn p0)) - 1)))) p1 (tn p2) (tn p2))) 5 (3 * tn p0 + (tn (R 4 (tn p0)) - 1)) (nI (tn (R 5 (3 * tn p0 + (tn (R 4 (tn p0)) - 1))) + tn p2))) 28 0 0) ad1 M9 ∧ ∀ q, foot (uR (uR (setF R 6 (fa (R 6) (16 * (3 * tn p0 + (tn (R 4 (tn p0)) - 1)) + tn (R 5 (3 * tn p0 + (tn (R 4 (tn p0)) - 1)))) p1 (tn p2) (tn p2))) 5 (3 * tn p0 + (tn (R 4 (tn p0)) - 1)) (nI (tn (R 5 (3 * tn p0 + (tn (R 4 (tn p0)) - 1))) + tn p2))) 28 0 0) ad1 q → foot R ad q ∨ M q = none := ⟨ad, rfl, hR9, fun q hq => Or.inl (foot_lv (fun k i j z => lv_cg (by first | rfl | exact fdR_o R _ (by decide)) (by first | rfl | exact fdR_o R _ (by decide)) (by first | rfl | exact fdR_o R _ (by decide)) (by first | rfl | exact fdR_o R _ (by decide)) z) hq)⟩
    show mj G 7 3 18 M9 11 [some (.ref (ad 0 0 0)), some (.int p0), some (.long p1), none, some (.int p2), some (.ref o), none] [.int (nI (tn (R 5 (3 * tn p0 + (tn (R 4 (tn p0)) - 1))) + tn p2)), .int 0, .ref o]
    refine m_i2l C d_La_sign_11 ?_
    have hMo : M9 o = some (.inr (.long, [.long ov])) := (h5 o (by rw [ho]; simp) hof).trans ho
    refine m_lastE C d_La_sign_12 (hw _ (Or.inr rfl)) hMo kt_long (by decide) (show 0 < 1 by decide) (fun M1 M1a M1o => ?_)
    refine m_goto (tgt := 28) C d_La_sign_13 (by decide) ?_
    refine m_iconst (v := 0) C d_La_sign_28 (by decide) ?_
    have nof : ∀ q, foot (uR (uR (setF R 6 (fa (R 6) (16 * (3 * tn p0 + (tn (R 4 (tn p0)) - 1)) + tn (R 5 (3 * tn p0 + (tn (R 4 (tn p0)) - 1)))) p1 (tn p2) (tn p2))) 5 (3 * tn p0 + (tn (R 4 (tn p0)) - 1)) (nI (tn (R 5 (3 * tn p0 + (tn (R 4 (tn p0)) - 1))) + tn p2))) 28 0 0) ad9 q → q ≠ o := fun q hq z => (hf9 q hq).elim (fun y => hof (by rw [← z]; exact y)) (fun y => by rw [z, ho] at y; cases y)
    exact Rt _ _ _ _ _ _ (by decide) (by decide) d_La_sign_29 (Or.inl ⟨(gq_sign hwf (s := p0) (p := p1) (n := p2)).n hc0, rfl, M1a, ad9, ha9, hR9.keep (fun q hq => M1o q (nof q hq)), hf9⟩)
  · obtain ⟨hx9, hR9⟩ := hp
    have hMo : M9 o = some (.inr (.long, [.long ov])) := (h5 o (by rw [ho]; simp) hof).trans ho
    rcases (gq_sign hwf (s := p0) (p := p1) (n := p2)).x hx9 with ⟨hE, hg⟩ | ⟨hE, hg⟩ | ⟨hE, hg⟩ | ⟨hE, hg⟩
    · subst hE
      refine mX_c C hT [] [(0, 13, 20, 13), (0, 13, 24, 15)] (0, 13, 16, 21) rfl (fun z hz => by cases hz) (by decide) (by decide) cl_La_21 ca_IA (fun q9 => ?_)
      show mj G 7 3 18 M9 16 [some (.ref (ad 0 0 0)), some (.int p0), some (.long p1), none, some (.int p2), some (.ref o), none] [.ref q9]
      refine m_astore (L' := [some (.ref (ad 0 0 0)), some (.int p0), some (.long p1), none, some (.int p2), some (.ref o), some (.ref q9)]) C d_La_sign_16 (by decide) rfl ?_
      refine m_iconst (v := 1) C d_La_sign_18 (by decide) ?_
      exact Rt _ _ _ _ _ _ (by decide) (by decide) d_La_sign_19 (Or.inr ⟨by rw [hg]; decide, by rw [hg, th_11_1]; decide, by rw [hg, th_11_1]; rfl, hMo, hR9⟩)
    · subst hE
      refine mX_c C hT [(0, 13, 16, 21)] [(0, 13, 24, 15)] (0, 13, 20, 13) rfl (fun z hz => by simp only [List.mem_cons, List.not_mem_nil, or_false] at hz; rcases hz with rfl <;> first | exact ⟨by decide, _, cl_La_21, by simp [knc]⟩) (by decide) (by decide) cl_La_13 ca_IO (fun q9 => ?_)
      show mj G 7 3 18 M9 20 [some (.ref (ad 0 0 0)), some (.int p0), some (.long p1), none, some (.int p2), some (.ref o), none] [.ref q9]
      refine m_astore (L' := [some (.ref (ad 0 0 0)), some (.int p0), some (.long p1), none, some (.int p2), some (.ref o), some (.ref q9)]) C d_La_sign_20 (by decide) rfl ?_
      refine m_iconst (v := 2) C d_La_sign_22 (by decide) ?_
      exact Rt _ _ _ _ _ _ (by decide) (by decide) d_La_sign_23 (Or.inr ⟨by rw [hg]; decide, by rw [hg, th_11_2]; decide, by rw [hg, th_11_2]; rfl, hMo, hR9⟩)
    · exact absurd (gbN_3 hg) (by decide)
    · subst hE
      refine mX_c C hT [(0, 13, 16, 21), (0, 13, 20, 13)] [] (0, 13, 24, 15) rfl (fun z hz => by simp only [List.mem_cons, List.not_mem_nil, or_false] at hz; rcases hz with rfl | rfl <;> first | exact ⟨by decide, _, cl_La_21, by simp [knc]⟩ | exact ⟨by decide, _, cl_La_13, by simp [knc]⟩) (by decide) (by decide) cl_La_15 ca_UO (fun q9 => ?_)
      show mj G 7 3 18 M9 24 [some (.ref (ad 0 0 0)), some (.int p0), some (.long p1), none, some (.int p2), some (.ref o), none] [.ref q9]
      refine m_astore (L' := [some (.ref (ad 0 0 0)), some (.int p0), some (.long p1), none, some (.int p2), some (.ref o), some (.ref q9)]) C d_La_sign_24 (by decide) rfl ?_
      refine m_iconst (v := 3) C d_La_sign_26 (by decide) ?_
      exact Rt _ _ _ _ _ _ (by decide) (by decide) d_La_sign_27 (Or.inr ⟨by rw [hg]; decide, by rw [hg, th_11_4]; decide, by rw [hg, th_11_4]; rfl, hMo, hR9⟩)

set_option maxHeartbeats 4000000 in
set_option maxRecDepth 100000 in
theorem ct_La_alias (l : Launch) (D : ma_D) (s0 : State) (R : mR) (ad : mAd) (o : Nat) (ov : Int64) (p0 : Int32) (M : ma_H) (hR : RepC R ad M) (hwf : WfS R) (ho : M o = some (.inr (.long, [.long ov]))) (hof : ¬ foot R ad o) : Cw l D s0 y_La_alias c_La_alias 4 (some .int) [(0, 9, 12, 21), (0, 9, 15, 26), (0, 9, 18, 15)] 8 2 12 125 [.ref (ad 0 0 0), .int p0, .ref o] M (fun q => foot R ad q ∨ q = o) (fun v M' => ((gbN (kn R p0) (true) ((kn R p0 && decide (0 < R 5 (3 * tn p0 + (tn (R 4 (tn p0)) - 1))))) ((kn R p0 && decide (tn (R 4 (tn p0)) < 3)))) = 0 ∧ v = some (.int 0) ∧ M' o = some (.inr (.long, [.long (nI (tn (R 4 (tn p0)) + 1)).toInt64])) ∧ ∃ ad1 : mAd, ad1 0 0 0 = ad 0 0 0 ∧ RepC (uR (uR (uR R 5 (3 * tn p0 + tn (R 4 (tn p0))) 0) 4 (tn p0) (nI (tn (R 4 (tn p0)) + 1))) 28 0 0) ad1 M' ∧ ∀ q, foot (uR (uR (uR R 5 (3 * tn p0 + tn (R 4 (tn p0))) 0) 4 (tn p0) (nI (tn (R 4 (tn p0)) + 1))) 28 0 0) ad1 q → foot R ad q ∨ M q = none) ∨ (¬ (gbN (kn R p0) (true) ((kn R p0 && decide (0 < R 5 (3 * tn p0 + (tn (R 4 (tn p0)) - 1))))) ((kn R p0 && decide (tn (R 4 (tn p0)) < 3)))) = 0 ∧ 0 < thN 13 (gbN (kn R p0) (true) ((kn R p0 && decide (0 < R 5 (3 * tn p0 + (tn (R 4 (tn p0)) - 1))))) ((kn R p0 && decide (tn (R 4 (tn p0)) < 3)))) ∧ v = some (.int (nI (thN 13 (gbN (kn R p0) (true) ((kn R p0 && decide (0 < R 5 (3 * tn p0 + (tn (R 4 (tn p0)) - 1))))) ((kn R p0 && decide (tn (R 4 (tn p0)) < 3))))))) ∧ M' o = some (.inr (.long, [.long ov])) ∧ RepC R ad M')) := by
  refine Cw_i 1 [some (.ref (ad 0 0 0)), some (.int p0), some (.ref o), none] mh_La_88.2.2.1 (by decide +kernel) (Nat.le_of_ble_eq_true rfl) rfl ?_
  intro G e1 e2 e3 C hT hw Rt
  subst e1; subst e2; subst e3
  refine m_aload_n C d_La_alias_0 rfl rfl ?_
  refine m_iconst (v := 0) C d_La_alias_1 (by decide) ?_
  refine m_aload_n C d_La_alias_2 rfl rfl ?_
  refine m_iload_n C d_La_alias_3 rfl rfl ?_
  refine m_callVX (ci := 0) C d_La_alias_4 ml_La_23 mw_La_23 mi_AW_alias se_AW_alias rfl (ct_AW_alias _ _ _ R ad p0 M hR hwf.1 hwf.2.2.2.2.2.1) (fun q h => hw q (Or.inl h)) rfl rfl (Nat.le_of_ble_eq_true rfl) hR.root (by decide) (fun v9 M9 hp h5 h6 => ?_) (fun E9 M9 hp h5 h6 => ?_)
  · obtain ⟨hc0, rfl, hR9⟩ := hp; obtain ⟨ad9, ha9, hR9, hf9⟩ : ∃ ad1 : mAd, ad1 0 0 0 = ad 0 0 0 ∧ RepC (uR (uR (uR R 5 (3 * tn p0 + tn (R 4 (tn p0))) 0) 4 (tn p0) (nI (tn (R 4 (tn p0)) + 1))) 28 0 0) ad1 M9 ∧ ∀ q, foot (uR (uR (uR R 5 (3 * tn p0 + tn (R 4 (tn p0))) 0) 4 (tn p0) (nI (tn (R 4 (tn p0)) + 1))) 28 0 0) ad1 q → foot R ad q ∨ M q = none := ⟨ad, rfl, hR9, fun q hq => Or.inl (foot_lv (fun k i j z => lv_cg (by first | rfl | exact fdR_o R _ (by decide)) (by first | rfl | exact fdR_o R _ (by decide)) (by first | rfl | exact fdR_o R _ (by decide)) (by first | rfl | exact fdR_o R _ (by decide)) z) hq)⟩
    show mj G 4 2 12 M9 7 [some (.ref (ad 0 0 0)), some (.int p0), some (.ref o), none] [.int (nI (tn (R 4 (tn p0)) + 1)), .int 0, .ref o]
    refine m_i2l C d_La_alias_7 ?_
    have hMo : M9 o = some (.inr (.long, [.long ov])) := (h5 o (by rw [ho]; simp) hof).trans ho
    refine m_lastE C d_La_alias_8 (hw _ (Or.inr rfl)) hMo kt_long (by decide) (show 0 < 1 by decide) (fun M1 M1a M1o => ?_)
    refine m_goto (tgt := 21) C d_La_alias_9 (by decide) ?_
    refine m_iconst (v := 0) C d_La_alias_21 (by decide) ?_
    have nof : ∀ q, foot (uR (uR (uR R 5 (3 * tn p0 + tn (R 4 (tn p0))) 0) 4 (tn p0) (nI (tn (R 4 (tn p0)) + 1))) 28 0 0) ad9 q → q ≠ o := fun q hq z => (hf9 q hq).elim (fun y => hof (by rw [← z]; exact y)) (fun y => by rw [z, ho] at y; cases y)
    exact Rt _ _ _ _ _ _ (by decide) (by decide) d_La_alias_22 (Or.inl ⟨(gq_alias hwf (s := p0)).n hc0, rfl, M1a, ad9, ha9, hR9.keep (fun q hq => M1o q (nof q hq)), hf9⟩)
  · obtain ⟨hx9, hR9⟩ := hp
    have hMo : M9 o = some (.inr (.long, [.long ov])) := (h5 o (by rw [ho]; simp) hof).trans ho
    rcases (gq_alias hwf (s := p0)).x hx9 with ⟨hE, hg⟩ | ⟨hE, hg⟩ | ⟨hE, hg⟩ | ⟨hE, hg⟩
    · subst hE
      refine mX_c C hT [] [(0, 9, 15, 26), (0, 9, 18, 15)] (0, 9, 12, 21) rfl (fun z hz => by cases hz) (by decide) (by decide) cl_La_21 ca_IA (fun q9 => ?_)
      show mj G 4 2 12 M9 12 [some (.ref (ad 0 0 0)), some (.int p0), some (.ref o), none] [.ref q9]
      refine m_astore_n (L' := [some (.ref (ad 0 0 0)), some (.int p0), some (.ref o), some (.ref q9)]) C d_La_alias_12 rfl (by decide) rfl ?_
      refine m_iconst (v := 1) C d_La_alias_13 (by decide) ?_
      exact Rt _ _ _ _ _ _ (by decide) (by decide) d_La_alias_14 (Or.inr ⟨by rw [hg]; decide, by rw [hg, th_13_1]; decide, by rw [hg, th_13_1]; rfl, hMo, hR9⟩)
    · exact absurd (gbN_2 hg) (by decide)
    · subst hE
      refine mX_c C hT [(0, 9, 12, 21)] [(0, 9, 18, 15)] (0, 9, 15, 26) rfl (fun z hz => by simp only [List.mem_cons, List.not_mem_nil, or_false] at hz; rcases hz with rfl <;> first | exact ⟨by decide, _, cl_La_21, by simp [knc]⟩) (by decide) (by decide) cl_La_26 ca_IS (fun q9 => ?_)
      show mj G 4 2 12 M9 15 [some (.ref (ad 0 0 0)), some (.int p0), some (.ref o), none] [.ref q9]
      refine m_astore_n (L' := [some (.ref (ad 0 0 0)), some (.int p0), some (.ref o), some (.ref q9)]) C d_La_alias_15 rfl (by decide) rfl ?_
      refine m_iconst (v := 2) C d_La_alias_16 (by decide) ?_
      exact Rt _ _ _ _ _ _ (by decide) (by decide) d_La_alias_17 (Or.inr ⟨by rw [hg]; decide, by rw [hg, th_13_3]; decide, by rw [hg, th_13_3]; rfl, hMo, hR9⟩)
    · subst hE
      refine mX_c C hT [(0, 9, 12, 21), (0, 9, 15, 26)] [] (0, 9, 18, 15) rfl (fun z hz => by simp only [List.mem_cons, List.not_mem_nil, or_false] at hz; rcases hz with rfl | rfl <;> first | exact ⟨by decide, _, cl_La_21, by simp [knc]⟩ | exact ⟨by decide, _, cl_La_26, by simp [knc]⟩) (by decide) (by decide) cl_La_15 ca_UO (fun q9 => ?_)
      show mj G 4 2 12 M9 18 [some (.ref (ad 0 0 0)), some (.int p0), some (.ref o), none] [.ref q9]
      refine m_astore_n (L' := [some (.ref (ad 0 0 0)), some (.int p0), some (.ref o), some (.ref q9)]) C d_La_alias_18 rfl (by decide) rfl ?_
      refine m_iconst (v := 3) C d_La_alias_19 (by decide) ?_
      exact Rt _ _ _ _ _ _ (by decide) (by decide) d_La_alias_20 (Or.inr ⟨by rw [hg]; decide, by rw [hg, th_13_4]; decide, by rw [hg, th_13_4]; rfl, hMo, hR9⟩)

set_option maxHeartbeats 4000000 in
set_option maxRecDepth 100000 in
theorem ct_La_range (l : Launch) (D : ma_D) (s0 : State) (R : mR) (ad : mAd) (o : Nat) (ov : Int64) (p0 : Int32) (p1 : Int32) (p2 : Int32) (p3 : Int32) (M : ma_H) (hR : RepC R ad M) (hwf : WfS R) (ho : M o = some (.inr (.long, [.long ov]))) (hof : ¬ foot R ad o) : Cw l D s0 y_La_range c_La_range 7 (some .int) [(0, 14, 17, 21), (0, 14, 21, 13), (0, 14, 25, 15)] 9 5 33 149 [.ref (ad 0 0 0), .int p0, .int p1, .int p2, .int p3, .ref o] M (fun q => foot R ad q ∨ q = o) (fun v M' => ((gbN (kn R p0) ((inn p1 0 2 && inn p2 1 9999 && inn p3 p2 9999 && (iOf p1 p2 || decide (p2 < p3)))) (true) ((kn R p0 && decide (tn (R 7 (tn p0)) < 6)))) = 0 ∧ v = some (.int 0) ∧ M' o = some (.inr (.long, [.long (nI (tn (R 7 (tn p0)) + 1)).toInt64])) ∧ ∃ ad1 : mAd, ad1 0 0 0 = ad 0 0 0 ∧ RepC (uR (uR (uR (uR (uR R 8 (6 * tn p0 + tn (R 7 (tn p0))) p1) 9 (6 * tn p0 + tn (R 7 (tn p0))) p2) 10 (6 * tn p0 + tn (R 7 (tn p0))) p3) 7 (tn p0) (nI (tn (R 7 (tn p0)) + 1))) 28 0 0) ad1 M' ∧ ∀ q, foot (uR (uR (uR (uR (uR R 8 (6 * tn p0 + tn (R 7 (tn p0))) p1) 9 (6 * tn p0 + tn (R 7 (tn p0))) p2) 10 (6 * tn p0 + tn (R 7 (tn p0))) p3) 7 (tn p0) (nI (tn (R 7 (tn p0)) + 1))) 28 0 0) ad1 q → foot R ad q ∨ M q = none) ∨ (¬ (gbN (kn R p0) ((inn p1 0 2 && inn p2 1 9999 && inn p3 p2 9999 && (iOf p1 p2 || decide (p2 < p3)))) (true) ((kn R p0 && decide (tn (R 7 (tn p0)) < 6)))) = 0 ∧ 0 < thN 11 (gbN (kn R p0) ((inn p1 0 2 && inn p2 1 9999 && inn p3 p2 9999 && (iOf p1 p2 || decide (p2 < p3)))) (true) ((kn R p0 && decide (tn (R 7 (tn p0)) < 6)))) ∧ v = some (.int (nI (thN 11 (gbN (kn R p0) ((inn p1 0 2 && inn p2 1 9999 && inn p3 p2 9999 && (iOf p1 p2 || decide (p2 < p3)))) (true) ((kn R p0 && decide (tn (R 7 (tn p0)) < 6))))))) ∧ M' o = some (.inr (.long, [.long ov])) ∧ RepC R ad M')) := by
  refine Cw_i 1 [some (.ref (ad 0 0 0)), some (.int p0), some (.int p1), some (.int p2), some (.int p3), some (.ref o), none] mh_La_91.2.2.1 (by decide +kernel) (Nat.le_of_ble_eq_true rfl) rfl ?_
  intro G e1 e2 e3 C hT hw Rt
  subst e1; subst e2; subst e3
  refine m_aload C d_La_range_0 rfl ?_
  refine m_iconst (v := 0) C d_La_range_2 (by decide) ?_
  refine m_aload_n C d_La_range_3 rfl rfl ?_
  refine m_iload_n C d_La_range_4 rfl rfl ?_
  refine m_iload_n C d_La_range_5 rfl rfl ?_
  refine m_iload_n C d_La_range_6 rfl rfl ?_
  refine m_iload C d_La_range_7 rfl ?_
  refine m_callVX (ci := 0) C d_La_range_9 ml_La_28 mw_La_28 mi_AW_range se_AW_range rfl (ct_AW_range _ _ _ R ad p0 p1 p2 p3 M hR hwf.1) (fun q h => hw q (Or.inl h)) rfl rfl (Nat.le_of_ble_eq_true rfl) hR.root (by decide) (fun v9 M9 hp h5 h6 => ?_) (fun E9 M9 hp h5 h6 => ?_)
  · obtain ⟨hc0, rfl, ad9, ha9, hR9, hf9⟩ := hp
    show mj G 7 5 33 M9 12 [some (.ref (ad 0 0 0)), some (.int p0), some (.int p1), some (.int p2), some (.int p3), some (.ref o), none] [.int (nI (tn (R 7 (tn p0)) + 1)), .int 0, .ref o]
    refine m_i2l C d_La_range_12 ?_
    have hMo : M9 o = some (.inr (.long, [.long ov])) := (h5 o (by rw [ho]; simp) hof).trans ho
    refine m_lastE C d_La_range_13 (hw _ (Or.inr rfl)) hMo kt_long (by decide) (show 0 < 1 by decide) (fun M1 M1a M1o => ?_)
    refine m_goto (tgt := 29) C d_La_range_14 (by decide) ?_
    refine m_iconst (v := 0) C d_La_range_29 (by decide) ?_
    have nof : ∀ q, foot (uR (uR (uR (uR (uR R 8 (6 * tn p0 + tn (R 7 (tn p0))) p1) 9 (6 * tn p0 + tn (R 7 (tn p0))) p2) 10 (6 * tn p0 + tn (R 7 (tn p0))) p3) 7 (tn p0) (nI (tn (R 7 (tn p0)) + 1))) 28 0 0) ad9 q → q ≠ o := fun q hq z => (hf9 q hq).elim (fun y => hof (by rw [← z]; exact y)) (fun y => by rw [z, ho] at y; cases y)
    exact Rt _ _ _ _ _ _ (by decide) (by decide) d_La_range_30 (Or.inl ⟨(gq_range (R := R) (s := p0) (sd := p1) (lo := p2) (hi := p3)).n hc0, rfl, M1a, ad9, ha9, hR9.keep (fun q hq => M1o q (nof q hq)), hf9⟩)
  · obtain ⟨hx9, hR9⟩ := hp
    have hMo : M9 o = some (.inr (.long, [.long ov])) := (h5 o (by rw [ho]; simp) hof).trans ho
    rcases (gq_range (R := R) (s := p0) (sd := p1) (lo := p2) (hi := p3)).x hx9 with ⟨hE, hg⟩ | ⟨hE, hg⟩ | ⟨hE, hg⟩ | ⟨hE, hg⟩
    · subst hE
      refine mX_c C hT [] [(0, 14, 21, 13), (0, 14, 25, 15)] (0, 14, 17, 21) rfl (fun z hz => by cases hz) (by decide) (by decide) cl_La_21 ca_IA (fun q9 => ?_)
      show mj G 7 5 33 M9 17 [some (.ref (ad 0 0 0)), some (.int p0), some (.int p1), some (.int p2), some (.int p3), some (.ref o), none] [.ref q9]
      refine m_astore (L' := [some (.ref (ad 0 0 0)), some (.int p0), some (.int p1), some (.int p2), some (.int p3), some (.ref o), some (.ref q9)]) C d_La_range_17 (by decide) rfl ?_
      refine m_iconst (v := 1) C d_La_range_19 (by decide) ?_
      exact Rt _ _ _ _ _ _ (by decide) (by decide) d_La_range_20 (Or.inr ⟨by rw [hg]; decide, by rw [hg, th_11_1]; decide, by rw [hg, th_11_1]; rfl, hMo, hR9⟩)
    · subst hE
      refine mX_c C hT [(0, 14, 17, 21)] [(0, 14, 25, 15)] (0, 14, 21, 13) rfl (fun z hz => by simp only [List.mem_cons, List.not_mem_nil, or_false] at hz; rcases hz with rfl <;> first | exact ⟨by decide, _, cl_La_21, by simp [knc]⟩) (by decide) (by decide) cl_La_13 ca_IO (fun q9 => ?_)
      show mj G 7 5 33 M9 21 [some (.ref (ad 0 0 0)), some (.int p0), some (.int p1), some (.int p2), some (.int p3), some (.ref o), none] [.ref q9]
      refine m_astore (L' := [some (.ref (ad 0 0 0)), some (.int p0), some (.int p1), some (.int p2), some (.int p3), some (.ref o), some (.ref q9)]) C d_La_range_21 (by decide) rfl ?_
      refine m_iconst (v := 2) C d_La_range_23 (by decide) ?_
      exact Rt _ _ _ _ _ _ (by decide) (by decide) d_La_range_24 (Or.inr ⟨by rw [hg]; decide, by rw [hg, th_11_2]; decide, by rw [hg, th_11_2]; rfl, hMo, hR9⟩)
    · exact absurd (gbN_3 hg) (by decide)
    · subst hE
      refine mX_c C hT [(0, 14, 17, 21), (0, 14, 21, 13)] [] (0, 14, 25, 15) rfl (fun z hz => by simp only [List.mem_cons, List.not_mem_nil, or_false] at hz; rcases hz with rfl | rfl <;> first | exact ⟨by decide, _, cl_La_21, by simp [knc]⟩ | exact ⟨by decide, _, cl_La_13, by simp [knc]⟩) (by decide) (by decide) cl_La_15 ca_UO (fun q9 => ?_)
      show mj G 7 5 33 M9 25 [some (.ref (ad 0 0 0)), some (.int p0), some (.int p1), some (.int p2), some (.int p3), some (.ref o), none] [.ref q9]
      refine m_astore (L' := [some (.ref (ad 0 0 0)), some (.int p0), some (.int p1), some (.int p2), some (.int p3), some (.ref o), some (.ref q9)]) C d_La_range_25 (by decide) rfl ?_
      refine m_iconst (v := 3) C d_La_range_27 (by decide) ?_
      exact Rt _ _ _ _ _ _ (by decide) (by decide) d_La_range_28 (Or.inr ⟨by rw [hg]; decide, by rw [hg, th_11_4]; decide, by rw [hg, th_11_4]; rfl, hMo, hR9⟩)

set_option maxHeartbeats 4000000 in
set_option maxRecDepth 100000 in
theorem ct_La_line (l : Launch) (D : ma_D) (s0 : State) (R : mR) (ad : mAd) (o : Nat) (ov : Int64) (p0 : Int32) (p1 : Int32) (p2 : Int32) (p3 : Int32) (p4 : Int32) (M : ma_H) (hR : RepC R ad M) (hwf : WfS R) (ho : M o = some (.inr (.long, [.long ov]))) (hof : ¬ foot R ad o) : Cw l D s0 y_La_line c_La_line 8 (some .int) [(0, 16, 19, 21), (0, 16, 23, 13)] 8 3 18 129 [.ref (ad 0 0 0), .int p0, .int p1, .int p2, .int p3, .int p4, .ref o] M (fun q => foot R ad q ∨ q = o) (fun v M' => ((gbN (kn R p0) ((inn p1 (-9999) 9999 && inn p2 (-9999) 9999 && inn p3 (-9999) 9999 && inn p4 (-9999) 9999)) (true) (true)) = 0 ∧ v = some (.int 0) ∧ M' o = some (.inr (.long, [.long (w_root (sq_way p1 p2 p3 p4)).toInt64])) ∧ ∃ ad1 : mAd, ad1 0 0 0 = ad 0 0 0 ∧ RepC (uR (uR (uR (uR (uR (uR R 11 (tn p0) p1) 12 (tn p0) p2) 13 (tn p0) (p3 - p1)) 14 (tn p0) (p4 - p2)) 15 (tn p0) (w_root (sq_way p1 p2 p3 p4))) 28 0 0) ad1 M' ∧ ∀ q, foot (uR (uR (uR (uR (uR (uR R 11 (tn p0) p1) 12 (tn p0) p2) 13 (tn p0) (p3 - p1)) 14 (tn p0) (p4 - p2)) 15 (tn p0) (w_root (sq_way p1 p2 p3 p4))) 28 0 0) ad1 q → foot R ad q ∨ M q = none) ∨ (¬ (gbN (kn R p0) ((inn p1 (-9999) 9999 && inn p2 (-9999) 9999 && inn p3 (-9999) 9999 && inn p4 (-9999) 9999)) (true) (true)) = 0 ∧ 0 < thN 3 (gbN (kn R p0) ((inn p1 (-9999) 9999 && inn p2 (-9999) 9999 && inn p3 (-9999) 9999 && inn p4 (-9999) 9999)) (true) (true)) ∧ v = some (.int (nI (thN 3 (gbN (kn R p0) ((inn p1 (-9999) 9999 && inn p2 (-9999) 9999 && inn p3 (-9999) 9999 && inn p4 (-9999) 9999)) (true) (true))))) ∧ M' o = some (.inr (.long, [.long ov])) ∧ RepC R ad M')) := by
  refine Cw_i 1 [some (.ref (ad 0 0 0)), some (.int p0), some (.int p1), some (.int p2), some (.int p3), some (.int p4), some (.ref o), none] mh_La_95.2.2.1 (by decide +kernel) (Nat.le_of_ble_eq_true rfl) rfl ?_
  intro G e1 e2 e3 C hT hw Rt
  subst e1; subst e2; subst e3
  refine m_aload C d_La_line_0 rfl ?_
  refine m_iconst (v := 0) C d_La_line_2 (by decide) ?_
  refine m_aload_n C d_La_line_3 rfl rfl ?_
  refine m_iload_n C d_La_line_4 rfl rfl ?_
  refine m_iload_n C d_La_line_5 rfl rfl ?_
  refine m_iload_n C d_La_line_6 rfl rfl ?_
  refine m_iload C d_La_line_7 rfl ?_
  refine m_iload C d_La_line_9 rfl ?_
  refine m_callVX (ci := 0) C d_La_line_11 ml_La_32 mw_La_32 mi_AW_line se_AW_line rfl (ct_AW_line _ _ _ R ad p0 p1 p2 p3 p4 M hR hwf.1) (fun q h => hw q (Or.inl h)) rfl rfl (Nat.le_of_ble_eq_true rfl) hR.root (by decide) (fun v9 M9 hp h5 h6 => ?_) (fun E9 M9 hp h5 h6 => ?_)
  · obtain ⟨hc0, rfl, hR9⟩ := hp; obtain ⟨ad9, ha9, hR9, hf9⟩ : ∃ ad1 : mAd, ad1 0 0 0 = ad 0 0 0 ∧ RepC (uR (uR (uR (uR (uR (uR R 11 (tn p0) p1) 12 (tn p0) p2) 13 (tn p0) (p3 - p1)) 14 (tn p0) (p4 - p2)) 15 (tn p0) (w_root (sq_way p1 p2 p3 p4))) 28 0 0) ad1 M9 ∧ ∀ q, foot (uR (uR (uR (uR (uR (uR R 11 (tn p0) p1) 12 (tn p0) p2) 13 (tn p0) (p3 - p1)) 14 (tn p0) (p4 - p2)) 15 (tn p0) (w_root (sq_way p1 p2 p3 p4))) 28 0 0) ad1 q → foot R ad q ∨ M q = none := ⟨ad, rfl, hR9, fun q hq => Or.inl (foot_lv (fun k i j z => lv_cg (by first | rfl | exact fdR_o R _ (by decide)) (by first | rfl | exact fdR_o R _ (by decide)) (by first | rfl | exact fdR_o R _ (by decide)) (by first | rfl | exact fdR_o R _ (by decide)) z) hq)⟩
    show mj G 8 3 18 M9 14 [some (.ref (ad 0 0 0)), some (.int p0), some (.int p1), some (.int p2), some (.int p3), some (.int p4), some (.ref o), none] [.int (w_root (sq_way p1 p2 p3 p4)), .int 0, .ref o]
    refine m_i2l C d_La_line_14 ?_
    have hMo : M9 o = some (.inr (.long, [.long ov])) := (h5 o (by rw [ho]; simp) hof).trans ho
    refine m_lastE C d_La_line_15 (hw _ (Or.inr rfl)) hMo kt_long (by decide) (show 0 < 1 by decide) (fun M1 M1a M1o => ?_)
    refine m_goto (tgt := 27) C d_La_line_16 (by decide) ?_
    refine m_iconst (v := 0) C d_La_line_27 (by decide) ?_
    have nof : ∀ q, foot (uR (uR (uR (uR (uR (uR R 11 (tn p0) p1) 12 (tn p0) p2) 13 (tn p0) (p3 - p1)) 14 (tn p0) (p4 - p2)) 15 (tn p0) (w_root (sq_way p1 p2 p3 p4))) 28 0 0) ad9 q → q ≠ o := fun q hq z => (hf9 q hq).elim (fun y => hof (by rw [← z]; exact y)) (fun y => by rw [z, ho] at y; cases y)
    exact Rt _ _ _ _ _ _ (by decide) (by decide) d_La_line_28 (Or.inl ⟨(gq_line (R := R) (s := p0) (x := p1) (y := p2) (tx := p3) (ty := p4)).n hc0, rfl, M1a, ad9, ha9, hR9.keep (fun q hq => M1o q (nof q hq)), hf9⟩)
  · obtain ⟨hx9, hR9⟩ := hp
    have hMo : M9 o = some (.inr (.long, [.long ov])) := (h5 o (by rw [ho]; simp) hof).trans ho
    rcases (gq_line (R := R) (s := p0) (x := p1) (y := p2) (tx := p3) (ty := p4)).x hx9 with ⟨hE, hg⟩ | ⟨hE, hg⟩ | ⟨hE, hg⟩ | ⟨hE, hg⟩
    · subst hE
      refine mX_c C hT [] [(0, 16, 23, 13)] (0, 16, 19, 21) rfl (fun z hz => by cases hz) (by decide) (by decide) cl_La_21 ca_IA (fun q9 => ?_)
      show mj G 8 3 18 M9 19 [some (.ref (ad 0 0 0)), some (.int p0), some (.int p1), some (.int p2), some (.int p3), some (.int p4), some (.ref o), none] [.ref q9]
      refine m_astore (L' := [some (.ref (ad 0 0 0)), some (.int p0), some (.int p1), some (.int p2), some (.int p3), some (.int p4), some (.ref o), some (.ref q9)]) C d_La_line_19 (by decide) rfl ?_
      refine m_iconst (v := 1) C d_La_line_21 (by decide) ?_
      exact Rt _ _ _ _ _ _ (by decide) (by decide) d_La_line_22 (Or.inr ⟨by rw [hg]; decide, by rw [hg, th_3_1]; decide, by rw [hg, th_3_1]; rfl, hMo, hR9⟩)
    · subst hE
      refine mX_c C hT [(0, 16, 19, 21)] [] (0, 16, 23, 13) rfl (fun z hz => by simp only [List.mem_cons, List.not_mem_nil, or_false] at hz; rcases hz with rfl <;> first | exact ⟨by decide, _, cl_La_21, by simp [knc]⟩) (by decide) (by decide) cl_La_13 ca_IO (fun q9 => ?_)
      show mj G 8 3 18 M9 23 [some (.ref (ad 0 0 0)), some (.int p0), some (.int p1), some (.int p2), some (.int p3), some (.int p4), some (.ref o), none] [.ref q9]
      refine m_astore (L' := [some (.ref (ad 0 0 0)), some (.int p0), some (.int p1), some (.int p2), some (.int p3), some (.int p4), some (.ref o), some (.ref q9)]) C d_La_line_23 (by decide) rfl ?_
      refine m_iconst (v := 2) C d_La_line_25 (by decide) ?_
      exact Rt _ _ _ _ _ _ (by decide) (by decide) d_La_line_26 (Or.inr ⟨by rw [hg]; decide, by rw [hg, th_3_2]; decide, by rw [hg, th_3_2]; rfl, hMo, hR9⟩)
    · exact absurd (gbN_3 hg) (by decide)
    · exact absurd (gbN_4 hg) (by decide)

set_option maxHeartbeats 4000000 in
set_option maxRecDepth 100000 in
theorem ct_La_close (l : Launch) (D : ma_D) (s0 : State) (R : mR) (ad : mAd) (p0 : Int32) (p1 : Int32) (hb01 : p1 = 0 ∨ p1 = 1) (M : ma_H) (hR : RepC R ad M) (hwf : WfS R) : Cw l D s0 y_La_close c_La_close 4 (some .int) [(0, 6, 9, 21)] 8 1 6 125 [.ref (ad 0 0 0), .int p0, .int p1] M (fun q => foot R ad q) (fun v M' => ((gbN (kn R p0) (true) (true) (true)) = 0 ∧ v = some (.int 0) ∧ ∃ ad1 : mAd, ad1 0 0 0 = ad 0 0 0 ∧ RepC (uR (uR R 3 (tn p0) p1) 28 0 0) ad1 M' ∧ ∀ q, foot (uR (uR R 3 (tn p0) p1) 28 0 0) ad1 q → foot R ad q ∨ M q = none) ∨ (¬ (gbN (kn R p0) (true) (true) (true)) = 0 ∧ 0 < thN 1 (gbN (kn R p0) (true) (true) (true)) ∧ v = some (.int (nI (thN 1 (gbN (kn R p0) (true) (true) (true))))) ∧ RepC R ad M')) := by
  refine Cw_i 1 [some (.ref (ad 0 0 0)), some (.int p0), some (.int p1), none] mh_La_99.2.2.1 (by decide +kernel) (Nat.le_of_ble_eq_true rfl) rfl ?_
  intro G e1 e2 e3 C hT hw Rt
  subst e1; subst e2; subst e3
  refine m_aload_n C d_La_close_0 rfl rfl ?_
  refine m_iload_n C d_La_close_1 rfl rfl ?_
  refine m_iload_n C d_La_close_2 rfl rfl ?_
  refine m_callVX (ci := 0) C d_La_close_3 ml_La_36 mw_La_36 mi_AW_close se_AW_close rfl (ct_AW_close _ _ _ R ad p0 p1 hb01 M hR hwf.1) (fun q h => hw q h) rfl rfl (Nat.le_of_ble_eq_true rfl) hR.root (by decide) (fun v9 M9 hp h5 h6 => ?_) (fun E9 M9 hp h5 h6 => ?_)
  · obtain ⟨hc0, rfl, hR9⟩ := hp; obtain ⟨ad9, ha9, hR9, hf9⟩ : ∃ ad1 : mAd, ad1 0 0 0 = ad 0 0 0 ∧ RepC (uR (uR R 3 (tn p0) p1) 28 0 0) ad1 M9 ∧ ∀ q, foot (uR (uR R 3 (tn p0) p1) 28 0 0) ad1 q → foot R ad q ∨ M q = none := ⟨ad, rfl, hR9, fun q hq => Or.inl (foot_lv (fun k i j z => lv_cg (by first | rfl | exact fdR_o R _ (by decide)) (by first | rfl | exact fdR_o R _ (by decide)) (by first | rfl | exact fdR_o R _ (by decide)) (by first | rfl | exact fdR_o R _ (by decide)) z) hq)⟩
    show mj G 4 1 6 M9 6 [some (.ref (ad 0 0 0)), some (.int p0), some (.int p1), none] []
    refine m_goto (tgt := 12) C d_La_close_6 (by decide) ?_
    refine m_iconst (v := 0) C d_La_close_12 (by decide) ?_
    exact Rt _ _ _ _ _ _ (by decide) (by decide) d_La_close_13 (Or.inl ⟨(gq_close (R := R) (s := p0)).n hc0, rfl, ad9, ha9, hR9, hf9⟩)
  · obtain ⟨hx9, hR9⟩ := hp
    rcases (gq_close (R := R) (s := p0)).x hx9 with ⟨hE, hg⟩ | ⟨hE, hg⟩ | ⟨hE, hg⟩ | ⟨hE, hg⟩
    · subst hE
      refine mX_c C hT [] [] (0, 6, 9, 21) rfl (fun z hz => by cases hz) (by decide) (by decide) cl_La_21 ca_IA (fun q9 => ?_)
      show mj G 4 1 6 M9 9 [some (.ref (ad 0 0 0)), some (.int p0), some (.int p1), none] [.ref q9]
      refine m_astore_n (L' := [some (.ref (ad 0 0 0)), some (.int p0), some (.int p1), some (.ref q9)]) C d_La_close_9 rfl (by decide) rfl ?_
      refine m_iconst (v := 1) C d_La_close_10 (by decide) ?_
      exact Rt _ _ _ _ _ _ (by decide) (by decide) d_La_close_11 (Or.inr ⟨by rw [hg]; decide, by rw [hg, th_1_1]; decide, by rw [hg, th_1_1]; rfl, hR9⟩)
    · exact absurd (gbN_2 hg) (by decide)
    · exact absurd (gbN_3 hg) (by decide)
    · exact absurd (gbN_4 hg) (by decide)

set_option maxHeartbeats 4000000 in
set_option maxRecDepth 100000 in
theorem ct_La_landmark (l : Launch) (D : ma_D) (s0 : State) (R : mR) (ad : mAd) (o : Nat) (ov : Int64) (p0 : Int32) (p1 : Int32) (p2 : Int64) (p3 : Int32) (M : ma_H) (hR : RepC R ad M) (hwf : WfS R) (ho : M o = some (.inr (.long, [.long ov]))) (hof : ¬ foot R ad o) : Cw l D s0 y_La_landmark c_La_landmark 8 (some .int) [(0, 14, 17, 21), (0, 14, 21, 13), (0, 14, 25, 26), (0, 14, 29, 15)] 8 7 45 131 [.ref (ad 0 0 0), .int p0, .int p1, .long p2, .int p3, .ref o] M (fun q => foot R ad q ∨ q = o) (fun v M' => ((gbN (kn R p0) ((inn p1 1 9999 && inn p3 1 8 && decide (∀ i, i < tn p3 → is_l (sgn p2 (tn p3) i) = true))) (((inn p1 1 9999 && inn p3 1 8 && decide (∀ i, i < tn p3 → is_l (sgn p2 (tn p3) i) = true)) && !decide (∃ k, k < nL R ∧ lmL R k = sgns p2 (tn p3) (tn p3)))) (decide (nL R < 20))) = 0 ∧ v = some (.int 0) ∧ M' o = some (.inr (.long, [.long (nI (nL R)).toInt64])) ∧ ∃ ad1 : mAd, ad1 0 0 0 = ad 0 0 0 ∧ RepC (uR (uR (setF (uR (uR (uR R 17 (nL R) p0) 18 (nL R) p1) 19 (nL R) (nI (tn p3))) 20 (fa (R 20) (8 * nL R) p2 (tn p3) (tn p3))) 16 0 (nI (nL R + 1))) 28 0 0) ad1 M' ∧ ∀ q, foot (uR (uR (setF (uR (uR (uR R 17 (nL R) p0) 18 (nL R) p1) 19 (nL R) (nI (tn p3))) 20 (fa (R 20) (8 * nL R) p2 (tn p3) (tn p3))) 16 0 (nI (nL R + 1))) 28 0 0) ad1 q → foot R ad q ∨ M q = none) ∨ (¬ (gbN (kn R p0) ((inn p1 1 9999 && inn p3 1 8 && decide (∀ i, i < tn p3 → is_l (sgn p2 (tn p3) i) = true))) (((inn p1 1 9999 && inn p3 1 8 && decide (∀ i, i < tn p3 → is_l (sgn p2 (tn p3) i) = true)) && !decide (∃ k, k < nL R ∧ lmL R k = sgns p2 (tn p3) (tn p3)))) (decide (nL R < 20))) = 0 ∧ 0 < thN 15 (gbN (kn R p0) ((inn p1 1 9999 && inn p3 1 8 && decide (∀ i, i < tn p3 → is_l (sgn p2 (tn p3) i) = true))) (((inn p1 1 9999 && inn p3 1 8 && decide (∀ i, i < tn p3 → is_l (sgn p2 (tn p3) i) = true)) && !decide (∃ k, k < nL R ∧ lmL R k = sgns p2 (tn p3) (tn p3)))) (decide (nL R < 20))) ∧ v = some (.int (nI (thN 15 (gbN (kn R p0) ((inn p1 1 9999 && inn p3 1 8 && decide (∀ i, i < tn p3 → is_l (sgn p2 (tn p3) i) = true))) (((inn p1 1 9999 && inn p3 1 8 && decide (∀ i, i < tn p3 → is_l (sgn p2 (tn p3) i) = true)) && !decide (∃ k, k < nL R ∧ lmL R k = sgns p2 (tn p3) (tn p3)))) (decide (nL R < 20)))))) ∧ M' o = some (.inr (.long, [.long ov])) ∧ RepC R ad M')) := by
  refine Cw_i 1 [some (.ref (ad 0 0 0)), some (.int p0), some (.int p1), some (.long p2), none, some (.int p3), some (.ref o), none] mh_La_103.2.2.1 (by decide +kernel) (Nat.le_of_ble_eq_true rfl) rfl ?_
  intro G e1 e2 e3 C hT hw Rt
  subst e1; subst e2; subst e3
  refine m_aload C d_La_landmark_0 rfl ?_
  refine m_iconst (v := 0) C d_La_landmark_2 (by decide) ?_
  refine m_aload_n C d_La_landmark_3 rfl rfl ?_
  refine m_iload_n C d_La_landmark_4 rfl rfl ?_
  refine m_iload_n C d_La_landmark_5 rfl rfl ?_
  refine m_lload_n C d_La_landmark_6 rfl rfl ?_
  refine m_iload C d_La_landmark_7 rfl ?_
  refine m_callVX (ci := 0) C d_La_landmark_9 ml_La_40 mw_La_40 mi_AW_landmark se_AW_landmark rfl (ct_AW_landmark _ _ _ R ad p0 p1 p2 p3 M hR hwf.1 (fun m9 hm9 => (hwf.2.2.2.2.1 m9 hm9).1.2.2)) (fun q h => hw q (Or.inl h)) rfl rfl (Nat.le_of_ble_eq_true rfl) hR.root (by decide) (fun v9 M9 hp h5 h6 => ?_) (fun E9 M9 hp h5 h6 => ?_)
  · obtain ⟨hc0, rfl, ad9, ha9, hR9, hf9⟩ := hp
    show mj G 8 7 45 M9 12 [some (.ref (ad 0 0 0)), some (.int p0), some (.int p1), some (.long p2), none, some (.int p3), some (.ref o), none] [.int (nI (nL R)), .int 0, .ref o]
    refine m_i2l C d_La_landmark_12 ?_
    have hMo : M9 o = some (.inr (.long, [.long ov])) := (h5 o (by rw [ho]; simp) hof).trans ho
    refine m_lastE C d_La_landmark_13 (hw _ (Or.inr rfl)) hMo kt_long (by decide) (show 0 < 1 by decide) (fun M1 M1a M1o => ?_)
    refine m_goto (tgt := 33) C d_La_landmark_14 (by decide) ?_
    refine m_iconst (v := 0) C d_La_landmark_33 (by decide) ?_
    have nof : ∀ q, foot (uR (uR (setF (uR (uR (uR R 17 (nL R) p0) 18 (nL R) p1) 19 (nL R) (nI (tn p3))) 20 (fa (R 20) (8 * nL R) p2 (tn p3) (tn p3))) 16 0 (nI (nL R + 1))) 28 0 0) ad9 q → q ≠ o := fun q hq z => (hf9 q hq).elim (fun y => hof (by rw [← z]; exact y)) (fun y => by rw [z, ho] at y; cases y)
    exact Rt _ _ _ _ _ _ (by decide) (by decide) d_La_landmark_34 (Or.inl ⟨(gq_landmark (R := R) (s := p0) (h := p1) (p := p2) (n := p3)).n hc0, rfl, M1a, ad9, ha9, hR9.keep (fun q hq => M1o q (nof q hq)), hf9⟩)
  · obtain ⟨hx9, hR9⟩ := hp
    have hMo : M9 o = some (.inr (.long, [.long ov])) := (h5 o (by rw [ho]; simp) hof).trans ho
    rcases (gq_landmark (R := R) (s := p0) (h := p1) (p := p2) (n := p3)).x hx9 with ⟨hE, hg⟩ | ⟨hE, hg⟩ | ⟨hE, hg⟩ | ⟨hE, hg⟩
    · subst hE
      refine mX_c C hT [] [(0, 14, 21, 13), (0, 14, 25, 26), (0, 14, 29, 15)] (0, 14, 17, 21) rfl (fun z hz => by cases hz) (by decide) (by decide) cl_La_21 ca_IA (fun q9 => ?_)
      show mj G 8 7 45 M9 17 [some (.ref (ad 0 0 0)), some (.int p0), some (.int p1), some (.long p2), none, some (.int p3), some (.ref o), none] [.ref q9]
      refine m_astore (L' := [some (.ref (ad 0 0 0)), some (.int p0), some (.int p1), some (.long p2), none, some (.int p3), some (.ref o), some (.ref q9)]) C d_La_landmark_17 (by decide) rfl ?_
      refine m_iconst (v := 1) C d_La_landmark_19 (by decide) ?_
      exact Rt _ _ _ _ _ _ (by decide) (by decide) d_La_landmark_20 (Or.inr ⟨by rw [hg]; decide, by rw [hg, th_15_1]; decide, by rw [hg, th_15_1]; rfl, hMo, hR9⟩)
    · subst hE
      refine mX_c C hT [(0, 14, 17, 21)] [(0, 14, 25, 26), (0, 14, 29, 15)] (0, 14, 21, 13) rfl (fun z hz => by simp only [List.mem_cons, List.not_mem_nil, or_false] at hz; rcases hz with rfl <;> first | exact ⟨by decide, _, cl_La_21, by simp [knc]⟩) (by decide) (by decide) cl_La_13 ca_IO (fun q9 => ?_)
      show mj G 8 7 45 M9 21 [some (.ref (ad 0 0 0)), some (.int p0), some (.int p1), some (.long p2), none, some (.int p3), some (.ref o), none] [.ref q9]
      refine m_astore (L' := [some (.ref (ad 0 0 0)), some (.int p0), some (.int p1), some (.long p2), none, some (.int p3), some (.ref o), some (.ref q9)]) C d_La_landmark_21 (by decide) rfl ?_
      refine m_iconst (v := 2) C d_La_landmark_23 (by decide) ?_
      exact Rt _ _ _ _ _ _ (by decide) (by decide) d_La_landmark_24 (Or.inr ⟨by rw [hg]; decide, by rw [hg, th_15_2]; decide, by rw [hg, th_15_2]; rfl, hMo, hR9⟩)
    · subst hE
      refine mX_c C hT [(0, 14, 17, 21), (0, 14, 21, 13)] [(0, 14, 29, 15)] (0, 14, 25, 26) rfl (fun z hz => by simp only [List.mem_cons, List.not_mem_nil, or_false] at hz; rcases hz with rfl | rfl <;> first | exact ⟨by decide, _, cl_La_21, by simp [knc]⟩ | exact ⟨by decide, _, cl_La_13, by simp [knc]⟩) (by decide) (by decide) cl_La_26 ca_IS (fun q9 => ?_)
      show mj G 8 7 45 M9 25 [some (.ref (ad 0 0 0)), some (.int p0), some (.int p1), some (.long p2), none, some (.int p3), some (.ref o), none] [.ref q9]
      refine m_astore (L' := [some (.ref (ad 0 0 0)), some (.int p0), some (.int p1), some (.long p2), none, some (.int p3), some (.ref o), some (.ref q9)]) C d_La_landmark_25 (by decide) rfl ?_
      refine m_iconst (v := 3) C d_La_landmark_27 (by decide) ?_
      exact Rt _ _ _ _ _ _ (by decide) (by decide) d_La_landmark_28 (Or.inr ⟨by rw [hg]; decide, by rw [hg, th_15_3]; decide, by rw [hg, th_15_3]; rfl, hMo, hR9⟩)
    · subst hE
      refine mX_c C hT [(0, 14, 17, 21), (0, 14, 21, 13), (0, 14, 25, 26)] [] (0, 14, 29, 15) rfl (fun z hz => by simp only [List.mem_cons, List.not_mem_nil, or_false] at hz; rcases hz with rfl | rfl | rfl <;> first | exact ⟨by decide, _, cl_La_21, by simp [knc]⟩ | exact ⟨by decide, _, cl_La_13, by simp [knc]⟩ | exact ⟨by decide, _, cl_La_26, by simp [knc]⟩) (by decide) (by decide) cl_La_15 ca_UO (fun q9 => ?_)
      show mj G 8 7 45 M9 29 [some (.ref (ad 0 0 0)), some (.int p0), some (.int p1), some (.long p2), none, some (.int p3), some (.ref o), none] [.ref q9]
      refine m_astore (L' := [some (.ref (ad 0 0 0)), some (.int p0), some (.int p1), some (.long p2), none, some (.int p3), some (.ref o), some (.ref q9)]) C d_La_landmark_29 (by decide) rfl ?_
      refine m_iconst (v := 4) C d_La_landmark_31 (by decide) ?_
      exact Rt _ _ _ _ _ _ (by decide) (by decide) d_La_landmark_32 (Or.inr ⟨by rw [hg]; decide, by rw [hg, th_15_4]; decide, by rw [hg, th_15_4]; rfl, hMo, hR9⟩)

set_option maxHeartbeats 4000000 in
set_option maxRecDepth 100000 in
theorem ct_La_meet (l : Launch) (D : ma_D) (s0 : State) (R : mR) (ad : mAd) (p0 : Int32) (p1 : Int32) (p2 : Int32) (p3 : Int32) (M : ma_H) (hR : RepC R ad M) (hwf : WfS R) : Cw l D s0 y_La_meet c_La_meet 6 (some .int) [(0, 9, 12, 21), (0, 9, 16, 13), (0, 9, 20, 26), (0, 9, 24, 15)] 8 6 34 129 [.ref (ad 0 0 0), .int p0, .int p1, .int p2, .int p3] M (fun q => foot R ad q) (fun v M' => ((gbN ((kn R p0 && kn R p1)) (((kn R p0 && kn R p1) && inn p2 0 (R 15 (tn p0)) && inn p3 0 (R 15 (tn p1)))) ((!decide (p0 = p1) && decide (coF R p0 p1 (nC R) 0 < 0))) (decide (nC R < 40))) = 0 ∧ v = some (.int 0) ∧ ∃ ad1 : mAd, ad1 0 0 0 = ad 0 0 0 ∧ RepC (uR (uR (uR (uR (uR R 22 (nC R) p0) 23 (nC R) p1) 24 (nC R) p2) 25 (nC R) p3) 21 0 (nI (nC R + 1))) ad1 M' ∧ ∀ q, foot (uR (uR (uR (uR (uR R 22 (nC R) p0) 23 (nC R) p1) 24 (nC R) p2) 25 (nC R) p3) 21 0 (nI (nC R + 1))) ad1 q → foot R ad q ∨ M q = none) ∨ (¬ (gbN ((kn R p0 && kn R p1)) (((kn R p0 && kn R p1) && inn p2 0 (R 15 (tn p0)) && inn p3 0 (R 15 (tn p1)))) ((!decide (p0 = p1) && decide (coF R p0 p1 (nC R) 0 < 0))) (decide (nC R < 40))) = 0 ∧ 0 < thN 15 (gbN ((kn R p0 && kn R p1)) (((kn R p0 && kn R p1) && inn p2 0 (R 15 (tn p0)) && inn p3 0 (R 15 (tn p1)))) ((!decide (p0 = p1) && decide (coF R p0 p1 (nC R) 0 < 0))) (decide (nC R < 40))) ∧ v = some (.int (nI (thN 15 (gbN ((kn R p0 && kn R p1)) (((kn R p0 && kn R p1) && inn p2 0 (R 15 (tn p0)) && inn p3 0 (R 15 (tn p1)))) ((!decide (p0 = p1) && decide (coF R p0 p1 (nC R) 0 < 0))) (decide (nC R < 40)))))) ∧ RepC R ad M')) := by
  refine Cw_i 1 [some (.ref (ad 0 0 0)), some (.int p0), some (.int p1), some (.int p2), some (.int p3), none] mh_La_107.2.2.1 (by decide +kernel) (Nat.le_of_ble_eq_true rfl) rfl ?_
  intro G e1 e2 e3 C hT hw Rt
  subst e1; subst e2; subst e3
  refine m_aload_n C d_La_meet_0 rfl rfl ?_
  refine m_iload_n C d_La_meet_1 rfl rfl ?_
  refine m_iload_n C d_La_meet_2 rfl rfl ?_
  refine m_iload_n C d_La_meet_3 rfl rfl ?_
  refine m_iload C d_La_meet_4 rfl ?_
  refine m_callVX (ci := 0) C d_La_meet_6 ml_La_44 mw_La_44 mi_AW_meet se_AW_meet rfl (ct_AW_meet _ _ _ R ad p0 p1 p2 p3 M hR hwf.1) (fun q h => hw q h) rfl rfl (Nat.le_of_ble_eq_true rfl) hR.root (by decide) (fun v9 M9 hp h5 h6 => ?_) (fun E9 M9 hp h5 h6 => ?_)
  · obtain ⟨hc0, rfl, ad9, ha9, hR9, hf9⟩ := hp
    show mj G 6 6 34 M9 9 [some (.ref (ad 0 0 0)), some (.int p0), some (.int p1), some (.int p2), some (.int p3), none] []
    refine m_goto (tgt := 28) C d_La_meet_9 (by decide) ?_
    refine m_iconst (v := 0) C d_La_meet_28 (by decide) ?_
    exact Rt _ _ _ _ _ _ (by decide) (by decide) d_La_meet_29 (Or.inl ⟨(gq_meet hwf (s := p0) (o := p1) (a := p2) (b := p3)).n hc0, rfl, ad9, ha9, hR9, hf9⟩)
  · obtain ⟨hx9, hR9⟩ := hp
    rcases (gq_meet hwf (s := p0) (o := p1) (a := p2) (b := p3)).x hx9 with ⟨hE, hg⟩ | ⟨hE, hg⟩ | ⟨hE, hg⟩ | ⟨hE, hg⟩
    · subst hE
      refine mX_c C hT [] [(0, 9, 16, 13), (0, 9, 20, 26), (0, 9, 24, 15)] (0, 9, 12, 21) rfl (fun z hz => by cases hz) (by decide) (by decide) cl_La_21 ca_IA (fun q9 => ?_)
      show mj G 6 6 34 M9 12 [some (.ref (ad 0 0 0)), some (.int p0), some (.int p1), some (.int p2), some (.int p3), none] [.ref q9]
      refine m_astore (L' := [some (.ref (ad 0 0 0)), some (.int p0), some (.int p1), some (.int p2), some (.int p3), some (.ref q9)]) C d_La_meet_12 (by decide) rfl ?_
      refine m_iconst (v := 1) C d_La_meet_14 (by decide) ?_
      exact Rt _ _ _ _ _ _ (by decide) (by decide) d_La_meet_15 (Or.inr ⟨by rw [hg]; decide, by rw [hg, th_15_1]; decide, by rw [hg, th_15_1]; rfl, hR9⟩)
    · subst hE
      refine mX_c C hT [(0, 9, 12, 21)] [(0, 9, 20, 26), (0, 9, 24, 15)] (0, 9, 16, 13) rfl (fun z hz => by simp only [List.mem_cons, List.not_mem_nil, or_false] at hz; rcases hz with rfl <;> first | exact ⟨by decide, _, cl_La_21, by simp [knc]⟩) (by decide) (by decide) cl_La_13 ca_IO (fun q9 => ?_)
      show mj G 6 6 34 M9 16 [some (.ref (ad 0 0 0)), some (.int p0), some (.int p1), some (.int p2), some (.int p3), none] [.ref q9]
      refine m_astore (L' := [some (.ref (ad 0 0 0)), some (.int p0), some (.int p1), some (.int p2), some (.int p3), some (.ref q9)]) C d_La_meet_16 (by decide) rfl ?_
      refine m_iconst (v := 2) C d_La_meet_18 (by decide) ?_
      exact Rt _ _ _ _ _ _ (by decide) (by decide) d_La_meet_19 (Or.inr ⟨by rw [hg]; decide, by rw [hg, th_15_2]; decide, by rw [hg, th_15_2]; rfl, hR9⟩)
    · subst hE
      refine mX_c C hT [(0, 9, 12, 21), (0, 9, 16, 13)] [(0, 9, 24, 15)] (0, 9, 20, 26) rfl (fun z hz => by simp only [List.mem_cons, List.not_mem_nil, or_false] at hz; rcases hz with rfl | rfl <;> first | exact ⟨by decide, _, cl_La_21, by simp [knc]⟩ | exact ⟨by decide, _, cl_La_13, by simp [knc]⟩) (by decide) (by decide) cl_La_26 ca_IS (fun q9 => ?_)
      show mj G 6 6 34 M9 20 [some (.ref (ad 0 0 0)), some (.int p0), some (.int p1), some (.int p2), some (.int p3), none] [.ref q9]
      refine m_astore (L' := [some (.ref (ad 0 0 0)), some (.int p0), some (.int p1), some (.int p2), some (.int p3), some (.ref q9)]) C d_La_meet_20 (by decide) rfl ?_
      refine m_iconst (v := 3) C d_La_meet_22 (by decide) ?_
      exact Rt _ _ _ _ _ _ (by decide) (by decide) d_La_meet_23 (Or.inr ⟨by rw [hg]; decide, by rw [hg, th_15_3]; decide, by rw [hg, th_15_3]; rfl, hR9⟩)
    · subst hE
      refine mX_c C hT [(0, 9, 12, 21), (0, 9, 16, 13), (0, 9, 20, 26)] [] (0, 9, 24, 15) rfl (fun z hz => by simp only [List.mem_cons, List.not_mem_nil, or_false] at hz; rcases hz with rfl | rfl | rfl <;> first | exact ⟨by decide, _, cl_La_21, by simp [knc]⟩ | exact ⟨by decide, _, cl_La_13, by simp [knc]⟩ | exact ⟨by decide, _, cl_La_26, by simp [knc]⟩) (by decide) (by decide) cl_La_15 ca_UO (fun q9 => ?_)
      show mj G 6 6 34 M9 24 [some (.ref (ad 0 0 0)), some (.int p0), some (.int p1), some (.int p2), some (.int p3), none] [.ref q9]
      refine m_astore (L' := [some (.ref (ad 0 0 0)), some (.int p0), some (.int p1), some (.int p2), some (.int p3), some (.ref q9)]) C d_La_meet_24 (by decide) rfl ?_
      refine m_iconst (v := 4) C d_La_meet_26 (by decide) ?_
      exact Rt _ _ _ _ _ _ (by decide) (by decide) d_La_meet_27 (Or.inr ⟨by rw [hg]; decide, by rw [hg, th_15_4]; decide, by rw [hg, th_15_4]; rfl, hR9⟩)

set_option maxHeartbeats 4000000 in
set_option maxRecDepth 100000 in
theorem ct_La_corner (l : Launch) (D : ma_D) (s0 : State) (R : mR) (ad : mAd) (o : Nat) (ov : Int64) (p0 : Int32) (p1 : Int32) (M : ma_H) (hR : RepC R ad M) (hwf : WfS R) (ho : M o = some (.inr (.long, [.long ov]))) (hof : ¬ foot R ad o) : Cw l D s0 y_La_corner c_La_corner 5 (some .int) [(0, 10, 13, 21)] 8 2 12 125 [.ref (ad 0 0 0), .int p0, .int p1, .ref o] M (fun q => foot R ad q ∨ q = o) (fun v M' => ((gbN ((kn R p0 && kn R p1)) (true) (true) (true)) = 0 ∧ v = some (.int 0) ∧ M' o = some (.inr (.long, [.long (coF R p0 p1 (nC R) 0).toInt64])) ∧ ∃ ad1 : mAd, ad1 0 0 0 = ad 0 0 0 ∧ RepC (R) ad1 M' ∧ ∀ q, foot (R) ad1 q → foot R ad q ∨ M q = none) ∨ (¬ (gbN ((kn R p0 && kn R p1)) (true) (true) (true)) = 0 ∧ 0 < thN 1 (gbN ((kn R p0 && kn R p1)) (true) (true) (true)) ∧ v = some (.int (nI (thN 1 (gbN ((kn R p0 && kn R p1)) (true) (true) (true))))) ∧ M' o = some (.inr (.long, [.long ov])) ∧ RepC R ad M')) := by
  refine Cw_i 1 [some (.ref (ad 0 0 0)), some (.int p0), some (.int p1), some (.ref o), none] mh_La_111.2.2.1 (by decide +kernel) (Nat.le_of_ble_eq_true rfl) rfl ?_
  intro G e1 e2 e3 C hT hw Rt
  subst e1; subst e2; subst e3
  refine m_aload_n C d_La_corner_0 rfl rfl ?_
  refine m_iconst (v := 0) C d_La_corner_1 (by decide) ?_
  refine m_aload_n C d_La_corner_2 rfl rfl ?_
  refine m_iload_n C d_La_corner_3 rfl rfl ?_
  refine m_iload_n C d_La_corner_4 rfl rfl ?_
  refine m_callVX (ci := 0) C d_La_corner_5 ml_La_48 mw_La_48 mi_AW_corner se_AW_corner rfl (ct_AW_corner _ _ _ R ad p0 p1 M hR hwf.1) (fun _ h => h.elim) rfl rfl (Nat.le_of_ble_eq_true rfl) hR.root (by decide) (fun v9 M9 hp h5 h6 => ?_) (fun E9 M9 hp h5 h6 => ?_)
  · obtain ⟨hc0, rfl, hM9⟩ := hp; have hR9 : RepC R ad M9 := (by rw [hM9]; exact hR); obtain ⟨ad9, ha9, hR9, hf9⟩ : ∃ ad1 : mAd, ad1 0 0 0 = ad 0 0 0 ∧ RepC (R) ad1 M9 ∧ ∀ q, foot (R) ad1 q → foot R ad q ∨ M q = none := ⟨ad, rfl, hR9, fun q hq => Or.inl (hq)⟩
    show mj G 5 2 12 M9 8 [some (.ref (ad 0 0 0)), some (.int p0), some (.int p1), some (.ref o), none] [.int (coF R p0 p1 (nC R) 0), .int 0, .ref o]
    refine m_i2l C d_La_corner_8 ?_
    have hMo : M9 o = some (.inr (.long, [.long ov])) := (h5 o (by rw [ho]; simp) (fun z => z)).trans ho
    refine m_lastE C d_La_corner_9 (hw _ (Or.inr rfl)) hMo kt_long (by decide) (show 0 < 1 by decide) (fun M1 M1a M1o => ?_)
    refine m_goto (tgt := 17) C d_La_corner_10 (by decide) ?_
    refine m_iconst (v := 0) C d_La_corner_17 (by decide) ?_
    have nof : ∀ q, foot (R) ad9 q → q ≠ o := fun q hq z => (hf9 q hq).elim (fun y => hof (by rw [← z]; exact y)) (fun y => by rw [z, ho] at y; cases y)
    exact Rt _ _ _ _ _ _ (by decide) (by decide) d_La_corner_18 (Or.inl ⟨(gq_corner (R := R) (s := p0) (o := p1)).n hc0, rfl, M1a, ad9, ha9, hR9.keep (fun q hq => M1o q (nof q hq)), hf9⟩)
  · obtain ⟨hx9, hR9⟩ := hp
    have hMo : M9 o = some (.inr (.long, [.long ov])) := (h5 o (by rw [ho]; simp) (fun z => z)).trans ho
    rcases (gq_corner (R := R) (s := p0) (o := p1)).x hx9 with ⟨hE, hg⟩ | ⟨hE, hg⟩ | ⟨hE, hg⟩ | ⟨hE, hg⟩
    · subst hE
      refine mX_c C hT [] [] (0, 10, 13, 21) rfl (fun z hz => by cases hz) (by decide) (by decide) cl_La_21 ca_IA (fun q9 => ?_)
      show mj G 5 2 12 M9 13 [some (.ref (ad 0 0 0)), some (.int p0), some (.int p1), some (.ref o), none] [.ref q9]
      refine m_astore (L' := [some (.ref (ad 0 0 0)), some (.int p0), some (.int p1), some (.ref o), some (.ref q9)]) C d_La_corner_13 (by decide) rfl ?_
      refine m_iconst (v := 1) C d_La_corner_15 (by decide) ?_
      exact Rt _ _ _ _ _ _ (by decide) (by decide) d_La_corner_16 (Or.inr ⟨by rw [hg]; decide, by rw [hg, th_1_1]; decide, by rw [hg, th_1_1]; rfl, hMo, hR9⟩)
    · exact absurd (gbN_2 hg) (by decide)
    · exact absurd (gbN_3 hg) (by decide)
    · exact absurd (gbN_4 hg) (by decide)

set_option maxHeartbeats 4000000 in
set_option maxRecDepth 100000 in
theorem ct_La_post (l : Launch) (D : ma_D) (s0 : State) (R : mR) (ad : mAd) (o : Nat) (ov : Int64) (p0 : Int32) (p1 : Int32) (M : ma_H) (hR : RepC R ad M) (hwf : WfS R) (ho : M o = some (.inr (.long, [.long ov]))) (hof : ¬ foot R ad o) : Cw l D s0 y_La_post c_La_post 5 (some .int) [(0, 10, 13, 21), (0, 10, 17, 13)] 8 2 12 128 [.ref (ad 0 0 0), .int p0, .int p1, .ref o] M (fun q => foot R ad q ∨ q = o) (fun v M' => ((gbN (kn R p0) ((kn R p0 && inn p1 0 (R 15 (tn p0)))) (true) (true)) = 0 ∧ v = some (.int 0) ∧ M' o = some (.inr (.long, [.long (poF R (tn p0) p1).toInt64])) ∧ ∃ ad1 : mAd, ad1 0 0 0 = ad 0 0 0 ∧ RepC (R) ad1 M' ∧ ∀ q, foot (R) ad1 q → foot R ad q ∨ M q = none) ∨ (¬ (gbN (kn R p0) ((kn R p0 && inn p1 0 (R 15 (tn p0)))) (true) (true)) = 0 ∧ 0 < thN 3 (gbN (kn R p0) ((kn R p0 && inn p1 0 (R 15 (tn p0)))) (true) (true)) ∧ v = some (.int (nI (thN 3 (gbN (kn R p0) ((kn R p0 && inn p1 0 (R 15 (tn p0)))) (true) (true))))) ∧ M' o = some (.inr (.long, [.long ov])) ∧ RepC R ad M')) := by
  refine Cw_i 1 [some (.ref (ad 0 0 0)), some (.int p0), some (.int p1), some (.ref o), none] mh_La_115.2.2.1 (by decide +kernel) (Nat.le_of_ble_eq_true rfl) rfl ?_
  intro G e1 e2 e3 C hT hw Rt
  subst e1; subst e2; subst e3
  refine m_aload_n C d_La_post_0 rfl rfl ?_
  refine m_iconst (v := 0) C d_La_post_1 (by decide) ?_
  refine m_aload_n C d_La_post_2 rfl rfl ?_
  refine m_iload_n C d_La_post_3 rfl rfl ?_
  refine m_iload_n C d_La_post_4 rfl rfl ?_
  refine m_callVX (ci := 0) C d_La_post_5 ml_La_52 mw_La_52 mi_AW_post se_AW_post rfl (ct_AW_post _ _ _ R ad p0 p1 M hR hwf.1) (fun _ h => h.elim) rfl rfl (Nat.le_of_ble_eq_true rfl) hR.root (by decide) (fun v9 M9 hp h5 h6 => ?_) (fun E9 M9 hp h5 h6 => ?_)
  · obtain ⟨hc0, rfl, hM9⟩ := hp; have hR9 : RepC R ad M9 := (by rw [hM9]; exact hR); obtain ⟨ad9, ha9, hR9, hf9⟩ : ∃ ad1 : mAd, ad1 0 0 0 = ad 0 0 0 ∧ RepC (R) ad1 M9 ∧ ∀ q, foot (R) ad1 q → foot R ad q ∨ M q = none := ⟨ad, rfl, hR9, fun q hq => Or.inl (hq)⟩
    show mj G 5 2 12 M9 8 [some (.ref (ad 0 0 0)), some (.int p0), some (.int p1), some (.ref o), none] [.int (poF R (tn p0) p1), .int 0, .ref o]
    refine m_i2l C d_La_post_8 ?_
    have hMo : M9 o = some (.inr (.long, [.long ov])) := (h5 o (by rw [ho]; simp) (fun z => z)).trans ho
    refine m_lastE C d_La_post_9 (hw _ (Or.inr rfl)) hMo kt_long (by decide) (show 0 < 1 by decide) (fun M1 M1a M1o => ?_)
    refine m_goto (tgt := 21) C d_La_post_10 (by decide) ?_
    refine m_iconst (v := 0) C d_La_post_21 (by decide) ?_
    have nof : ∀ q, foot (R) ad9 q → q ≠ o := fun q hq z => (hf9 q hq).elim (fun y => hof (by rw [← z]; exact y)) (fun y => by rw [z, ho] at y; cases y)
    exact Rt _ _ _ _ _ _ (by decide) (by decide) d_La_post_22 (Or.inl ⟨(gq_post (R := R) (s := p0) (a := p1)).n hc0, rfl, M1a, ad9, ha9, hR9.keep (fun q hq => M1o q (nof q hq)), hf9⟩)
  · obtain ⟨hx9, hR9⟩ := hp
    have hMo : M9 o = some (.inr (.long, [.long ov])) := (h5 o (by rw [ho]; simp) (fun z => z)).trans ho
    rcases (gq_post (R := R) (s := p0) (a := p1)).x hx9 with ⟨hE, hg⟩ | ⟨hE, hg⟩ | ⟨hE, hg⟩ | ⟨hE, hg⟩
    · subst hE
      refine mX_c C hT [] [(0, 10, 17, 13)] (0, 10, 13, 21) rfl (fun z hz => by cases hz) (by decide) (by decide) cl_La_21 ca_IA (fun q9 => ?_)
      show mj G 5 2 12 M9 13 [some (.ref (ad 0 0 0)), some (.int p0), some (.int p1), some (.ref o), none] [.ref q9]
      refine m_astore (L' := [some (.ref (ad 0 0 0)), some (.int p0), some (.int p1), some (.ref o), some (.ref q9)]) C d_La_post_13 (by decide) rfl ?_
      refine m_iconst (v := 1) C d_La_post_15 (by decide) ?_
      exact Rt _ _ _ _ _ _ (by decide) (by decide) d_La_post_16 (Or.inr ⟨by rw [hg]; decide, by rw [hg, th_3_1]; decide, by rw [hg, th_3_1]; rfl, hMo, hR9⟩)
    · subst hE
      refine mX_c C hT [(0, 10, 13, 21)] [] (0, 10, 17, 13) rfl (fun z hz => by simp only [List.mem_cons, List.not_mem_nil, or_false] at hz; rcases hz with rfl <;> first | exact ⟨by decide, _, cl_La_21, by simp [knc]⟩) (by decide) (by decide) cl_La_13 ca_IO (fun q9 => ?_)
      show mj G 5 2 12 M9 17 [some (.ref (ad 0 0 0)), some (.int p0), some (.int p1), some (.ref o), none] [.ref q9]
      refine m_astore (L' := [some (.ref (ad 0 0 0)), some (.int p0), some (.int p1), some (.ref o), some (.ref q9)]) C d_La_post_17 (by decide) rfl ?_
      refine m_iconst (v := 2) C d_La_post_19 (by decide) ?_
      exact Rt _ _ _ _ _ _ (by decide) (by decide) d_La_post_20 (Or.inr ⟨by rw [hg]; decide, by rw [hg, th_3_2]; decide, by rw [hg, th_3_2]; rfl, hMo, hR9⟩)
    · exact absurd (gbN_3 hg) (by decide)
    · exact absurd (gbN_4 hg) (by decide)

set_option maxHeartbeats 4000000 in
set_option maxRecDepth 100000 in
theorem ct_La_near (l : Launch) (D : ma_D) (s0 : State) (R : mR) (ad : mAd) (o : Nat) (ov : Int64) (p0 : Int32) (p1 : Int32) (M : ma_H) (hR : RepC R ad M) (hwf : WfS R) (ho : M o = some (.inr (.long, [.long ov]))) (hof : ¬ foot R ad o) : Cw l D s0 y_La_near c_La_near 5 (some .int) [(0, 10, 13, 13)] 8 1 6 129 [.ref (ad 0 0 0), .int p0, .int p1, .ref o] M (fun q => foot R ad q ∨ q = o) (fun v M' => ((gbN (true) ((inn p0 (-9999) 9999 && inn p1 (-9999) 9999)) (true) (true)) = 0 ∧ v = some (.int 0) ∧ M' o = some (.inr (.long, [.long ((neF R p0 p1 (nS R)).1).toInt64])) ∧ ∃ ad1 : mAd, ad1 0 0 0 = ad 0 0 0 ∧ RepC (R) ad1 M' ∧ ∀ q, foot (R) ad1 q → foot R ad q ∨ M q = none) ∨ (¬ (gbN (true) ((inn p0 (-9999) 9999 && inn p1 (-9999) 9999)) (true) (true)) = 0 ∧ 0 < thN 2 (gbN (true) ((inn p0 (-9999) 9999 && inn p1 (-9999) 9999)) (true) (true)) ∧ v = some (.int (nI (thN 2 (gbN (true) ((inn p0 (-9999) 9999 && inn p1 (-9999) 9999)) (true) (true))))) ∧ M' o = some (.inr (.long, [.long ov])) ∧ RepC R ad M')) := by
  refine Cw_i 1 [some (.ref (ad 0 0 0)), some (.int p0), some (.int p1), some (.ref o), none] mh_La_118.2.2.1 (by decide +kernel) (Nat.le_of_ble_eq_true rfl) rfl ?_
  intro G e1 e2 e3 C hT hw Rt
  subst e1; subst e2; subst e3
  refine m_aload_n C d_La_near_0 rfl rfl ?_
  refine m_iconst (v := 0) C d_La_near_1 (by decide) ?_
  refine m_aload_n C d_La_near_2 rfl rfl ?_
  refine m_iload_n C d_La_near_3 rfl rfl ?_
  refine m_iload_n C d_La_near_4 rfl rfl ?_
  refine m_callVX (ci := 0) C d_La_near_5 ml_La_55 mw_La_55 mi_AW_near se_AW_near rfl (ct_AW_near _ _ _ R ad p0 p1 M hR hwf.1) (fun _ h => h.elim) rfl rfl (Nat.le_of_ble_eq_true rfl) hR.root (by decide) (fun v9 M9 hp h5 h6 => ?_) (fun E9 M9 hp h5 h6 => ?_)
  · obtain ⟨hc0, rfl, hM9⟩ := hp; have hR9 : RepC R ad M9 := (by rw [hM9]; exact hR); obtain ⟨ad9, ha9, hR9, hf9⟩ : ∃ ad1 : mAd, ad1 0 0 0 = ad 0 0 0 ∧ RepC (R) ad1 M9 ∧ ∀ q, foot (R) ad1 q → foot R ad q ∨ M q = none := ⟨ad, rfl, hR9, fun q hq => Or.inl (hq)⟩
    show mj G 5 1 6 M9 8 [some (.ref (ad 0 0 0)), some (.int p0), some (.int p1), some (.ref o), none] [.int ((neF R p0 p1 (nS R)).1), .int 0, .ref o]
    refine m_i2l C d_La_near_8 ?_
    have hMo : M9 o = some (.inr (.long, [.long ov])) := (h5 o (by rw [ho]; simp) (fun z => z)).trans ho
    refine m_lastE C d_La_near_9 (hw _ (Or.inr rfl)) hMo kt_long (by decide) (show 0 < 1 by decide) (fun M1 M1a M1o => ?_)
    refine m_goto (tgt := 17) C d_La_near_10 (by decide) ?_
    refine m_iconst (v := 0) C d_La_near_17 (by decide) ?_
    have nof : ∀ q, foot (R) ad9 q → q ≠ o := fun q hq z => (hf9 q hq).elim (fun y => hof (by rw [← z]; exact y)) (fun y => by rw [z, ho] at y; cases y)
    exact Rt _ _ _ _ _ _ (by decide) (by decide) d_La_near_18 (Or.inl ⟨(gq_near (x := p0) (y := p1)).n hc0, rfl, M1a, ad9, ha9, hR9.keep (fun q hq => M1o q (nof q hq)), hf9⟩)
  · obtain ⟨hx9, hR9⟩ := hp
    have hMo : M9 o = some (.inr (.long, [.long ov])) := (h5 o (by rw [ho]; simp) (fun z => z)).trans ho
    rcases (gq_near (x := p0) (y := p1)).x hx9 with ⟨hE, hg⟩ | ⟨hE, hg⟩ | ⟨hE, hg⟩ | ⟨hE, hg⟩
    · exact absurd (gbN_1 hg) (by decide)
    · subst hE
      refine mX_c C hT [] [] (0, 10, 13, 13) rfl (fun z hz => by cases hz) (by decide) (by decide) cl_La_13 ca_IO (fun q9 => ?_)
      show mj G 5 1 6 M9 13 [some (.ref (ad 0 0 0)), some (.int p0), some (.int p1), some (.ref o), none] [.ref q9]
      refine m_astore (L' := [some (.ref (ad 0 0 0)), some (.int p0), some (.int p1), some (.ref o), some (.ref q9)]) C d_La_near_13 (by decide) rfl ?_
      refine m_iconst (v := 1) C d_La_near_15 (by decide) ?_
      exact Rt _ _ _ _ _ _ (by decide) (by decide) d_La_near_16 (Or.inr ⟨by rw [hg]; decide, by rw [hg, th_2_2]; decide, by rw [hg, th_2_2]; rfl, hMo, hR9⟩)
    · exact absurd (gbN_3 hg) (by decide)
    · exact absurd (gbN_4 hg) (by decide)

set_option maxHeartbeats 4000000 in
set_option maxRecDepth 100000 in
theorem ct_La_word (l : Launch) (D : ma_D) (s0 : State) (R : mR) (ad : mAd) (o : Nat) (ov : Int64) (p0 : Int64) (p1 : Int32) (M : ma_H) (hR : RepC R ad M) (hwf : WfS R) (ho : M o = some (.inr (.long, [.long ov]))) (hof : ¬ foot R ad o) : Cw l D s0 y_La_word c_La_word 6 (some .int) [(0, 11, 14, 13), (0, 11, 18, 15)] 8 2 12 129 [.ref (ad 0 0 0), .long p0, .int p1, .ref o] M (fun q => foot R ad q ∨ q = o) (fun v M' => ((gbN (true) ((inn p1 0 8 && decide (∀ i, i < tn p1 → is_s (sgn p0 (tn p1) i) = true))) (true) (decide (R 26 0 + p1 ≤ 40))) = 0 ∧ v = some (.int 0) ∧ M' o = some (.inr (.long, [.long (nI (if tn p1 = 0 then 0 else nW R + tn p1)).toInt64])) ∧ ∃ ad1 : mAd, ad1 0 0 0 = ad 0 0 0 ∧ RepC (uR (uR (setF R 27 (fa (R 27) (if tn p1 = 0 then 0 else nW R) p0 (tn p1) (tn p1))) 26 0 (nI (if tn p1 = 0 then 0 else nW R + tn p1))) 28 0 0) ad1 M' ∧ ∀ q, foot (uR (uR (setF R 27 (fa (R 27) (if tn p1 = 0 then 0 else nW R) p0 (tn p1) (tn p1))) 26 0 (nI (if tn p1 = 0 then 0 else nW R + tn p1))) 28 0 0) ad1 q → foot R ad q ∨ M q = none) ∨ (¬ (gbN (true) ((inn p1 0 8 && decide (∀ i, i < tn p1 → is_s (sgn p0 (tn p1) i) = true))) (true) (decide (R 26 0 + p1 ≤ 40))) = 0 ∧ 0 < thN 10 (gbN (true) ((inn p1 0 8 && decide (∀ i, i < tn p1 → is_s (sgn p0 (tn p1) i) = true))) (true) (decide (R 26 0 + p1 ≤ 40))) ∧ v = some (.int (nI (thN 10 (gbN (true) ((inn p1 0 8 && decide (∀ i, i < tn p1 → is_s (sgn p0 (tn p1) i) = true))) (true) (decide (R 26 0 + p1 ≤ 40)))))) ∧ M' o = some (.inr (.long, [.long ov])) ∧ RepC R ad M')) := by
  refine Cw_i 1 [some (.ref (ad 0 0 0)), some (.long p0), none, some (.int p1), some (.ref o), none] mh_La_121.2.2.1 (by decide +kernel) (Nat.le_of_ble_eq_true rfl) rfl ?_
  intro G e1 e2 e3 C hT hw Rt
  subst e1; subst e2; subst e3
  refine m_aload C d_La_word_0 rfl ?_
  refine m_iconst (v := 0) C d_La_word_2 (by decide) ?_
  refine m_aload_n C d_La_word_3 rfl rfl ?_
  refine m_lload_n C d_La_word_4 rfl rfl ?_
  refine m_iload_n C d_La_word_5 rfl rfl ?_
  refine m_callVX (ci := 0) C d_La_word_6 ml_La_58 mw_La_58 mi_AW_word se_AW_word rfl (ct_AW_word _ _ _ R ad p0 p1 M hR hwf.1) (fun q h => hw q (Or.inl h)) rfl rfl (Nat.le_of_ble_eq_true rfl) hR.root (by decide) (fun v9 M9 hp h5 h6 => ?_) (fun E9 M9 hp h5 h6 => ?_)
  · obtain ⟨hc0, rfl, hR9⟩ := hp; obtain ⟨ad9, ha9, hR9, hf9⟩ : ∃ ad1 : mAd, ad1 0 0 0 = ad 0 0 0 ∧ RepC (uR (uR (setF R 27 (fa (R 27) (if tn p1 = 0 then 0 else nW R) p0 (tn p1) (tn p1))) 26 0 (nI (if tn p1 = 0 then 0 else nW R + tn p1))) 28 0 0) ad1 M9 ∧ ∀ q, foot (uR (uR (setF R 27 (fa (R 27) (if tn p1 = 0 then 0 else nW R) p0 (tn p1) (tn p1))) 26 0 (nI (if tn p1 = 0 then 0 else nW R + tn p1))) 28 0 0) ad1 q → foot R ad q ∨ M q = none := ⟨ad, rfl, hR9, fun q hq => Or.inl (foot_lv (fun k i j z => lv_cg (by first | rfl | exact fdR_o R _ (by decide)) (by first | rfl | exact fdR_o R _ (by decide)) (by first | rfl | exact fdR_o R _ (by decide)) (by first | rfl | exact fdR_o R _ (by decide)) z) hq)⟩
    show mj G 6 2 12 M9 9 [some (.ref (ad 0 0 0)), some (.long p0), none, some (.int p1), some (.ref o), none] [.int (nI (if tn p1 = 0 then 0 else nW R + tn p1)), .int 0, .ref o]
    refine m_i2l C d_La_word_9 ?_
    have hMo : M9 o = some (.inr (.long, [.long ov])) := (h5 o (by rw [ho]; simp) hof).trans ho
    refine m_lastE C d_La_word_10 (hw _ (Or.inr rfl)) hMo kt_long (by decide) (show 0 < 1 by decide) (fun M1 M1a M1o => ?_)
    refine m_goto (tgt := 22) C d_La_word_11 (by decide) ?_
    refine m_iconst (v := 0) C d_La_word_22 (by decide) ?_
    have nof : ∀ q, foot (uR (uR (setF R 27 (fa (R 27) (if tn p1 = 0 then 0 else nW R) p0 (tn p1) (tn p1))) 26 0 (nI (if tn p1 = 0 then 0 else nW R + tn p1))) 28 0 0) ad9 q → q ≠ o := fun q hq z => (hf9 q hq).elim (fun y => hof (by rw [← z]; exact y)) (fun y => by rw [z, ho] at y; cases y)
    exact Rt _ _ _ _ _ _ (by decide) (by decide) d_La_word_23 (Or.inl ⟨(gq_word hwf (p := p0) (n := p1)).n hc0, rfl, M1a, ad9, ha9, hR9.keep (fun q hq => M1o q (nof q hq)), hf9⟩)
  · obtain ⟨hx9, hR9⟩ := hp
    have hMo : M9 o = some (.inr (.long, [.long ov])) := (h5 o (by rw [ho]; simp) hof).trans ho
    rcases (gq_word hwf (p := p0) (n := p1)).x hx9 with ⟨hE, hg⟩ | ⟨hE, hg⟩ | ⟨hE, hg⟩ | ⟨hE, hg⟩
    · exact absurd (gbN_1 hg) (by decide)
    · subst hE
      refine mX_c C hT [] [(0, 11, 18, 15)] (0, 11, 14, 13) rfl (fun z hz => by cases hz) (by decide) (by decide) cl_La_13 ca_IO (fun q9 => ?_)
      show mj G 6 2 12 M9 14 [some (.ref (ad 0 0 0)), some (.long p0), none, some (.int p1), some (.ref o), none] [.ref q9]
      refine m_astore (L' := [some (.ref (ad 0 0 0)), some (.long p0), none, some (.int p1), some (.ref o), some (.ref q9)]) C d_La_word_14 (by decide) rfl ?_
      refine m_iconst (v := 1) C d_La_word_16 (by decide) ?_
      exact Rt _ _ _ _ _ _ (by decide) (by decide) d_La_word_17 (Or.inr ⟨by rw [hg]; decide, by rw [hg, th_10_2]; decide, by rw [hg, th_10_2]; rfl, hMo, hR9⟩)
    · exact absurd (gbN_3 hg) (by decide)
    · subst hE
      refine mX_c C hT [(0, 11, 14, 13)] [] (0, 11, 18, 15) rfl (fun z hz => by simp only [List.mem_cons, List.not_mem_nil, or_false] at hz; rcases hz with rfl <;> first | exact ⟨by decide, _, cl_La_13, by simp [knc]⟩) (by decide) (by decide) cl_La_15 ca_UO (fun q9 => ?_)
      show mj G 6 2 12 M9 18 [some (.ref (ad 0 0 0)), some (.long p0), none, some (.int p1), some (.ref o), none] [.ref q9]
      refine m_astore (L' := [some (.ref (ad 0 0 0)), some (.long p0), none, some (.int p1), some (.ref o), some (.ref q9)]) C d_La_word_18 (by decide) rfl ?_
      refine m_iconst (v := 2) C d_La_word_20 (by decide) ?_
      exact Rt _ _ _ _ _ _ (by decide) (by decide) d_La_word_21 (Or.inr ⟨by rw [hg]; decide, by rw [hg, th_10_4]; decide, by rw [hg, th_10_4]; rfl, hMo, hR9⟩)

set_option maxHeartbeats 4000000 in
set_option maxRecDepth 100000 in
theorem ct_La_find (l : Launch) (D : ma_D) (s0 : State) (R : mR) (ad : mAd) (o : Nat) (ov : Int64) (p0 : Int32) (M : ma_H) (hR : RepC R ad M) (hwf : WfS R) (ho : M o = some (.inr (.long, [.long ov]))) (hof : ¬ foot R ad o) : Cw l D s0 y_La_find c_La_find 4 (some .int) [(0, 9, 12, 13), (0, 9, 15, 26)] 7 1 6 168 [.ref (ad 0 0 0), .int p0, .ref o] M (fun q => foot R ad q ∨ q = o) (fun v M' => ((gbN (true) (inn p0 1 10) (decide (nW R ≠ 0)) (true)) = 0 ∧ v = some (.int 0) ∧ M' o = some (.inr (.long, [.long (nI (min (tn p0) (nS R + nL R))).toInt64])) ∧ ∃ ad1 : mAd, ad1 0 0 0 = ad 0 0 0 ∧ RepC (fdR R (tn p0)) ad1 M' ∧ ∀ q, foot (fdR R (tn p0)) ad1 q → foot R ad q ∨ M q = none) ∨ (¬ (gbN (true) (inn p0 1 10) (decide (nW R ≠ 0)) (true)) = 0 ∧ 0 < thN 6 (gbN (true) (inn p0 1 10) (decide (nW R ≠ 0)) (true)) ∧ v = some (.int (nI (thN 6 (gbN (true) (inn p0 1 10) (decide (nW R ≠ 0)) (true))))) ∧ M' o = some (.inr (.long, [.long ov])) ∧ RepC R ad M')) := by
  refine Cw_i 1 [some (.ref (ad 0 0 0)), some (.int p0), some (.ref o), none] mh_La_125.2.2.1 (by decide +kernel) (Nat.le_of_ble_eq_true rfl) rfl ?_
  intro G e1 e2 e3 C hT hw Rt
  subst e1; subst e2; subst e3
  refine m_aload_n C d_La_find_0 rfl rfl ?_
  refine m_iconst (v := 0) C d_La_find_1 (by decide) ?_
  refine m_aload_n C d_La_find_2 rfl rfl ?_
  refine m_iload_n C d_La_find_3 rfl rfl ?_
  refine m_callVX (ci := 0) C d_La_find_4 ml_La_62 mw_La_62 mi_AW_find se_AW_find rfl (ct_AW_find _ _ _ R ad (fdR R (tn p0)) p0 M hR hwf.1 (WfS_Ltr hwf) (fun m9 hm9 => (hwf.2.2.2.2.1 m9 hm9).2) (fun _ _ fs f0 g0 fc fd hq => fd_C hwf (tn p0) fs f0 g0 fc fd hq)) (fun q h => hw q (Or.inl h)) rfl rfl (Nat.le_of_ble_eq_true rfl) hR.root (by decide) (fun v9 M9 hp h5 h6 => ?_) (fun E9 M9 hp h5 h6 => ?_)
  · obtain ⟨hc0, rfl, hR9⟩ := hp; obtain ⟨ad9, ha9, hR9, hf9⟩ : ∃ ad1 : mAd, ad1 0 0 0 = ad 0 0 0 ∧ RepC (fdR R (tn p0)) ad1 M9 ∧ ∀ q, foot (fdR R (tn p0)) ad1 q → foot R ad q ∨ M q = none := ⟨ad, rfl, hR9, fun q hq => Or.inl (foot_lv (fun k i j z => lv_cg (by first | rfl | exact fdR_o R _ (by decide)) (by first | rfl | exact fdR_o R _ (by decide)) (by first | rfl | exact fdR_o R _ (by decide)) (by first | rfl | exact fdR_o R _ (by decide)) z) hq)⟩
    show mj G 4 1 6 M9 7 [some (.ref (ad 0 0 0)), some (.int p0), some (.ref o), none] [.int (fdR R (tn p0) 28 0), .int 0, .ref o]
    refine m_i2l C d_La_find_7 ?_
    have hMo : M9 o = some (.inr (.long, [.long ov])) := (h5 o (by rw [ho]; simp) hof).trans ho
    refine m_lastE C d_La_find_8 (hw _ (Or.inr rfl)) hMo kt_long (by decide) (show 0 < 1 by decide) (fun M1 M1a M1o => ?_)
    refine m_goto (tgt := 18) C d_La_find_9 (by decide) ?_
    refine m_iconst (v := 0) C d_La_find_18 (by decide) ?_
    have nof : ∀ q, foot (fdR R (tn p0)) ad9 q → q ≠ o := fun q hq z => (hf9 q hq).elim (fun y => hof (by rw [← z]; exact y)) (fun y => by rw [z, ho] at y; cases y)
    exact Rt _ _ _ _ _ _ (by decide) (by decide) d_La_find_19 (Or.inl ⟨(gq_find (R := R) (k := p0)).n hc0, rfl, M1a, ad9, ha9, hR9.keep (fun q hq => M1o q (nof q hq)), hf9⟩)
  · obtain ⟨hx9, hR9⟩ := hp
    have hMo : M9 o = some (.inr (.long, [.long ov])) := (h5 o (by rw [ho]; simp) hof).trans ho
    rcases (gq_find (R := R) (k := p0)).x hx9 with ⟨hE, hg⟩ | ⟨hE, hg⟩ | ⟨hE, hg⟩ | ⟨hE, hg⟩
    · exact absurd (gbN_1 hg) (by decide)
    · subst hE
      refine mX_c C hT [] [(0, 9, 15, 26)] (0, 9, 12, 13) rfl (fun z hz => by cases hz) (by decide) (by decide) cl_La_13 ca_IO (fun q9 => ?_)
      show mj G 4 1 6 M9 12 [some (.ref (ad 0 0 0)), some (.int p0), some (.ref o), none] [.ref q9]
      refine m_astore_n (L' := [some (.ref (ad 0 0 0)), some (.int p0), some (.ref o), some (.ref q9)]) C d_La_find_12 rfl (by decide) rfl ?_
      refine m_iconst (v := 1) C d_La_find_13 (by decide) ?_
      exact Rt _ _ _ _ _ _ (by decide) (by decide) d_La_find_14 (Or.inr ⟨by rw [hg]; decide, by rw [hg, th_6_2]; decide, by rw [hg, th_6_2]; rfl, hMo, hR9⟩)
    · subst hE
      refine mX_c C hT [(0, 9, 12, 13)] [] (0, 9, 15, 26) rfl (fun z hz => by simp only [List.mem_cons, List.not_mem_nil, or_false] at hz; rcases hz with rfl <;> first | exact ⟨by decide, _, cl_La_13, by simp [knc]⟩) (by decide) (by decide) cl_La_26 ca_IS (fun q9 => ?_)
      show mj G 4 1 6 M9 15 [some (.ref (ad 0 0 0)), some (.int p0), some (.ref o), none] [.ref q9]
      refine m_astore_n (L' := [some (.ref (ad 0 0 0)), some (.int p0), some (.ref o), some (.ref q9)]) C d_La_find_15 rfl (by decide) rfl ?_
      refine m_iconst (v := 2) C d_La_find_16 (by decide) ?_
      exact Rt _ _ _ _ _ _ (by decide) (by decide) d_La_find_17 (Or.inr ⟨by rw [hg]; decide, by rw [hg, th_6_3]; decide, by rw [hg, th_6_3]; rfl, hMo, hR9⟩)
    · exact absurd (gbN_4 hg) (by decide)

set_option maxHeartbeats 4000000 in
set_option maxRecDepth 100000 in
theorem ct_La_place (l : Launch) (D : ma_D) (s0 : State) (R : mR) (ad : mAd) (o : Nat) (ov : Int64) (p0 : Int32) (p1 : Int32) (M : ma_H) (hR : RepC R ad M) (hwf : WfS R) (ho : M o = some (.inr (.long, [.long ov]))) (hof : ¬ foot R ad o) : Cw l D s0 y_La_place c_La_place 5 (some .int) [(0, 10, 13, 21), (0, 10, 17, 13)] 7 1 6 105 [.ref (ad 0 0 0), .int p0, .int p1, .ref o] M (fun q => foot R ad q ∨ q = o) (fun v M' => ((gbN (inn p0 0 (R 28 0 - 1)) (inn p1 0 5) (true) (true)) = 0 ∧ v = some (.int 0) ∧ M' o = some (.inr (.long, [.long (tell R (tn (R 29 (tn p0))) (tn p1)).toInt64])) ∧ ∃ ad1 : mAd, ad1 0 0 0 = ad 0 0 0 ∧ RepC (R) ad1 M' ∧ ∀ q, foot (R) ad1 q → foot R ad q ∨ M q = none) ∨ (¬ (gbN (inn p0 0 (R 28 0 - 1)) (inn p1 0 5) (true) (true)) = 0 ∧ 0 < thN 3 (gbN (inn p0 0 (R 28 0 - 1)) (inn p1 0 5) (true) (true)) ∧ v = some (.int (nI (thN 3 (gbN (inn p0 0 (R 28 0 - 1)) (inn p1 0 5) (true) (true))))) ∧ M' o = some (.inr (.long, [.long ov])) ∧ RepC R ad M')) := by
  refine Cw_i 1 [some (.ref (ad 0 0 0)), some (.int p0), some (.int p1), some (.ref o), none] mh_La_128.2.2.1 (by decide +kernel) (Nat.le_of_ble_eq_true rfl) rfl ?_
  intro G e1 e2 e3 C hT hw Rt
  subst e1; subst e2; subst e3
  refine m_aload_n C d_La_place_0 rfl rfl ?_
  refine m_iconst (v := 0) C d_La_place_1 (by decide) ?_
  refine m_aload_n C d_La_place_2 rfl rfl ?_
  refine m_iload_n C d_La_place_3 rfl rfl ?_
  refine m_iload_n C d_La_place_4 rfl rfl ?_
  refine m_callVX (ci := 0) C d_La_place_5 ml_La_65 mw_La_65 mi_AW_place se_AW_place rfl (ct_AW_place _ _ _ R ad p0 p1 M hR hwf.1) (fun _ h => h.elim) rfl rfl (Nat.le_of_ble_eq_true rfl) hR.root (by decide) (fun v9 M9 hp h5 h6 => ?_) (fun E9 M9 hp h5 h6 => ?_)
  · obtain ⟨hc0, rfl, hM9⟩ := hp; have hR9 : RepC R ad M9 := (by rw [hM9]; exact hR); obtain ⟨ad9, ha9, hR9, hf9⟩ : ∃ ad1 : mAd, ad1 0 0 0 = ad 0 0 0 ∧ RepC (R) ad1 M9 ∧ ∀ q, foot (R) ad1 q → foot R ad q ∨ M q = none := ⟨ad, rfl, hR9, fun q hq => Or.inl (hq)⟩
    show mj G 5 1 6 M9 8 [some (.ref (ad 0 0 0)), some (.int p0), some (.int p1), some (.ref o), none] [.int (tell R (tn (R 29 (tn p0))) (tn p1)), .int 0, .ref o]
    refine m_i2l C d_La_place_8 ?_
    have hMo : M9 o = some (.inr (.long, [.long ov])) := (h5 o (by rw [ho]; simp) (fun z => z)).trans ho
    refine m_lastE C d_La_place_9 (hw _ (Or.inr rfl)) hMo kt_long (by decide) (show 0 < 1 by decide) (fun M1 M1a M1o => ?_)
    refine m_goto (tgt := 21) C d_La_place_10 (by decide) ?_
    refine m_iconst (v := 0) C d_La_place_21 (by decide) ?_
    have nof : ∀ q, foot (R) ad9 q → q ≠ o := fun q hq z => (hf9 q hq).elim (fun y => hof (by rw [← z]; exact y)) (fun y => by rw [z, ho] at y; cases y)
    exact Rt _ _ _ _ _ _ (by decide) (by decide) d_La_place_22 (Or.inl ⟨(gq_place hwf (i := p0) (w := p1)).n hc0, rfl, M1a, ad9, ha9, hR9.keep (fun q hq => M1o q (nof q hq)), hf9⟩)
  · obtain ⟨hx9, hR9⟩ := hp
    have hMo : M9 o = some (.inr (.long, [.long ov])) := (h5 o (by rw [ho]; simp) (fun z => z)).trans ho
    rcases (gq_place hwf (i := p0) (w := p1)).x hx9 with ⟨hE, hg⟩ | ⟨hE, hg⟩ | ⟨hE, hg⟩ | ⟨hE, hg⟩
    · subst hE
      refine mX_c C hT [] [(0, 10, 17, 13)] (0, 10, 13, 21) rfl (fun z hz => by cases hz) (by decide) (by decide) cl_La_21 ca_IA (fun q9 => ?_)
      show mj G 5 1 6 M9 13 [some (.ref (ad 0 0 0)), some (.int p0), some (.int p1), some (.ref o), none] [.ref q9]
      refine m_astore (L' := [some (.ref (ad 0 0 0)), some (.int p0), some (.int p1), some (.ref o), some (.ref q9)]) C d_La_place_13 (by decide) rfl ?_
      refine m_iconst (v := 1) C d_La_place_15 (by decide) ?_
      exact Rt _ _ _ _ _ _ (by decide) (by decide) d_La_place_16 (Or.inr ⟨by rw [hg]; decide, by rw [hg, th_3_1]; decide, by rw [hg, th_3_1]; rfl, hMo, hR9⟩)
    · subst hE
      refine mX_c C hT [(0, 10, 13, 21)] [] (0, 10, 17, 13) rfl (fun z hz => by simp only [List.mem_cons, List.not_mem_nil, or_false] at hz; rcases hz with rfl <;> first | exact ⟨by decide, _, cl_La_21, by simp [knc]⟩) (by decide) (by decide) cl_La_13 ca_IO (fun q9 => ?_)
      show mj G 5 1 6 M9 17 [some (.ref (ad 0 0 0)), some (.int p0), some (.int p1), some (.ref o), none] [.ref q9]
      refine m_astore (L' := [some (.ref (ad 0 0 0)), some (.int p0), some (.int p1), some (.ref o), some (.ref q9)]) C d_La_place_17 (by decide) rfl ?_
      refine m_iconst (v := 2) C d_La_place_19 (by decide) ?_
      exact Rt _ _ _ _ _ _ (by decide) (by decide) d_La_place_20 (Or.inr ⟨by rw [hg]; decide, by rw [hg, th_3_2]; decide, by rw [hg, th_3_2]; rfl, hMo, hR9⟩)
    · exact absurd (gbN_3 hg) (by decide)
    · exact absurd (gbN_4 hg) (by decide)
