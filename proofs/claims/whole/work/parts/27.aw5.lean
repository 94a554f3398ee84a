/-! ===== range, street, landmark, word ===== -/

set_option maxHeartbeats 4000000 in
set_option maxRecDepth 100000 in
theorem ct_AW_range (l : Launch) (D : ma_D) (s0 : State) (R : mR) (ad : mAd) (s sd lo hi : Int32) (M : ma_H) (hR : RepC R ad M) (hb : Bd R) : Cx l D s0 y_AW_range c_AW_range 6 (some .int) 8 5 33 124 [.ref (ad 0 0 0), .int s, .int sd, .int lo, .int hi] M (foot R ad) (fun v M' => ((kn R s = true) ∧ (gdH sd lo hi) ∧ (True) ∧ (tn (R 7 (tn s)) < 6)) ∧ v = some (.int (nI (tn (R 7 (tn s)) + 1))) ∧ ∃ ad', ad' 0 0 0 = ad 0 0 0 ∧ RepC (uR (uR (uR (uR (uR (R) 8 (6 * (tn s) + tn (R 7 (tn s))) (sd)) 9 (6 * (tn s) + tn (R 7 (tn s))) (lo)) 10 (6 * (tn s) + tn (R 7 (tn s))) (hi)) 7 ((tn s)) (nI (tn (R 7 (tn s)) + 1))) 28 (0) (0)) ad' M' ∧ ∀ q, foot (uR (uR (uR (uR (uR (R) 8 (6 * (tn s) + tn (R 7 (tn s))) (sd)) 9 (6 * (tn s) + tn (R 7 (tn s))) (lo)) 10 (6 * (tn s) + tn (R 7 (tn s))) (hi)) 7 ((tn s)) (nI (tn (R 7 (tn s)) + 1))) 28 (0) (0)) ad' q → foot R ad q ∨ M q = none) (fun E M' => gbx (kn R s = true) (gdH sd lo hi) (True) (tn (R 7 (tn s)) < 6) E ∧ RepC R ad M') := by
  refine Cx_gen 1 [some (.ref (ad 0 0 0)), some (.int s), some (.int sd), some (.int lo), some (.int hi), none] (by decide +kernel) (Nat.le_of_ble_eq_true rfl) rfl ?_
  intro G e1 e2 e3 C hw Rt Th Up
  subst e1; subst e2; subst e3
  refine m_aload_n C d_AW_range_0 rfl rfl ?_
  refine m_iload_n C d_AW_range_1 rfl rfl ?_
  refine m_callVX (ci := 0) C d_AW_range_2 ml_AW_77 mw_AW_77 mi_AW_knownStreet se_AW_knownStreet rfl (ct_AW_knownStreet _ _ _ R ad s M hR hb) (fun _ h => h.elim) rfl rfl (Nat.le_of_ble_eq_true rfl) hR.root (by decide) (fun v9 M9 hp h5 h6 => ?_) (fun E9 M9 hp h5 h6 => ?_)
  · obtain ⟨rfl, hM9, hk⟩ := hp; rw [hM9]
    show mj G 6 (0 + 1) (0 + 6) M 5 [some (.ref (ad 0 0 0)), some (.int s), some (.int sd), some (.int lo), some (.int hi), none] [.ref (ad 17 (tn s) 0)]
    obtain ⟨i0, hi9, hsi, ht⟩ := kn_i hb hk
    rw [ht]
    have hbR := (hb.2 i0 hi9).2.1
    have hb30 := hb.1.1
    refine m_astore (L' := [some (.ref (ad 0 0 0)), some (.int s), some (.int sd), some (.int lo), some (.int hi), some (.ref (ad 17 i0 0))]) C d_AW_range_5 (by decide) rfl ?_
    refine m_iload_n C d_AW_range_7 rfl rfl ?_
    refine m_iload_n C d_AW_range_8 rfl rfl ?_
    refine m_iload C d_AW_range_9 rfl ?_
    refine m_callSX C d_AW_range_11 ml_AW_117 mw_AW_117 mst_AW_requireHouses (ct_AW_requireHouses _ _ _ sd lo hi M) (fun _ h => h.elim) rfl rfl (Nat.le_of_ble_eq_true rfl) (by decide) (fun v7 M7 hp h5 h6 => ?_) (fun E7 M7 hp h5 h6 => ?_)
    · obtain ⟨rfl, hM7, hg⟩ := hp; rw [hM7]
      show mj G 6 (0 + 1 + 3) (0 + 6 + 18) M 14 [some (.ref (ad 0 0 0)), some (.int s), some (.int sd), some (.int lo), some (.int hi), some (.ref (ad 17 i0 0))] []
      refine m_aload C d_AW_range_14 rfl ?_
      refine m_get C fg_AW_121 d_AW_range_16 (hR.st hi9) rfl ?_
      refine m_bipush (v := 6) C d_AW_range_19 (by decide) ?_
      have e3 : nI (tn (R 7 i0)) < 6 ↔ tn (R 7 i0) < 6 := by rw [show (6 : Int32) = nI 6 from rfl, nI_ltI (by omega) (by decide)]
      refine m_icmp_lt (tgt := 34) C d_AW_range_21 (by decide) (fun h3 => ?_) (fun h3 => ?_)
      · rw [e3] at h3
        obtain ⟨lc, hc1, hc2, hc3⟩ := hR.1 19 i0 0 (lv_s (by decide) hi9)
        refine m_aload C d_AW_range_34 rfl ?_
        refine m_get C fg_AW_126 d_AW_range_36 (hR.st hi9) rfl ?_
        refine m_aload C d_AW_range_39 rfl ?_
        refine m_get C fg_AW_121 d_AW_range_41 (hR.st hi9) rfl ?_
        refine m_newE (ci := 3) [.int 0, .int 0, .int 0] C d_AW_range_44 rfl in_HR tyok_HR cl_AW_130 ins_HR ini_HR rfl df_HR (by decide) (by decide) (fun a M1 M1n M1w M1a0 M1o => ?_)
        have M1_a : M1 a = some (.inl (3, [.int 0, .int 0, .int 0])) := M1a0
        refine m_dup C d_AW_range_47 rfl ?_
        refine m_iload_n C d_AW_range_48 rfl rfl ?_
        refine m_iload_n C d_AW_range_49 rfl rfl ?_
        refine m_iload C d_AW_range_50 rfl ?_
        refine m_callI C d_AW_range_52 mw_AW_132 mi_HR_init rfl (ct_HR_init _ _ _ a sd lo hi M1 M1_a) (fun q h => by rw [h]; exact M1w) rfl rfl (Nat.le_of_ble_eq_true rfl) (by decide) (fun v4 M2 hp h5 h6 => ?_)
        obtain ⟨rfl, h2a⟩ := hp
        show mj G 6 (0 + 1 + 3 + 1 + 0) (0 + 6 + 18 + 3 + 0) M2 55 [some (.ref (ad 0 0 0)), some (.int s), some (.int sd), some (.int lo), some (.int hi), some (.ref (ad 17 i0 0))] [.ref a, .int (nI (tn (R 7 i0))), .ref (ad 19 i0 0)]
        have h2o : ∀ q, M q ≠ none → M2 q = M q := fun q hq => by
          have n0 : q ≠ a := fun z => hq (by rw [z]; exact M1n)
          rw [h5 q (by rw [M1o q n0]; exact hq) n0, M1o q n0]
        have k3 := (h2o _ (hR.ne0 (lv_s (k := 19) (by decide) hi9))).trans hc1
        have k0 := (h2o _ (hR.ne0 (lv_o (k := 0) (by decide)))).trans hR.root
        have k17 := (h2o _ (hR.ne0 (lv_s (k := 17) (by decide) hi9))).trans (hR.st hi9)
        refine m_aastE C d_AW_range_55 (r := (R_HR, T_HR, 3)) (hw _ ⟨19, i0, 0, lv_s (by decide) hi9, rfl⟩) k3 kt_HR h2a rfl (nI_pos (by omega)) (by rw [nI_clamp (by omega)]; omega) (fun M3 M3a0 M3o => ?_)
        rw [nI_clamp (by omega)] at M3a0
        have n19 : ad 17 i0 0 ≠ ad 19 i0 0 := hR.ne (lv_s (by decide) hi9) (lv_s (by decide) hi9) (by omega)
        have n03 : ad 0 0 0 ≠ ad 19 i0 0 := hR.ne (lv_o (by decide)) (lv_s (by decide) hi9) (by omega)
        have n07 : ad 0 0 0 ≠ ad 17 i0 0 := hR.ne (lv_o (by decide)) (lv_s (by decide) hi9) (by omega)
        have j17 := (M3o _ n19).trans k17
        refine m_aload C d_AW_range_56 rfl ?_
        refine m_dup C d_AW_range_58 rfl ?_
        refine m_get C fg_AW_121 d_AW_range_59 j17 rfl ?_
        refine m_iconst (v := 1) C d_AW_range_62 (by decide) ?_
        refine m_iadd C d_AW_range_63 ?_
        rw [nI_1]
        refine m_putE C fp_AW_121 d_AW_range_64 (hw _ ⟨17, i0, 0, lv_s (by decide) hi9, rfl⟩) j17 rfl rfl (fun M4 M4a0 M4o => ?_)
        have j0 := (M4o _ n07).trans ((M3o _ n03).trans k0)
        refine m_aload_n C d_AW_range_67 rfl rfl ?_
        refine m_callV (ci := 0) C d_AW_range_68 mw_AW_74 mi_AW_forgetPlaces se_AW_forgetPlaces rfl (ct_AW_forgetPlaces _ _ _ (ad 0 0 0) (.ref (ad 1 0 0)) (.int (nI (nS R))) (.ref (ad 2 0 0)) (.int (nI (nL R))) (.ref (ad 3 0 0)) (.int (nI (nC R))) (.ref (ad 5 0 0)) (.ref (ad 9 0 0)) (.ref (ad 13 0 0)) (.ref (ad 4 0 0)) (.int (nI (nF R))) M4 j0) (fun q h => by rw [h]; exact hw _ ⟨0, 0, 0, lv_o (by decide), rfl⟩) rfl rfl (Nat.le_of_ble_eq_true rfl) j0 (by decide) (fun v7 M5 hp h5 h6 => ?_)
        obtain ⟨rfl, hF, M5o⟩ := hp
        show mj G 6 (0 + 1 + 3 + 1 + 0 + 0) (0 + 6 + 18 + 3 + 0 + 0) M5 71 [some (.ref (ad 0 0 0)), some (.int s), some (.int sd), some (.int lo), some (.int hi), some (.ref (ad 17 i0 0))] []
        have na : ∀ k i j, lv R k i j → ad k i j ≠ a := fun k i j hv z => hR.ne0 hv (by rw [z]; exact M1n)
        have h4a : M5 a = some (.inl (3, [.int sd, .int (hs_first sd lo), .int (hs_last sd hi)])) := (M5o a (Ne.symm (na _ _ _ (lv_o (by decide))))).trans ((M4o a (Ne.symm (na _ _ _ (lv_s (by decide) hi9)))).trans ((M3o a (Ne.symm (na _ _ _ (lv_s (by decide) hi9)))).trans h2a))
        have h43 : M5 (ad 19 i0 0) = some (.inr (.object R_HR, lc.set (tn (R 7 i0)) (.ref a))) := (M5o _ (Ne.symm n03)).trans ((M4o _ (Ne.symm n19)).trans M3a0)
        have hs2 : M5 (ad 17 i0 0) = some (.inl (9, stF (R 2 i0) (ad 18 i0 0) (tn (R 4 i0)) (ad 19 i0 0) (tn (R 7 i0) + 1) (R 11 i0) (R 12 i0) (R 11 i0 + R 13 i0) (R 12 i0 + R 14 i0) (R 15 i0) (R 3 i0))) := (M5o _ (Ne.symm n07)).trans M4a0
        have tC : tn (nI (tn (R 7 i0) + 1)) = tn (R 7 i0) + 1 := tn_nI (by omega)
        obtain ⟨N, hN⟩ : ∃ N : Nat → Nat → Nat → Bool, N = fun k i j => decide (k = 22) && decide (i = i0) && decide (j = tn (R 7 i0)) := ⟨_, rfl⟩
        have hNi : ∀ k i j, N k i j = true ↔ (k = 22 ∧ i = i0) ∧ j = tn (R 7 i0) := fun k i j => by rw [hN]; simp
        obtain ⟨ad1, had1⟩ : ∃ ad1 : mAd, ad1 = mkA ad N (fun _ _ => a) := ⟨_, rfl⟩
        have hadn : ∀ k i j, N k i j = true → ad1 k i j = (fun _ _ => a) k j := fun k i j h => by rw [had1, mkA_n h]
        have hado : ∀ k i j, ¬ N k i j = true → ad1 k i j = ad k i j := fun k i j h => by rw [had1, mkA_o h]
        obtain ⟨R1, hR1⟩ : ∃ R1, R1 = uR (uR (uR (uR (uR (R) 8 (6 * i0 + tn (R 7 i0)) (sd)) 9 (6 * i0 + tn (R 7 i0)) (lo)) 10 (6 * i0 + tn (R 7 i0)) (hi)) 7 (i0) (nI (tn (R 7 i0) + 1))) 28 (0) (0) := ⟨_, rfl⟩
        have hag : ∀ f, f ∉ [8, 9, 10, 7, 28] → R1 f = R f := fun f hf => by rw [hR1, uR_n (fun z => hf (by rw [z]; decide)), uR_n (fun z => hf (by rw [z]; decide)), uR_n (fun z => hf (by rw [z]; decide)), uR_n (fun z => hf (by rw [z]; decide)), uR_n (fun z => hf (by rw [z]; decide))]
        have e28 : R1 28 = fu (R 28) (0) (0) := by rw [hR1, uR_s, uR_n (by decide), uR_n (by decide), uR_n (by decide), uR_n (by decide)]
        have e7 : R1 7 = fu (R 7) (i0) (nI (tn (R 7 i0) + 1)) := by rw [hR1, uR_n (by decide), uR_s, uR_n (by decide), uR_n (by decide), uR_n (by decide)]
        have e10 : R1 10 = fu (R 10) (6 * i0 + tn (R 7 i0)) (hi) := by rw [hR1, uR_n (by decide), uR_n (by decide), uR_s, uR_n (by decide), uR_n (by decide)]
        have e9 : R1 9 = fu (R 9) (6 * i0 + tn (R 7 i0)) (lo) := by rw [hR1, uR_n (by decide), uR_n (by decide), uR_n (by decide), uR_s, uR_n (by decide)]
        have e8 : R1 8 = fu (R 8) (6 * i0 + tn (R 7 i0)) (sd) := by rw [hR1, uR_n (by decide), uR_n (by decide), uR_n (by decide), uR_n (by decide), uR_s]
        have hlo : ∀ k i j, lv R k i j → ¬ N k i j = true := by
          intro k i j hv h2
          rw [hNi] at h2
          have h3 := (lv_k hv).2.2.2.2.2.2.2 h2.1.1
          rw [h2.1.2] at h3; omega
        have hln : ∀ k i j, lv R1 k i j → ¬ N k i j = true → lv R k i j := by
          intro k i j hv h2
          rw [hNi] at h2
          have h3 := lv_k hv
          have h4 := lv_le hv
          simp only [nS, nL, nC, hag 1 (by decide), hag 16 (by decide), hag 21 (by decide), e7] at h3
          refine lv_mk h4 ⟨h3.1, h3.2.1, h3.2.2.1, h3.2.2.2.1, h3.2.2.2.2.1, h3.2.2.2.2.2.1, h3.2.2.2.2.2.2.1, fun z => ?_⟩
          have h5 := h3.2.2.2.2.2.2.2 z
          by_cases hii : i = i0
          · rw [hii] at h5 ⊢; rw [fu_s, tC] at h5; omega
          · rw [fu_n hii] at h5; exact h5
        have hfr : ∀ k i j, lv R1 k i j → N k i j = true → M (ad1 k i j) = none := by
          intro k i j h1 h2
          rw [hadn k i j h2]; exact M1n
        have hin : ∀ k i j k' i' j', lv R1 k i j → lv R1 k' i' j' → N k i j = true → N k' i' j' = true → ad1 k i j = ad1 k' i' j' → k = k' ∧ i = i' ∧ j = j' := by
          intro k i j k' i' j' h1 h2 h3 h4 h5
          rw [hNi] at h3 h4; omega
        have hRa : RepC R ad1 M := hR.ad (fun k i j h => hado k i j (hlo k i j h))
        have hI1 : adI R1 ad1 := adI_new hR (fun k i j => N k i j = true) (fun k i j h1 h2 => ⟨hln k i j h1 h2, hado k i j h2⟩) hfr hin
        have hft : ∀ q, foot R1 ad1 q → foot R ad q ∨ M q = none := foot_new (fun k i j => N k i j = true) (fun k i j h1 h2 => ⟨hln k i j h1 h2, hado k i j h2⟩) hfr
        have hRep : RepC R1 ad1 M5 := by
          refine hRa.updN (fun k i j => (k = 0 ∧ i = 0 ∧ j = 0) ∨ (k = 17 ∧ i = i0 ∧ j = 0) ∨ (k = 19 ∧ i = i0 ∧ j = 0) ∨ N k i j = true) (fun k i j h1 h2 => hln k i j h1 (fun z => h2 (Or.inr (Or.inr (Or.inr (z)))))) hI1 ?_ ?_ ?_
          · intro k i j hv hn
            have hNn : ¬ N k i j = true := hlo k i j hv
            rw [hado k i j hNn]
            rw [M5o _ (hR.ne hv (lv_o (by decide)) (fun z => hn (Or.inl z))), M4o _ (hR.ne hv (lv_s (by decide) hi9) (fun z => hn (Or.inr (Or.inl z)))), M3o _ (hR.ne hv (lv_s (by decide) hi9) (fun z => hn (Or.inr (Or.inr (Or.inl z))))), h2o _ (hR.ne0 hv)]
          · intro k i j hv9 hn c hc
            have hNn : ¬ N k i j = true := fun z => hn (Or.inr (Or.inr (Or.inr (z))))
            have hv := hln k i j hv9 hNn
            by_cases k0 : k = 0
            · subst k0
              have h1 : i < 1 := hv.1
              have h2 : j < 1 := hv.2
              exact absurd (show (0 = 0 ∧ i = 0 ∧ j = 0) ∨ (0 = 17 ∧ i = i0 ∧ j = 0) ∨ (0 = 19 ∧ i = i0 ∧ j = 0) ∨ N 0 i j = true by left; omega) hn
            by_cases k16 : k = 16
            · subst k16
              obtain ⟨f, h1, _⟩ := hc
              exact ⟨f, h1, fun z => absurd z (by show ¬ i < tn (R1 28 0); rw [e28, fu_s, tn_0]; omega)⟩
            by_cases k17 : k = 17
            · subst k17
              have hne : i ≠ i0 := fun z => hn (Or.inr (Or.inl ⟨rfl, z, (lv_k hv).2.2.2.2.2.1 (by decide) (by decide) (by decide)⟩))
              simp only [okC, hag 2 (by decide), hag 3 (by decide), hag 4 (by decide), e7, hag 11 (by decide), hag 12 (by decide), hag 13 (by decide), hag 14 (by decide), hag 15 (by decide), fu_n hne]
              exact hc
            by_cases k19 : k = 19
            · subst k19
              have hne : i ≠ i0 := fun z => hn (Or.inr (Or.inr (Or.inl ⟨rfl, z, (lv_k hv).2.2.2.2.2.1 (by decide) (by decide) (by decide)⟩)))
              simp only [okC, e7, fu_n hne]
              exact hc
            by_cases k22 : k = 22
            · subst k22
              have hj : j < tn (R 7 i) := (lv_k hv).2.2.2.2.2.2.2 rfl
              have hi7 : tn (R 7 i) ≤ 6 := (hb.2 i ((lv_k hv).2.2.1 (by decide) (by decide))).2.1
              have hne : 6 * i + j ≠ 6 * i0 + tn (R 7 i0) := fun z => (by have hii : i = i0 := (by omega); rw [hii] at hj; omega)
              simp only [okC, rgF, rgL, e8, e9, e10, fu_n hne]
              exact hc
            exact okC_cg k16 (lv_le hv) (fun f hf => hag f ((by decide : ∀ k, k < 27 → k ∉ [0, 16, 17, 19, 22] → ∀ f ∈ okD k, f ∉ [8, 9, 10, 7, 28]) k (by have := lv_le hv; omega) (by simp only [List.mem_cons, List.not_mem_nil, or_false, not_or]; exact ⟨k0, k16, k17, k19, k22⟩) f hf)) hc
          · rintro k i j hv (⟨rfl, rfl, rfl⟩ | ⟨rfl, rfl, rfl⟩ | ⟨rfl, rfl, rfl⟩ | hNt)
            · rw [hado _ _ _ (by rw [hNi]; omega)]
              simp only [okC, nS, nL, nC, nF, hag 1 (by decide), hag 16 (by decide), hag 21 (by decide), e28, fu_s, nt0]
              rw [hado 1 0 0 (by rw [hNi]; omega), hado 2 0 0 (by rw [hNi]; omega), hado 3 0 0 (by rw [hNi]; omega), hado 5 0 0 (by rw [hNi]; omega), hado 9 0 0 (by rw [hNi]; omega), hado 13 0 0 (by rw [hNi]; omega), hado 4 0 0 (by rw [hNi]; omega)]
              exact hF
            · rw [hado _ _ _ (by rw [hNi]; omega)]
              simp only [okC, hag 2 (by decide), hag 3 (by decide), hag 4 (by decide), e7, hag 11 (by decide), hag 12 (by decide), hag 13 (by decide), hag 14 (by decide), hag 15 (by decide), fu_s, tC]
              rw [hado 18 _ 0 (by rw [hNi]; omega), hado 19 _ 0 (by rw [hNi]; omega)]
              exact hs2
            · rw [hado _ _ _ (by rw [hNi]; omega)]
              simp only [okC, e7, fu_s, tC]
              refine ⟨_, h43, by rw [List.length_set]; exact hc2, fun q hq => ?_⟩
              rw [List.getElem?_set]
              by_cases hq2 : tn (R 7 i) = q
              · rw [if_pos hq2, if_pos (by omega), hadn 22 _ q (by rw [hNi]; omega)]
              · rw [if_neg hq2, hado 22 _ q (by rw [hNi]; omega)]; exact hc3 q (by omega)
            · rw [hadn _ _ _ hNt]
              rw [hNi] at hNt
              obtain ⟨⟨rfl, rfl⟩, rfl⟩ := hNt
              simp only [okC, rgF, rgL, e8, e9, e10, fu_s]
              exact h4a
        refine m_aload C d_AW_range_71 rfl ?_
        refine m_get C fg_AW_121 d_AW_range_73 hs2 rfl ?_
        exact Rt _ _ _ _ _ _ _ (by decide) (by decide) (⟨⟨hk, hg, trivial, by rw [ht]; exact h3⟩, by rw [ht], ad1, hado 0 0 0 (by rw [hNi]; omega), by rw [ht, ← hR1]; exact hRep, by rw [ht, ← hR1]; exact hft⟩) (Or.inl ⟨rfl, _, rfl, rfl, d_AW_range_76⟩)
      · exact Th _ _ _ _ _ _ _ _ _ _ xw_AW_66 sr_AW_124 d_AW_range_24 d_AW_range_27 (Or.inl ⟨d_AW_range_28, d_AW_range_30, d_AW_range_33⟩) (by decide) (by decide) (by decide) (by decide) (⟨Or.inr (Or.inr (Or.inr ⟨hk, hg, trivial, by rw [ht]; exact fun z => h3 (e3.mpr z), rfl⟩)), hR⟩)
    · obtain ⟨rfl, hM7, hg⟩ := hp; rw [hM7]
      exact Up _ _ _ _ _ _ (by decide) (by decide) (⟨Or.inr (Or.inl ⟨hk, hg, rfl⟩), hR⟩)
  · obtain ⟨rfl, hM9, hk⟩ := hp; rw [hM9]
    exact Up _ _ _ _ _ _ (by decide) (by decide) (⟨Or.inl ⟨hk, rfl⟩, hR⟩)

set_option maxHeartbeats 4000000 in
set_option maxRecDepth 100000 in
theorem ct_AW_street (l : Launch) (D : ma_D) (s0 : State) (R : mR) (ad : mAd) (ar : Int32) (M : ma_H) (hR : RepC R ad M) (hb : Bd R) (hz : Wz R) : Cx l D s0 y_AW_street c_AW_street 2 (some .int) 6 9 74 82 [.ref (ad 0 0 0), .int ar] M (foot R ad) (fun v M' => ((True) ∧ (inn ar 0 9 = true) ∧ (True) ∧ (nS R < 30)) ∧ v = some (.int (nI (nS R))) ∧ ∃ ad', ad' 0 0 0 = ad 0 0 0 ∧ RepC (uR (uR (uR (uR (uR (R) 2 (nS R) (ar)) 4 (nS R) (1)) 5 (3 * nS R) (0)) 1 (0) (nI (nS R + 1))) 28 (0) (0)) ad' M' ∧ ∀ q, foot (uR (uR (uR (uR (uR (R) 2 (nS R) (ar)) 4 (nS R) (1)) 5 (3 * nS R) (0)) 1 (0) (nI (nS R + 1))) 28 (0) (0)) ad' q → foot R ad q ∨ M q = none) (fun E M' => gbx (True) (inn ar 0 9 = true) (True) (nS R < 30) E ∧ RepC R ad M') := by
  refine Cx_gen 0 [some (.ref (ad 0 0 0)), some (.int ar)] (by decide +kernel) (Nat.le_of_ble_eq_true rfl) rfl ?_
  intro G e1 e2 e3 C hw Rt Th Up
  subst e1; subst e2; subst e3
  obtain ⟨lc, hc1, hc2, hc3⟩ := hR.sts
  have hbS := hb.1.1
  refine m_iload_n C d_AW_street_0 rfl rfl ?_
  refine m_if_lt (tgt := 10) C d_AW_street_1 (by decide) (fun h1 => ?_) (fun h1 => ?_)
  · exact Th _ _ _ _ _ _ _ _ _ _ xw_AW_55 sr_AW_57 d_AW_street_10 d_AW_street_13 (Or.inl ⟨d_AW_street_14, d_AW_street_16, d_AW_street_19⟩) (by decide) (by decide) (by decide) (by decide) (⟨Or.inr (Or.inl ⟨trivial, inn_l h1, rfl⟩), hR⟩)
  · refine m_iload_n C d_AW_street_4 rfl rfl ?_
    refine m_bipush (v := 9) C d_AW_street_5 (by decide) ?_
    refine m_icmp_le (tgt := 20) C d_AW_street_7 (by decide) (fun h2 => ?_) (fun h2 => ?_)
    · refine m_aload_n C d_AW_street_20 rfl rfl ?_
      refine m_get C fg_AW_62 d_AW_street_21 hR.root rfl ?_
      refine m_bipush (v := 30) C d_AW_street_24 (by decide) ?_
      have e3 : nI (nS R) < 30 ↔ nS R < 30 := by rw [show (30 : Int32) = nI 30 from rfl, nI_ltI (by omega) (by decide)]
      refine m_icmp_lt (tgt := 39) C d_AW_street_26 (by decide) (fun h3 => ?_) (fun h3 => ?_)
      · rw [e3] at h3
        refine m_aload_n C d_AW_street_39 rfl rfl ?_
        refine m_get C fg_AW_11 d_AW_street_40 hR.root rfl ?_
        refine m_aload_n C d_AW_street_43 rfl rfl ?_
        refine m_get C fg_AW_62 d_AW_street_44 hR.root rfl ?_
        refine m_newE (ci := 9) [.int 0, .null, .int 0, .null, .int 0, .int 0, .int 0, .int 0, .int 0, .int 0, .int 0] C d_AW_street_47 rfl in_St tyok_St cl_AW_9 ins_St ini_St rfl df_St (by decide) (by decide) (fun a M1 M1n M1w M1a0 M1o => ?_)
        have M1_a : M1 a = some (.inl (9, [.int 0, .null, .int 0, .null, .int 0, .int 0, .int 0, .int 0, .int 0, .int 0, .int 0])) := M1a0
        refine m_dup C d_AW_street_50 rfl ?_
        refine m_iload_n C d_AW_street_51 rfl rfl ?_
        refine m_callI C d_AW_street_52 mw_AW_71 mi_St_init rfl (ct_St_init _ _ _ a ar M1 M1_a) (fun q h => by rw [h]; exact M1w) rfl rfl (Nat.le_of_ble_eq_true rfl) (by decide) (fun v4 M2 hp h5 h6 => ?_)
        obtain ⟨rfl, nr, rr, nm, ch, ln, s1, s2, s3, s4, s5, s6, s7, s8, s9⟩ := hp
        show mj G 2 (0 + 1 + 8) (0 + 11 + 63) M2 55 [some (.ref (ad 0 0 0)), some (.int ar)] [.ref a, .int (nI (nS R)), .ref (ad 1 0 0)]
        have h2o : ∀ q, M q ≠ none → M2 q = M q := fun q hq => by
          have n0 : q ≠ a := fun z => hq (by rw [z]; exact M1n)
          rw [h5 q (by rw [M1o q n0]; exact hq) n0, M1o q n0]
        have fr1 : ∀ q, M1 q = none → M q = none := fun q hq => by
          have n0 : q ≠ a := fun z => by rw [z, M1_a] at hq; cases hq
          rw [← M1o q n0]; exact hq
        have k3 := (h2o _ (hR.ne0 (lv_o (k := 1) (by decide)))).trans hc1
        have k0 := (h2o _ (hR.ne0 (lv_o (k := 0) (by decide)))).trans hR.root
        refine m_aastE C d_AW_street_55 (r := (R_St, T_St, 11)) (hw _ ⟨1, 0, 0, lv_o (by decide), rfl⟩) k3 kt_St s1 rfl (nI_pos (by omega)) (by rw [nI_clamp (by omega)]; omega) (fun M3 M3a0 M3o => ?_)
        rw [nI_clamp (by omega)] at M3a0
        have n01 : ad 0 0 0 ≠ ad 1 0 0 := hR.ne (lv_o (by decide)) (lv_o (by decide)) (by omega)
        have j0 := (M3o _ n01).trans k0
        refine m_aload_n C d_AW_street_56 rfl rfl ?_
        refine m_dup C d_AW_street_57 rfl ?_
        refine m_get C fg_AW_62 d_AW_street_58 j0 rfl ?_
        refine m_iconst (v := 1) C d_AW_street_61 (by decide) ?_
        refine m_iadd C d_AW_street_62 ?_
        rw [nI_1]
        refine m_putE C fp_AW_62 d_AW_street_63 (hw _ ⟨0, 0, 0, lv_o (by decide), rfl⟩) j0 rfl rfl (fun M4 M4a0 M4o => ?_)
        refine m_aload_n C d_AW_street_66 rfl rfl ?_
        refine m_callV (ci := 0) C d_AW_street_67 mw_AW_74 mi_AW_forgetPlaces se_AW_forgetPlaces rfl (ct_AW_forgetPlaces _ _ _ (ad 0 0 0) (.ref (ad 1 0 0)) (.int (nI (nS R + 1))) (.ref (ad 2 0 0)) (.int (nI (nL R))) (.ref (ad 3 0 0)) (.int (nI (nC R))) (.ref (ad 5 0 0)) (.ref (ad 9 0 0)) (.ref (ad 13 0 0)) (.ref (ad 4 0 0)) (.int (nI (nF R))) M4 M4a0) (fun q h => by rw [h]; exact hw _ ⟨0, 0, 0, lv_o (by decide), rfl⟩) rfl rfl (Nat.le_of_ble_eq_true rfl) M4a0 (by decide) (fun v7 M5 hp h5 h6 => ?_)
        obtain ⟨rfl, hF, M5o⟩ := hp
        show mj G 2 (0 + 1 + 8 + 0) (0 + 11 + 63 + 0) M5 70 [some (.ref (ad 0 0 0)), some (.int ar)] []
        have nz : ∀ q, M q = none → ∀ k i j, lv R k i j → q ≠ ad k i j := fun q hq k i j hv z => hR.ne0 hv (by rw [← z]; exact hq)
        have h52 : ∀ q, M q = none → M5 q = M2 q := fun q hq => by rw [M5o q (nz q hq 0 0 0 (lv_o (by decide))), M4o q (nz q hq 0 0 0 (lv_o (by decide))), M3o q (nz q hq 1 0 0 (lv_o (by decide)))]
        have h51 : M5 (ad 1 0 0) = some (.inr (.object R_St, lc.set (nS R) (.ref a))) := (M5o _ (Ne.symm n01)).trans ((M4o _ (Ne.symm n01)).trans M3a0)
        have tC : tn (nI (tn (R 1 0) + 1)) = tn (R 1 0) + 1 := tn_nI (n := nS R + 1) (by omega)
        have hz0 := (hz (nS R) h3).1 (Nat.le_refl _)
        have hz5 : ∀ j, j < 3 → R 5 (3 * nS R + j) = 0 := fun j hj => (hz (nS R) h3).2 j hj (Or.inl (Nat.le_refl _))
        have f1 : M nr = none := fr1 _ s7
        have f2 : M rr = none := fr1 _ s8
        have f3 : ∀ j, j < 3 → M (nm j) = none ∧ M (ch j) = none := fun j hj => ⟨fr1 _ (s9 j hj).1, fr1 _ (s9 j hj).2⟩
        obtain ⟨N, hN⟩ : ∃ N : Nat → Nat → Nat → Bool, N = fun k i j => decide (17 ≤ k) && decide (k ≤ 21) && decide (i = nS R) := ⟨_, rfl⟩
        have hNi : ∀ k i j, N k i j = true ↔ (17 ≤ k ∧ k ≤ 21) ∧ i = nS R := fun k i j => by rw [hN]; simp
        obtain ⟨ad1, had1⟩ : ∃ ad1 : mAd, ad1 = mkA ad N (fun k j => if k = 17 then a else if k = 18 then nr else if k = 19 then rr else if k = 20 then nm j else ch j) := ⟨_, rfl⟩
        have hadn : ∀ k i j, N k i j = true → ad1 k i j = (fun k j => if k = 17 then a else if k = 18 then nr else if k = 19 then rr else if k = 20 then nm j else ch j) k j := fun k i j h => by rw [had1, mkA_n h]
        have hado : ∀ k i j, ¬ N k i j = true → ad1 k i j = ad k i j := fun k i j h => by rw [had1, mkA_o h]
        obtain ⟨R1, hR1⟩ : ∃ R1, R1 = uR (uR (uR (uR (uR (R) 2 (nS R) (ar)) 4 (nS R) (1)) 5 (3 * nS R) (0)) 1 (0) (nI (nS R + 1))) 28 (0) (0) := ⟨_, rfl⟩
        have hag : ∀ f, f ∉ [2, 4, 5, 1, 28] → R1 f = R f := fun f hf => by rw [hR1, uR_n (fun z => hf (by rw [z]; decide)), uR_n (fun z => hf (by rw [z]; decide)), uR_n (fun z => hf (by rw [z]; decide)), uR_n (fun z => hf (by rw [z]; decide)), uR_n (fun z => hf (by rw [z]; decide))]
        have e28 : R1 28 = fu (R 28) (0) (0) := by rw [hR1, uR_s, uR_n (by decide), uR_n (by decide), uR_n (by decide), uR_n (by decide)]
        have e1 : R1 1 = fu (R 1) (0) (nI (nS R + 1)) := by rw [hR1, uR_n (by decide), uR_s, uR_n (by decide), uR_n (by decide), uR_n (by decide)]
        have e5 : R1 5 = fu (R 5) (3 * nS R) (0) := by rw [hR1, uR_n (by decide), uR_n (by decide), uR_s, uR_n (by decide), uR_n (by decide)]
        have e4 : R1 4 = fu (R 4) (nS R) (1) := by rw [hR1, uR_n (by decide), uR_n (by decide), uR_n (by decide), uR_s, uR_n (by decide)]
        have e2 : R1 2 = fu (R 2) (nS R) (ar) := by rw [hR1, uR_n (by decide), uR_n (by decide), uR_n (by decide), uR_n (by decide), uR_s]
        have hf5 : R1 5 = R 5 := by rw [e5]; funext q; by_cases hq : q = 3 * nS R; rw [hq, fu_s]; exact (hz5 0 (by decide)).symm; rw [fu_n hq]
        have hem : ∀ j, j < 3 → nmL R (3 * nS R + j) = [] := fun j hj => by simp [nmL, hz5 j hj, tn_0]
        have hlo : ∀ k i j, lv R k i j → ¬ N k i j = true := by
          intro k i j hv h2
          rw [hNi] at h2
          have h3 := (lv_k hv).2.2.1 (by omega) (by omega)
          omega
        have hln : ∀ k i j, lv R1 k i j → ¬ N k i j = true → lv R k i j := by
          intro k i j hv h2
          rw [hNi] at h2
          have h3 := lv_k hv
          have h4 := lv_le hv
          have h5 : nS R1 = nS R + 1 := by rw [nS, e1, fu_s, tC]
          simp only [nL, nC, hag 21 (by decide), hag 16 (by decide), hag 7 (by decide)] at h3
          refine lv_mk h4 ⟨h3.1, h3.2.1, fun z1 z2 => ?_, h3.2.2.2.1, h3.2.2.2.2.1, h3.2.2.2.2.2⟩
          have h6 := h3.2.2.1 z1 z2
          by_cases hk22 : k = 22
          · have h7 := h3.2.2.2.2.2.2.2 hk22
            by_cases hii : i = nS R
            · rw [hii, hz0.2.1] at h7; exact absurd h7 (Nat.not_lt_zero _)
            · omega
          · omega
        have hfr : ∀ k i j, lv R1 k i j → N k i j = true → M (ad1 k i j) = none := by
          intro k i j h1 h2
          have hv3 := lv_k h1
          rw [hadn k i j h2]
          rw [hNi] at h2
          have h9 : k = 17 ∨ k = 18 ∨ k = 19 ∨ k = 20 ∨ k = 21 := by omega
          rcases h9 with rfl | rfl | rfl | rfl | rfl
          · exact M1n
          · exact f1
          · exact f2
          · exact (f3 j (hv3.2.2.2.2.2.2.1 (Or.inl rfl))).1
          · exact (f3 j (hv3.2.2.2.2.2.2.1 (Or.inr rfl))).2
        have hin : ∀ k i j k' i' j', lv R1 k i j → lv R1 k' i' j' → N k i j = true → N k' i' j' = true → ad1 k i j = ad1 k' i' j' → k = k' ∧ i = i' ∧ j = j' := by
          intro k i j k' i' j' h1 h2 h3 h4 h5
          rw [hadn _ _ _ h3, hadn _ _ _ h4] at h5
          rw [hNi] at h3 h4
          have q1 := lv_k h1
          have q2 := lv_k h2
          have h9 : k = 17 ∨ k = 18 ∨ k = 19 ∨ k = 20 ∨ k = 21 := by omega
          have h8 : k' = 17 ∨ k' = 18 ∨ k' = 19 ∨ k' = 20 ∨ k' = 21 := by omega
          have hii : i = i' := by omega
          have a1 := M1_a
          rcases h9 with rfl | rfl | rfl | rfl | rfl <;> rcases h8 with rfl | rfl | rfl | rfl | rfl
          · exact ⟨rfl, hii, by omega⟩
          · exact absurd h5 (ma_ne2 s1 s2)
          · exact absurd h5 (ma_ne2 s1 s5)
          · exact absurd h5 (ma_ne1 s1 (s6.1 j' (q2.2.2.2.2.2.2.1 (Or.inl rfl))).1 (by decide))
          · exact absurd h5 (ma_ne2 s1 (s6.1 j' (q2.2.2.2.2.2.2.1 (Or.inr rfl))).2.1)
          · exact absurd h5 (Ne.symm (ma_ne2 s1 s2))
          · exact ⟨rfl, hii, by omega⟩
          · exact absurd h5 (ma_ne3 s2 s5 (by decide +kernel))
          · exact absurd h5 (Ne.symm (ma_ne2 (s6.1 j' (q2.2.2.2.2.2.2.1 (Or.inl rfl))).1 s2))
          · exact absurd h5 (ma_ne3 s2 (s6.1 j' (q2.2.2.2.2.2.2.1 (Or.inr rfl))).2.1 (by decide +kernel))
          · exact absurd h5 (Ne.symm (ma_ne2 s1 s5))
          · exact absurd h5 (ma_ne3 s5 s2 (by decide +kernel))
          · exact ⟨rfl, hii, by omega⟩
          · exact absurd h5 (Ne.symm (ma_ne2 (s6.1 j' (q2.2.2.2.2.2.2.1 (Or.inl rfl))).1 s5))
          · exact absurd h5 (ma_ne3 s5 (s6.1 j' (q2.2.2.2.2.2.2.1 (Or.inr rfl))).2.1 (by decide +kernel))
          · exact absurd h5 (ma_ne1 (s6.1 j (q1.2.2.2.2.2.2.1 (Or.inl rfl))).1 s1 (by decide))
          · exact absurd h5 (ma_ne2 (s6.1 j (q1.2.2.2.2.2.2.1 (Or.inl rfl))).1 s2)
          · exact absurd h5 (ma_ne2 (s6.1 j (q1.2.2.2.2.2.2.1 (Or.inl rfl))).1 s5)
          · exact ⟨rfl, hii, (s6.2 j j' (q1.2.2.2.2.2.2.1 (Or.inl rfl)) (q2.2.2.2.2.2.2.1 (Or.inl rfl))).1 h5⟩
          · exact absurd h5 (ma_ne2 (s6.1 j (q1.2.2.2.2.2.2.1 (Or.inl rfl))).1 (s6.1 j' (q2.2.2.2.2.2.2.1 (Or.inr rfl))).2.1)
          · exact absurd h5 (Ne.symm (ma_ne2 s1 (s6.1 j (q1.2.2.2.2.2.2.1 (Or.inr rfl))).2.1))
          · exact absurd h5 (ma_ne3 (s6.1 j (q1.2.2.2.2.2.2.1 (Or.inr rfl))).2.1 s2 (by decide +kernel))
          · exact absurd h5 (ma_ne3 (s6.1 j (q1.2.2.2.2.2.2.1 (Or.inr rfl))).2.1 s5 (by decide +kernel))
          · exact absurd h5 (Ne.symm (ma_ne2 (s6.1 j' (q2.2.2.2.2.2.2.1 (Or.inl rfl))).1 (s6.1 j (q1.2.2.2.2.2.2.1 (Or.inr rfl))).2.1))
          · exact ⟨rfl, hii, (s6.2 j j' (q1.2.2.2.2.2.2.1 (Or.inr rfl)) (q2.2.2.2.2.2.2.1 (Or.inr rfl))).2 h5⟩
        have hRa : RepC R ad1 M := hR.ad (fun k i j h => hado k i j (hlo k i j h))
        have hI1 : adI R1 ad1 := adI_new hR (fun k i j => N k i j = true) (fun k i j h1 h2 => ⟨hln k i j h1 h2, hado k i j h2⟩) hfr hin
        have hft : ∀ q, foot R1 ad1 q → foot R ad q ∨ M q = none := foot_new (fun k i j => N k i j = true) (fun k i j h1 h2 => ⟨hln k i j h1 h2, hado k i j h2⟩) hfr
        have hRep : RepC R1 ad1 M5 := by
          refine hRa.updN (fun k i j => (k = 0 ∧ i = 0 ∧ j = 0) ∨ (k = 1 ∧ i = 0 ∧ j = 0) ∨ N k i j = true) (fun k i j h1 h2 => hln k i j h1 (fun z => h2 (Or.inr (Or.inr (z))))) hI1 ?_ ?_ ?_
          · intro k i j hv hn
            have hNn : ¬ N k i j = true := hlo k i j hv
            rw [hado k i j hNn]
            rw [M5o _ (hR.ne hv (lv_o (by decide)) (fun z => hn (Or.inl z))), M4o _ (hR.ne hv (lv_o (by decide)) (fun z => hn (Or.inl z))), M3o _ (hR.ne hv (lv_o (by decide)) (fun z => hn (Or.inr (Or.inl z)))), h2o _ (hR.ne0 hv)]
          · intro k i j hv9 hn c hc
            have hNn : ¬ N k i j = true := fun z => hn (Or.inr (Or.inr (z)))
            have hv := hln k i j hv9 hNn
            by_cases k0 : k = 0
            · subst k0
              have h1 : i < 1 := hv.1
              have h2 : j < 1 := hv.2
              exact absurd (show (0 = 0 ∧ i = 0 ∧ j = 0) ∨ (0 = 1 ∧ i = 0 ∧ j = 0) ∨ N 0 i j = true by left; omega) hn
            by_cases k1 : k = 1
            · subst k1
              have h1 : i < 1 := hv.1
              have h2 : j < 1 := hv.2
              exact absurd (show (1 = 0 ∧ i = 0 ∧ j = 0) ∨ (1 = 1 ∧ i = 0 ∧ j = 0) ∨ N 1 i j = true by right; left; omega) hn
            by_cases k16 : k = 16
            · subst k16
              obtain ⟨f, h1, _⟩ := hc
              exact ⟨f, h1, fun z => absurd z (by show ¬ i < tn (R1 28 0); rw [e28, fu_s, tn_0]; omega)⟩
            by_cases k17 : k = 17
            · subst k17
              have hv8 : i < nS R := (lv_k hv).2.2.1 (by decide) (by decide)
              simp only [okC, e2, hag 3 (by decide), e4, hag 7 (by decide), hag 11 (by decide), hag 12 (by decide), hag 13 (by decide), hag 14 (by decide), hag 15 (by decide), fu_n (Nat.ne_of_lt hv8)]
              exact hc
            by_cases k20 : k = 20
            · subst k20
              have hv8 : i < nS R := (lv_k hv).2.2.1 (by decide) (by decide)
              have hj := (lv_k hv).2.2.2.2.2.2.1 (Or.inl rfl)
              simp only [okC, nmL_congr (k := 3 * i + j) hf5 (hag 6 (by decide))]
              exact hc
            by_cases k21 : k = 21
            · subst k21
              have hv8 : i < nS R := (lv_k hv).2.2.1 (by decide) (by decide)
              have hj := (lv_k hv).2.2.2.2.2.2.1 (Or.inr rfl)
              simp only [okC, nmL_congr (k := 3 * i + j) hf5 (hag 6 (by decide))]
              exact hc
            exact okC_cg k16 (lv_le hv) (fun f hf => hag f ((by decide : ∀ k, k < 27 → k ∉ [0, 1, 16, 17, 20, 21] → ∀ f ∈ okD k, f ∉ [2, 4, 5, 1, 28]) k (by have := lv_le hv; omega) (by simp only [List.mem_cons, List.not_mem_nil, or_false, not_or]; exact ⟨k0, k1, k16, k17, k20, k21⟩) f hf)) hc
          · rintro k i j hv (⟨rfl, rfl, rfl⟩ | ⟨rfl, rfl, rfl⟩ | hNt)
            · rw [hado _ _ _ (by rw [hNi]; omega)]
              simp only [okC, nS, nL, nC, nF, e1, hag 16 (by decide), hag 21 (by decide), e28, fu_s, nt0, tC]
              rw [hado 1 0 0 (by rw [hNi]; omega), hado 2 0 0 (by rw [hNi]; omega), hado 3 0 0 (by rw [hNi]; omega), hado 5 0 0 (by rw [hNi]; omega), hado 9 0 0 (by rw [hNi]; omega), hado 13 0 0 (by rw [hNi]; omega), hado 4 0 0 (by rw [hNi]; omega)]
              exact hF
            · rw [hado _ _ _ (by rw [hNi]; omega)]
              simp only [okC, nS, e1, fu_s, tC]
              refine ⟨_, h51, by rw [List.length_set]; exact hc2, fun q hq => ?_⟩
              have hq : q < nS R + 1 := hq
              rw [List.getElem?_set]
              by_cases hq2 : nS R = q
              · rw [if_pos hq2, if_pos (by omega), hadn 17 q 0 (by rw [hNi]; omega)]; rfl
              · rw [if_neg hq2, hado 17 q 0 (by rw [hNi]; omega)]; exact hc3 q (by omega)
            · rw [hadn _ _ _ hNt]
              rw [hNi] at hNt
              have h9 : k = 17 ∨ k = 18 ∨ k = 19 ∨ k = 20 ∨ k = 21 := by omega
              have hv3 := lv_k hv
              obtain ⟨h17, rfl⟩ := hNt
              rcases h9 with rfl | rfl | rfl | rfl | rfl
              · show okC R1 ad1 17 _ _ (M5 a)
                simp only [okC, e2, hag 3 (by decide), e4, hag 7 (by decide), hag 11 (by decide), hag 12 (by decide), hag 13 (by decide), hag 14 (by decide), hag 15 (by decide), fu_s, hz0]
                rw [hadn 18 _ 0 (by rw [hNi]; omega), hadn 19 _ 0 (by rw [hNi]; omega), h52 _ M1n]; exact s1
              · show okC R1 ad1 18 _ _ (M5 nr)
                rw [h52 _ f1]; exact ⟨ln, s2, s3, fun q hq => by rw [hadn 20 _ q (by rw [hNi]; omega)]; exact s4 q hq⟩
              · show okC R1 ad1 19 _ _ (M5 rr)
                rw [h52 _ f2]; refine ⟨_, s5, rfl, fun q hq => ?_⟩
                rw [hag 7 (by decide), hz0.2.1] at hq; exact absurd hq (Nat.not_lt_zero _)
              · have hj := hv3.2.2.2.2.2.2.1 (Or.inl rfl)
                show okC R1 ad1 20 _ _ (M5 (nm j))
                simp only [okC, nmL_congr (k := 3 * nS R + j) hf5 (hag 6 (by decide))]
                rw [hadn 21 _ j (by rw [hNi]; omega), h52 _ (f3 j hj).1, hem j hj]; exact (s6.1 j hj).1
              · have hj := hv3.2.2.2.2.2.2.1 (Or.inr rfl)
                show okC R1 ad1 21 _ _ (M5 (ch j))
                simp only [okC, nmL_congr (k := 3 * nS R + j) hf5 (hag 6 (by decide))]
                rw [h52 _ (f3 j hj).2, hem j hj]; exact ⟨_, (s6.1 j hj).2⟩
        refine m_aload_n C d_AW_street_70 rfl rfl ?_
        refine m_get C fg_AW_62 d_AW_street_71 hF rfl ?_
        refine m_iconst (v := 1) C d_AW_street_74 (by decide) ?_
        refine m_isub C d_AW_street_75 ?_
        rw [nI_sub1 (by omega)]
        exact Rt _ _ _ _ _ _ _ (by decide) (by decide) (⟨⟨trivial, inn_t h1 h2, trivial, h3⟩, rfl, ad1, hado 0 0 0 (by rw [hNi]; omega), by rw [← hR1]; exact hRep, by rw [← hR1]; exact hft⟩) (Or.inl ⟨rfl, _, rfl, rfl, d_AW_street_76⟩)
      · exact Th _ _ _ _ _ _ _ _ _ _ xw_AW_66 sr_AW_68 d_AW_street_29 d_AW_street_32 (Or.inl ⟨d_AW_street_33, d_AW_street_35, d_AW_street_38⟩) (by decide) (by decide) (by decide) (by decide) (⟨Or.inr (Or.inr (Or.inr ⟨trivial, inn_t h1 h2, trivial, fun z => h3 (e3.mpr z), rfl⟩)), hR⟩)
    · exact Th _ _ _ _ _ _ _ _ _ _ xw_AW_55 sr_AW_57 d_AW_street_10 d_AW_street_13 (Or.inl ⟨d_AW_street_14, d_AW_street_16, d_AW_street_19⟩) (by decide) (by decide) (by decide) (by decide) (⟨Or.inr (Or.inl ⟨trivial, inn_r h2, rfl⟩), hR⟩)
