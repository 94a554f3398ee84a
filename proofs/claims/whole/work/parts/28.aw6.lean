/-! ===== landmark, word, place ===== -/
theorem lmL_new {R R1 : mR} {m : Nat} {p : Int64} {n : Nat} (hm : m < 2 ^ 31) (h19 : R1 19 = fu (R 19) n (nI m)) (h20 : R1 20 = fa (R 20) (8 * n) p m m) : lmL R1 n = sgns p m m := by
  simp only [lmL, h19, h20, fu_s, tn_nI hm, sgns]
  apply List.map_congr_left
  intro c hc
  rw [List.mem_range] at hc
  rw [fa_in (by omega), Nat.add_sub_cancel_left]
theorem lmL_oth {R R1 : mR} {k m : Nat} {p : Int64} {n : Nat} (hk : k < n) (hl : tn (R 19 k) ≤ 8) (h19 : R1 19 = fu (R 19) n (nI m)) (h20 : R1 20 = fa (R 20) (8 * n) p m m) : lmL R1 k = lmL R k := by
  simp only [lmL, h19, h20, fu_n (Nat.ne_of_lt hk)]
  apply List.map_congr_left
  intro c hc
  rw [List.mem_range] at hc
  rw [fa_out (by omega)]

set_option maxHeartbeats 4000000 in
set_option maxRecDepth 100000 in
theorem ct_AW_landmark (l : Launch) (D : ma_D) (s0 : State) (R : mR) (ad : mAd) (s h : Int32) (p : Int64) (n : Int32) (M : ma_H) (hR : RepC R ad M) (hb : Bd R) (hlm : ∀ m, m < nL R → tn (R 19 m) ≤ 8) : Cx l D s0 y_AW_landmark c_AW_landmark 7 (some .int) 7 7 45 105 [.ref (ad 0 0 0), .int s, .int h, .long p, .int n] M (foot R ad) (fun v M' => ((kn R s = true) ∧ (inn h 1 9999 = true ∧ gdL p n) ∧ (¬ ∃ m, m < nL R ∧ lmL R m = sgns p (tn n) (tn n)) ∧ (nL R < 20)) ∧ v = some (.int (nI (nL R))) ∧ ∃ ad', ad' 0 0 0 = ad 0 0 0 ∧ RepC (uR (uR (setF (uR (uR (uR (R) 17 (nL R) (s)) 18 (nL R) (h)) 19 (nL R) (nI (tn n))) 20 (fa (R 20) (8 * nL R) p (tn n) (tn n))) 16 (0) (nI (nL R + 1))) 28 (0) (0)) ad' M' ∧ ∀ q, foot (uR (uR (setF (uR (uR (uR (R) 17 (nL R) (s)) 18 (nL R) (h)) 19 (nL R) (nI (tn n))) 20 (fa (R 20) (8 * nL R) p (tn n) (tn n))) 16 (0) (nI (nL R + 1))) 28 (0) (0)) ad' q → foot R ad q ∨ M q = none) (fun E M' => gbx (kn R s = true) (inn h 1 9999 = true ∧ gdL p n) (¬ ∃ m, m < nL R ∧ lmL R m = sgns p (tn n) (tn n)) (nL R < 20) E ∧ RepC R ad M') := by
  refine Cx_gen 1 [some (.ref (ad 0 0 0)), some (.int s), some (.int h), some (.long p), none, some (.int n), none] (by decide +kernel) (Nat.le_of_ble_eq_true rfl) rfl ?_
  intro G e1 e2 e3 C hw Rt Th Up
  subst e1; subst e2; subst e3
  obtain ⟨lc, hc1, hc2, hc3⟩ := hR.lms
  have hbL := hb.1.2.1
  refine m_aload_n C d_AW_landmark_0 rfl rfl ?_
  refine m_iload_n C d_AW_landmark_1 rfl rfl ?_
  refine m_callVX (ci := 0) C d_AW_landmark_2 ml_AW_77 mw_AW_77 mi_AW_knownStreet se_AW_knownStreet rfl (ct_AW_knownStreet _ _ _ R ad s M hR hb) (fun _ h => h.elim) rfl rfl (Nat.le_of_ble_eq_true rfl) hR.root (by decide) (fun v9 M9 hp h5 h6 => ?_) (fun E9 M9 hp h5 h6 => ?_)
  · obtain ⟨rfl, hM9, hk⟩ := hp; rw [hM9]
    show mj G 7 (0 + 1) (0 + 6) M 5 [some (.ref (ad 0 0 0)), some (.int s), some (.int h), some (.long p), none, some (.int n), none] [.ref (ad 17 (tn s) 0)]
    refine m_pop C d_AW_landmark_5 rfl ?_
    refine m_iload_n C d_AW_landmark_6 rfl rfl ?_
    refine m_callSX C d_AW_landmark_7 ml_AW_147 mw_AW_147 mst_AW_requireHouse (ct_AW_requireHouse _ _ _ h M) (fun _ h => h.elim) rfl rfl (Nat.le_of_ble_eq_true rfl) (by decide) (fun v8 M8 hp h5 h6 => ?_) (fun E8 M8 hp h5 h6 => ?_)
    · obtain ⟨rfl, hM8, hh⟩ := hp; rw [hM8]
      show mj G 7 (0 + 1 + 1) (0 + 6 + 6) M 10 [some (.ref (ad 0 0 0)), some (.int s), some (.int h), some (.long p), none, some (.int n), none] []
      refine m_lload_n C d_AW_landmark_10 rfl rfl ?_
      refine m_iload C d_AW_landmark_11 rfl ?_
      refine m_callSX C d_AW_landmark_13 ml_AW_85 mw_AW_85 mst_AW_requireLetters (ct_AW_requireLetters _ _ _ p n M) (fun _ h => h.elim) rfl rfl (Nat.le_of_ble_eq_true rfl) (by decide) (fun v7 M7 hp h5 h6 => ?_) (fun E7 M7 hp h5 h6 => ?_)
      · obtain ⟨rfl, hM7, hg⟩ := hp; rw [hM7]
        show mj G 7 (0 + 1 + 1 + 1) (0 + 6 + 6 + 6) M 16 [some (.ref (ad 0 0 0)), some (.int s), some (.int h), some (.long p), none, some (.int n), none] []
        obtain ⟨m, hm, hnm⟩ := inn8 (show inn n 0 8 = true from inn_t (fun z => Int32.not_lt.mpr (inn_i hg.1).1 (Int32.lt_trans z (by decide))) (inn_i hg.1).2)
        have htn : tn n = m := by rw [hnm, tn_nI (by omega)]
        subst hnm
        refine m_newE (ci := 4) [.int 0, .int 0, .null] C d_AW_landmark_16 rfl in_LM tyok_LM cl_AW_15 ins_LM ini_LM rfl df_LM (by decide) (by decide) (fun a M1 M1n M1w M1a0 M1o => ?_)
        have M1_a : M1 a = some (.inl (4, [.int 0, .int 0, .null])) := M1a0
        refine m_dup C d_AW_landmark_19 rfl ?_
        refine m_iload_n C d_AW_landmark_20 rfl rfl ?_
        refine m_iload_n C d_AW_landmark_21 rfl rfl ?_
        refine m_callI C d_AW_landmark_22 mw_AW_150 mi_LM_init rfl (ct_LM_init _ _ _ a s h M1 M1_a) (fun q h => by rw [h]; exact M1w) rfl rfl (Nat.le_of_ble_eq_true rfl) (by decide) (fun v4 M2 hp h5 h6 => ?_)
        obtain ⟨rfl, nm, ch, s1, s2, s3, s4, s5⟩ := hp
        show mj G 7 (0 + 1 + 1 + 1 + 1 + 2) (0 + 6 + 6 + 6 + 3 + 18) M2 25 [some (.ref (ad 0 0 0)), some (.int s), some (.int h), some (.long p), none, some (.int (nI m)), none] [.ref a]
        have h2o : ∀ q, M q ≠ none → M2 q = M q := fun q hq => by
          have n0 : q ≠ a := fun z => hq (by rw [z]; exact M1n)
          rw [h5 q (by rw [M1o q n0]; exact hq) n0, M1o q n0]
        have fr1 : ∀ q, M1 q = none → M q = none := fun q hq => by
          have n0 : q ≠ a := fun z => by rw [z, M1_a] at hq; cases hq
          rw [← M1o q n0]; exact hq
        have f1 : M nm = none := fr1 _ s1
        have f2 : M ch = none := fr1 _ s2
        have nma : nm ≠ a := fun z => by rw [z, M1_a] at s1; cases s1
        have cha : ch ≠ a := fun z => by rw [z, M1_a] at s2; cases s2
        refine m_astore (L' := [some (.ref (ad 0 0 0)), some (.int s), some (.int h), some (.long p), none, some (.int (nI m)), some (.ref a)]) C d_AW_landmark_25 (by decide) rfl ?_
        refine m_aload C d_AW_landmark_27 rfl ?_
        refine m_get C fg_AW_152 d_AW_landmark_29 s4 rfl ?_
        refine m_lload_n C d_AW_landmark_32 rfl rfl ?_
        refine m_iload C d_AW_landmark_33 rfl ?_
        refine m_callV (ci := 5) C d_AW_landmark_35 mw_AW_97 mi_Na_append se_Na_append rfl (ct_Na_append _ _ _ nm ch (List.replicate 16 (.int 0)) [] p m hm M2 s5 (by simp; omega)) (fun q h => h.elim (fun z => by rw [z]; exact h6 _ s1 (by rw [s5.1]; simp)) (fun z => by rw [z]; exact h6 _ s2 (by rw [s5.2.1]; simp))) rfl rfl (Nat.le_of_ble_eq_true rfl) s5.1 (by decide) (fun v5 M3 hp h35 h36 => ?_)
        obtain ⟨rfl, l9, hN3⟩ := hp
        show mj G 7 (0 + 1 + 1 + 1 + 1 + 2 + 0) (0 + 6 + 6 + 6 + 3 + 18 + 0) M3 38 [some (.ref (ad 0 0 0)), some (.int s), some (.int h), some (.long p), none, some (.int (nI m)), some (.ref a)] []
        rw [List.nil_append] at hN3
        have nz : ∀ q, M q = none → ∀ k i j, lv R k i j → ad k i j ≠ q := fun q hq k i j hv z => hR.ne0 hv (by rw [z]; exact hq)
        have h3o : ∀ q, M q ≠ none → M3 q = M q := fun q hq => by
          rw [h35 q (by rw [h2o q hq]; exact hq) (fun z => z.elim (fun z => hq (by rw [z]; exact f1)) (fun z => hq (by rw [z]; exact f2))), h2o q hq]
        have h3a : M3 a = some (.inl (4, [.int s, .int h, .ref nm])) := (h35 a (by rw [s4]; simp) (fun z => z.elim (Ne.symm nma) (Ne.symm cha))).trans s4
        have hR3 : RepC R ad M3 := hR.kept (fun k i j hv => h3o _ (hR.ne0 hv))
        refine m_aload_n C d_AW_landmark_38 rfl rfl ?_
        refine m_aload C d_AW_landmark_39 rfl ?_
        refine m_get C fg_AW_152 d_AW_landmark_41 h3a rfl ?_
        refine m_callV (ci := 0) C d_AW_landmark_44 mw_AW_156 mi_AW_hasLandmarkNamed se_AW_hasLandmarkNamed rfl (ct_AW_hasLandmarkNamed _ _ _ R ad nm ch l9 (sgns p m m) M3 hR3 hb hN3) (fun _ h => h.elim) rfl rfl (Nat.le_of_ble_eq_true rfl) hR3.root (by decide) (fun v5 M9 hp h95 h96 => ?_)
        obtain ⟨rfl, hM9⟩ := hp; rw [hM9]
        show mj G 7 (0 + 1 + 1 + 1 + 1 + 2 + 0 + 0) (0 + 6 + 6 + 6 + 3 + 18 + 0 + 0) M3 47 [some (.ref (ad 0 0 0)), some (.int s), some (.int h), some (.long p), none, some (.int (nI m)), some (.ref a)] [.int (b2i (decide (∃ i, i < nL R ∧ lmL R i = sgns p m m)))]
        refine m_if_eq (tgt := 60) C d_AW_landmark_47 (by decide) (fun h2 => ?_) (fun h2 => ?_)
        · rw [b2i_eq0, decide_eq_false_iff_not] at h2
          refine m_aload_n C d_AW_landmark_60 rfl rfl ?_
          refine m_get C fg_AW_162 d_AW_landmark_61 hR3.root rfl ?_
          refine m_bipush (v := 20) C d_AW_landmark_64 (by decide) ?_
          have e3 : nI (nL R) < 20 ↔ nL R < 20 := by rw [show (20 : Int32) = nI 20 from rfl, nI_ltI (by omega) (by decide)]
          refine m_icmp_lt (tgt := 79) C d_AW_landmark_66 (by decide) (fun h3 => ?_) (fun h3 => ?_)
          · rw [e3] at h3
            refine m_aload_n C d_AW_landmark_79 rfl rfl ?_
            refine m_get C fg_AW_17 d_AW_landmark_80 hR3.root rfl ?_
            refine m_aload_n C d_AW_landmark_83 rfl rfl ?_
            refine m_get C fg_AW_162 d_AW_landmark_84 hR3.root rfl ?_
            refine m_aload C d_AW_landmark_87 rfl ?_
            have k3 := (h3o _ (hR.ne0 (lv_o (k := 2) (by decide)))).trans hc1
            refine m_aastE C d_AW_landmark_89 (r := (R_LM, T_LM, 3)) (hw _ ⟨2, 0, 0, lv_o (by decide), rfl⟩) k3 kt_LM h3a rfl (nI_pos (by omega)) (by rw [nI_clamp (by omega)]; omega) (fun M4 M4a0 M4o => ?_)
            rw [nI_clamp (by omega)] at M4a0
            have n02 : ad 0 0 0 ≠ ad 2 0 0 := hR.ne (lv_o (by decide)) (lv_o (by decide)) (by omega)
            have j0 := (M4o _ n02).trans hR3.root
            refine m_aload_n C d_AW_landmark_90 rfl rfl ?_
            refine m_dup C d_AW_landmark_91 rfl ?_
            refine m_get C fg_AW_162 d_AW_landmark_92 j0 rfl ?_
            refine m_iconst (v := 1) C d_AW_landmark_95 (by decide) ?_
            refine m_iadd C d_AW_landmark_96 ?_
            rw [nI_1]
            refine m_putE C fp_AW_162 d_AW_landmark_97 (hw _ ⟨0, 0, 0, lv_o (by decide), rfl⟩) j0 rfl rfl (fun M5 M5a0 M5o => ?_)
            refine m_aload_n C d_AW_landmark_100 rfl rfl ?_
            refine m_callV (ci := 0) C d_AW_landmark_101 mw_AW_74 mi_AW_forgetPlaces se_AW_forgetPlaces rfl (ct_AW_forgetPlaces _ _ _ (ad 0 0 0) (.ref (ad 1 0 0)) (.int (nI (nS R))) (.ref (ad 2 0 0)) (.int (nI (nL R + 1))) (.ref (ad 3 0 0)) (.int (nI (nC R))) (.ref (ad 5 0 0)) (.ref (ad 9 0 0)) (.ref (ad 13 0 0)) (.ref (ad 4 0 0)) (.int (nI (nF R))) M5 M5a0) (fun q h => by rw [h]; exact hw _ ⟨0, 0, 0, lv_o (by decide), rfl⟩) rfl rfl (Nat.le_of_ble_eq_true rfl) M5a0 (by decide) (fun v7 M6 hp h5 h6 => ?_)
            obtain ⟨rfl, hF, M6o⟩ := hp
            show mj G 7 (0 + 1 + 1 + 1 + 1 + 2 + 0 + 0 + 0) (0 + 6 + 6 + 6 + 3 + 18 + 0 + 0 + 0) M6 104 [some (.ref (ad 0 0 0)), some (.int s), some (.int h), some (.long p), none, some (.int (nI m)), some (.ref a)] []
            have h63 : ∀ q, M q = none → M6 q = M3 q := fun q hq => by rw [M6o q (Ne.symm (nz q hq 0 0 0 (lv_o (by decide)))), M5o q (Ne.symm (nz q hq 0 0 0 (lv_o (by decide)))), M4o q (Ne.symm (nz q hq 2 0 0 (lv_o (by decide))))]
            have h62 : M6 (ad 2 0 0) = some (.inr (.object R_LM, lc.set (nL R) (.ref a))) := (M6o _ (Ne.symm n02)).trans ((M5o _ (Ne.symm n02)).trans M4a0)
            have tC : tn (nI (tn (R 16 0) + 1)) = tn (R 16 0) + 1 := tn_nI (n := nL R + 1) (by omega)
            obtain ⟨N, hN⟩ : ∃ N : Nat → Nat → Nat → Bool, N = fun k i j => decide (23 ≤ k) && decide (k ≤ 25) && decide (i = nL R) := ⟨_, rfl⟩
            have hNi : ∀ k i j, N k i j = true ↔ (23 ≤ k ∧ k ≤ 25) ∧ i = nL R := fun k i j => by rw [hN]; simp
            obtain ⟨ad1, had1⟩ : ∃ ad1 : mAd, ad1 = mkA ad N (fun k _ => if k = 23 then a else if k = 24 then nm else ch) := ⟨_, rfl⟩
            have hadn : ∀ k i j, N k i j = true → ad1 k i j = (fun k _ => if k = 23 then a else if k = 24 then nm else ch) k j := fun k i j h => by rw [had1, mkA_n h]
            have hado : ∀ k i j, ¬ N k i j = true → ad1 k i j = ad k i j := fun k i j h => by rw [had1, mkA_o h]
            obtain ⟨R1, hR1⟩ : ∃ R1, R1 = uR (uR (setF (uR (uR (uR (R) 17 (nL R) (s)) 18 (nL R) (h)) 19 (nL R) (nI m)) 20 (fa (R 20) (8 * nL R) p m m)) 16 (0) (nI (nL R + 1))) 28 (0) (0) := ⟨_, rfl⟩
            have hag : ∀ f, f ∉ [17, 18, 19, 20, 16, 28] → R1 f = R f := fun f hf => by rw [hR1, uR_n (fun z => hf (by rw [z]; decide)), uR_n (fun z => hf (by rw [z]; decide)), setF_n (fun z => hf (by rw [z]; decide)), uR_n (fun z => hf (by rw [z]; decide)), uR_n (fun z => hf (by rw [z]; decide)), uR_n (fun z => hf (by rw [z]; decide))]
            have e28 : R1 28 = fu (R 28) (0) (0) := by rw [hR1, uR_s, uR_n (by decide), setF_n (by decide), uR_n (by decide), uR_n (by decide), uR_n (by decide)]
            have e16 : R1 16 = fu (R 16) (0) (nI (nL R + 1)) := by rw [hR1, uR_n (by decide), uR_s, setF_n (by decide), uR_n (by decide), uR_n (by decide), uR_n (by decide)]
            have e20 : R1 20 = fa (R 20) (8 * nL R) p m m := by rw [hR1, uR_n (by decide), uR_n (by decide), setF_s]
            have e19 : R1 19 = fu (R 19) (nL R) (nI m) := by rw [hR1, uR_n (by decide), uR_n (by decide), setF_n (by decide), uR_s, uR_n (by decide), uR_n (by decide)]
            have e18 : R1 18 = fu (R 18) (nL R) (h) := by rw [hR1, uR_n (by decide), uR_n (by decide), setF_n (by decide), uR_n (by decide), uR_s, uR_n (by decide)]
            have e17 : R1 17 = fu (R 17) (nL R) (s) := by rw [hR1, uR_n (by decide), uR_n (by decide), setF_n (by decide), uR_n (by decide), uR_n (by decide), uR_s]
            have hlo : ∀ k i j, lv R k i j → ¬ N k i j = true := by
              intro k i j hv h2
              rw [hNi] at h2
              have h3 := (lv_k hv).2.2.2.1 (by omega) (by omega)
              omega
            have hln : ∀ k i j, lv R1 k i j → ¬ N k i j = true → lv R k i j := by
              intro k i j hv h2
              rw [hNi] at h2
              have h3 := lv_k hv
              have h4 := lv_le hv
              have h5 : nL R1 = nL R + 1 := by rw [nL, e16, fu_s, tC]
              simp only [nS, nC, hag 21 (by decide), hag 1 (by decide), hag 7 (by decide)] at h3
              refine lv_mk h4 ⟨h3.1, h3.2.1, h3.2.2.1, fun z1 z2 => ?_, h3.2.2.2.2.1, h3.2.2.2.2.2⟩
              have h6 := h3.2.2.2.1 z1 z2
              omega
            have hfr : ∀ k i j, lv R1 k i j → N k i j = true → M (ad1 k i j) = none := by
              intro k i j h1 h2
              rw [hadn k i j h2]
              rw [hNi] at h2
              have h9 : k = 23 ∨ k = 24 ∨ k = 25 := by omega
              rcases h9 with rfl | rfl | rfl
              · exact M1n
              · exact f1
              · exact f2
            have hin : ∀ k i j k' i' j', lv R1 k i j → lv R1 k' i' j' → N k i j = true → N k' i' j' = true → ad1 k i j = ad1 k' i' j' → k = k' ∧ i = i' ∧ j = j' := by
              intro k i j k' i' j' h1 h2 h3 h4 h5
              rw [hadn _ _ _ h3, hadn _ _ _ h4] at h5
              rw [hNi] at h3 h4
              have q1 := lv_k h1
              have q2 := lv_k h2
              have h9 : k = 23 ∨ k = 24 ∨ k = 25 := by omega
              have h8 : k' = 23 ∨ k' = 24 ∨ k' = 25 := by omega
              have hii : i = i' := by omega
              rcases h9 with rfl | rfl | rfl <;> rcases h8 with rfl | rfl | rfl
              · exact ⟨rfl, hii, by omega⟩
              · exact absurd h5 (ma_ne1 h3a hN3.1 (by decide))
              · exact absurd h5 (ma_ne2 h3a hN3.2.1)
              · exact absurd h5 (ma_ne1 hN3.1 h3a (by decide))
              · exact ⟨rfl, hii, by omega⟩
              · exact absurd h5 (ma_ne2 hN3.1 hN3.2.1)
              · exact absurd h5 (Ne.symm (ma_ne2 h3a hN3.2.1))
              · exact absurd h5 (Ne.symm (ma_ne2 hN3.1 hN3.2.1))
              · exact ⟨rfl, hii, by omega⟩
            have hRa : RepC R ad1 M := hR.ad (fun k i j h => hado k i j (hlo k i j h))
            have hI1 : adI R1 ad1 := adI_new hR (fun k i j => N k i j = true) (fun k i j h1 h2 => ⟨hln k i j h1 h2, hado k i j h2⟩) hfr hin
            have hft : ∀ q, foot R1 ad1 q → foot R ad q ∨ M q = none := foot_new (fun k i j => N k i j = true) (fun k i j h1 h2 => ⟨hln k i j h1 h2, hado k i j h2⟩) hfr
            have hRep : RepC R1 ad1 M6 := by
              refine hRa.updN (fun k i j => (k = 0 ∧ i = 0 ∧ j = 0) ∨ (k = 2 ∧ i = 0 ∧ j = 0) ∨ N k i j = true) (fun k i j h1 h2 => hln k i j h1 (fun z => h2 (Or.inr (Or.inr (z))))) hI1 ?_ ?_ ?_
              · intro k i j hv hn
                have hNn : ¬ N k i j = true := hlo k i j hv
                rw [hado k i j hNn]
                rw [M6o _ (hR.ne hv (lv_o (by decide)) (fun z => hn (Or.inl z))), M5o _ (hR.ne hv (lv_o (by decide)) (fun z => hn (Or.inl z))), M4o _ (hR.ne hv (lv_o (by decide)) (fun z => hn (Or.inr (Or.inl z)))), h3o _ (hR.ne0 hv)]
              · intro k i j hv9 hn c hc
                have hNn : ¬ N k i j = true := fun z => hn (Or.inr (Or.inr (z)))
                have hv := hln k i j hv9 hNn
                by_cases k0 : k = 0
                · subst k0
                  have h1 : i < 1 := hv.1
                  have h2 : j < 1 := hv.2
                  exact absurd (show (0 = 0 ∧ i = 0 ∧ j = 0) ∨ (0 = 2 ∧ i = 0 ∧ j = 0) ∨ N 0 i j = true by left; omega) hn
                by_cases k2 : k = 2
                · subst k2
                  have h1 : i < 1 := hv.1
                  have h2 : j < 1 := hv.2
                  exact absurd (show (2 = 0 ∧ i = 0 ∧ j = 0) ∨ (2 = 2 ∧ i = 0 ∧ j = 0) ∨ N 2 i j = true by right; left; omega) hn
                by_cases k16 : k = 16
                · subst k16
                  obtain ⟨f, h1, _⟩ := hc
                  exact ⟨f, h1, fun z => absurd z (by show ¬ i < tn (R1 28 0); rw [e28, fu_s, tn_0]; omega)⟩
                by_cases k23 : k = 23
                · subst k23
                  have hv8 : i < nL R := (lv_k hv).2.2.2.1 (by decide) (by decide)
                  simp only [okC, e17, e18, fu_n (Nat.ne_of_lt hv8)]
                  exact hc
                by_cases k24 : k = 24
                · subst k24
                  have hv8 : i < nL R := (lv_k hv).2.2.2.1 (by decide) (by decide)
                  simp only [okC, lmL_oth hv8 (hlm i hv8) e19 e20]
                  exact hc
                by_cases k25 : k = 25
                · subst k25
                  have hv8 : i < nL R := (lv_k hv).2.2.2.1 (by decide) (by decide)
                  simp only [okC, lmL_oth hv8 (hlm i hv8) e19 e20]
                  exact hc
                exact okC_cg k16 (lv_le hv) (fun f hf => hag f ((by decide : ∀ k, k < 27 → k ∉ [0, 2, 16, 23, 24, 25] → ∀ f ∈ okD k, f ∉ [17, 18, 19, 20, 16, 28]) k (by have := lv_le hv; omega) (by simp only [List.mem_cons, List.not_mem_nil, or_false, not_or]; exact ⟨k0, k2, k16, k23, k24, k25⟩) f hf)) hc
              · rintro k i j hv (⟨rfl, rfl, rfl⟩ | ⟨rfl, rfl, rfl⟩ | hNt)
                · rw [hado _ _ _ (by rw [hNi]; omega)]
                  simp only [okC, nS, nL, nC, nF, hag 1 (by decide), e16, hag 21 (by decide), e28, fu_s, nt0, tC]
                  rw [hado 1 0 0 (by rw [hNi]; omega), hado 2 0 0 (by rw [hNi]; omega), hado 3 0 0 (by rw [hNi]; omega), hado 5 0 0 (by rw [hNi]; omega), hado 9 0 0 (by rw [hNi]; omega), hado 13 0 0 (by rw [hNi]; omega), hado 4 0 0 (by rw [hNi]; omega)]
                  exact hF
                · rw [hado _ _ _ (by rw [hNi]; omega)]
                  simp only [okC, nL, e16, fu_s, tC]
                  refine ⟨_, h62, by rw [List.length_set]; exact hc2, fun q hq => ?_⟩
                  have hq : q < nL R + 1 := hq
                  rw [List.getElem?_set]
                  by_cases hq2 : nL R = q
                  · rw [if_pos hq2, if_pos (by omega), hadn 23 q 0 (by rw [hNi]; omega)]; rfl
                  · rw [if_neg hq2, hado 23 q 0 (by rw [hNi]; omega)]; exact hc3 q (by omega)
                · rw [hadn _ _ _ hNt]
                  rw [hNi] at hNt
                  have h9 : k = 23 ∨ k = 24 ∨ k = 25 := by omega
                  obtain ⟨h17, rfl⟩ := hNt
                  have hnew := lmL_new (R := R) (R1 := R1) (by omega) e19 e20
                  rcases h9 with rfl | rfl | rfl
                  · show okC R1 ad1 23 _ _ (M6 a)
                    simp only [okC, e17, e18, fu_s]
                    rw [hadn 24 _ 0 (by rw [hNi]; omega), h63 _ M1n]; exact h3a
                  · show okC R1 ad1 24 _ _ (M6 nm)
                    simp only [okC]; rw [hnew, hadn 25 _ 0 (by rw [hNi]; omega), h63 _ f1]; exact hN3.1
                  · show okC R1 ad1 25 _ _ (M6 ch)
                    simp only [okC]; rw [hnew, h63 _ f2]; exact ⟨l9, hN3.2⟩
            refine m_aload_n C d_AW_landmark_104 rfl rfl ?_
            refine m_get C fg_AW_162 d_AW_landmark_105 hF rfl ?_
            refine m_iconst (v := 1) C d_AW_landmark_108 (by decide) ?_
            refine m_isub C d_AW_landmark_109 ?_
            rw [nI_sub1 (by omega)]
            exact Rt _ _ _ _ _ _ _ (by decide) (by decide) (⟨⟨hk, ⟨hh, hg⟩, by rw [htn]; exact h2, h3⟩, rfl, ad1, hado 0 0 0 (by rw [hNi]; omega), by rw [htn, ← hR1]; exact hRep, by rw [htn, ← hR1]; exact hft⟩) (Or.inl ⟨rfl, _, rfl, rfl, d_AW_landmark_110⟩)
          · exact Th _ _ _ _ _ _ _ _ _ _ xw_AW_66 sr_AW_165 d_AW_landmark_69 d_AW_landmark_72 (Or.inl ⟨d_AW_landmark_73, d_AW_landmark_75, d_AW_landmark_78⟩) (by decide) (by decide) (by decide) (by decide) (⟨Or.inr (Or.inr (Or.inr ⟨hk, ⟨hh, hg⟩, by rw [htn]; exact h2, fun z => h3 (e3.mpr z), rfl⟩)), hR3⟩)
        · exact Th _ _ _ _ _ _ _ _ _ _ xw_AW_107 sr_AW_160 d_AW_landmark_50 d_AW_landmark_53 (Or.inl ⟨d_AW_landmark_54, d_AW_landmark_56, d_AW_landmark_59⟩) (by decide) (by decide) (by decide) (by decide) (⟨Or.inr (Or.inr (Or.inl ⟨hk, ⟨hh, hg⟩, by rw [htn]; rw [b2i_eq0, Bool.not_eq_false, decide_eq_true_eq] at h2; exact fun z => z h2, rfl⟩)), hR3⟩)
      · obtain ⟨rfl, hM7, hg⟩ := hp; rw [hM7]
        exact Up _ _ _ _ _ _ (by decide) (by decide) (⟨Or.inr (Or.inl ⟨hk, fun z => hg z.2, rfl⟩), hR⟩)
    · obtain ⟨rfl, hM8, hh⟩ := hp; rw [hM8]
      exact Up _ _ _ _ _ _ (by decide) (by decide) (⟨Or.inr (Or.inl ⟨hk, fun z => hh z.1, rfl⟩), hR⟩)
  · obtain ⟨rfl, hM9, hk⟩ := hp; rw [hM9]
    exact Up _ _ _ _ _ _ (by decide) (by decide) (⟨Or.inl ⟨hk, rfl⟩, hR⟩)

set_option maxHeartbeats 4000000 in
set_option maxRecDepth 100000 in
theorem ct_AW_word (l : Launch) (D : ma_D) (s0 : State) (R : mR) (ad : mAd) (p : Int64) (n : Int32) (M : ma_H) (hR : RepC R ad M) (hb : Bd R) : Cx l D s0 y_AW_word c_AW_word 4 (some .int) 7 2 12 106 [.ref (ad 0 0 0), .long p, .int n] M (foot R ad) (fun v M' => ((True) ∧ (inn n 0 8 = true ∧ gdS p n) ∧ (True) ∧ (nW R + tn n ≤ 40)) ∧ v = some (.int (nI (if tn n = 0 then 0 else nW R + tn n))) ∧ RepC (uR (uR (setF (R) 27 (fa (R 27) (if (tn n) = 0 then 0 else nW R) p (tn n) (tn n))) 26 (0) (nI (if (tn n) = 0 then 0 else nW R + (tn n)))) 28 (0) (0)) ad M') (fun E M' => gbx (True) (inn n 0 8 = true ∧ gdS p n) (True) (nW R + tn n ≤ 40) E ∧ RepC R ad M') := by
  refine Cx_gen 0 [some (.ref (ad 0 0 0)), some (.long p), none, some (.int n)] (by decide +kernel) (Nat.le_of_ble_eq_true rfl) rfl ?_
  intro G e1 e2 e3 C hw Rt Th Up
  subst e1; subst e2; subst e3
  have hbW := hb.1.2.2.2.1
  refine m_iload_n C d_AW_word_0 rfl rfl ?_
  refine m_if_lt (tgt := 10) C d_AW_word_1 (by decide) (fun h1 => ?_) (fun h1 => ?_)
  · exact Th _ _ _ _ _ _ _ _ _ _ xw_AW_55 sr_AW_206 d_AW_word_10 d_AW_word_13 (Or.inl ⟨d_AW_word_14, d_AW_word_16, d_AW_word_19⟩) (by decide) (by decide) (by decide) (by decide) (⟨Or.inr (Or.inl ⟨trivial, fun z => inn_l h1 z.1, rfl⟩), hR⟩)
  · refine m_iload_n C d_AW_word_4 rfl rfl ?_
    refine m_bipush (v := 8) C d_AW_word_5 (by decide) ?_
    refine m_icmp_le (tgt := 20) C d_AW_word_7 (by decide) (fun h2 => ?_) (fun h2 => ?_)
    · have hin : inn n 0 8 = true := inn_t h1 h2
      obtain ⟨m, hm, hnm⟩ := inn8 hin
      have htn : tn n = m := by rw [hnm, tn_nI (by omega)]
      subst hnm
      refine m_lload_n C d_AW_word_20 rfl rfl ?_
      refine m_iload_n C d_AW_word_21 rfl rfl ?_
      refine m_callSX C d_AW_word_22 ml_AW_208 mw_AW_208 mst_AW_requireSigns (ct_AW_requireSigns _ _ _ p m hm M) (fun _ h => h.elim) rfl rfl (Nat.le_of_ble_eq_true rfl) (by decide) (fun v8 M8 hp h5 h6 => ?_) (fun E8 M8 hp h5 h6 => ?_)
      · obtain ⟨rfl, hM8, hg⟩ := hp; rw [hM8]
        show mj G 4 (0 + 1) (0 + 6) M 25 [some (.ref (ad 0 0 0)), some (.long p), none, some (.int (nI m))] []
        obtain ⟨sa, hsa⟩ := hR.1 5 0 0 (lv_o (by decide))
        obtain ⟨fs, hfs, hfq⟩ := hR.1 6 0 0 (lv_o (by decide))
        refine m_aload_n C d_AW_word_25 rfl rfl ?_
        refine m_get C fg_AW_30 d_AW_word_26 hR.root rfl ?_
        refine m_iload_n C d_AW_word_29 rfl rfl ?_
        refine m_callV (ci := 8) C d_AW_word_30 mw_AW_211 mi_Sa_hasRoomFor se_Sa_hasRoomFor rfl (ct_Sa_hasRoomFor _ _ _ (ad 5 0 0) (ad 6 0 0) (ad 7 0 0) (ad 8 0 0) (nW R) fs sa m hm hbW M hsa) (fun _ h => h.elim) rfl rfl (Nat.le_of_ble_eq_true rfl) hsa (by decide) (fun v7 M7 hp h5 h6 => ?_)
        obtain ⟨rfl, hM7⟩ := hp; rw [hM7]
        show mj G 4 (0 + 1 + 0) (0 + 6 + 0) M 33 [some (.ref (ad 0 0 0)), some (.long p), none, some (.int (nI m))] [.int (b2i (decide (nW R + m ≤ 40)))]
        refine m_if_ne (tgt := 46) C d_AW_word_33 (by decide) (fun h3 => ?_) (fun h3 => ?_)
        · rw [b2i_eq0, Bool.not_eq_false, decide_eq_true_eq] at h3
          have n05 : ad 0 0 0 ≠ ad 5 0 0 := hR.ne (lv_o (by decide)) (lv_o (by decide)) (by omega)
          have n06 : ad 0 0 0 ≠ ad 6 0 0 := hR.ne (lv_o (by decide)) (lv_o (by decide)) (by omega)
          have n56 : ad 5 0 0 ≠ ad 6 0 0 := hR.ne (lv_o (by decide)) (lv_o (by decide)) (by omega)
          refine m_iload_n C d_AW_word_46 rfl rfl ?_
          have em : nI m = 0 ↔ m = 0 := nI_eq (b := 0) (by omega) (by decide)
          have go : ∀ M1 : ma_H, M1 (ad 5 0 0) = some (.inl (8, saF (ad 6 0 0) (if m = 0 then 0 else nW R) (ad 7 0 0) (ad 8 0 0) sa)) → (∀ q, q ≠ ad 5 0 0 → M1 q = M q) → mj G 4 (0 + 1 + 0) (0 + 6 + 0) M1 57 [some (.ref (ad 0 0 0)), some (.long p), none, some (.int (nI m))] [] := by
            intro M1 k5 k5o
            have k0 := (k5o _ n05).trans hR.root
            have k6 := (k5o _ (Ne.symm n56)).trans hfs
            refine m_aload_n C d_AW_word_57 rfl rfl ?_
            refine m_get C fg_AW_30 d_AW_word_58 k0 rfl ?_
            refine m_lload_n C d_AW_word_61 rfl rfl ?_
            refine m_iload_n C d_AW_word_62 rfl rfl ?_
            refine m_callV (ci := 8) C d_AW_word_63 mw_AW_217 mi_Sa_append se_Sa_append rfl (ct_Sa_append _ _ _ (ad 5 0 0) (ad 6 0 0) (ad 7 0 0) (ad 8 0 0) (if m = 0 then 0 else nW R) fs sa p m hm M1 k5 k6 (by split <;> omega)) (fun q h => h.elim (fun z => by rw [z]; exact hw _ ⟨5, 0, 0, lv_o (by decide), rfl⟩) (fun z => by rw [z]; exact hw _ ⟨6, 0, 0, lv_o (by decide), rfl⟩)) rfl rfl (Nat.le_of_ble_eq_true rfl) k5 (by decide) (fun v6 M2 hp ha5 ha6 => ?_)
            obtain ⟨rfl, t5, t6⟩ := hp
            show mj G 4 (0 + 1 + 0 + 0) (0 + 6 + 0 + 0) M2 66 [some (.ref (ad 0 0 0)), some (.long p), none, some (.int (nI m))] []
            have t0 := (ha5 _ (by rw [k0]; simp) (fun z => z.elim n05 n06)).trans k0
            refine m_aload_n C d_AW_word_66 rfl rfl ?_
            refine m_callV (ci := 0) C d_AW_word_67 mw_AW_74 mi_AW_forgetPlaces se_AW_forgetPlaces rfl (ct_AW_forgetPlaces _ _ _ (ad 0 0 0) (.ref (ad 1 0 0)) (.int (nI (nS R))) (.ref (ad 2 0 0)) (.int (nI (nL R))) (.ref (ad 3 0 0)) (.int (nI (nC R))) (.ref (ad 5 0 0)) (.ref (ad 9 0 0)) (.ref (ad 13 0 0)) (.ref (ad 4 0 0)) (.int (nI (nF R))) M2 t0) (fun q h => by rw [h]; exact hw _ ⟨0, 0, 0, lv_o (by decide), rfl⟩) rfl rfl (Nat.le_of_ble_eq_true rfl) t0 (by decide) (fun v7 M3 hp h5 h6 => ?_)
            obtain ⟨rfl, hF, M3o⟩ := hp
            show mj G 4 (0 + 1 + 0 + 0 + 0) (0 + 6 + 0 + 0 + 0) M3 70 [some (.ref (ad 0 0 0)), some (.long p), none, some (.int (nI m))] []
            have u5 := (M3o _ (Ne.symm n05)).trans t5
            have u6 := (M3o _ (Ne.symm n06)).trans t6
            have ew : (if m = 0 then 0 else nW R) + m = (if m = 0 then 0 else nW R + m) := by split <;> omega
            have tW : tn (nI (if m = 0 then 0 else tn (R 26 0) + m)) = (if m = 0 then 0 else tn (R 26 0) + m) := tn_nI (n := if m = 0 then 0 else nW R + m) (by split <;> omega)
            rw [ew] at u5
            have hRep : RepC (uR (uR (setF (R) 27 (fa (R 27) (if m = 0 then 0 else nW R) p m m)) 26 (0) (nI (if m = 0 then 0 else nW R + m))) 28 (0) (0)) ad M3 := by
              obtain ⟨R1, hR1⟩ : ∃ R1, R1 = uR (uR (setF (R) 27 (fa (R 27) (if m = 0 then 0 else nW R) p m m)) 26 (0) (nI (if m = 0 then 0 else nW R + m))) 28 (0) (0) := ⟨_, rfl⟩
              rw [← hR1]
              have hag : ∀ f, f ∉ [27, 26, 28] → R1 f = R f := fun f hf => by rw [hR1, uR_n (fun z => hf (by rw [z]; decide)), uR_n (fun z => hf (by rw [z]; decide)), setF_n (fun z => hf (by rw [z]; decide))]
              have e28 : R1 28 = fu (R 28) (0) (0) := by rw [hR1, uR_s, uR_n (by decide), setF_n (by decide)]
              have e26 : R1 26 = fu (R 26) (0) (nI (if m = 0 then 0 else nW R + m)) := by rw [hR1, uR_n (by decide), uR_s, setF_n (by decide)]
              have e27 : R1 27 = fa (R 27) (if m = 0 then 0 else nW R) p m m := by rw [hR1, uR_n (by decide), uR_n (by decide), setF_s]
              refine hR.upd (fun k i j => (k = 0 ∧ i = 0 ∧ j = 0) ∨ (k = 5 ∧ i = 0 ∧ j = 0) ∨ (k = 6 ∧ i = 0 ∧ j = 0)) ?_ ?_ ?_ ?_
              · exact fun k i j hv => lv_cg (hag 1 (by decide)) (hag 16 (by decide)) (hag 21 (by decide)) (hag 7 (by decide)) hv
              · intro k i j hv hn
                rw [M3o _ (hR.ne hv (lv_o (by decide)) (fun z => hn (Or.inl z)))]
                have a1 := hR.ne hv (lv_o (k := 5) (by decide)) (fun z => hn (Or.inr (Or.inl z)))
                rw [ha5 _ (by rw [k5o _ a1]; exact hR.ne0 hv) (fun z => z.elim a1 (hR.ne hv (lv_o (by decide)) (fun z => hn (Or.inr (Or.inr z)))))]
                exact k5o _ a1
              · intro k i j hv hn c hc
                by_cases k0 : k = 0
                · subst k0
                  have h1 : i < 1 := hv.1
                  have h2 : j < 1 := hv.2
                  exact absurd (show (0 = 0 ∧ i = 0 ∧ j = 0) ∨ (0 = 5 ∧ i = 0 ∧ j = 0) ∨ (0 = 6 ∧ i = 0 ∧ j = 0) by omega) hn
                by_cases k5 : k = 5
                · subst k5
                  have h1 : i < 1 := hv.1
                  have h2 : j < 1 := hv.2
                  exact absurd (show (5 = 0 ∧ i = 0 ∧ j = 0) ∨ (5 = 5 ∧ i = 0 ∧ j = 0) ∨ (5 = 6 ∧ i = 0 ∧ j = 0) by omega) hn
                by_cases k6 : k = 6
                · subst k6
                  have h1 : i < 1 := hv.1
                  have h2 : j < 1 := hv.2
                  exact absurd (show (6 = 0 ∧ i = 0 ∧ j = 0) ∨ (6 = 5 ∧ i = 0 ∧ j = 0) ∨ (6 = 6 ∧ i = 0 ∧ j = 0) by omega) hn
                by_cases k16 : k = 16
                · subst k16
                  obtain ⟨f, h1, _⟩ := hc
                  exact ⟨f, h1, fun z => absurd z (by show ¬ i < tn (R1 28 0); rw [e28, fu_s, tn_0]; omega)⟩
                exact okC_cg k16 (lv_le hv) (fun f hf => hag f ((by decide : ∀ k, k < 27 → k ∉ [0, 5, 6, 16] → ∀ f ∈ okD k, f ∉ [27, 26, 28]) k (by have := lv_le hv; omega) (by simp only [List.mem_cons, List.not_mem_nil, or_false, not_or]; exact ⟨k0, k5, k6, k16⟩) f hf)) hc
              · rintro k i j hv (⟨rfl, rfl, rfl⟩ | ⟨rfl, rfl, rfl⟩ | ⟨rfl, rfl, rfl⟩)
                · simp only [okC, nS, nL, nC, nF, hag 1 (by decide), hag 16 (by decide), hag 21 (by decide), e28, fu_s, nt0]
                  exact hF
                · simp only [okC, nW, e26, fu_s, tW]
                  exact ⟨sa, u5⟩
                · simp only [okC, nW, e26, e27, fu_s, tW]
                  refine ⟨_, u6, fun q hq => ?_⟩
                  by_cases h0 : m = 0
                  · rw [if_pos h0] at hq; omega
                  · rw [if_neg h0] at hq ⊢
                    by_cases hq2 : nW R ≤ q
                    · rw [fa_in ⟨hq2, hq⟩, fa_in ⟨hq2, hq⟩]
                    · rw [fa_out (fun z => hq2 z.1), fa_out (fun z => hq2 z.1)]; exact hfq q (by omega)
            refine m_aload_n C d_AW_word_70 rfl rfl ?_
            refine m_get C fg_AW_30 d_AW_word_71 hF rfl ?_
            refine m_get C fg_AW_218 d_AW_word_74 u5 rfl ?_
            exact Rt _ _ _ _ _ _ _ (by decide) (by decide) (⟨⟨trivial, ⟨hin, hg⟩, trivial, by rw [htn]; exact h3⟩, by rw [htn], by rw [htn]; exact hRep⟩) (Or.inl ⟨rfl, _, rfl, rfl, d_AW_word_77⟩)
          refine m_if_ne (tgt := 57) C d_AW_word_47 (by decide) (fun h4 => ?_) (fun h4 => ?_)
          · rw [em] at h4
            exact go M (by rw [if_neg h4]; exact hsa) (fun _ _ => rfl)
          · rw [em] at h4
            refine m_aload_n C d_AW_word_50 rfl rfl ?_
            refine m_get C fg_AW_30 d_AW_word_51 hR.root rfl ?_
            refine m_callV (ci := 8) C d_AW_word_54 mw_AW_214 mi_Sa_clear se_Sa_clear rfl (ct_Sa_clear _ _ _ (ad 5 0 0) (ad 6 0 0) (ad 7 0 0) (ad 8 0 0) (nW R) fs sa M hsa) (fun q h => by rw [h]; exact hw _ ⟨5, 0, 0, lv_o (by decide), rfl⟩) rfl rfl (Nat.le_of_ble_eq_true rfl) hsa (by decide) (fun v6 M1 hp h5 h6 => ?_)
            obtain ⟨rfl, t5, t5o⟩ := hp
            show mj G 4 (0 + 1 + 0 + 0) (0 + 6 + 0 + 0) M1 57 [some (.ref (ad 0 0 0)), some (.long p), none, some (.int (nI m))] []
            exact go M1 (by rw [if_pos h4]; exact t5) t5o
        · exact Th _ _ _ _ _ _ _ _ _ _ xw_AW_66 sr_AW_212 d_AW_word_36 d_AW_word_39 (Or.inl ⟨d_AW_word_40, d_AW_word_42, d_AW_word_45⟩) (by decide) (by decide) (by decide) (by decide) (⟨Or.inr (Or.inr (Or.inr ⟨trivial, ⟨hin, hg⟩, trivial, by rw [htn]; rw [b2i_eq0, decide_eq_false_iff_not] at h3; exact h3, rfl⟩)), hR⟩)
      · obtain ⟨rfl, hM8, hg⟩ := hp; rw [hM8]
        exact Up _ _ _ _ _ _ (by decide) (by decide) (⟨Or.inr (Or.inl ⟨trivial, fun z => hg z.2, rfl⟩), hR⟩)
    · exact Th _ _ _ _ _ _ _ _ _ _ xw_AW_55 sr_AW_206 d_AW_word_10 d_AW_word_13 (Or.inl ⟨d_AW_word_14, d_AW_word_16, d_AW_word_19⟩) (by decide) (by decide) (by decide) (by decide) (⟨Or.inr (Or.inl ⟨trivial, fun z => inn_r h2 z.1, rfl⟩), hR⟩)
