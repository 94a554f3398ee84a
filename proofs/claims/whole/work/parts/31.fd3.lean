/-! ===== find, place ===== -/
section
variable {G : ma_G} {cc : ByteArray} {own : String} {nL fr mc ms lo k n : Nat} {M : ma_H} {pc : Nat} {L : List (Option Value)} {st : List Value}
theorem m_tabIn {dflt lo9 hi9 off : Int} {offs : Array Int} {len tgt : Nat} {x : Int32} (C : ma_C G cc nL own fr mc ms lo) (d : decode cc pc = .ok (.tableswitch dflt lo9 hi9 offs, len)) (h1 : ¬ x.toInt < lo9) (h2 : ¬ hi9 < x.toInt) (ho : offs[(x.toInt - lo9).toNat]? = some off) (ht : (pc : Int) + off = (tgt : Int)) (kk : mj G nL k n M tgt L st) : mj G nL k n M pc L (.int x :: st) := by
  obtain ⟨D, s0, p, l, e, R, s, m, args, below, meth, c, Q, M0, Wr⟩ := G
  obtain ⟨hx, hb, -⟩ := C
  exact fun H locs ls h3 h4 h5 h6 => lv_tableIn hx hb d h1 h2 ho ht (kk H locs ls h3 h4 h5 h6)
theorem m_tabOut {dflt lo9 hi9 : Int} {offs : Array Int} {len tgt : Nat} {x : Int32} (C : ma_C G cc nL own fr mc ms lo) (d : decode cc pc = .ok (.tableswitch dflt lo9 hi9 offs, len)) (h : x.toInt < lo9 ∨ hi9 < x.toInt) (ht : (pc : Int) + dflt = (tgt : Int)) (kk : mj G nL k n M tgt L st) : mj G nL k n M pc L (.int x :: st) := by
  obtain ⟨D, s0, p, l, e, R, s, m, args, below, meth, c, Q, M0, Wr⟩ := G
  obtain ⟨hx, hb, -⟩ := C
  exact fun H locs ls h3 h4 h5 h6 => lv_tableOut hx hb d h ht (kk H locs ls h3 h4 h5 h6)
end
noncomputable def mvH (R : mR) (ad : mAd) (M : ma_H) : ma_H := fun q => @dite _ (∃ i, i < 10 ∧ q = ad 16 i 0) (Classical.propDecidable _) (fun h => some (.inl (6, plF (tell R (tn (R 29 h.choose)))))) (fun _ => M q)
theorem mvH_o {R : mR} {ad : mAd} {M : ma_H} {q : Nat} (h : ∀ i, i < 10 → q ≠ ad 16 i 0) : mvH R ad M q = M q := by
  unfold mvH
  rw [dif_neg (fun ⟨i, h1, h2⟩ => h i h1 h2)]
theorem mvH_p {R R0 : mR} {ad : mAd} {M M0 : ma_H} (hR : RepC R0 ad M0) {i : Nat} (hi : i < 10) : mvH R ad M (ad 16 i 0) = some (.inl (6, plF (tell R (tn (R 29 i))))) := by
  have h : ∃ j, j < 10 ∧ ad 16 i 0 = ad 16 j 0 := ⟨i, hi, rfl⟩
  unfold mvH
  rw [dif_pos h]
  have h2 := h.choose_spec
  have h3 := (hR.2 _ _ _ _ _ _ (lv_p hi) (lv_p h2.1) h2.2).2.1
  rw [← h3]
/-- R' is what finding leaves of R, by what was looked through (s) and ranked (rk) -/
def FndC (R : mR) (s : saT) (rk : Nat × (Nat → Int32) × (Nat → Int32)) (R' : mR) : Prop := okW s ∧ (∀ f, f ∉ [0, 28, 29, 30, 31, 32, 33, 34] → R' f = R f) ∧ R' 28 0 = nI rk.1 ∧ R' 31 0 = s.2.2.2.1 ∧ ∀ i, i < rk.1 → tn (R' 29 i) < nS R + nL R ∧ rk.2.1 i = (if tn (R' 29 i) < nS R then nI (tn (R' 29 i)) else nI (30 + (tn (R' 29 i) - nS R))) ∧ R' 30 (tn (R' 29 i)) = rk.2.2 i

set_option maxHeartbeats 4000000 in
set_option maxRecDepth 100000 in
theorem ct_AW_find (l : Launch) (D : ma_D) (s0 : State) (R : mR) (ad : mAd) (R' : mR) (k : Int32) (M : ma_H) (hR : RepC R ad M) (hb : Bd R) (hL : Ltr R) (h17 : ∀ m, m < nL R → ∃ g, g < nS R ∧ R 17 m = nI g) (hF : inn k 1 10 = true → nW R ≠ 0 → ∀ fs f0 g0 fc fd, (∀ q, q < nW R → fs q = R 27 q) → FndC R (sa_k fs f0 g0 (nW R)) (rkS R fs (sa_k fs f0 g0 (nW R)) (tn k) fc fd (nS R + nL R)) R') : Cx l D s0 y_AW_find c_AW_find 3 (some .int) 6 1 6 146 [.ref (ad 0 0 0), .int k] M (foot R ad) (fun v M' => ((True) ∧ (inn k 1 10 = true) ∧ (nW R ≠ 0) ∧ (True)) ∧ v = some (.int (R' 28 0)) ∧ RepC R' ad M') (fun E M' => gbx (True) (inn k 1 10 = true) (nW R ≠ 0) (True) E ∧ RepC R ad M') := by
  refine Cx_gen 1 [some (.ref (ad 0 0 0)), some (.int k), none] (by decide +kernel) (Nat.le_of_ble_eq_true rfl) rfl ?_
  intro G e1 e2 e3 C hw Rt Th Up
  subst e1; subst e2; subst e3
  obtain ⟨⟨hbS, hbL, hbC, hbW, hbF⟩, hbi⟩ := id hb
  refine m_iload_n C d_AW_find_0 rfl rfl ?_
  refine m_iconst (v := 1) C d_AW_find_1 (by decide) ?_
  refine m_icmp_lt (tgt := 11) C d_AW_find_2 (by decide) (fun h1 => ?_) (fun h1 => ?_)
  · exact Th _ _ _ _ _ _ _ _ _ _ xw_AW_55 sr_AW_219 d_AW_find_11 d_AW_find_14 (Or.inl ⟨d_AW_find_15, d_AW_find_17, d_AW_find_20⟩) (by decide) (by decide) (by decide) (by decide) (⟨Or.inr (Or.inl ⟨trivial, inn_l h1, rfl⟩), hR⟩)
  · refine m_iload_n C d_AW_find_5 rfl rfl ?_
    refine m_bipush (v := 10) C d_AW_find_6 (by decide) ?_
    refine m_icmp_le (tgt := 21) C d_AW_find_8 (by decide) (fun h2 => ?_) (fun h2 => ?_)
    · have hin : inn k 1 10 = true := inn_t h1 h2
      have hk0 : (0 : Int32) ≤ k := Int32.le_trans (by decide) (inn_i hin).1
      obtain ⟨m, hmk⟩ : ∃ m, m = tn k := ⟨_, rfl⟩
      have hm10 : m ≤ 10 := by rw [hmk]; exact tn_le hk0 (by decide) (inn_i hin).2
      have hkm : k = nI m := by rw [hmk]; exact (tn_of hk0).1
      rw [← hmk] at hF
      obtain ⟨fs, sa, hS, hfs⟩ := hR.sa
      refine m_aload_n C d_AW_find_21 rfl rfl ?_
      refine m_get C fg_AW_30 d_AW_find_22 hR.root rfl ?_
      refine m_get C fg_AW_218 d_AW_find_25 hS.1 rfl ?_
      have e0 : nI (nW R) = 0 ↔ nW R = 0 := nI_eq (b := 0) (by omega) (by decide)
      refine m_if_ne (tgt := 41) C d_AW_find_28 (by decide) (fun h3 => ?_) (fun h3 => ?_)
      · rw [e0] at h3
        refine m_aload_n C d_AW_find_41 rfl rfl ?_
        refine m_get C fg_AW_30 d_AW_find_42 hR.root rfl ?_
        refine m_callV (ci := 8) C d_AW_find_45 mw_AW_223 mi_Sa_lookThrough se_Sa_lookThrough rfl (ct_Sa_lookThrough _ _ _ (ad 5 0 0) (ad 6 0 0) (ad 7 0 0) (ad 8 0 0) (nW R) fs sa M hS hbW) (fun q h => h.elim (fun z => by rw [z]; exact hw _ ⟨5, 0, 0, lv_o (by decide), rfl⟩) (fun z => z.elim (fun z => by rw [z]; exact hw _ ⟨7, 0, 0, lv_o (by decide), rfl⟩) (fun z => by rw [z]; exact hw _ ⟨8, 0, 0, lv_o (by decide), rfl⟩))) rfl rfl (Nat.le_of_ble_eq_true rfl) hS.1 (by decide) (fun v7 M1 hp h15 h16 => ?_)
        obtain ⟨rfl, hS1⟩ := hp
        show mj G 3 0 0 M1 48 [some (.ref (ad 0 0 0)), some (.int k), none] []
        obtain ⟨s, hs⟩ : ∃ s, s = sa_k fs sa.2.2.2.2.1 sa.2.2.2.2.2 (nW R) := ⟨_, rfl⟩
        rw [← hs] at hS1
        have hR1 : RepC R ad M1 := hR.saN h15 hS1
        obtain ⟨k9, z9, fc, fd, hra⟩ := hR1.ra
        obtain ⟨hW, hFf, hF28, hF31, hFi⟩ := hF hin h3 fs sa.2.2.2.2.1 sa.2.2.2.2.2 fc fd hfs
        rw [← hs] at hW hF28 hF31 hFi
        obtain ⟨rk, hrk⟩ : ∃ rk, rk = (rkS R fs s m fc fd (nS R + nL R)) := ⟨_, rfl⟩
        have hsz : rk.1 ≤ 10 := by rw [hrk]; exact Nat.le_trans (rkS_le _ _ _ _ _ _ _) hm10
        rw [hkm]
        refine m_aload_n C d_AW_find_48 rfl rfl ?_
        refine m_iload_n C d_AW_find_49 rfl rfl ?_
        refine m_callV (ci := 0) C d_AW_find_50 mw_AW_226 mi_AW_rank se_AW_rank rfl (ct_AW_rank _ _ _ R ad fs s m hm10 k9 z9 fc fd M1 hR1 hb hS1 hW hL hra) (fun q h => by rcases h with (z | z | z | z) | (z | z | z) <;> (rw [z]; exact hw _ ⟨_, 0, 0, lv_o (by decide), rfl⟩)) rfl rfl (Nat.le_of_ble_eq_true rfl) hR1.root (by decide) (fun v7 M2 hp h25 h26 => ?_)
        obtain ⟨rfl, hR2, hra2⟩ := hp
        show mj G 3 0 0 M2 53 [some (.ref (ad 0 0 0)), some (.int (nI m)), none] []
        rw [← hrk] at hra2 hF28 hFi
        have hS5 : M2 (ad 5 0 0) = some (.inl (8, saF (ad 6 0 0) (nW R) (ad 7 0 0) (ad 8 0 0) s)) := (h25 _ (by rw [hS1.1]; simp) (by rintro ((z | z | z | z) | (z | z | z)) <;> (have := hR1.2 _ _ _ _ _ _ (lv_o (by decide)) (lv_o (by decide)) z; omega))).trans hS1.1
        refine m_aload_n C d_AW_find_53 rfl rfl ?_
        refine m_aload_n C d_AW_find_54 rfl rfl ?_
        refine m_get C fg_AW_44 d_AW_find_55 hR2.root rfl ?_
        refine m_get C fg_AW_229 d_AW_find_58 hra2.1 rfl ?_
        refine m_putE C fp_AW_232 d_AW_find_61 (hw _ ⟨0, 0, 0, lv_o (by decide), rfl⟩) hR2.root rfl rfl (fun M3 M3a0 M3o => ?_)
        have f1 : R' 1 = R 1 := hFf 1 (by decide)
        have f16 : R' 16 = R 16 := hFf 16 (by decide)
        have f21 : R' 21 = R 21 := hFf 21 (by decide)
        have f7 : R' 7 = R 7 := hFf 7 (by decide)
        have f26 : R' 26 = R 26 := hFf 26 (by decide)
        have hlv : ∀ {k i j}, lv R' k i j → lv R k i j := fun h => lv_cg f1 f16 f21 f7 h
        have hlv' : ∀ {k i j}, lv R k i j → lv R' k i j := fun h => lv_cg f1.symm f16.symm f21.symm f7.symm h
        have hnF : nF R' = rk.1 := by rw [nF, hF28, tn_nI (by omega)]
        have hV : RepC R' ad (mvH R' ad M3) := by
          refine hR2.upd (fun k i j => (k = 0 ∧ i = 0 ∧ j = 0) ∨ k = 16) (fun _ _ _ h => hlv h) ?_ ?_ ?_
          · intro k i j hv hn
            rw [mvH_o (fun t ht z => hn (Or.inr (hR2.2 _ _ _ _ _ _ hv (lv_p ht) z).1)), M3o _ (hR2.ne hv (lv_o (by decide)) (fun z => hn (Or.inl z)))]
          · intro k i j hv hn c hc
            have hk16 : k ≠ 16 := fun z => hn (Or.inr z)
            have hk0 : k ≠ 0 := fun z => hn (Or.inl ⟨z, by have := lv_k hv; omega, by have := lv_k hv; omega⟩)
            exact okC_cg hk16 (lv_le hv) (fun f hf => hFf f ((by decide : ∀ k, k < 27 → k ∉ [0, 16] → ∀ f ∈ okD k, f ∉ [0, 28, 29, 30, 31, 32, 33, 34]) k (by have := lv_le hv; omega) (by simp only [List.mem_cons, List.not_mem_nil, or_false, not_or]; exact ⟨hk0, hk16⟩) f hf)) hc
          · rintro k i j hv (⟨rfl, rfl, rfl⟩ | rfl)
            · rw [mvH_o (fun t ht z => by have := (hR2.2 _ _ _ _ _ _ (lv_o (by decide)) (lv_p ht) z).1; omega)]
              simp only [okC, nS, nL, nC, f1, f16, f21]
              rw [hnF]; exact M3a0
            · have h9 := lv_k hv
              obtain rfl : j = 0 := by omega
              rw [mvH_p hR2 (h9.2.1 rfl)]
              exact ⟨_, rfl, fun _ w _ => rfl⟩
        have hb' : Bd R' := by
          refine ⟨⟨by rw [nS, f1]; exact hbS, by rw [nL, f16]; exact hbL, by rw [nC, f21]; exact hbC, by rw [nW, f26]; exact hbW, by rw [hnF]; exact hsz⟩, fun i hi => ?_⟩
          rw [nS, f1] at hi; rw [hFf 4 (by decide), f7, hFf 15 (by decide)]; exact hbi i hi
        have hm3 : ∀ k i j, lv R' k i j → k ≠ 16 → M3 (ad k i j) = mvH R' ad M3 (ad k i j) := fun k i j hv hk => (mvH_o (fun t ht z => hk (hR2.2 _ _ _ _ _ _ (hlv hv) (lv_p ht) z).1)).symm
        have hpl3 : ∀ t, t < 10 → ∃ f, M3 (ad 16 t 0) = some (.inl (6, plF f)) := fun t ht => by
          obtain ⟨f, h1, -⟩ := hR2.1 16 t 0 (lv_p ht)
          exact ⟨f, (M3o _ (hR2.ne (lv_p ht) (lv_o (by decide)) (by omega))).trans h1⟩
        have hS5' : mvH R' ad M3 (ad 5 0 0) = some (.inl (8, saF (ad 6 0 0) (nW R) (ad 7 0 0) (ad 8 0 0) s)) := by rw [← hm3 5 0 0 (lv_o (by decide)) (by decide), M3o _ (hR2.ne (lv_o (by decide)) (lv_o (by decide)) (by omega))]; exact hS5
        have hk3 : ∀ k, 13 ≤ k → k ≤ 15 → mvH R' ad M3 (ad k 0 0) = M2 (ad k 0 0) := fun k h1 h2 => by rw [← hm3 k 0 0 (lv_o (by omega)) (by omega), M3o _ (hR2.ne (lv_o (by omega)) (lv_o (by decide)) (by omega))]
        refine m_iconst (v := 0) C d_AW_find_64 (by decide) ?_
        refine m_istore_n (L' := [some (.ref (ad 0 0 0)), some (.int (nI m)), some (.int 0)]) C d_AW_find_65 rfl (by decide) rfl ?_
        have loop : ∀ (lq9 : Nat) (M4 : ma_H) (i : Nat), rk.1 - i = lq9 → i ≤ rk.1 → (∀ k i j, lv R' k i j → k ≠ 16 → M4 (ad k i j) = mvH R' ad M3 (ad k i j)) → (∀ t, t < i → M4 (ad 16 t 0) = some (.inl (6, plF (tell R' (tn (R' 29 t)))))) → (∀ t, t < 10 → ∃ f, M4 (ad 16 t 0) = some (.inl (6, plF f))) → mj G 3 0 0 M4 66 [some (.ref (ad 0 0 0)), some (.int (nI m)), some (.int (nI i))] [] := by
          intro lq9
          induction lq9 using Nat.strongRecOn with
          | ind lq9 ih =>
            intro M4 i hr hi hm4 hp4 hq4
            have r4 := (hm4 0 0 0 (lv_o (by decide)) (by decide)).trans hV.root
            rw [hnF] at r4
            have a13 := (hm4 13 0 0 (lv_o (by decide)) (by decide)).trans ((hk3 13 (by decide) (by decide)).trans hra2.1)
            have a14 := (hm4 14 0 0 (lv_o (by decide)) (by decide)).trans ((hk3 14 (by decide) (by decide)).trans hra2.2.1)
            have a15 := (hm4 15 0 0 (lv_o (by decide)) (by decide)).trans ((hk3 15 (by decide) (by decide)).trans hra2.2.2.1)
            refine m_iload_n C d_AW_find_66 rfl rfl ?_
            refine m_aload_n C d_AW_find_67 rfl rfl ?_
            refine m_get C fg_AW_232 d_AW_find_68 r4 rfl ?_
            have e1 : nI rk.1 ≤ nI i ↔ rk.1 ≤ i := nI_leI (by omega) (by omega)
            refine m_icmp_ge (tgt := 108) C d_AW_find_71 (by decide) (fun h4 => ?_) (fun h4 => ?_)
            · rw [e1] at h4
              have hie : i = rk.1 := by omega
              have hRep : RepC R' ad M4 := by
                refine hV.upd (fun k i j => k = 16) (fun _ _ _ h => h) (fun k i j hv hn => hm4 k i j hv hn) (fun _ _ _ _ _ _ h => h) ?_
                rintro k t j hv rfl
                have h9 := lv_k hv
                obtain rfl : j = 0 := by omega
                by_cases ht : t < rk.1
                · exact ⟨_, hp4 t (by omega), fun _ w _ => rfl⟩
                · obtain ⟨f, hf⟩ := hq4 t (h9.2.1 rfl)
                  exact ⟨f, hf, fun z => absurd z (by rw [hnF]; exact ht)⟩
              refine m_aload_n C d_AW_find_108 rfl rfl ?_
              refine m_get C fg_AW_232 d_AW_find_109 r4 rfl ?_
              exact Rt _ _ _ _ _ _ _ (by decide) (by decide) (⟨⟨trivial, hin, h3, trivial⟩, by rw [hF28], hRep⟩) (Or.inl ⟨rfl, _, rfl, rfl, d_AW_find_112⟩)
            · rw [e1] at h4
              obtain ⟨l9, hl1, hl2, hl3⟩ := hV.pls
              obtain ⟨pf, hpf⟩ := hq4 i (by omega)
              obtain ⟨b1, b2, b3⟩ := hFi i (by omega)
              refine m_aload_n C d_AW_find_74 rfl rfl ?_
              refine m_aload_n C d_AW_find_75 rfl rfl ?_
              refine m_get C fg_AW_50 d_AW_find_76 r4 rfl ?_
              refine m_iload_n C d_AW_find_79 rfl rfl ?_
              refine m_aald (v := .ref (ad 16 i 0)) C d_AW_find_80 ((hm4 4 0 0 (lv_o (by decide)) (by decide)).trans hl1) kt_Pl rfl (nI_pos (by omega)) (by rw [nI_clamp (by omega)]; exact hl3 i (by omega)) ?_
              refine m_aload_n C d_AW_find_81 rfl rfl ?_
              refine m_get C fg_AW_44 d_AW_find_82 r4 rfl ?_
              refine m_get C fg_AW_235 d_AW_find_85 a13 rfl ?_
              refine m_iload_n C d_AW_find_88 rfl rfl ?_
              refine m_iald (v := .int (rk.2.1 i)) C d_AW_find_89 a14 kt_int (nI_pos (by omega)) (by rw [nI_clamp (by omega)]; exact arrL_get (by omega)) ?_
              refine m_aload_n C d_AW_find_90 rfl rfl ?_
              refine m_get C fg_AW_44 d_AW_find_91 r4 rfl ?_
              refine m_get C fg_AW_239 d_AW_find_94 a13 rfl ?_
              refine m_iload_n C d_AW_find_97 rfl rfl ?_
              refine m_iald (v := .int (rk.2.2 i)) C d_AW_find_98 a15 kt_int (nI_pos (by omega)) (by rw [nI_clamp (by omega)]; exact arrL_get (by omega)) ?_
              refine m_callV (ci := 0) C d_AW_find_99 mw_AW_242 mi_AW_tellCandidate se_AW_tellCandidate rfl (ct_AW_tellCandidate _ _ _ R' ad (mvH R' ad M3) i (by omega) (pf 0) (pf 1) (pf 2) (pf 3) (pf 4) (pf 5) s (tn (R' 29 i)) (rk.2.1 i) (rk.2.2 i) M4 hV hb' hm4 hpf (by rw [hm4 5 0 0 (lv_o (by decide)) (by decide), show nW R' = nW R by rw [nW, f26]]; exact hS5') hF31.symm b3.symm (by rw [nS, nL, f1, f16]; exact b1) (by rw [nS, f1]; exact b2) (fun q hq => by rw [nL, f16] at hq; rw [nS, f1, hFf 17 (by decide)]; exact h17 q hq)) (fun q h => by rw [h]; exact hw _ ⟨16, i, 0, lv_p (by omega), rfl⟩) rfl rfl (Nat.le_of_ble_eq_true rfl) r4 (by decide) (fun v7 M5 hp h55 h56 => ?_)
              obtain ⟨rfl, h5a, h5o⟩ := hp
              show mj G 3 0 0 M5 102 [some (.ref (ad 0 0 0)), some (.int (nI m)), some (.int (nI i))] []
              refine m_iinc (v := (nI (i + 1))) (L' := [some (.ref (ad 0 0 0)), some (.int (nI m)), some (.int (nI (i + 1)))]) C d_AW_find_102 rfl (nI_1 i) (by decide) rfl ?_
              refine m_goto (tgt := 66) C d_AW_find_105 (by decide) ?_
              refine ih (rk.1 - (i + 1)) (by omega) M5 (i + 1) rfl (by omega) (fun k i' j hv hk => (h5o _ (hV.ne hv (lv_p (by omega)) (by omega))).trans (hm4 k i' j hv hk)) ?_ ?_
              · intro t ht; by_cases hti : t = i
                · rw [hti]; exact h5a
                · rw [h5o _ (hV.ne (lv_p (by omega)) (lv_p (by omega)) (by omega))]; exact hp4 t (by omega)
              · intro t ht; by_cases hti : t = i
                · rw [hti]; exact ⟨_, h5a⟩
                · rw [h5o _ (hV.ne (lv_p ht) (lv_p (by omega)) (by omega))]; exact hq4 t ht
        exact loop _ M3 0 rfl (Nat.zero_le _) hm3 (fun t h => absurd h (by omega)) hpl3
      · exact Th _ _ _ _ _ _ _ _ _ _ xw_AW_107 sr_AW_221 d_AW_find_31 d_AW_find_34 (Or.inl ⟨d_AW_find_35, d_AW_find_37, d_AW_find_40⟩) (by decide) (by decide) (by decide) (by decide) (⟨Or.inr (Or.inr (Or.inl ⟨trivial, hin, fun z => z (e0.mp h3), rfl⟩)), hR⟩)
    · exact Th _ _ _ _ _ _ _ _ _ _ xw_AW_55 sr_AW_219 d_AW_find_11 d_AW_find_14 (Or.inl ⟨d_AW_find_15, d_AW_find_17, d_AW_find_20⟩) (by decide) (by decide) (by decide) (by decide) (⟨Or.inr (Or.inl ⟨trivial, inn_r h2, rfl⟩), hR⟩)

set_option maxHeartbeats 4000000 in
set_option maxRecDepth 100000 in
theorem ct_AW_place (l : Launch) (D : ma_D) (s0 : State) (R : mR) (ad : mAd) (i w : Int32) (M : ma_H) (hR : RepC R ad M) (hb : Bd R) : Cx l D s0 y_AW_place c_AW_place 4 (some .int) 6 1 6 82 [.ref (ad 0 0 0), .int i, .int w] M (fun _ => False) (fun v M' => ((0 ≤ i ∧ i < nI (nF R)) ∧ (inn w 0 5 = true) ∧ (True) ∧ (True)) ∧ v = some (.int (tell R (tn (R 29 (tn i))) (tn w))) ∧ M' = M) (fun E M' => gbx (0 ≤ i ∧ i < nI (nF R)) (inn w 0 5 = true) (True) (True) E ∧ RepC R ad M') := by
  refine Cx_gen 1 [some (.ref (ad 0 0 0)), some (.int i), some (.int w), none] (by decide +kernel) (Nat.le_of_ble_eq_true rfl) rfl ?_
  intro G e1 e2 e3 C hw Rt Th Up
  subst e1; subst e2; subst e3
  obtain ⟨⟨hbS, hbL, hbC, hbW, hbF⟩, hbi⟩ := id hb
  refine m_iload_n C d_AW_place_0 rfl rfl ?_
  refine m_if_lt (tgt := 12) C d_AW_place_1 (by decide) (fun h1 => ?_) (fun h1 => ?_)
  · exact Th _ _ _ _ _ _ _ _ _ _ xw_AW_246 sr_AW_248 d_AW_place_12 d_AW_place_15 (Or.inl ⟨d_AW_place_16, d_AW_place_18, d_AW_place_21⟩) (by decide) (by decide) (by decide) (by decide) (⟨Or.inl ⟨fun z => Int32.not_lt.mpr z.1 h1, rfl⟩, hR⟩)
  · refine m_iload_n C d_AW_place_4 rfl rfl ?_
    refine m_aload_n C d_AW_place_5 rfl rfl ?_
    refine m_get C fg_AW_232 d_AW_place_6 hR.root rfl ?_
    refine m_icmp_lt (tgt := 22) C d_AW_place_9 (by decide) (fun h2 => ?_) (fun h2 => ?_)
    · refine m_iload_n C d_AW_place_22 rfl rfl ?_
      refine m_if_lt (tgt := 31) C d_AW_place_23 (by decide) (fun h3 => ?_) (fun h3 => ?_)
      · exact Th _ _ _ _ _ _ _ _ _ _ xw_AW_55 sr_AW_251 d_AW_place_31 d_AW_place_34 (Or.inl ⟨d_AW_place_35, d_AW_place_37, d_AW_place_40⟩) (by decide) (by decide) (by decide) (by decide) (⟨Or.inr (Or.inl ⟨⟨Int32.not_lt.mp h1, h2⟩, inn_l h3, rfl⟩), hR⟩)
      · refine m_iload_n C d_AW_place_26 rfl rfl ?_
        refine m_iconst (v := 5) C d_AW_place_27 (by decide) ?_
        refine m_icmp_le (tgt := 41) C d_AW_place_28 (by decide) (fun h4 => ?_) (fun h4 => ?_)
        · have hin : inn w 0 5 = true := inn_t h3 h4
          obtain ⟨a, ha⟩ : ∃ a, a = tn i := ⟨_, rfl⟩
          have hia : i = nI a := by rw [ha]; exact (tn_of (Int32.not_lt.mp h1)).1
          have haF : a < nF R := by have h5 := h2; rw [hia, nI_ltI (by rw [ha]; exact (tn_of (Int32.not_lt.mp h1)).2) (by omega)] at h5; exact h5
          obtain ⟨b, hb9⟩ : ∃ b, b = tn w := ⟨_, rfl⟩
          have hb5 : b ≤ 5 := by rw [hb9]; exact tn_le (inn_i hin).1 (by decide) (inn_i hin).2
          have hwb : w = nI b := by rw [hb9]; exact (tn_of (inn_i hin).1).1
          obtain ⟨l9, hl1, hl2, hl3⟩ := hR.pls
          obtain ⟨f, hf1, hf2⟩ := hR.1 16 a 0 (lv_p (by omega))
          have hf3 := hf2 haF b (by omega)
          have hpost : ∀ v : Int32, v = f b → (((0 ≤ i ∧ i < nI (nF R)) ∧ (inn w 0 5 = true) ∧ True ∧ True) ∧ some (Value.int v) = some (.int (tell R (tn (R 29 (tn i))) (tn w))) ∧ M = M) := fun v hv => ⟨⟨⟨Int32.not_lt.mp h1, h2⟩, hin, trivial, trivial⟩, by rw [hv, hf3, ha, hb9], rfl⟩
          rw [hia, hwb]
          refine m_aload_n C d_AW_place_41 rfl rfl ?_
          refine m_get C fg_AW_50 d_AW_place_42 hR.root rfl ?_
          refine m_iload_n C d_AW_place_45 rfl rfl ?_
          refine m_aald (v := .ref (ad 16 a 0)) C d_AW_place_46 hl1 kt_Pl rfl (nI_pos (by omega)) (by rw [nI_clamp (by omega)]; exact hl3 a (by omega)) ?_
          refine m_astore_n (L' := [some (.ref (ad 0 0 0)), some (.int (nI a)), some (.int (nI b)), some (.ref (ad 16 a 0))]) C d_AW_place_47 rfl (by decide) rfl ?_
          refine m_iload_n C d_AW_place_48 rfl rfl ?_
          have h9 : b = 0 ∨ b = 1 ∨ b = 2 ∨ b = 3 ∨ b = 4 ∨ b = 5 := by omega
          rcases h9 with rfl | rfl | rfl | rfl | rfl | rfl
          · refine m_tabIn (tgt := 84) C d_AW_place_49 (by decide) (by decide) (off := 35) (by decide) (by decide) ?_
            refine m_aload_n C d_AW_place_84 rfl rfl ?_
            refine m_get C fg_AW_253 d_AW_place_85 hf1 rfl ?_
            exact Rt _ _ _ _ _ _ _ (by decide) (by decide) (hpost _ rfl) (Or.inl ⟨rfl, _, rfl, rfl, d_AW_place_88⟩)
          · refine m_tabIn (tgt := 89) C d_AW_place_49 (by decide) (by decide) (off := 40) (by decide) (by decide) ?_
            refine m_aload_n C d_AW_place_89 rfl rfl ?_
            refine m_get C fg_AW_256 d_AW_place_90 hf1 rfl ?_
            exact Rt _ _ _ _ _ _ _ (by decide) (by decide) (hpost _ rfl) (Or.inl ⟨rfl, _, rfl, rfl, d_AW_place_93⟩)
          · refine m_tabIn (tgt := 94) C d_AW_place_49 (by decide) (by decide) (off := 45) (by decide) (by decide) ?_
            refine m_aload_n C d_AW_place_94 rfl rfl ?_
            refine m_get C fg_AW_259 d_AW_place_95 hf1 rfl ?_
            exact Rt _ _ _ _ _ _ _ (by decide) (by decide) (hpost _ rfl) (Or.inl ⟨rfl, _, rfl, rfl, d_AW_place_98⟩)
          · refine m_tabIn (tgt := 99) C d_AW_place_49 (by decide) (by decide) (off := 50) (by decide) (by decide) ?_
            refine m_aload_n C d_AW_place_99 rfl rfl ?_
            refine m_get C fg_AW_262 d_AW_place_100 hf1 rfl ?_
            exact Rt _ _ _ _ _ _ _ (by decide) (by decide) (hpost _ rfl) (Or.inl ⟨rfl, _, rfl, rfl, d_AW_place_103⟩)
          · refine m_tabIn (tgt := 104) C d_AW_place_49 (by decide) (by decide) (off := 55) (by decide) (by decide) ?_
            refine m_aload_n C d_AW_place_104 rfl rfl ?_
            refine m_get C fg_AW_265 d_AW_place_105 hf1 rfl ?_
            exact Rt _ _ _ _ _ _ _ (by decide) (by decide) (hpost _ rfl) (Or.inl ⟨rfl, _, rfl, rfl, d_AW_place_108⟩)
          · refine m_tabOut (tgt := 109) C d_AW_place_49 (by decide) (by decide) ?_
            refine m_aload_n C d_AW_place_109 rfl rfl ?_
            refine m_get C fg_AW_268 d_AW_place_110 hf1 rfl ?_
            exact Rt _ _ _ _ _ _ _ (by decide) (by decide) (hpost _ rfl) (Or.inl ⟨rfl, _, rfl, rfl, d_AW_place_113⟩)
        · exact Th _ _ _ _ _ _ _ _ _ _ xw_AW_55 sr_AW_251 d_AW_place_31 d_AW_place_34 (Or.inl ⟨d_AW_place_35, d_AW_place_37, d_AW_place_40⟩) (by decide) (by decide) (by decide) (by decide) (⟨Or.inr (Or.inl ⟨⟨Int32.not_lt.mp h1, h2⟩, inn_r h4, rfl⟩), hR⟩)
    · exact Th _ _ _ _ _ _ _ _ _ _ xw_AW_246 sr_AW_248 d_AW_place_12 d_AW_place_15 (Or.inl ⟨d_AW_place_16, d_AW_place_18, d_AW_place_21⟩) (by decide) (by decide) (by decide) (by decide) (⟨Or.inl ⟨fun z => h2 z.2, rfl⟩, hR⟩)
