/-! ===== writes that make cells; Name and Said grow ===== -/
theorem okC_ad {R : mR} {ad ad' : mAd} {k i j : Nat} {c : Option ma_E} (hv : lv R k i j) (ha : ∀ k i j, lv R k i j → ad' k i j = ad k i j) (h : okC R ad k i j c) : okC R ad' k i j c := by
  have h9 : k = 0 ∨ k = 1 ∨ k = 2 ∨ k = 3 ∨ k = 4 ∨ k = 5 ∨ k = 6 ∨ k = 7 ∨ k = 8 ∨ k = 9 ∨ k = 10 ∨ k = 11 ∨ k = 12 ∨ k = 13 ∨ k = 14 ∨ k = 15 ∨ k = 16 ∨ k = 17 ∨ k = 18 ∨ k = 19 ∨ k = 20 ∨ k = 21 ∨ k = 22 ∨ k = 23 ∨ k = 24 ∨ k = 25 ∨ k = 26 := by have := lv_le hv; omega
  rcases h9 with rfl | rfl | rfl | rfl | rfl | rfl | rfl | rfl | rfl | rfl | rfl | rfl | rfl | rfl | rfl | rfl | rfl | rfl | rfl | rfl | rfl | rfl | rfl | rfl | rfl | rfl | rfl
  · simp only [okC, ha _ _ _ (lv_o (k := 1) (by decide)), ha _ _ _ (lv_o (k := 2) (by decide)), ha _ _ _ (lv_o (k := 3) (by decide)), ha _ _ _ (lv_o (k := 5) (by decide)), ha _ _ _ (lv_o (k := 9) (by decide)), ha _ _ _ (lv_o (k := 13) (by decide)), ha _ _ _ (lv_o (k := 4) (by decide))] at h ⊢; exact h
  · obtain ⟨l, h1, h2, h3⟩ := h; exact ⟨l, h1, h2, fun q hq => by rw [ha _ _ _ (lv_s (by decide) hq)]; exact h3 q hq⟩
  · obtain ⟨l, h1, h2, h3⟩ := h; exact ⟨l, h1, h2, fun q hq => by rw [ha _ _ _ (lv_m (by decide) hq)]; exact h3 q hq⟩
  · obtain ⟨l, h1, h2, h3⟩ := h; exact ⟨l, h1, h2, fun q hq => by rw [ha _ _ _ (lv_c hq)]; exact h3 q hq⟩
  · obtain ⟨l, h1, h2, h3⟩ := h; exact ⟨l, h1, h2, fun q hq => by rw [ha _ _ _ (lv_p hq)]; exact h3 q hq⟩
  · simp only [okC, ha _ _ _ (lv_o (k := 6) (by decide)), ha _ _ _ (lv_o (k := 7) (by decide)), ha _ _ _ (lv_o (k := 8) (by decide))] at h ⊢; exact h
  · simp only [okC] at h ⊢; exact h
  · simp only [okC] at h ⊢; exact h
  · simp only [okC] at h ⊢; exact h
  · simp only [okC, ha _ _ _ (lv_o (k := 10) (by decide)), ha _ _ _ (lv_o (k := 11) (by decide)), ha _ _ _ (lv_o (k := 12) (by decide))] at h ⊢; exact h
  · simp only [okC] at h ⊢; exact h
  · simp only [okC] at h ⊢; exact h
  · simp only [okC] at h ⊢; exact h
  · simp only [okC, ha _ _ _ (lv_o (k := 14) (by decide)), ha _ _ _ (lv_o (k := 15) (by decide))] at h ⊢; exact h
  · simp only [okC] at h ⊢; exact h
  · simp only [okC] at h ⊢; exact h
  · simp only [okC] at h ⊢; exact h
  · simp only [okC, ha 18 i 0 (lv_s (by decide) hv.1), ha 19 i 0 (lv_s (by decide) hv.1)] at h ⊢; exact h
  · obtain ⟨l, h1, h2, h3⟩ := h; exact ⟨l, h1, h2, fun q hq => by rw [ha _ _ _ (lv_n (Or.inl rfl) hv.1 hq)]; exact h3 q hq⟩
  · obtain ⟨l, h1, h2, h3⟩ := h; exact ⟨l, h1, h2, fun q hq => by rw [ha _ _ _ (lv_r hv.1 hq)]; exact h3 q hq⟩
  · simp only [okC, ha 21 i j (lv_n (Or.inr rfl) hv.1 hv.2)] at h ⊢; exact h
  · simp only [okC] at h ⊢; exact h
  · simp only [okC] at h ⊢; exact h
  · simp only [okC, ha 24 i 0 (lv_m (by decide) hv.1)] at h ⊢; exact h
  · simp only [okC, ha 25 i 0 (lv_m (by decide) hv.1)] at h ⊢; exact h
  · simp only [okC] at h ⊢; exact h
  · simp only [okC] at h ⊢; exact h
theorem RepC.ad {R : mR} {ad ad' : mAd} {M : ma_H} (h : RepC R ad M) (ha : ∀ k i j, lv R k i j → ad' k i j = ad k i j) : RepC R ad' M := ⟨fun k i j hv => by rw [ha k i j hv]; exact okC_ad hv ha (h.1 k i j hv), fun k i j k' i' j' h1 h2 e => h.2 k i j k' i' j' h1 h2 (by rw [← ha k i j h1, ← ha k' i' j' h2]; exact e)⟩
/-- as RepC.upd, with new cells among W -/
theorem RepC.updN {R R' : mR} {ad : mAd} {M M' : ma_H} (h : RepC R ad M) (W : Nat → Nat → Nat → Prop) (hl : ∀ k i j, lv R' k i j → ¬ W k i j → lv R k i j) (hI : adI R' ad) (hag : ∀ k i j, lv R k i j → ¬ W k i j → M' (ad k i j) = M (ad k i j)) (hmo : ∀ k i j, lv R' k i j → ¬ W k i j → ∀ c, okC R ad k i j c → okC R' ad k i j c) (hW : ∀ k i j, lv R' k i j → W k i j → okC R' ad k i j (M' (ad k i j))) : RepC R' ad M' := by
  refine ⟨fun k i j hv => ?_, hI⟩
  by_cases hw : W k i j
  · exact hW k i j hv hw
  · rw [hag k i j (hl k i j hv hw) hw]
    exact hmo k i j hv hw _ (h.1 k i j (hl k i j hv hw))
theorem adI_new {R R' : mR} {ad ad' : mAd} {M : ma_H} (h : RepC R ad M) (N : Nat → Nat → Nat → Prop) (h1 : ∀ k i j, lv R' k i j → ¬ N k i j → lv R k i j ∧ ad' k i j = ad k i j) (h2 : ∀ k i j, lv R' k i j → N k i j → M (ad' k i j) = none) (h3 : ∀ k i j k' i' j', lv R' k i j → lv R' k' i' j' → N k i j → N k' i' j' → ad' k i j = ad' k' i' j' → k = k' ∧ i = i' ∧ j = j') : adI R' ad' := by
  intro k i j k' i' j' v v' e
  by_cases n : N k i j <;> by_cases n' : N k' i' j'
  · exact h3 k i j k' i' j' v v' n n' e
  · have q := h1 k' i' j' v' n'
    exact absurd (by rw [← q.2, ← e]; exact h2 k i j v n) (h.ne0 q.1)
  · have q := h1 k i j v n
    exact absurd (by rw [← q.2, e]; exact h2 k' i' j' v' n') (h.ne0 q.1)
  · have q := h1 k i j v n
    have q' := h1 k' i' j' v' n'
    exact h.2 k i j k' i' j' q.1 q'.1 (by rw [← q.2, ← q'.2]; exact e)
theorem foot_new {R R' : mR} {ad ad' : mAd} {M : ma_H} (N : Nat → Nat → Nat → Prop) (h1 : ∀ k i j, lv R' k i j → ¬ N k i j → lv R k i j ∧ ad' k i j = ad k i j) (h2 : ∀ k i j, lv R' k i j → N k i j → M (ad' k i j) = none) : ∀ q, foot R' ad' q → foot R ad q ∨ M q = none := by
  rintro q ⟨k, i, j, v, rfl⟩
  by_cases n : N k i j
  · exact Or.inr (h2 k i j v n)
  · have q := h1 k i j v n
    exact Or.inl ⟨k, i, j, q.1, q.2.symm⟩
theorem fa_in {f : Nat → Int32} {L : Nat} {p : Int64} {n i j : Nat} (h : L ≤ j ∧ j < L + i) : fa f L p n i j = sgn p n (j - L) := if_pos h
theorem fa_out {f : Nat → Int32} {L : Nat} {p : Int64} {n i j : Nat} (h : ¬ (L ≤ j ∧ j < L + i)) : fa f L p n i j = f j := if_neg h
theorem nmL_app {R R1 : mR} {k m : Nat} {p : Int64} (hl : tn (R 5 k) + m ≤ 16) (h5 : R1 5 = fu (R 5) k (nI (tn (R 5 k) + m))) (h6 : R1 6 = fa (R 6) (16 * k + tn (R 5 k)) p m m) : nmL R1 k = nmL R k ++ sgns p m m := by
  have e1 : tn (R1 5 k) = tn (R 5 k) + m := by rw [h5, fu_s, tn_nI (by omega)]
  apply List.ext_getElem?
  intro c
  simp only [nmL, e1, h6, sgns]
  by_cases hc : c < tn (R 5 k)
  · rw [List.getElem?_append_left (by simp; exact hc), List.getElem?_map, List.getElem?_map, List.getElem?_range (by omega), List.getElem?_range hc]
    simp only [Option.map_some]
    rw [fa_out (by omega)]
  · rw [List.getElem?_append_right (by simp; omega), List.getElem?_map, List.getElem?_map]
    simp only [List.length_map, List.length_range]
    by_cases h2 : c < tn (R 5 k) + m
    · rw [List.getElem?_range h2, List.getElem?_range (by omega)]
      simp only [Option.map_some]
      rw [fa_in (by omega), show 16 * k + c - (16 * k + tn (R 5 k)) = c - tn (R 5 k) by omega]
    · rw [List.getElem?_eq_none (by simp; omega), List.getElem?_eq_none (by simp; omega)]; rfl
theorem nmL_oth {R R1 : mR} {k k' m : Nat} {p : Int64} (hl : tn (R 5 k) + m ≤ 16) (hl2 : tn (R 5 k') ≤ 16) (h5 : R1 5 = fu (R 5) k (nI (tn (R 5 k) + m))) (h6 : R1 6 = fa (R 6) (16 * k + tn (R 5 k)) p m m) (hk : k' ≠ k) : nmL R1 k' = nmL R k' := by
  simp only [nmL, h5, h6, fu_n hk]
  apply List.map_congr_left
  intro c hc
  rw [List.mem_range] at hc
  rw [fa_out (by omega)]

set_option maxHeartbeats 4000000 in
set_option maxRecDepth 100000 in
theorem ct_AW_sign (l : Launch) (D : ma_D) (s0 : State) (R : mR) (ad : mAd) (s : Int32) (p : Int64) (n : Int32) (M : ma_H) (hR : RepC R ad M) (hb : Bd R) : Cx l D s0 y_AW_sign c_AW_sign 6 (some .int) 7 3 18 105 [.ref (ad 0 0 0), .int s, .long p, .int n] M (foot R ad) (fun v M' => ((kn R s = true) ∧ (gdL p n) ∧ (True) ∧ (tn (R 5 (3 * tn s + (tn (R 4 (tn s)) - 1))) + tn n ≤ 16)) ∧ v = some (.int (nI (tn (R 5 (3 * tn s + (tn (R 4 (tn s)) - 1))) + tn n))) ∧ RepC (uR (uR (setF (R) 6 (fa (R 6) (16 * (3 * (tn s) + (tn (R 4 (tn s)) - 1)) + tn (R 5 (3 * (tn s) + (tn (R 4 (tn s)) - 1)))) p (tn n) (tn n))) 5 (3 * (tn s) + (tn (R 4 (tn s)) - 1)) (nI (tn (R 5 (3 * (tn s) + (tn (R 4 (tn s)) - 1))) + (tn n)))) 28 (0) (0)) ad M') (fun E M' => gbx (kn R s = true) (gdL p n) (True) (tn (R 5 (3 * tn s + (tn (R 4 (tn s)) - 1))) + tn n ≤ 16) E ∧ RepC R ad M') := by
  refine Cx_gen 1 [some (.ref (ad 0 0 0)), some (.int s), some (.long p), none, some (.int n), none] (by decide +kernel) (Nat.le_of_ble_eq_true rfl) rfl ?_
  intro G e1 e2 e3 C hw Rt Th Up
  subst e1; subst e2; subst e3
  refine m_aload_n C d_AW_sign_0 rfl rfl ?_
  refine m_iload_n C d_AW_sign_1 rfl rfl ?_
  refine m_callVX (ci := 0) C d_AW_sign_2 ml_AW_77 mw_AW_77 mi_AW_knownStreet se_AW_knownStreet rfl (ct_AW_knownStreet _ _ _ R ad s M hR hb) (fun _ h => h.elim) rfl rfl (Nat.le_of_ble_eq_true rfl) hR.root (by decide) (fun v9 M9 hp h5 h6 => ?_) (fun E9 M9 hp h5 h6 => ?_)
  · obtain ⟨rfl, hM9, hk⟩ := hp; rw [hM9]
    show mj G 6 (0 + 1) (0 + 6) M 5 [some (.ref (ad 0 0 0)), some (.int s), some (.long p), none, some (.int n), none] [.ref (ad 17 (tn s) 0)]
    obtain ⟨i0, hi, hsi, ht⟩ := kn_i hb hk
    rw [ht]
    have hnc := (hb.2 i0 hi).1
    have hb30 := hb.1.1
    obtain ⟨ln9, hl1, hl2, hl3⟩ := hR.nms hi
    refine m_callV (ci := 9) C d_AW_sign_5 mw_AW_81 mi_St_latestName se_St_latestName rfl (ct_St_latestName _ _ _ (ad 17 i0 0) (ad 18 i0 0) (tn (R 4 i0)) (ad 19 i0 0) (tn (R 7 i0)) (R 2 i0) (R 11 i0) (R 12 i0) (R 11 i0 + R 13 i0) (R 12 i0 + R 14 i0) (R 15 i0) (R 3 i0) (ad 20 i0 (tn (R 4 i0) - 1)) ln9 M (hR.st hi) hl1 hnc.1 hnc.2 (hl3 _ (by omega))) (fun _ h => h.elim) rfl rfl (Nat.le_of_ble_eq_true rfl) (hR.st hi) (by decide) (fun v8 M8 hp h5 h6 => ?_)
    obtain ⟨rfl, hM8⟩ := hp; rw [hM8]
    show mj G 6 (0 + 1 + 0) (0 + 6 + 0) M 8 [some (.ref (ad 0 0 0)), some (.int s), some (.long p), none, some (.int n), none] [.ref (ad 20 i0 (tn (R 4 i0) - 1))]
    obtain ⟨lc9, hNa⟩ := hR.nm (j := (tn (R 4 i0) - 1)) hi (by omega)
    refine m_astore (L' := [some (.ref (ad 0 0 0)), some (.int s), some (.long p), none, some (.int n), some (.ref (ad 20 i0 (tn (R 4 i0) - 1)))]) C d_AW_sign_8 (by decide) rfl ?_
    refine m_lload_n C d_AW_sign_10 rfl rfl ?_
    refine m_iload C d_AW_sign_11 rfl ?_
    refine m_callSX C d_AW_sign_13 ml_AW_85 mw_AW_85 mst_AW_requireLetters (ct_AW_requireLetters _ _ _ p n M) (fun _ h => h.elim) rfl rfl (Nat.le_of_ble_eq_true rfl) (by decide) (fun v7 M7 hp h5 h6 => ?_) (fun E7 M7 hp h5 h6 => ?_)
    · obtain ⟨rfl, hM7, hg⟩ := hp; rw [hM7]
      show mj G 6 (0 + 1 + 0 + 1) (0 + 6 + 0 + 6) M 16 [some (.ref (ad 0 0 0)), some (.int s), some (.long p), none, some (.int n), some (.ref (ad 20 i0 (tn (R 4 i0) - 1)))] []
      obtain ⟨m, hm, hnm⟩ := inn8 (show inn n 0 8 = true from inn_t (fun z => Int32.not_lt.mpr (inn_i hg.1).1 (Int32.lt_trans z (by decide))) (inn_i hg.1).2)
      have htn : tn n = m := by rw [hnm, tn_nI (by omega)]
      subst hnm
      refine m_aload C d_AW_sign_16 rfl ?_
      refine m_iload C d_AW_sign_18 rfl ?_
      refine m_callV (ci := 5) C d_AW_sign_20 mw_AW_89 mi_Na_hasRoomFor se_Na_hasRoomFor rfl (ct_Na_hasRoomFor _ _ _ (ad 20 i0 (tn (R 4 i0) - 1)) (ad 21 i0 (tn (R 4 i0) - 1)) lc9 (nmL R (3 * i0 + (tn (R 4 i0) - 1))) m hm M hNa) (fun _ h => h.elim) rfl rfl (Nat.le_of_ble_eq_true rfl) hNa.1 (by decide) (fun v7 M7 hp h5 h6 => ?_)
      obtain ⟨rfl, hM7⟩ := hp; rw [hM7]
      show mj G 6 (0 + 1 + 0 + 1 + 0) (0 + 6 + 0 + 6 + 0) M 23 [some (.ref (ad 0 0 0)), some (.int s), some (.long p), none, some (.int (nI m)), some (.ref (ad 20 i0 (tn (R 4 i0) - 1)))] [.int (b2i (decide ((nmL R (3 * i0 + (tn (R 4 i0) - 1))).length + m ≤ 16)))]
      refine m_if_ne (tgt := 36) C d_AW_sign_23 (by decide) (fun h1 => ?_) (fun h1 => ?_)
      · rw [b2i_eq0, Bool.not_eq_false, decide_eq_true_eq] at h1
        refine m_aload C d_AW_sign_36 rfl ?_
        refine m_lload_n C d_AW_sign_38 rfl rfl ?_
        refine m_iload C d_AW_sign_39 rfl ?_
        refine m_callV (ci := 5) C d_AW_sign_41 mw_AW_97 mi_Na_append se_Na_append rfl (ct_Na_append _ _ _ (ad 20 i0 (tn (R 4 i0) - 1)) (ad 21 i0 (tn (R 4 i0) - 1)) lc9 (nmL R (3 * i0 + (tn (R 4 i0) - 1))) p m hm M hNa h1) (fun q h => h.elim (fun z => by rw [z]; exact hw _ ⟨20, i0, _, lv_n (Or.inl rfl) hi (by omega), rfl⟩) (fun z => by rw [z]; exact hw _ ⟨21, i0, _, lv_n (Or.inr rfl) hi (by omega), rfl⟩)) rfl rfl (Nat.le_of_ble_eq_true rfl) hNa.1 (by decide) (fun v6 M1 hp M1o h6 => ?_)
        obtain ⟨rfl, l9, hN1⟩ := hp
        show mj G 6 (0 + 1 + 0 + 1 + 0 + 0) (0 + 6 + 0 + 6 + 0 + 0) M1 44 [some (.ref (ad 0 0 0)), some (.int s), some (.long p), none, some (.int (nI m)), some (.ref (ad 20 i0 (tn (R 4 i0) - 1)))] []
        rw [nmL_len] at h1
        have hj3 : (tn (R 4 i0) - 1) < 3 := by omega
        have nx1 : ad 0 0 0 ≠ ad 20 i0 (tn (R 4 i0) - 1) := hR.ne (lv_o (by decide)) (lv_n (Or.inl rfl) hi hj3) (by omega)
        have nx2 : ad 0 0 0 ≠ ad 21 i0 (tn (R 4 i0) - 1) := hR.ne (lv_o (by decide)) (lv_n (Or.inr rfl) hi hj3) (by omega)
        have hr1 := (M1o _ (hR.ne0 (lv_o (by decide))) (fun z => z.elim nx1 nx2)).trans hR.root
        refine m_aload_n C d_AW_sign_44 rfl rfl ?_
        refine m_callV (ci := 0) C d_AW_sign_45 mw_AW_74 mi_AW_forgetPlaces se_AW_forgetPlaces rfl (ct_AW_forgetPlaces _ _ _ (ad 0 0 0) (.ref (ad 1 0 0)) (.int (nI (nS R))) (.ref (ad 2 0 0)) (.int (nI (nL R))) (.ref (ad 3 0 0)) (.int (nI (nC R))) (.ref (ad 5 0 0)) (.ref (ad 9 0 0)) (.ref (ad 13 0 0)) (.ref (ad 4 0 0)) (.int (nI (nF R))) M1 hr1) (fun q h => by rw [h]; exact hw _ ⟨0, 0, 0, lv_o (by decide), rfl⟩) rfl rfl (Nat.le_of_ble_eq_true rfl) hr1 (by decide) (fun v7 M2 hp h5 h6 => ?_)
        obtain ⟨rfl, hF, M2o⟩ := hp
        show mj G 6 (0 + 1 + 0 + 1 + 0 + 0 + 0) (0 + 6 + 0 + 6 + 0 + 0 + 0) M2 48 [some (.ref (ad 0 0 0)), some (.int s), some (.long p), none, some (.int (nI m)), some (.ref (ad 20 i0 (tn (R 4 i0) - 1)))] []
        have hN2 := hN1.kept (M2o _ (Ne.symm nx1)) (M2o _ (Ne.symm nx2))
        have hRep : RepC (uR (uR (setF (R) 6 (fa (R 6) (16 * (3 * i0 + (tn (R 4 i0) - 1)) + tn (R 5 (3 * i0 + (tn (R 4 i0) - 1)))) p m m)) 5 (3 * i0 + (tn (R 4 i0) - 1)) (nI (tn (R 5 (3 * i0 + (tn (R 4 i0) - 1))) + m))) 28 (0) (0)) ad M2 := by
          obtain ⟨R1, hR1⟩ : ∃ R1, R1 = uR (uR (setF (R) 6 (fa (R 6) (16 * (3 * i0 + (tn (R 4 i0) - 1)) + tn (R 5 (3 * i0 + (tn (R 4 i0) - 1)))) p m m)) 5 (3 * i0 + (tn (R 4 i0) - 1)) (nI (tn (R 5 (3 * i0 + (tn (R 4 i0) - 1))) + m))) 28 (0) (0) := ⟨_, rfl⟩
          rw [← hR1]
          have hag : ∀ f, f ∉ [6, 5, 28] → R1 f = R f := fun f hf => by rw [hR1, uR_n (fun z => hf (by rw [z]; decide)), uR_n (fun z => hf (by rw [z]; decide)), setF_n (fun z => hf (by rw [z]; decide))]
          have e28 : R1 28 = fu (R 28) (0) (0) := by rw [hR1, uR_s, uR_n (by decide), setF_n (by decide)]
          have e5 : R1 5 = fu (R 5) (3 * i0 + (tn (R 4 i0) - 1)) (nI (tn (R 5 (3 * i0 + (tn (R 4 i0) - 1))) + m)) := by rw [hR1, uR_n (by decide), uR_s, setF_n (by decide)]
          have e6 : R1 6 = fa (R 6) (16 * (3 * i0 + (tn (R 4 i0) - 1)) + tn (R 5 (3 * i0 + (tn (R 4 i0) - 1)))) p m m := by rw [hR1, uR_n (by decide), uR_n (by decide), setF_s]
          have happ := nmL_app (R1 := R1) h1 e5 e6
          have hoth : ∀ i j, i < nS R → j < 3 → ¬ (i = i0 ∧ j = (tn (R 4 i0) - 1)) → nmL R1 (3 * i + j) = nmL R (3 * i + j) := fun i j a1 a2 a3 => nmL_oth h1 (by obtain ⟨l, hl⟩ := hR.nm a1 a2; rw [← nmL_len]; exact hl.2.2.2.1) e5 e6 (by omega)
          refine hR.upd (fun k i j => (k = 0 ∧ i = 0 ∧ j = 0) ∨ (k = 20 ∧ i = i0 ∧ j = (tn (R 4 i0) - 1)) ∨ (k = 21 ∧ i = i0 ∧ j = (tn (R 4 i0) - 1))) ?_ ?_ ?_ ?_
          · exact fun k i j hv => lv_cg (hag 1 (by decide)) (hag 16 (by decide)) (hag 21 (by decide)) (hag 7 (by decide)) hv
          · intro k i j hv hn
            rw [M2o _ (hR.ne hv (lv_o (by decide)) (fun z => hn (Or.inl z))), M1o _ (hR.ne0 hv) (fun z => z.elim (hR.ne hv (lv_n (Or.inl rfl) hi hj3) (fun z => hn (Or.inr (Or.inl z)))) (hR.ne hv (lv_n (Or.inr rfl) hi hj3) (fun z => hn (Or.inr (Or.inr z)))))]
          · intro k i j hv hn c hc
            by_cases k0 : k = 0
            · subst k0
              have h1 : i < 1 := hv.1
              have h2 : j < 1 := hv.2
              exact absurd (show (0 = 0 ∧ i = 0 ∧ j = 0) ∨ (0 = 20 ∧ i = i0 ∧ j = (tn (R 4 i0) - 1)) ∨ (0 = 21 ∧ i = i0 ∧ j = (tn (R 4 i0) - 1)) by omega) hn
            by_cases k16 : k = 16
            · subst k16
              obtain ⟨f, h1, _⟩ := hc
              exact ⟨f, h1, fun z => absurd z (by show ¬ i < tn (R1 28 0); rw [e28, fu_s, tn_0]; omega)⟩
            by_cases k20 : k = 20
            · subst k20
              have hv0 := lv_cg (hag 1 (by decide)) (hag 16 (by decide)) (hag 21 (by decide)) (hag 7 (by decide)) hv
              have h1 : i < nS R := hv0.1
              have h2 : j < 3 := hv0.2
              simp only [okC, hoth i j h1 h2 (fun z => hn (Or.inr (Or.inl ⟨rfl, z.1, z.2⟩)))]
              exact hc
            by_cases k21 : k = 21
            · subst k21
              have hv0 := lv_cg (hag 1 (by decide)) (hag 16 (by decide)) (hag 21 (by decide)) (hag 7 (by decide)) hv
              have h1 : i < nS R := hv0.1
              have h2 : j < 3 := hv0.2
              simp only [okC, hoth i j h1 h2 (fun z => hn (Or.inr (Or.inr ⟨rfl, z.1, z.2⟩)))]
              exact hc
            exact okC_cg k16 (lv_le hv) (fun f hf => hag f ((by decide : ∀ k, k < 27 → k ∉ [0, 16, 20, 21] → ∀ f ∈ okD k, f ∉ [6, 5, 28]) k (by have := lv_le hv; omega) (by simp only [List.mem_cons, List.not_mem_nil, or_false, not_or]; exact ⟨k0, k16, k20, k21⟩) f hf)) hc
          · rintro k i j hv (⟨rfl, rfl, rfl⟩ | ⟨rfl, rfl, rfl⟩ | ⟨rfl, rfl, rfl⟩)
            · simp only [okC, nS, nL, nC, nF, hag 1 (by decide), hag 16 (by decide), hag 21 (by decide), e28, fu_s, nt0]
              exact hF
            · simp only [okC, happ]
              exact hN2.1
            · simp only [okC, happ]
              exact ⟨l9, hN2.2⟩
        refine m_aload C d_AW_sign_48 rfl ?_
        refine m_get C fg_AW_100 d_AW_sign_50 hN2.1 rfl ?_
        exact Rt _ _ _ _ _ _ _ (by decide) (by decide) (⟨⟨hk, hg, trivial, by rw [ht, htn]; exact h1⟩, by rw [ht, htn, List.length_append, nmL_len, sgns_len], by rw [ht, htn]; exact hRep⟩) (Or.inl ⟨rfl, _, rfl, rfl, d_AW_sign_53⟩)
      · exact Th _ _ _ _ _ _ _ _ _ _ xw_AW_66 sr_AW_95 d_AW_sign_26 d_AW_sign_29 (Or.inl ⟨d_AW_sign_30, d_AW_sign_32, d_AW_sign_35⟩) (by decide) (by decide) (by decide) (by decide) (⟨Or.inr (Or.inr (Or.inr ⟨hk, hg, trivial, by rw [ht, htn]; rw [b2i_eq0, decide_eq_false_iff_not, nmL_len] at h1; exact h1, rfl⟩)), hR⟩)
    · obtain ⟨rfl, hM7, hg⟩ := hp; rw [hM7]
      exact Up _ _ _ _ _ _ (by decide) (by decide) (⟨Or.inr (Or.inl ⟨hk, hg, rfl⟩), hR⟩)
  · obtain ⟨rfl, hM9, hk⟩ := hp; rw [hM9]
    exact Up _ _ _ _ _ _ (by decide) (by decide) (⟨Or.inl ⟨hk, rfl⟩, hR⟩)
