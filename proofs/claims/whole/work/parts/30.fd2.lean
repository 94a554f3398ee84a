/-! ===== telling the places ===== -/
abbrev plF (f : Nat → Int32) : List Value := [.int (f 0), .int (f 1), .int (f 2), .int (f 3), .int (f 4), .int (f 5)]
theorem rRs_tr {R : mR} {ad : mAd} {M Mv : ma_H} {i : Nat} (hV : RepC R ad Mv) (hm : ∀ k i j, lv R k i j → k ≠ 16 → M (ad k i j) = Mv (ad k i j)) (hi : i < nS R) : rRs M (ad 19 i 0) (fun j => ad 22 i j) (fun j => R 8 (6 * i + j)) (fun j => rgF R (6 * i + j)) (fun j => rgL R (6 * i + j)) (tn (R 7 i)) := by
  obtain ⟨⟨l, h1, h2⟩, h3⟩ := hV.rRs hi
  exact ⟨⟨l, (hm 19 i 0 (lv_s (by decide) hi) (by decide)).trans h1, h2⟩, fun q hq => (hm 22 i q (lv_r hi hq) (by decide)).trans (h3 q hq)⟩
theorem nI_30 (m : Nat) : nI (30 + m) - 30 = nI m := by
  rw [show nI (30 + m) = nI 30 + nI m from (nI_add 30 m).symm, show (30 : Int32) = nI 30 from rfl]
  grind
theorem nI_m30 {q : Nat} (h : q < 30) : nI q - 30 < 0 := by
  have : ∀ q, q < 30 → nI q - 30 < 0 := by decide
  exact this q h

set_option maxHeartbeats 4000000 in
set_option maxRecDepth 100000 in
theorem ct_AW_tellWhere (l : Launch) (D : ma_D) (s0 : State) (R : mR) (ad : mAd) (Mv : ma_H) (t : Nat) (ht : t < 10) (f0 f1 f2 f3 f4 f5 : Int32) (g : Nat) (hg : g < nS R) (r : Int32) (M : ma_H) (hV : RepC R ad Mv) (hb : Bd R) (hm : ∀ k i j, lv R k i j → k ≠ 16 → M (ad k i j) = Mv (ad k i j)) (ha : M (ad 16 t 0) = some (.inl (6, [.int f0, .int f1, .int f2, .int f3, .int f4, .int f5]))) : Ct l D s0 y_AW_tellWhere c_AW_tellWhere 5 none 0 0 0 0 [.ref (ad 0 0 0), .ref (ad 16 t 0), .int (nI g), .int r] M (fun q => q = (ad 16 t 0)) (fun v M' => v = none ∧ M' (ad 16 t 0) = some (.inl (6, [.int (nI g), .int f1, .int (r + (if R 3 g = 0 then 0 else 10)), .int f3, .int (R 2 g), .int f5])) ∧ ∀ q, q ≠ (ad 16 t 0) → M' q = M q) := by
  refine Ct_v 1 [some (.ref (ad 0 0 0)), some (.ref (ad 16 t 0)), some (.int (nI g)), some (.int r), none] (by decide +kernel) (Nat.le_of_ble_eq_true rfl) rfl ?_
  intro G e1 e2 e3 C hw hI Rt
  subst e1; subst e2; subst e3
  have hb30 := hb.1.1
  obtain ⟨l9, hl1, hl2, hl3⟩ := hV.sts
  refine m_aload_n C d_AW_tellWhere_0 rfl rfl ?_
  refine m_get C fg_AW_11 d_AW_tellWhere_1 ((hm 0 0 0 (lv_o (by decide)) (by decide)).trans hV.root) rfl ?_
  refine m_iload_n C d_AW_tellWhere_4 rfl rfl ?_
  refine m_aald (v := .ref (ad 17 g 0)) C d_AW_tellWhere_5 ((hm 1 0 0 (lv_o (by decide)) (by decide)).trans hl1) kt_St rfl (nI_pos (by omega)) (by rw [nI_clamp (by omega)]; exact hl3 g hg) ?_
  refine m_astore (L' := [some (.ref (ad 0 0 0)), some (.ref (ad 16 t 0)), some (.int (nI g)), some (.int r), some (.ref (ad 17 g 0))]) C d_AW_tellWhere_6 (by decide) rfl ?_
  refine m_aload_n C d_AW_tellWhere_8 rfl rfl ?_
  refine m_iload_n C d_AW_tellWhere_9 rfl rfl ?_
  refine m_putE C fp_AW_253 d_AW_tellWhere_10 (hw _ rfl) ha rfl rfl (fun M1 M1a0 M1o => ?_)
  refine m_aload_n C d_AW_tellWhere_13 rfl rfl ?_
  refine m_aload C d_AW_tellWhere_14 rfl ?_
  refine m_get C fg_AW_289 d_AW_tellWhere_16 ((M1o _ (Ne.symm (hV.ne (lv_p ht) (lv_s (by decide) hg) (by omega)))).trans ((hm 17 g 0 (lv_s (by decide) hg) (by decide)).trans (hV.st hg))) rfl ?_
  refine m_putE C fp_AW_265 d_AW_tellWhere_19 (hw _ rfl) M1a0 rfl rfl (fun M2 M2a0 M2o => ?_)
  refine m_aload_n C d_AW_tellWhere_22 rfl rfl ?_
  refine m_aload C d_AW_tellWhere_23 rfl ?_
  refine m_get C fg_AW_143 d_AW_tellWhere_25 ((M2o _ (Ne.symm (hV.ne (lv_p ht) (lv_s (by decide) hg) (by omega)))).trans ((M1o _ (Ne.symm (hV.ne (lv_p ht) (lv_s (by decide) hg) (by omega)))).trans ((hm 17 g 0 (lv_s (by decide) hg) (by decide)).trans (hV.st hg)))) rfl ?_
  refine m_if_eq (tgt := 38) C d_AW_tellWhere_28 (by decide) (fun h1 => ?_) (fun h1 => ?_)
  · refine m_iload_n C d_AW_tellWhere_38 rfl rfl ?_
    refine m_putE C fp_AW_259 d_AW_tellWhere_39 (hw _ rfl) M2a0 rfl rfl (fun M3 M3a0 M3o => ?_)
    exact Rt _ _ _ _ _ (by decide) (by decide) d_AW_tellWhere_42 (⟨rfl, by rw [M3a0]; simp [h1], fun q hq => by rw [M3o q hq, M2o q hq, M1o q hq]⟩)
  · refine m_iload_n C d_AW_tellWhere_31 rfl rfl ?_
    refine m_bipush (v := 10) C d_AW_tellWhere_32 (by decide) ?_
    refine m_iadd C d_AW_tellWhere_34 ?_
    refine m_goto (tgt := 39) C d_AW_tellWhere_35 (by decide) ?_
    refine m_putE C fp_AW_259 d_AW_tellWhere_39 (hw _ rfl) M2a0 rfl rfl (fun M3 M3a0 M3o => ?_)
    exact Rt _ _ _ _ _ (by decide) (by decide) d_AW_tellWhere_42 (⟨rfl, by rw [M3a0]; simp [h1], fun q hq => by rw [M3o q hq, M2o q hq, M1o q hq]⟩)

set_option maxHeartbeats 4000000 in
set_option maxRecDepth 100000 in
theorem ct_AW_tellLandmark (l : Launch) (D : ma_D) (s0 : State) (R : mR) (ad : mAd) (Mv : ma_H) (t : Nat) (ht : t < 10) (f0 f1 f2 f3 f4 f5 : Int32) (m : Nat) (hmL : m < nL R) (g : Nat) (hg : g < nS R) (h17 : R 17 m = nI g) (M : ma_H) (hV : RepC R ad Mv) (hb : Bd R) (hm : ∀ k i j, lv R k i j → k ≠ 16 → M (ad k i j) = Mv (ad k i j)) (ha : M (ad 16 t 0) = some (.inl (6, [.int f0, .int f1, .int f2, .int f3, .int f4, .int f5]))) : Ct l D s0 y_AW_tellLandmark c_AW_tellLandmark 4 none 1 0 0 24 [.ref (ad 0 0 0), .ref (ad 16 t 0), .int (nI m)] M (fun q => q = (ad 16 t 0)) (fun v M' => v = none ∧ M' (ad 16 t 0) = some (.inl (6, [.int (R 17 m), .int (R 18 m), .int (3 + (if R 3 g = 0 then 0 else 10)), .int f3, .int (R 2 g), .int (nI m)])) ∧ ∀ q, q ≠ (ad 16 t 0) → M' q = M q) := by
  refine Ct_v 1 [some (.ref (ad 0 0 0)), some (.ref (ad 16 t 0)), some (.int (nI m)), none] (by decide +kernel) (Nat.le_of_ble_eq_true rfl) rfl ?_
  intro G e1 e2 e3 C hw hI Rt
  subst e1; subst e2; subst e3
  have hbL := hb.1.2.1
  obtain ⟨l9, hl1, hl2, hl3⟩ := hV.lms
  refine m_aload_n C d_AW_tellLandmark_0 rfl rfl ?_
  refine m_get C fg_AW_17 d_AW_tellLandmark_1 ((hm 0 0 0 (lv_o (by decide)) (by decide)).trans hV.root) rfl ?_
  refine m_iload_n C d_AW_tellLandmark_4 rfl rfl ?_
  refine m_aald (v := .ref (ad 23 m 0)) C d_AW_tellLandmark_5 ((hm 2 0 0 (lv_o (by decide)) (by decide)).trans hl1) kt_LM rfl (nI_pos (by omega)) (by rw [nI_clamp (by omega)]; exact hl3 m hmL) ?_
  refine m_astore_n (L' := [some (.ref (ad 0 0 0)), some (.ref (ad 16 t 0)), some (.int (nI m)), some (.ref (ad 23 m 0))]) C d_AW_tellLandmark_6 rfl (by decide) rfl ?_
  refine m_aload_n C d_AW_tellLandmark_7 rfl rfl ?_
  refine m_aload_n C d_AW_tellLandmark_8 rfl rfl ?_
  refine m_aload_n C d_AW_tellLandmark_9 rfl rfl ?_
  refine m_get C fg_AW_345 d_AW_tellLandmark_10 ((hm 23 m 0 (lv_m (by decide) hmL) (by decide)).trans (hV.lm hmL)) rfl ?_
  refine m_iconst (v := 3) C d_AW_tellLandmark_13 (by decide) ?_
  rw [h17]
  refine m_callV (ci := 0) C d_AW_tellLandmark_14 mw_AW_346 mi_AW_tellWhere se_AW_tellWhere rfl (ct_AW_tellWhere _ _ _ R ad Mv t ht f0 f1 f2 f3 f4 f5 g hg 3 M hV hb hm ha) (fun q h => hw q h) rfl rfl (Nat.le_of_ble_eq_true rfl) ((hm 0 0 0 (lv_o (by decide)) (by decide)).trans hV.root) (by decide) (fun v7 M1 hp h5 h6 => ?_)
  obtain ⟨rfl, M1a, M1o⟩ := hp
  show mj G 4 0 0 M1 17 [some (.ref (ad 0 0 0)), some (.ref (ad 16 t 0)), some (.int (nI m)), some (.ref (ad 23 m 0))] []
  refine m_aload_n C d_AW_tellLandmark_17 rfl rfl ?_
  refine m_aload_n C d_AW_tellLandmark_18 rfl rfl ?_
  refine m_get C fg_AW_349 d_AW_tellLandmark_19 ((M1o _ (Ne.symm (hV.ne (lv_p ht) (lv_m (by decide) hmL) (by omega)))).trans ((hm 23 m 0 (lv_m (by decide) hmL) (by decide)).trans (hV.lm hmL))) rfl ?_
  refine m_putE C fp_AW_256 d_AW_tellLandmark_22 (hw _ rfl) M1a rfl rfl (fun M2 M2a0 M2o => ?_)
  refine m_aload_n C d_AW_tellLandmark_25 rfl rfl ?_
  refine m_iload_n C d_AW_tellLandmark_26 rfl rfl ?_
  refine m_putE C fp_AW_268 d_AW_tellLandmark_27 (hw _ rfl) M2a0 rfl rfl (fun M3 M3a0 M3o => ?_)
  exact Rt _ _ _ _ _ (by decide) (by decide) d_AW_tellLandmark_30 (⟨rfl, by rw [M3a0, h17]; rfl, fun q hq => by rw [M3o q hq, M2o q hq, M1o q hq]⟩)

set_option maxHeartbeats 4000000 in
set_option maxRecDepth 100000 in
theorem ct_AW_tellStreet (l : Launch) (D : ma_D) (s0 : State) (R : mR) (ad : mAd) (Mv : ma_H) (t : Nat) (ht : t < 10) (f0 f1 f2 f3 f4 f5 : Int32) (g : Nat) (hg : g < nS R) (s : saT) (h : Int32) (hh : s.2.2.2.1 = h) (M : ma_H) (hV : RepC R ad Mv) (hb : Bd R) (hm : ∀ k i j, lv R k i j → k ≠ 16 → M (ad k i j) = Mv (ad k i j)) (ha : M (ad 16 t 0) = some (.inl (6, [.int f0, .int f1, .int f2, .int f3, .int f4, .int f5]))) (h5 : M (ad 5 0 0) = some (.inl (8, saF (ad 6 0 0) (nW R) (ad 7 0 0) (ad 8 0 0) s))) : Ct l D s0 y_AW_tellStreet c_AW_tellStreet 6 none 4 0 0 91 [.ref (ad 0 0 0), .ref (ad 16 t 0), .int (nI g)] M (fun q => q = (ad 16 t 0)) (fun v M' => v = none ∧ M' (ad 16 t 0) = some (.inl (6, [.int (nI g), .int (if h = 0 then 0 else hoT R g h), .int ((if h = 0 then 2 else if hoI R g h then 0 else 1) + (if R 3 g = 0 then 0 else 10)), .int f3, .int (R 2 g), .int (-1)])) ∧ ∀ q, q ≠ (ad 16 t 0) → M' q = M q) := by
  refine Ct_v 3 [some (.ref (ad 0 0 0)), some (.ref (ad 16 t 0)), some (.int (nI g)), none, none, none] (by decide +kernel) (Nat.le_of_ble_eq_true rfl) rfl ?_
  intro G e1 e2 e3 C hw hI Rt
  subst e1; subst e2; subst e3
  have hb30 := hb.1.1
  obtain ⟨l9, hl1, hl2, hl3⟩ := hV.sts
  have hst := ((hm 17 g 0 (lv_s (by decide) hg) (by decide)).trans (hV.st hg))
  have hrs := rRs_tr hV hm hg
  have hr6 := (hb.2 g hg).2.1
  refine m_aload_n C d_AW_tellStreet_0 rfl rfl ?_
  refine m_get C fg_AW_11 d_AW_tellStreet_1 ((hm 0 0 0 (lv_o (by decide)) (by decide)).trans hV.root) rfl ?_
  refine m_iload_n C d_AW_tellStreet_4 rfl rfl ?_
  refine m_aald (v := .ref (ad 17 g 0)) C d_AW_tellStreet_5 ((hm 1 0 0 (lv_o (by decide)) (by decide)).trans hl1) kt_St rfl (nI_pos (by omega)) (by rw [nI_clamp (by omega)]; exact hl3 g hg) ?_
  refine m_astore_n (L' := [some (.ref (ad 0 0 0)), some (.ref (ad 16 t 0)), some (.int (nI g)), some (.ref (ad 17 g 0)), none, none]) C d_AW_tellStreet_6 rfl (by decide) rfl ?_
  refine m_aload_n C d_AW_tellStreet_7 rfl rfl ?_
  refine m_get C fg_AW_30 d_AW_tellStreet_8 ((hm 0 0 0 (lv_o (by decide)) (by decide)).trans hV.root) rfl ?_
  refine m_get C fg_AW_350 d_AW_tellStreet_11 h5 rfl ?_
  rw [hh]
  refine m_istore (L' := [some (.ref (ad 0 0 0)), some (.ref (ad 16 t 0)), some (.int (nI g)), some (.ref (ad 17 g 0)), some (.int h), none]) C d_AW_tellStreet_14 (by decide) rfl ?_
  refine m_aload_n C d_AW_tellStreet_16 rfl rfl ?_
  refine m_iload C d_AW_tellStreet_17 rfl ?_
  refine m_callV (ci := 9) C d_AW_tellStreet_19 mw_AW_351 mi_St_hasHouse se_St_hasHouse rfl (ct_St_hasHouse _ _ _ (ad 17 g 0) (ad 18 g 0) (tn (R 4 g)) (ad 19 g 0) (tn (R 7 g)) (R 2 g) (R 11 g) (R 12 g) (R 11 g + R 13 g) (R 12 g + R 14 g) (R 15 g) (R 3 g) (fun j => ad 22 g j) (fun j => R 8 (6 * g + j)) (fun j => rgF R (6 * g + j)) (fun j => rgL R (6 * g + j)) h M hst hrs hr6) (fun _ h => h.elim) rfl rfl (Nat.le_of_ble_eq_true rfl) hst (by decide) (fun v9 M9 hp h5 h6 => ?_)
  obtain ⟨rfl, hM9⟩ := hp; rw [hM9]
  show mj G 6 0 0 M 22 [some (.ref (ad 0 0 0)), some (.ref (ad 16 t 0)), some (.int (nI g)), some (.ref (ad 17 g 0)), some (.int h), none] [.int (b2i (hoI R g h))]
  have go : ∀ r5 : Int32, r5 = (if hoI R g h then 0 else 1) → mj G 6 0 0 M 32 [some (.ref (ad 0 0 0)), some (.ref (ad 16 t 0)), some (.int (nI g)), some (.ref (ad 17 g 0)), some (.int h), some (.int r5)] [] := by
    intro r5 hr5
    have go2 : ∀ r2 : Int32, r2 = (if h = 0 then 2 else if hoI R g h then 0 else 1) → mj G 6 0 0 M 46 [some (.ref (ad 0 0 0)), some (.ref (ad 16 t 0)), some (.int (nI g)), some (.ref (ad 17 g 0)), some (.int h), some (.int r5)] [.int r2, .int (nI g), .ref (ad 16 t 0), .ref (ad 0 0 0)] := by
      intro r2 hr2
      refine m_callV (ci := 0) C d_AW_tellStreet_46 mw_AW_346 mi_AW_tellWhere se_AW_tellWhere rfl (ct_AW_tellWhere _ _ _ R ad Mv t ht f0 f1 f2 f3 f4 f5 g hg r2 M hV hb hm ha) (fun q h => hw q h) rfl rfl (Nat.le_of_ble_eq_true rfl) ((hm 0 0 0 (lv_o (by decide)) (by decide)).trans hV.root) (by decide) (fun v7 M1 hp h5 h6 => ?_)
      obtain ⟨rfl, M1a, M1o⟩ := hp
      show mj G 6 0 0 M1 49 [some (.ref (ad 0 0 0)), some (.ref (ad 16 t 0)), some (.int (nI g)), some (.ref (ad 17 g 0)), some (.int h), some (.int r5)] []
      have hm1 : ∀ k i j, lv R k i j → k ≠ 16 → M1 (ad k i j) = Mv (ad k i j) := fun k i j hv hk => (M1o _ (hV.ne hv (lv_p ht) (by omega))).trans (hm k i j hv hk)
      have hst1 := (hm1 17 g 0 (lv_s (by decide) hg) (by decide)).trans (hV.st hg)
      have hrs1 := rRs_tr hV hm1 hg
      have go3 : ∀ h2 : Int32, h2 = (if h = 0 then 0 else hoT R g h) → mj G 6 0 0 M1 65 [some (.ref (ad 0 0 0)), some (.ref (ad 16 t 0)), some (.int (nI g)), some (.ref (ad 17 g 0)), some (.int h), some (.int r5)] [.int h2, .ref (ad 16 t 0)] := by
        intro h2 hh2
        refine m_putE C fp_AW_256 d_AW_tellStreet_65 (hw _ rfl) M1a rfl rfl (fun M2 M2a0 M2o => ?_)
        refine m_aload_n C d_AW_tellStreet_68 rfl rfl ?_
        refine m_iconst (v := (-1)) C d_AW_tellStreet_69 (by decide) ?_
        refine m_putE C fp_AW_268 d_AW_tellStreet_70 (hw _ rfl) M2a0 rfl rfl (fun M3 M3a0 M3o => ?_)
        exact Rt _ _ _ _ _ (by decide) (by decide) d_AW_tellStreet_73 (⟨rfl, by rw [M3a0, ← hr2, ← hh2]; rfl, fun q hq => by rw [M3o q hq, M2o q hq, M1o q hq]⟩)
      refine m_aload_n C d_AW_tellStreet_49 rfl rfl ?_
      refine m_iload C d_AW_tellStreet_50 rfl ?_
      refine m_if_ne (tgt := 59) C d_AW_tellStreet_52 (by decide) (fun h9 => ?_) (fun h9 => ?_)
      · refine m_aload_n C d_AW_tellStreet_59 rfl rfl ?_
        refine m_iload C d_AW_tellStreet_60 rfl ?_
        refine m_callV (ci := 9) C d_AW_tellStreet_62 mw_AW_354 mi_St_nearestHouse se_St_nearestHouse rfl (ct_St_nearestHouse _ _ _ (ad 17 g 0) (ad 18 g 0) (tn (R 4 g)) (ad 19 g 0) (tn (R 7 g)) (R 2 g) (R 11 g) (R 12 g) (R 11 g + R 13 g) (R 12 g + R 14 g) (R 15 g) (R 3 g) (fun j => ad 22 g j) (fun j => R 8 (6 * g + j)) (fun j => rgF R (6 * g + j)) (fun j => rgL R (6 * g + j)) h M1 hst1 hrs1 hr6) (fun _ h => h.elim) rfl rfl (Nat.le_of_ble_eq_true rfl) hst1 (by decide) (fun v9 M9 hp h5 h6 => ?_)
        obtain ⟨rfl, hM9⟩ := hp; rw [hM9]
        show mj G 6 0 0 M1 65 [some (.ref (ad 0 0 0)), some (.ref (ad 16 t 0)), some (.int (nI g)), some (.ref (ad 17 g 0)), some (.int h), some (.int r5)] [.int (hoT R g h), .ref (ad 16 t 0)]
        exact go3 _ (by rw [if_neg h9])
      · refine m_iconst (v := 0) C d_AW_tellStreet_55 (by decide) ?_
        refine m_goto (tgt := 65) C d_AW_tellStreet_56 (by decide) ?_
        exact go3 _ (by rw [if_pos h9])
    refine m_aload_n C d_AW_tellStreet_32 rfl rfl ?_
    refine m_aload_n C d_AW_tellStreet_33 rfl rfl ?_
    refine m_iload_n C d_AW_tellStreet_34 rfl rfl ?_
    refine m_iload C d_AW_tellStreet_35 rfl ?_
    refine m_if_ne (tgt := 44) C d_AW_tellStreet_37 (by decide) (fun h8 => ?_) (fun h8 => ?_)
    · refine m_iload C d_AW_tellStreet_44 rfl ?_
      exact go2 _ (by rw [if_neg h8, hr5])
    · refine m_iconst (v := 2) C d_AW_tellStreet_40 (by decide) ?_
      refine m_goto (tgt := 46) C d_AW_tellStreet_41 (by decide) ?_
      exact go2 _ (by rw [if_pos h8])
  refine m_if_eq (tgt := 29) C d_AW_tellStreet_22 (by decide) (fun h7 => ?_) (fun h7 => ?_)
  · refine m_iconst (v := 1) C d_AW_tellStreet_29 (by decide) ?_
    refine m_istore (L' := [some (.ref (ad 0 0 0)), some (.ref (ad 16 t 0)), some (.int (nI g)), some (.ref (ad 17 g 0)), some (.int h), some (.int 1)]) C d_AW_tellStreet_30 (by decide) rfl ?_
    exact go _ (by rw [b2i_eq0] at h7; rw [h7]; rfl)
  · refine m_iconst (v := 0) C d_AW_tellStreet_25 (by decide) ?_
    refine m_goto (tgt := 30) C d_AW_tellStreet_26 (by decide) ?_
    refine m_istore (L' := [some (.ref (ad 0 0 0)), some (.ref (ad 16 t 0)), some (.int (nI g)), some (.ref (ad 17 g 0)), some (.int h), some (.int 0)]) C d_AW_tellStreet_30 (by decide) rfl ?_
    exact go _ (by rw [b2i_eq0, Bool.not_eq_false] at h7; rw [h7]; rfl)

set_option maxHeartbeats 4000000 in
set_option maxRecDepth 100000 in
theorem ct_AW_tellCandidate (l : Launch) (D : ma_D) (s0 : State) (R : mR) (ad : mAd) (Mv : ma_H) (t : Nat) (ht : t < 10) (f0 f1 f2 f3 f4 f5 : Int32) (s : saT) (q9 : Nat) (c d : Int32) (M : ma_H) (hV : RepC R ad Mv) (hb : Bd R) (hm : ∀ k i j, lv R k i j → k ≠ 16 → M (ad k i j) = Mv (ad k i j)) (ha : M (ad 16 t 0) = some (.inl (6, [.int f0, .int f1, .int f2, .int f3, .int f4, .int f5]))) (h5 : M (ad 5 0 0) = some (.inl (8, saF (ad 6 0 0) (nW R) (ad 7 0 0) (ad 8 0 0) s))) (hh : s.2.2.2.1 = R 31 0) (hd : d = R 30 q9) (hq9 : q9 < nS R + nL R) (hc : c = if q9 < nS R then nI q9 else nI (30 + (q9 - nS R))) (h17 : ∀ m, m < nL R → ∃ g, g < nS R ∧ R 17 m = nI g) : Ct l D s0 y_AW_tellCandidate c_AW_tellCandidate 5 none 5 0 0 116 [.ref (ad 0 0 0), .ref (ad 16 t 0), .int c, .int d] M (fun q => q = (ad 16 t 0)) (fun v M' => v = none ∧ M' (ad 16 t 0) = some (.inl (6, plF (tell R q9))) ∧ ∀ q, q ≠ (ad 16 t 0) → M' q = M q) := by
  refine Ct_v 1 [some (.ref (ad 0 0 0)), some (.ref (ad 16 t 0)), some (.int c), some (.int d), none] (by decide +kernel) (Nat.le_of_ble_eq_true rfl) rfl ?_
  intro G e1 e2 e3 C hw hI Rt
  subst e1; subst e2; subst e3
  have hb30 := hb.1.1
  have hbL := hb.1.2.1
  refine m_aload_n C d_AW_tellCandidate_0 rfl rfl ?_
  refine m_iload_n C d_AW_tellCandidate_1 rfl rfl ?_
  refine m_putE C fp_AW_262 d_AW_tellCandidate_2 (hw _ rfl) ha rfl rfl (fun M1 M1a0 M1o => ?_)
  have hm1 : ∀ k i j, lv R k i j → k ≠ 16 → M1 (ad k i j) = Mv (ad k i j) := fun k i j hv hk => (M1o _ (hV.ne hv (lv_p ht) (by omega))).trans (hm k i j hv hk)
  have r1 := (hm1 0 0 0 (lv_o (by decide)) (by decide)).trans hV.root
  have h51 := (M1o _ (Ne.symm (hV.ne (lv_p ht) (lv_o (by decide)) (by omega)))).trans h5
  have M1a : M1 (ad 16 t 0) = some (.inl (6, [.int f0, .int f1, .int f2, .int d, .int f4, .int f5])) := M1a0
  by_cases hqs : q9 < nS R
  · rw [if_pos hqs] at hc
    subst hc
    refine m_iload_n C d_AW_tellCandidate_5 rfl rfl ?_
    refine m_bipush (v := 30) C d_AW_tellCandidate_6 (by decide) ?_
    have e8 : nI q9 - 30 < 0 := nI_m30 (by omega)
    refine m_isub C d_AW_tellCandidate_8 ?_
    refine m_istore (L' := [some (.ref (ad 0 0 0)), some (.ref (ad 16 t 0)), some (.int (nI q9)), some (.int d), some (.int (((nI q9)) - 30))]) C d_AW_tellCandidate_9 (by decide) rfl ?_
    refine m_iload C d_AW_tellCandidate_11 rfl ?_
    refine m_if_lt (tgt := 35) C d_AW_tellCandidate_13 (by decide) (fun h1 => ?_) (fun h1 => ?_)
    · refine m_iload_n C d_AW_tellCandidate_35 rfl rfl ?_
      refine m_if_lt (tgt := 53) C d_AW_tellCandidate_36 (by decide) (fun h2 => ?_) (fun h2 => ?_)
      · exact absurd h2 (nI_pos (by omega))
      · refine m_iload_n C d_AW_tellCandidate_39 rfl rfl ?_
        refine m_aload_n C d_AW_tellCandidate_40 rfl rfl ?_
        refine m_get C fg_AW_62 d_AW_tellCandidate_41 r1 rfl ?_
        have e1 : nI (nS R) ≤ nI q9 ↔ nS R ≤ q9 := nI_leI (by omega) (by omega)
        refine m_icmp_ge (tgt := 53) C d_AW_tellCandidate_44 (by decide) (fun h3 => ?_) (fun h3 => ?_)
        · exact absurd (e1.mp h3) (by omega)
        · refine m_aload_n C d_AW_tellCandidate_47 rfl rfl ?_
          refine m_aload_n C d_AW_tellCandidate_48 rfl rfl ?_
          refine m_iload_n C d_AW_tellCandidate_49 rfl rfl ?_
          refine m_callV (ci := 0) C d_AW_tellCandidate_50 mw_AW_342 mi_AW_tellStreet se_AW_tellStreet rfl (ct_AW_tellStreet _ _ _ R ad Mv t ht f0 f1 f2 d f4 f5 q9 hqs s (R 31 0) hh M1 hV hb hm1 M1a h51) (fun q h => hw q h) rfl rfl (Nat.le_of_ble_eq_true rfl) r1 (by decide) (fun v7 M2 hp h25 h26 => ?_)
          obtain ⟨rfl, M2a, M2o⟩ := hp
          show mj G 5 0 0 M2 53 [some (.ref (ad 0 0 0)), some (.ref (ad 16 t 0)), some (.int (nI q9)), some (.int d), some (.int (((nI q9)) - 30))] []
          exact Rt _ _ _ _ _ (by decide) (by decide) d_AW_tellCandidate_53 (⟨rfl, by rw [M2a, hd]; simp only [plF, tell, if_pos hqs, tlS]; rfl, fun q hq => by rw [M2o q hq, M1o q hq]⟩)
    · exact absurd e8 h1
  · rw [if_neg hqs] at hc
    obtain ⟨m, hm9⟩ : ∃ m, m = q9 - nS R := ⟨_, rfl⟩
    rw [← hm9] at hc
    subst hc
    have hmL : m < nL R := by omega
    refine m_iload_n C d_AW_tellCandidate_5 rfl rfl ?_
    refine m_bipush (v := 30) C d_AW_tellCandidate_6 (by decide) ?_
    refine m_isub C d_AW_tellCandidate_8 ?_
    rw [show nI (30 + m) - 30 = nI m from nI_30 m]
    refine m_istore (L' := [some (.ref (ad 0 0 0)), some (.ref (ad 16 t 0)), some (.int (nI (30 + m))), some (.int d), some (.int (nI m))]) C d_AW_tellCandidate_9 (by decide) rfl ?_
    refine m_iload C d_AW_tellCandidate_11 rfl ?_
    refine m_if_lt (tgt := 35) C d_AW_tellCandidate_13 (by decide) (fun h1 => ?_) (fun h1 => ?_)
    · exact absurd h1 (nI_pos (by omega))
    · refine m_iload C d_AW_tellCandidate_16 rfl ?_
      refine m_aload_n C d_AW_tellCandidate_18 rfl rfl ?_
      refine m_get C fg_AW_162 d_AW_tellCandidate_19 r1 rfl ?_
      have e1 : nI (nL R) ≤ nI m ↔ nL R ≤ m := nI_leI (by omega) (by omega)
      refine m_icmp_ge (tgt := 35) C d_AW_tellCandidate_22 (by decide) (fun h3 => ?_) (fun h3 => ?_)
      · exact absurd (e1.mp h3) (by omega)
      · obtain ⟨g, hg, hg17⟩ := h17 m hmL
        refine m_aload_n C d_AW_tellCandidate_25 rfl rfl ?_
        refine m_aload_n C d_AW_tellCandidate_26 rfl rfl ?_
        refine m_iload C d_AW_tellCandidate_27 rfl ?_
        refine m_callV (ci := 0) C d_AW_tellCandidate_29 mw_AW_338 mi_AW_tellLandmark se_AW_tellLandmark rfl (ct_AW_tellLandmark _ _ _ R ad Mv t ht f0 f1 f2 d f4 f5 m hmL g hg hg17 M1 hV hb hm1 M1a) (fun q h => hw q h) rfl rfl (Nat.le_of_ble_eq_true rfl) r1 (by decide) (fun v7 M2 hp h25 h26 => ?_)
        obtain ⟨rfl, M2a, M2o⟩ := hp
        show mj G 5 0 0 M2 32 [some (.ref (ad 0 0 0)), some (.ref (ad 16 t 0)), some (.int (nI (30 + m))), some (.int d), some (.int (nI m))] []
        refine m_goto (tgt := 53) C d_AW_tellCandidate_32 (by decide) ?_
        exact Rt _ _ _ _ _ (by decide) (by decide) d_AW_tellCandidate_53 (⟨rfl, by rw [M2a, hd]; simp only [plF, tell, if_neg hqs, tlM, ← hm9, show tn (R 17 m) = g by rw [hg17, tn_nI (by omega)]]; rfl, fun q hq => by rw [M2o q hq, M1o q hq]⟩)
