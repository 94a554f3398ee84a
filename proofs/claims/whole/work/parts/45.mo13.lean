/-! ===== the model's apartStreet, apartMark ===== -/
theorem is_l_32 {c : Int32} (h : is_l c = true) : c ≠ 32 := by
  rintro rfl
  exact absurd h (by decide)

set_option maxHeartbeats 4000000 in
set_option maxRecDepth 100000 in
theorem ct_Mo_apartMark (l : Launch) (D : ma_D) (s0 : State) (R : mR) (m : Nat) (mr : Nat → Nat) (g : Nat) (hg : g < nL R) (M : ma_H) (hM : RepM R m mr M) (hwf : WfS R) : Ct l D s0 y_Mo_apartMark c_Mo_apartMark 3 (some .int) 3 0 0 71 [.ref m, .int (nI g)] M (fun q => q = m ∨ ∃ k, mln k ≠ 0 ∧ q = mr k) (fun v M' => v = some (.int (amM R g)) ∧ ∃ R', scr [32, 33, 34] R R' ∧ RepM R' m mr M') := by
  refine Ct_i 1 [some (.ref m), some (.int (nI g)), none] (by decide +kernel) (Nat.le_of_ble_eq_true rfl) rfl ?_
  intro G e1 e2 e3 C hw Rt
  subst e1; subst e2; subst e3
  obtain ⟨⟨⟨hbS, hbL, hbC, hbW, hbF⟩, hbi⟩, ⟨hS, hLm, hCo, hWd, hFn⟩, hst, hln, hmk, hz, hlt, hxy, hrg, hpl, hak, hcn⟩ := id hwf
  have h19 := (hmk g hg).1
  refine m_iconst (v := 0) C d_Mo_apartMark_0 (by decide) ?_
  refine m_istore_n (L' := [some (.ref m), some (.int (nI g)), some (.int 0)]) C d_Mo_apartMark_1 rfl (by decide) rfl ?_
  have loop : ∀ (lq9 : Nat) (M2 : ma_H) (c : Nat) (Rc : mR), tn (R 19 g) - c = lq9 → c ≤ tn (R 19 g) → scr [32, 33, 34] R Rc → RepM Rc m mr M2 → (∀ j, j < c → Rc 33 j = R 20 (8 * g + j)) → mj G 3 0 0 M2 2 [some (.ref m), some (.int (nI g)), some (.int (nI c))] [] := by
    intro lq9
    induction lq9 using Nat.strongRecOn with
    | ind lq9 ih =>
      intro M2 c Rc hr hc hRc hM2 hB
      have q19 : Rc 19 = R 19 := hRc 19 (by decide)
      have q20 : Rc 20 = R 20 := hRc 20 (by decide)
      refine m_iload_n C d_Mo_apartMark_2 rfl rfl ?_
      refine m_aload_n C d_Mo_apartMark_3 rfl rfl ?_
      refine m_get C fg_Mo_59 d_Mo_apartMark_4 hM2.1 rfl ?_
      refine m_iload_n C d_Mo_apartMark_7 rfl rfl ?_
      refine m_iald (v := .int ((Rc 19) g)) C d_Mo_apartMark_8 (hM2.a19) kt_int (nI_pos (by omega)) (by rw [nI_clamp (by omega)]; exact arrL_get (by omega)) ?_
      rw [q19, h19.1]
      have e1 : nI (tn (R 19 g)) ≤ nI c ↔ tn (R 19 g) ≤ c := nI_leI (by omega) (by omega)
      refine m_icmp_ge (tgt := 35) C d_Mo_apartMark_9 (by decide) (fun h9 => ?_) (fun h9 => ?_)
      · rw [e1] at h9
        have hce : c = tn (R 19 g) := by omega
        refine m_aload_n C d_Mo_apartMark_35 rfl rfl ?_
        refine m_aload_n C d_Mo_apartMark_36 rfl rfl ?_
        refine m_get C fg_Mo_59 d_Mo_apartMark_37 hM2.1 rfl ?_
        refine m_iload_n C d_Mo_apartMark_40 rfl rfl ?_
        refine m_iald (v := .int ((Rc 19) g)) C d_Mo_apartMark_41 (hM2.a19) kt_int (nI_pos (by omega)) (by rw [nI_clamp (by omega)]; exact arrL_get (by omega)) ?_
        rw [q19, h19.1]
        have hb33 : ∀ j, j < tn (R 19 g) → Rc 33 j = R 20 (8 * g + j) := fun j hj => hB j (by omega)
        have h26 : nW Rc = nW R := by rw [nW, hRc 26 (by decide)]
        refine m_callV (ci := 10) C d_Mo_apartMark_42 mw_Mo_164 mi_Mo_nearest se_Mo_nearest rfl (ct_Mo_nearest _ _ _ Rc m mr (tn (R 19 g)) (by omega) (fun j hj => by rw [hb33 j hj]; exact is_l_32 (hlt.2 g j hg hj)) M2 hM2 (by rw [h26, hRc 26 (by decide)]; exact hWd) (by rw [h26]; exact hbW)) (fun q h => hw q h) rfl rfl (Nat.le_of_ble_eq_true rfl) hM2.1 (by decide) (fun v8 M8 hp h85 h86 => ?_)
        obtain ⟨rfl, R8, hR8, hM8⟩ := hp
        show mj G 3 0 0 M8 45 [some (.ref m), some (.int (nI g)), some (.int (nI c))] [.int (mdF (Rc 27) (Rc 33) (tn (R 19 g)) (wdL (Rc 27) (nW Rc)))]
        exact Rt _ _ _ _ _ _ (by decide) (by decide) d_Mo_apartMark_45 (⟨by rw [amM, h26, hRc 27 (by decide), mdF_cg hb33], R8, fun f hf => by rw [hR8 f (fun z => hf (by simp only [List.mem_cons, List.not_mem_nil, or_false] at z ⊢; omega))]; exact hRc f hf, hM8⟩)
      · rw [e1] at h9
        refine m_aload_n C d_Mo_apartMark_12 rfl rfl ?_
        refine m_get C fg_Mo_89 d_Mo_apartMark_13 hM2.1 rfl ?_
        refine m_iload_n C d_Mo_apartMark_16 rfl rfl ?_
        refine m_aload_n C d_Mo_apartMark_17 rfl rfl ?_
        refine m_get C fg_Mo_62 d_Mo_apartMark_18 hM2.1 rfl ?_
        refine m_iload_n C d_Mo_apartMark_21 rfl rfl ?_
        refine m_bipush (v := 8) C d_Mo_apartMark_22 (by decide) ?_
        refine m_imul C d_Mo_apartMark_24 ?_
        rw [mulN 8 (b := 8) rfl]
        refine m_iload_n C d_Mo_apartMark_25 rfl rfl ?_
        refine m_iadd C d_Mo_apartMark_26 ?_
        rw [nI_add]
        refine m_iald (v := .int ((Rc 20) (8 * g + c))) C d_Mo_apartMark_27 (hM2.a20) kt_int (nI_pos (by omega)) (by rw [nI_clamp (by omega)]; exact arrL_get (by omega)) ?_
        rw [q20]
        refine m_iastE C d_Mo_apartMark_28 (hw _ (Or.inr ⟨33, by decide, rfl⟩)) (hM2.a33) kt_int (nI_pos (by omega)) (by rw [nI_clamp (by omega), arrL_len]; omega) (fun M3 M3a9 M3o => ?_)
        rw [nI_clamp (by omega), arrL_set] at M3a9
        obtain ⟨R3, hR3⟩ : ∃ R3, R3 = uR Rc 33 c ((R 20 (8 * g + c))) := ⟨_, rfl⟩
        have hM3 : RepM R3 m mr M3 := by rw [hR3]; exact hM2.set (k := 33) (by decide) (by decide) M3a9 M3o
        refine m_iinc (v := (nI (c + 1))) (L' := [some (.ref m), some (.int (nI g)), some (.int (nI (c + 1)))]) C d_Mo_apartMark_29 rfl (nI_1 c) (by decide) rfl ?_
        refine m_goto (tgt := 2) C d_Mo_apartMark_32 (by decide) ?_
        refine ih (tn (R 19 g) - (c + 1)) (by omega) M3 (c + 1) R3 rfl (by omega) (fun f hf => by rw [hR3, uR_n (fun z => hf (by rw [z]; decide))]; exact hRc f hf) hM3 (fun j hj => ?_)
        rw [hR3, uR_s]
        by_cases hjc : j = c
        · rw [hjc, fu_s]
        · rw [fu_n hjc]; exact hB j (by omega)
  exact loop _ M 0 R rfl (Nat.zero_le _) (fun _ _ => rfl) hM (fun j h => absurd h (by omega))

set_option maxHeartbeats 4000000 in
set_option maxRecDepth 100000 in
theorem ct_Mo_apartStreet (l : Launch) (D : ma_D) (s0 : State) (R : mR) (m : Nat) (mr : Nat → Nat) (g : Nat) (hg : g < nS R) (M : ma_H) (hM : RepM R m mr M) (hwf : WfS R) : Ct l D s0 y_Mo_apartStreet c_Mo_apartStreet 6 (some .int) 3 0 0 71 [.ref m, .int (nI g)] M (fun q => q = m ∨ ∃ k, mln k ≠ 0 ∧ q = mr k) (fun v M' => v = some (.int (asM R g (tn (R 4 g)))) ∧ ∃ R', scr [32, 33, 34] R R' ∧ RepM R' m mr M') := by
  refine Ct_i 4 [some (.ref m), some (.int (nI g)), none, none, none, none] (by decide +kernel) (Nat.le_of_ble_eq_true rfl) rfl ?_
  intro G e1 e2 e3 C hw Rt
  subst e1; subst e2; subst e3
  obtain ⟨⟨⟨hbS, hbL, hbC, hbW, hbF⟩, hbi⟩, ⟨hS, hLm, hCo, hWd, hFn⟩, hst, hln, hmk, hz, hlt, hxy, hrg, hpl, hak, hcn⟩ := id hwf
  have h4 := (hst g hg).1
  have b4 := (hbi g hg).1
  refine m_bipush (v := 99) C d_Mo_apartStreet_0 (by decide) ?_
  refine m_istore_n (L' := [some (.ref m), some (.int (nI g)), some (.int 99), none, none, none]) C d_Mo_apartStreet_2 rfl (by decide) rfl ?_
  refine m_iconst (v := 0) C d_Mo_apartStreet_3 (by decide) ?_
  refine m_istore_n (L' := [some (.ref m), some (.int (nI g)), some (.int 99), some (.int 0), none, none]) C d_Mo_apartStreet_4 rfl (by decide) rfl ?_
  have loop : ∀ (lq9 : Nat) (M2 : ma_H) (i : Nat) (Ra : mR), tn (R 4 g) - i = lq9 → i ≤ tn (R 4 g) → scr [32, 33, 34] R Ra → RepM Ra m mr M2 → mj G 6 0 0 M2 5 [some (.ref m), some (.int (nI g)), some (.int (asM R g i)), some (.int (nI i)), none, none] [] := by
    intro lq9
    induction lq9 using Nat.strongRecOn with
    | ind lq9 ih =>
      have ih9 := ih
      intro M2 i Ra hr hi hRa hM2
      have q4 : Ra 4 = R 4 := hRa 4 (by decide)
      refine m_iload_n C d_Mo_apartStreet_5 rfl rfl ?_
      refine m_aload_n C d_Mo_apartStreet_6 rfl rfl ?_
      refine m_get C fg_Mo_17 d_Mo_apartStreet_7 hM2.1 rfl ?_
      refine m_iload_n C d_Mo_apartStreet_10 rfl rfl ?_
      refine m_iald (v := .int ((Ra 4) g)) C d_Mo_apartStreet_11 (hM2.a4) kt_int (nI_pos (by omega)) (by rw [nI_clamp (by omega)]; exact arrL_get (by omega)) ?_
      rw [q4, h4]
      have e1 : nI (tn (R 4 g)) ≤ nI i ↔ tn (R 4 g) ≤ i := nI_leI (by omega) (by omega)
      refine m_icmp_ge (tgt := 95) C d_Mo_apartStreet_12 (by decide) (fun h9 => ?_) (fun h9 => ?_)
      · rw [e1] at h9
        obtain rfl : i = tn (R 4 g) := by omega
        refine m_iload_n C d_Mo_apartStreet_95 rfl rfl ?_
        exact Rt _ _ _ _ _ _ (by decide) (by decide) d_Mo_apartStreet_96 (⟨rfl, Ra, hRa, hM2⟩)
      · rw [e1] at h9
        obtain ⟨K, hK⟩ : ∃ K, K = 3 * g + i := ⟨_, rfl⟩
        have h5 := hln K (by omega)
        refine m_iload_n C d_Mo_apartStreet_15 rfl rfl ?_
        refine m_iconst (v := 3) C d_Mo_apartStreet_16 (by decide) ?_
        refine m_imul C d_Mo_apartStreet_17 ?_
        rw [mulN 3 (b := 3) rfl]
        refine m_iload_n C d_Mo_apartStreet_18 rfl rfl ?_
        refine m_iadd C d_Mo_apartStreet_19 ?_
        rw [nI_add, ← hK]
        refine m_istore (L' := [some (.ref m), some (.int (nI g)), some (.int (asM R g i)), some (.int (nI i)), some (.int (nI K)), none]) C d_Mo_apartStreet_20 (by decide) rfl ?_
        refine m_iconst (v := 0) C d_Mo_apartStreet_22 (by decide) ?_
        refine m_istore (L' := [some (.ref m), some (.int (nI g)), some (.int (asM R g i)), some (.int (nI i)), some (.int (nI K)), some (.int 0)]) C d_Mo_apartStreet_23 (by decide) rfl ?_
        have inner : ∀ (lq9 : Nat) (M3 : ma_H) (c : Nat) (Rc : mR), tn (R 5 K) - c = lq9 → c ≤ tn (R 5 K) → scr [32, 33, 34] R Rc → RepM Rc m mr M3 → (∀ j, j < c → Rc 33 j = R 6 (16 * K + j)) → mj G 6 0 0 M3 25 [some (.ref m), some (.int (nI g)), some (.int (asM R g i)), some (.int (nI i)), some (.int (nI K)), some (.int (nI c))] [] := by
          intro lq9
          induction lq9 using Nat.strongRecOn with
          | ind lq9 ih =>
            intro M3 c Rc hr hc hRc hM3 hB
            have q5 : Rc 5 = R 5 := hRc 5 (by decide)
            have q6 : Rc 6 = R 6 := hRc 6 (by decide)
            refine m_iload C d_Mo_apartStreet_25 rfl ?_
            refine m_aload_n C d_Mo_apartStreet_27 rfl rfl ?_
            refine m_get C fg_Mo_20 d_Mo_apartStreet_28 hM3.1 rfl ?_
            refine m_iload C d_Mo_apartStreet_31 rfl ?_
            refine m_iald (v := .int ((Rc 5) K)) C d_Mo_apartStreet_33 (hM3.a5) kt_int (nI_pos (by omega)) (by rw [nI_clamp (by omega)]; exact arrL_get (by omega)) ?_
            rw [q5, h5.1]
            have e2 : nI (tn (R 5 K)) ≤ nI c ↔ tn (R 5 K) ≤ c := nI_leI (by omega) (by omega)
            refine m_icmp_ge (tgt := 63) C d_Mo_apartStreet_34 (by decide) (fun h8 => ?_) (fun h8 => ?_)
            · rw [e2] at h8
              have hb33 : ∀ j, j < tn (R 5 K) → Rc 33 j = R 6 (16 * K + j) := fun j hj => hB j (by omega)
              refine m_aload_n C d_Mo_apartStreet_63 rfl rfl ?_
              refine m_get C fg_Mo_20 d_Mo_apartStreet_64 hM3.1 rfl ?_
              refine m_iload C d_Mo_apartStreet_67 rfl ?_
              refine m_iald (v := .int ((Rc 5) K)) C d_Mo_apartStreet_69 (hM3.a5) kt_int (nI_pos (by omega)) (by rw [nI_clamp (by omega)]; exact arrL_get (by omega)) ?_
              rw [q5, h5.1]
              have e3 : nI (tn (R 5 K)) ≤ 0 ↔ tn (R 5 K) = 0 := by rw [show (0 : Int32) = nI 0 from rfl, nI_leI (by omega) (by decide)]; omega
              refine m_if_le (tgt := 89) C d_Mo_apartStreet_70 (by decide) (fun h7 => ?_) (fun h7 => ?_)
              · refine m_iinc (v := (nI (i + 1))) (L' := [some (.ref m), some (.int (nI g)), some (.int (asM R g i)), some (.int (nI (i + 1))), some (.int (nI K)), some (.int (nI c))]) C d_Mo_apartStreet_89 rfl (nI_1 i) (by decide) rfl ?_
                refine m_goto (tgt := 5) C d_Mo_apartStreet_92 (by decide) ?_
                have h6 := ih9 (tn (R 4 g) - (i + 1)) (by omega) M3 (i + 1) Rc rfl (by omega) hRc hM3
                rw [asM, ← hK, if_pos (e3.mp h7)] at h6
                exact mj_L (fun q v hv => by rcases q with _ | _ | _ | _ | _ | _ | q <;> first | exact hv | exact absurd (Option.some.inj hv) (by simp)) h6
              · rw [e3] at h7
                refine m_iload_n C d_Mo_apartStreet_73 rfl rfl ?_
                refine m_aload_n C d_Mo_apartStreet_74 rfl rfl ?_
                refine m_aload_n C d_Mo_apartStreet_75 rfl rfl ?_
                refine m_get C fg_Mo_20 d_Mo_apartStreet_76 hM3.1 rfl ?_
                refine m_iload C d_Mo_apartStreet_79 rfl ?_
                refine m_iald (v := .int ((Rc 5) K)) C d_Mo_apartStreet_81 (hM3.a5) kt_int (nI_pos (by omega)) (by rw [nI_clamp (by omega)]; exact arrL_get (by omega)) ?_
                rw [q5, h5.1]
                have h26 : nW Rc = nW R := by rw [nW, hRc 26 (by decide)]
                refine m_callV (ci := 10) C d_Mo_apartStreet_82 mw_Mo_164 mi_Mo_nearest se_Mo_nearest rfl (ct_Mo_nearest _ _ _ Rc m mr (tn (R 5 K)) h5.2 (fun j hj => by rw [hb33 j hj]; exact is_l_32 (hlt.1 K j (by omega) hj)) M3 hM3 (by rw [h26, hRc 26 (by decide)]; exact hWd) (by rw [h26]; exact hbW)) (fun q h => hw q h) rfl rfl (Nat.le_of_ble_eq_true rfl) hM3.1 (by decide) (fun v8 M8 hp h85 h86 => ?_)
                obtain ⟨rfl, R8, hR8, hM8⟩ := hp
                show mj G 6 0 0 M8 85 [some (.ref m), some (.int (nI g)), some (.int (asM R g i)), some (.int (nI i)), some (.int (nI K)), some (.int (nI c))] [.int (mdF (Rc 27) (Rc 33) (tn (R 5 K)) (wdL (Rc 27) (nW Rc))), .int (asM R g i)]
                rw [h26, hRc 27 (by decide), mdF_cg hb33]
                refine m_callS C d_Mo_apartStreet_85 mw_Mo_158 mst_Mo_least (ct_Mo_least _ _ _ (asM R g i) (mdF (R 27) (fun c => R 6 (16 * K + c)) (tn (R 5 K)) (wdL (R 27) (nW R))) M8) (fun _ h => h.elim) rfl rfl (Nat.le_of_ble_eq_true rfl) (by decide) (fun v9 M9 hp h95 h96 => ?_)
                obtain ⟨rfl, hM9⟩ := hp; rw [hM9]
                show mj G 6 0 0 M8 88 [some (.ref m), some (.int (nI g)), some (.int (asM R g i)), some (.int (nI i)), some (.int (nI K)), some (.int (nI c))] [.int (i_mn (asM R g i) (mdF (R 27) (fun c => R 6 (16 * K + c)) (tn (R 5 K)) (wdL (R 27) (nW R))))]
                have hR89 : scr [32, 33, 34] R R8 := fun f hf => by rw [hR8 f (fun z => hf (by simp only [List.mem_cons, List.not_mem_nil, or_false] at z ⊢; omega))]; exact hRc f hf
                refine m_istore_n (L' := [some (.ref m), some (.int (nI g)), some (.int (i_mn (asM R g i) (mdF (R 27) (fun c => R 6 (16 * K + c)) (tn (R 5 K)) (wdL (R 27) (nW R))))), some (.int (nI i)), some (.int (nI K)), some (.int (nI c))]) C d_Mo_apartStreet_88 rfl (by decide) rfl ?_
                refine m_iinc (v := (nI (i + 1))) (L' := [some (.ref m), some (.int (nI g)), some (.int (i_mn (asM R g i) (mdF (R 27) (fun c => R 6 (16 * K + c)) (tn (R 5 K)) (wdL (R 27) (nW R))))), some (.int (nI (i + 1))), some (.int (nI K)), some (.int (nI c))]) C d_Mo_apartStreet_89 rfl (nI_1 i) (by decide) rfl ?_
                refine m_goto (tgt := 5) C d_Mo_apartStreet_92 (by decide) ?_
                have h6 := ih9 (tn (R 4 g) - (i + 1)) (by omega) M8 (i + 1) R8 rfl (by omega) hR89 hM8
                rw [asM, ← hK, if_neg h7] at h6
                exact mj_L (fun q v hv => by rcases q with _ | _ | _ | _ | _ | _ | q <;> first | exact hv | exact absurd (Option.some.inj hv) (by simp)) h6
            · rw [e2] at h8
              refine m_aload_n C d_Mo_apartStreet_37 rfl rfl ?_
              refine m_get C fg_Mo_89 d_Mo_apartStreet_38 hM3.1 rfl ?_
              refine m_iload C d_Mo_apartStreet_41 rfl ?_
              refine m_aload_n C d_Mo_apartStreet_43 rfl rfl ?_
              refine m_get C fg_Mo_23 d_Mo_apartStreet_44 hM3.1 rfl ?_
              refine m_iload C d_Mo_apartStreet_47 rfl ?_
              refine m_bipush (v := 16) C d_Mo_apartStreet_49 (by decide) ?_
              refine m_imul C d_Mo_apartStreet_51 ?_
              rw [mulN 16 (b := 16) rfl]
              refine m_iload C d_Mo_apartStreet_52 rfl ?_
              refine m_iadd C d_Mo_apartStreet_54 ?_
              rw [nI_add]
              refine m_iald (v := .int ((Rc 6) (16 * K + c))) C d_Mo_apartStreet_55 (hM3.a6) kt_int (nI_pos (by omega)) (by rw [nI_clamp (by omega)]; exact arrL_get (by omega)) ?_
              rw [q6]
              refine m_iastE C d_Mo_apartStreet_56 (hw _ (Or.inr ⟨33, by decide, rfl⟩)) (hM3.a33) kt_int (nI_pos (by omega)) (by rw [nI_clamp (by omega), arrL_len]; omega) (fun M4 M4a9 M4o => ?_)
              rw [nI_clamp (by omega), arrL_set] at M4a9
              obtain ⟨R4, hR4⟩ : ∃ R4, R4 = uR Rc 33 c ((R 6 (16 * K + c))) := ⟨_, rfl⟩
              have hM4 : RepM R4 m mr M4 := by rw [hR4]; exact hM3.set (k := 33) (by decide) (by decide) M4a9 M4o
              refine m_iinc (v := (nI (c + 1))) (L' := [some (.ref m), some (.int (nI g)), some (.int (asM R g i)), some (.int (nI i)), some (.int (nI K)), some (.int (nI (c + 1)))]) C d_Mo_apartStreet_57 rfl (nI_1 c) (by decide) rfl ?_
              refine m_goto (tgt := 25) C d_Mo_apartStreet_60 (by decide) ?_
              refine ih (tn (R 5 K) - (c + 1)) (by omega) M4 (c + 1) R4 rfl (by omega) (fun f hf => by rw [hR4, uR_n (fun z => hf (by rw [z]; decide))]; exact hRc f hf) hM4 (fun j hj => ?_)
              rw [hR4, uR_s]
              by_cases hjc : j = c
              · rw [hjc, fu_s]
              · rw [fu_n hjc]; exact hB j (by omega)
        exact inner _ M2 0 Ra rfl (Nat.zero_le _) hRa hM2 (fun j h => absurd h (by omega))
  exact loop _ M 0 R rfl (Nat.zero_le _) (fun _ _ => rfl) hM
