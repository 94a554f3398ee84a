/-! ===== the model's distance ===== -/
theorem od_0 (a b : Nat → Int32) (k : Nat) : od a b 0 k = nI k := rfl
theorem od_k0 (a b : Nat → Int32) (i : Nat) : od a b i 0 = nI i := by cases i <;> rfl
theorem od_s {a b : Nat → Int32} {i k : Nat} (h : b k ≠ 32) : od a b (i + 1) (k + 1) = if 0 < i ∧ 0 < k ∧ a i = b (k - 1) ∧ a (i - 1) = b k then i_mn (i_mn (od a b i k + (if a i = b k then 0 else 1)) (i_mn (od a b i (k + 1)) (od a b (i + 1) k) + 1)) (od a b (i - 1) (k - 1) + 1) else i_mn (od a b i k + (if a i = b k then 0 else 1)) (i_mn (od a b i (k + 1)) (od a b (i + 1) k) + 1) := by
  show odr (a i) (if i = 0 then 32 else a (i - 1)) b (nI (i + 1)) (od2 a b i).1 (od2 a b i).2 (k + 1) = _
  rw [odr]
  by_cases hi : i = 0
  · have h1 : ¬ (0 < k ∧ a i = b (k - 1) ∧ (if i = 0 then 32 else a (i - 1)) = b k) := fun z => h (by rw [← z.2.2, if_pos hi])
    have h2 : ¬ (0 < i ∧ 0 < k ∧ a i = b (k - 1) ∧ a (i - 1) = b k) := fun z => by omega
    rw [if_neg h1, if_neg h2]; rfl
  · obtain ⟨j, rfl⟩ : ∃ j, i = j + 1 := ⟨i - 1, by omega⟩
    by_cases hc : 0 < k ∧ a (j + 1) = b (k - 1) ∧ a (j + 1 - 1) = b k
    · have h1 : 0 < k ∧ a (j + 1) = b (k - 1) ∧ (if j + 1 = 0 then 32 else a (j + 1 - 1)) = b k := by rw [if_neg hi]; exact hc
      have h2 : 0 < j + 1 ∧ 0 < k ∧ a (j + 1) = b (k - 1) ∧ a (j + 1 - 1) = b k := ⟨by omega, hc⟩
      rw [if_pos h1, if_pos h2]; rfl
    · have h1 : ¬ (0 < k ∧ a (j + 1) = b (k - 1) ∧ (if j + 1 = 0 then 32 else a (j + 1 - 1)) = b k) := by rw [if_neg hi]; exact hc
      have h2 : ¬ (0 < j + 1 ∧ 0 < k ∧ a (j + 1) = b (k - 1) ∧ a (j + 1 - 1) = b k) := fun z => hc z.2
      rw [if_neg h1, if_neg h2]; rfl

set_option maxHeartbeats 4000000 in
set_option maxRecDepth 100000 in
theorem ct_Mo_distance (l : Launch) (D : ma_D) (s0 : State) (R : mR) (m : Nat) (mr : Nat → Nat) (n c9 : Nat) (hn : n ≤ 40) (hc9 : c9 ≤ 16) (h32 : ∀ k, k < c9 → R 33 k ≠ 32) (M : ma_H) (hM : RepM R m mr M) : Ct l D s0 y_Mo_distance c_Mo_distance 7 (some .int) 1 0 0 21 [.ref m, .int (nI n), .int (nI c9)] M (fun q => q = m ∨ ∃ k, mln k ≠ 0 ∧ q = mr k) (fun v M' => v = some (.int (od (R 32) (R 33) n c9)) ∧ ∃ f, RepM (setF R 34 f) m mr M') := by
  refine Ct_i 4 [some (.ref m), some (.int (nI n)), some (.int (nI c9)), none, none, none, none] (by decide +kernel) (Nat.le_of_ble_eq_true rfl) rfl ?_
  intro G e1 e2 e3 C hw Rt
  subst e1; subst e2; subst e3
  refine m_bipush (v := 17) C d_Mo_distance_0 (by decide) ?_
  refine m_istore_n (L' := [some (.ref m), some (.int (nI n)), some (.int (nI c9)), some (.int 17), none, none, none]) C d_Mo_distance_2 rfl (by decide) rfl ?_
  refine m_iconst (v := 0) C d_Mo_distance_3 (by decide) ?_
  refine m_istore (L' := [some (.ref m), some (.int (nI n)), some (.int (nI c9)), some (.int 17), some (.int 0), none, none]) C d_Mo_distance_4 (by decide) rfl ?_
  have loop : ∀ (lq9 : Nat) (M2 : ma_H) (i : Nat) (T : Nat → Int32), n + 1 - i = lq9 → i ≤ n + 1 → RepM (setF R 34 T) m mr M2 → (∀ i' k', i' < i → k' ≤ c9 → T (17 * i' + k') = od (R 32) (R 33) i' k') → mj G 7 0 0 M2 6 [some (.ref m), some (.int (nI n)), some (.int (nI c9)), some (.int 17), some (.int (nI i)), none, none] [] := by
    intro lq9
    induction lq9 using Nat.strongRecOn with
    | ind lq9 ih =>
      have ih9 := ih
      intro M2 i T hr hi hM2 hT
      refine m_iload C d_Mo_distance_6 rfl ?_
      refine m_iload_n C d_Mo_distance_8 rfl rfl ?_
      have e1 : nI n < nI i ↔ n < i := nI_ltI (by omega) (by omega)
      refine m_icmp_gt (tgt := 241) C d_Mo_distance_9 (by decide) (fun h9 => ?_) (fun h9 => ?_)
      · rw [e1] at h9
        refine m_aload_n C d_Mo_distance_241 rfl rfl ?_
        refine m_get C fg_Mo_92 d_Mo_distance_242 hM2.1 rfl ?_
        refine m_iload_n C d_Mo_distance_245 rfl rfl ?_
        refine m_iload_n C d_Mo_distance_246 rfl rfl ?_
        refine m_imul C d_Mo_distance_247 ?_
        rw [mulN 17 (b := 17) rfl]
        refine m_iload_n C d_Mo_distance_248 rfl rfl ?_
        refine m_iadd C d_Mo_distance_249 ?_
        rw [nI_add]
        refine m_iald (v := .int (((setF R 34 T) 34) (17 * n + c9))) C d_Mo_distance_250 (hM2.a34) kt_int (nI_pos (by omega)) (by rw [nI_clamp (by omega)]; exact arrL_get (by omega)) ?_
        exact Rt _ _ _ _ _ _ (by decide) (by decide) d_Mo_distance_251 (⟨by rw [setF_s, hT n c9 (by omega) (Nat.le_refl _)], T, hM2⟩)
      · rw [e1] at h9
        refine m_iconst (v := 0) C d_Mo_distance_12 (by decide) ?_
        refine m_istore (L' := [some (.ref m), some (.int (nI n)), some (.int (nI c9)), some (.int 17), some (.int (nI i)), some (.int 0), none]) C d_Mo_distance_13 (by decide) rfl ?_
        have inner : ∀ (lq9 : Nat) (M3 : ma_H) (k : Nat) (T3 : Nat → Int32), c9 + 1 - k = lq9 → k ≤ c9 + 1 → RepM (setF R 34 T3) m mr M3 → (∀ i' k', i' < i → k' ≤ c9 → T3 (17 * i' + k') = od (R 32) (R 33) i' k') → (∀ k', k' < k → T3 (17 * i + k') = od (R 32) (R 33) i k') → mj G 7 0 0 M3 15 [some (.ref m), some (.int (nI n)), some (.int (nI c9)), some (.int 17), some (.int (nI i)), some (.int (nI k)), none] [] := by
          intro lq9
          induction lq9 using Nat.strongRecOn with
          | ind lq9 ih =>
            intro M3 k T3 hr hk hM3 hT3 hT4
            refine m_iload C d_Mo_distance_15 rfl ?_
            refine m_iload_n C d_Mo_distance_17 rfl rfl ?_
            have e2 : nI c9 < nI k ↔ c9 < k := nI_ltI (by omega) (by omega)
            refine m_icmp_gt (tgt := 235) C d_Mo_distance_18 (by decide) (fun h8 => ?_) (fun h8 => ?_)
            · rw [e2] at h8
              refine m_iinc (v := (nI (i + 1))) (L' := [some (.ref m), some (.int (nI n)), some (.int (nI c9)), some (.int 17), some (.int (nI (i + 1))), some (.int (nI k)), none]) C d_Mo_distance_235 rfl (nI_1 i) (by decide) rfl ?_
              refine m_goto (tgt := 6) C d_Mo_distance_238 (by decide) ?_
              exact mj_L (L' := [some (.ref m), some (.int (nI n)), some (.int (nI c9)), some (.int 17), some (.int (nI (i + 1))), none, none]) (fun q v hv => by rcases q with _ | _ | _ | _ | _ | _ | _ | q <;> first | exact hv | exact absurd (Option.some.inj hv) (by simp)) (ih9 (n + 1 - (i + 1)) (by omega) M3 (i + 1) T3 rfl (by omega) hM3 (fun i' k' h1 h2 => by by_cases q : i' = i; rw [q]; exact hT4 k' (by omega); exact hT3 i' k' (by omega) h2))
            · rw [e2] at h8
              have edge : (i = 0 ∨ k = 0) → mj G 7 0 0 M3 31 [some (.ref m), some (.int (nI n)), some (.int (nI c9)), some (.int 17), some (.int (nI i)), some (.int (nI k)), none] [] := by
                intro hz
                have hval : nI (i + k) = od (R 32) (R 33) i k := by rcases hz with h | h; rw [h, od_0, Nat.zero_add]; rw [h, od_k0, Nat.add_zero]
                refine m_aload_n C d_Mo_distance_31 rfl rfl ?_
                refine m_get C fg_Mo_92 d_Mo_distance_32 hM3.1 rfl ?_
                refine m_iload C d_Mo_distance_35 rfl ?_
                refine m_iload_n C d_Mo_distance_37 rfl rfl ?_
                refine m_imul C d_Mo_distance_38 ?_
                rw [mulN 17 (b := 17) rfl]
                refine m_iload C d_Mo_distance_39 rfl ?_
                refine m_iadd C d_Mo_distance_41 ?_
                rw [nI_add]
                refine m_iload C d_Mo_distance_42 rfl ?_
                refine m_iload C d_Mo_distance_44 rfl ?_
                refine m_iadd C d_Mo_distance_46 ?_
                rw [nI_add]
                refine m_iastE C d_Mo_distance_47 (hw _ (Or.inr ⟨34, by decide, rfl⟩)) (hM3.a34) kt_int (nI_pos (by omega)) (by rw [nI_clamp (by omega), arrL_len]; omega) (fun M4 M4a9 M4o => ?_)
                rw [nI_clamp (by omega), arrL_set] at M4a9
                obtain ⟨R4, hR4⟩ : ∃ R4, R4 = uR ((setF R 34 T3)) 34 (17 * i + k) ((nI (i + k))) := ⟨_, rfl⟩
                have hM4 : RepM R4 m mr M4 := by rw [hR4]; exact hM3.set (k := 34) (by decide) (by decide) M4a9 M4o
                refine m_goto (tgt := 229) C d_Mo_distance_48 (by decide) ?_
                refine m_iinc (v := (nI (k + 1))) (L' := [some (.ref m), some (.int (nI n)), some (.int (nI c9)), some (.int 17), some (.int (nI i)), some (.int (nI (k + 1))), none]) C d_Mo_distance_229 rfl (nI_1 k) (by decide) rfl ?_
                refine m_goto (tgt := 15) C d_Mo_distance_232 (by decide) ?_
                refine mj_L (L' := [some (.ref m), some (.int (nI n)), some (.int (nI c9)), some (.int 17), some (.int (nI i)), some (.int (nI (k + 1))), none]) (fun q v hv => by rcases q with _ | _ | _ | _ | _ | _ | _ | q <;> first | exact hv | exact absurd (Option.some.inj hv) (by simp)) (ih (c9 + 1 - (k + 1)) (by omega) M4 (k + 1) (fu T3 (17 * i + k) (nI (i + k))) rfl (by omega) (by rw [← uR_setF, ← hR4]; exact hM4) ?_ ?_)
                · intro i' k' h1 h2; rw [fu_n (by omega)]; exact hT3 i' k' h1 h2
                · intro k' h1; by_cases q : k' = k
                  · rw [q, fu_s]; exact hval
                  · rw [fu_n (by omega)]; exact hT4 k' (by omega)
              refine m_iload C d_Mo_distance_21 rfl ?_
              have e3 : nI i = 0 ↔ i = 0 := nI_eq (b := 0) (by omega) (by decide)
              have e4 : nI k = 0 ↔ k = 0 := nI_eq (b := 0) (by omega) (by decide)
              refine m_if_eq (tgt := 31) C d_Mo_distance_23 (by decide) (fun h7 => ?_) (fun h7 => ?_)
              · exact edge (Or.inl (e3.mp h7))
              · rw [e3] at h7
                refine m_iload C d_Mo_distance_26 rfl ?_
                refine m_if_ne (tgt := 51) C d_Mo_distance_28 (by decide) (fun h6 => ?_) (fun h6 => ?_)
                · rw [e4] at h6
                  obtain ⟨i1, hi1⟩ : ∃ i1, i = i1 + 1 := ⟨i - 1, by omega⟩
                  obtain ⟨k1, hk1⟩ : ∃ k1, k = k1 + 1 := ⟨k - 1, by omega⟩
                  have si : nI i - 1 = nI i1 := by rw [hi1, nI_sub1 (by omega)]; rfl
                  have sk : nI k - 1 = nI k1 := by rw [hk1, nI_sub1 (by omega)]; rfl
                  have q32 : setF R 34 T3 32 = R 32 := setF_n (by decide)
                  have q33 : setF R 34 T3 33 = R 33 := setF_n (by decide)
                  have q34 : setF R 34 T3 34 = T3 := setF_s
                  have hbk : R 33 k1 ≠ 32 := h32 k1 (by omega)
                  have fin : ∀ x6 : Int32, x6 = od (R 32) (R 33) i k → mj G 7 0 0 M3 215 [some (.ref m), some (.int (nI n)), some (.int (nI c9)), some (.int 17), some (.int (nI i)), some (.int (nI k)), some (.int x6)] [] := by
                    intro x6 hval
                    refine m_aload_n C d_Mo_distance_215 rfl rfl ?_
                    refine m_get C fg_Mo_92 d_Mo_distance_216 hM3.1 rfl ?_
                    refine m_iload C d_Mo_distance_219 rfl ?_
                    refine m_iload_n C d_Mo_distance_221 rfl rfl ?_
                    refine m_imul C d_Mo_distance_222 ?_
                    rw [mulN 17 (b := 17) rfl]
                    refine m_iload C d_Mo_distance_223 rfl ?_
                    refine m_iadd C d_Mo_distance_225 ?_
                    rw [nI_add]
                    refine m_iload C d_Mo_distance_226 rfl ?_
                    refine m_iastE C d_Mo_distance_228 (hw _ (Or.inr ⟨34, by decide, rfl⟩)) (hM3.a34) kt_int (nI_pos (by omega)) (by rw [nI_clamp (by omega), arrL_len]; omega) (fun M4 M4a9 M4o => ?_)
                    rw [nI_clamp (by omega), arrL_set] at M4a9
                    obtain ⟨R4, hR4⟩ : ∃ R4, R4 = uR ((setF R 34 T3)) 34 (17 * i + k) x6 := ⟨_, rfl⟩
                    have hM4 : RepM R4 m mr M4 := by rw [hR4]; exact hM3.set (k := 34) (by decide) (by decide) M4a9 M4o
                    refine m_iinc (v := (nI (k + 1))) (L' := [some (.ref m), some (.int (nI n)), some (.int (nI c9)), some (.int 17), some (.int (nI i)), some (.int (nI (k + 1))), some (.int x6)]) C d_Mo_distance_229 rfl (nI_1 k) (by decide) rfl ?_
                    refine m_goto (tgt := 15) C d_Mo_distance_232 (by decide) ?_
                    refine mj_L (L' := [some (.ref m), some (.int (nI n)), some (.int (nI c9)), some (.int 17), some (.int (nI i)), some (.int (nI (k + 1))), none]) (fun q v hv => by rcases q with _ | _ | _ | _ | _ | _ | _ | q <;> first | exact hv | exact absurd (Option.some.inj hv) (by simp)) (ih (c9 + 1 - (k + 1)) (by omega) M4 (k + 1) (fu T3 (17 * i + k) x6) rfl (by omega) (by rw [← uR_setF, ← hR4]; exact hM4) ?_ ?_)
                    · intro i' k' h1 h2; rw [fu_n (by omega)]; exact hT3 i' k' h1 h2
                    · intro k' h1; by_cases q : k' = k
                      · rw [q, fu_s]; exact hval
                      · rw [fu_n (by omega)]; exact hT4 k' (by omega)
                  have mid : ∀ x6 : Int32, x6 = od (R 32) (R 33) i1 k1 + (if R 32 i1 = R 33 k1 then 0 else 1) → mj G 7 0 0 M3 94 [some (.ref m), some (.int (nI n)), some (.int (nI c9)), some (.int 17), some (.int (nI i)), some (.int (nI k)), none] [.int x6] := by
                    intro x6 hx6
                    refine m_istore (L' := [some (.ref m), some (.int (nI n)), some (.int (nI c9)), some (.int 17), some (.int (nI i)), some (.int (nI k)), some (.int x6)]) C d_Mo_distance_94 (by decide) rfl ?_
                    refine m_iload C d_Mo_distance_96 rfl ?_
                    refine m_aload_n C d_Mo_distance_98 rfl rfl ?_
                    refine m_get C fg_Mo_92 d_Mo_distance_99 hM3.1 rfl ?_
                    refine m_iload C d_Mo_distance_102 rfl ?_
                    refine m_iconst (v := 1) C d_Mo_distance_104 (by decide) ?_
                    refine m_isub C d_Mo_distance_105 ?_
                    rw [si]
                    refine m_iload_n C d_Mo_distance_106 rfl rfl ?_
                    refine m_imul C d_Mo_distance_107 ?_
                    rw [mulN 17 (b := 17) rfl]
                    refine m_iload C d_Mo_distance_108 rfl ?_
                    refine m_iadd C d_Mo_distance_110 ?_
                    rw [nI_add]
                    refine m_iald (v := .int (((setF R 34 T3) 34) (17 * i1 + k))) C d_Mo_distance_111 (hM3.a34) kt_int (nI_pos (by omega)) (by rw [nI_clamp (by omega)]; exact arrL_get (by omega)) ?_
                    rw [q34, hT3 i1 k (by omega) (by omega)]
                    refine m_aload_n C d_Mo_distance_112 rfl rfl ?_
                    refine m_get C fg_Mo_92 d_Mo_distance_113 hM3.1 rfl ?_
                    refine m_iload C d_Mo_distance_116 rfl ?_
                    refine m_iload_n C d_Mo_distance_118 rfl rfl ?_
                    refine m_imul C d_Mo_distance_119 ?_
                    rw [mulN 17 (b := 17) rfl]
                    refine m_iload C d_Mo_distance_120 rfl ?_
                    refine m_iadd C d_Mo_distance_122 ?_
                    refine m_iconst (v := 1) C d_Mo_distance_123 (by decide) ?_
                    refine m_isub C d_Mo_distance_124 ?_
                    rw [nI_add, nI_sub1 (by omega), show 17 * i + k - 1 = 17 * i + k1 by omega]
                    refine m_iald (v := .int (((setF R 34 T3) 34) (17 * i + k1))) C d_Mo_distance_125 (hM3.a34) kt_int (nI_pos (by omega)) (by rw [nI_clamp (by omega)]; exact arrL_get (by omega)) ?_
                    rw [q34, hT4 k1 (by omega)]
                    refine m_callS C d_Mo_distance_126 mw_Mo_158 mst_Mo_least (ct_Mo_least _ _ _ (od (R 32) (R 33) i1 k) (od (R 32) (R 33) i k1) M3) (fun _ h => h.elim) rfl rfl (Nat.le_of_ble_eq_true rfl) (by decide) (fun v9 M9 hp h5 h6 => ?_)
                    obtain ⟨rfl, hM9⟩ := hp; rw [hM9]
                    show mj G 7 0 0 M3 129 [some (.ref m), some (.int (nI n)), some (.int (nI c9)), some (.int 17), some (.int (nI i)), some (.int (nI k)), some (.int x6)] [.int (i_mn (od (R 32) (R 33) i1 k) (od (R 32) (R 33) i k1)), .int x6]
                    refine m_iconst (v := 1) C d_Mo_distance_129 (by decide) ?_
                    refine m_iadd C d_Mo_distance_130 ?_
                    refine m_callS C d_Mo_distance_131 mw_Mo_158 mst_Mo_least (ct_Mo_least _ _ _ x6 (i_mn (od (R 32) (R 33) i1 k) (od (R 32) (R 33) i k1) + 1) M3) (fun _ h => h.elim) rfl rfl (Nat.le_of_ble_eq_true rfl) (by decide) (fun v9 M9 hp h5 h6 => ?_)
                    obtain ⟨rfl, hM9⟩ := hp; rw [hM9]
                    show mj G 7 0 0 M3 134 [some (.ref m), some (.int (nI n)), some (.int (nI c9)), some (.int 17), some (.int (nI i)), some (.int (nI k)), some (.int x6)] [.int (i_mn x6 (i_mn (od (R 32) (R 33) i1 k) (od (R 32) (R 33) i k1) + 1))]
                    rw [hx6]
                    refine m_istore (L' := [some (.ref m), some (.int (nI n)), some (.int (nI c9)), some (.int 17), some (.int (nI i)), some (.int (nI k)), some (.int (i_mn (od (R 32) (R 33) i1 k1 + (if R 32 i1 = R 33 k1 then 0 else 1)) (i_mn (od (R 32) (R 33) i1 k) (od (R 32) (R 33) i k1) + 1)))]) C d_Mo_distance_134 (by decide) rfl ?_
                    refine m_iload C d_Mo_distance_136 rfl ?_
                    refine m_iconst (v := 1) C d_Mo_distance_138 (by decide) ?_
                    have hs := od_s (a := R 32) (b := R 33) (i := i1) (k := k1) hbk
                    rw [← hi1, ← hk1] at hs
                    have e5 : nI i ≤ 1 ↔ ¬ 0 < i1 := by rw [show (1 : Int32) = nI 1 from rfl, nI_leI (by omega) (by decide)]; omega
                    have e6 : nI k ≤ 1 ↔ ¬ 0 < k1 := by rw [show (1 : Int32) = nI 1 from rfl, nI_leI (by omega) (by decide)]; omega
                    refine m_icmp_le (tgt := 215) C d_Mo_distance_139 (by decide) (fun a1 => ?_) (fun a1 => ?_)
                    · exact fin _ (by rw [hs, if_neg (show ¬ (0 < i1 ∧ 0 < k1 ∧ R 32 i1 = R 33 (k1 - 1) ∧ R 32 (i1 - 1) = R 33 k1) from fun z => e5.mp a1 z.1)])
                    · rw [e5, Classical.not_not] at a1
                      refine m_iload C d_Mo_distance_142 rfl ?_
                      refine m_iconst (v := 1) C d_Mo_distance_144 (by decide) ?_
                      refine m_icmp_le (tgt := 215) C d_Mo_distance_145 (by decide) (fun a2 => ?_) (fun a2 => ?_)
                      · exact fin _ (by rw [hs, if_neg (show ¬ (0 < i1 ∧ 0 < k1 ∧ R 32 i1 = R 33 (k1 - 1) ∧ R 32 (i1 - 1) = R 33 k1) from fun z => e6.mp a2 z.2.1)])
                      · rw [e6, Classical.not_not] at a2
                        refine m_aload_n C d_Mo_distance_148 rfl rfl ?_
                        refine m_get C fg_Mo_86 d_Mo_distance_149 hM3.1 rfl ?_
                        refine m_iload C d_Mo_distance_152 rfl ?_
                        refine m_iconst (v := 1) C d_Mo_distance_154 (by decide) ?_
                        refine m_isub C d_Mo_distance_155 ?_
                        rw [si]
                        refine m_iald (v := .int (((setF R 34 T3) 32) i1)) C d_Mo_distance_156 (hM3.a32) kt_int (nI_pos (by omega)) (by rw [nI_clamp (by omega)]; exact arrL_get (by omega)) ?_
                        rw [q32]
                        refine m_aload_n C d_Mo_distance_157 rfl rfl ?_
                        refine m_get C fg_Mo_89 d_Mo_distance_158 hM3.1 rfl ?_
                        refine m_iload C d_Mo_distance_161 rfl ?_
                        refine m_iconst (v := 2) C d_Mo_distance_163 (by decide) ?_
                        refine m_isub C d_Mo_distance_164 ?_
                        rw [show nI k - 2 = nI (k1 - 1) by rw [hk1]; exact nI_sub2 a2]
                        refine m_iald (v := .int (((setF R 34 T3) 33) (k1 - 1))) C d_Mo_distance_165 (hM3.a33) kt_int (nI_pos (by omega)) (by rw [nI_clamp (by omega)]; exact arrL_get (by omega)) ?_
                        rw [q33]
                        refine m_icmp_ne (tgt := 215) C d_Mo_distance_166 (by decide) (fun a3 => ?_) (fun a3 => ?_)
                        · exact fin _ (by rw [hs, if_neg (show ¬ (0 < i1 ∧ 0 < k1 ∧ R 32 i1 = R 33 (k1 - 1) ∧ R 32 (i1 - 1) = R 33 k1) from fun z => a3 z.2.2.1)])
                        · refine m_aload_n C d_Mo_distance_169 rfl rfl ?_
                          refine m_get C fg_Mo_86 d_Mo_distance_170 hM3.1 rfl ?_
                          refine m_iload C d_Mo_distance_173 rfl ?_
                          refine m_iconst (v := 2) C d_Mo_distance_175 (by decide) ?_
                          refine m_isub C d_Mo_distance_176 ?_
                          rw [show nI i - 2 = nI (i1 - 1) by rw [hi1]; exact nI_sub2 a1]
                          refine m_iald (v := .int (((setF R 34 T3) 32) (i1 - 1))) C d_Mo_distance_177 (hM3.a32) kt_int (nI_pos (by omega)) (by rw [nI_clamp (by omega)]; exact arrL_get (by omega)) ?_
                          rw [q32]
                          refine m_aload_n C d_Mo_distance_178 rfl rfl ?_
                          refine m_get C fg_Mo_89 d_Mo_distance_179 hM3.1 rfl ?_
                          refine m_iload C d_Mo_distance_182 rfl ?_
                          refine m_iconst (v := 1) C d_Mo_distance_184 (by decide) ?_
                          refine m_isub C d_Mo_distance_185 ?_
                          rw [sk]
                          refine m_iald (v := .int (((setF R 34 T3) 33) k1)) C d_Mo_distance_186 (hM3.a33) kt_int (nI_pos (by omega)) (by rw [nI_clamp (by omega)]; exact arrL_get (by omega)) ?_
                          rw [q33]
                          refine m_icmp_ne (tgt := 215) C d_Mo_distance_187 (by decide) (fun a4 => ?_) (fun a4 => ?_)
                          · exact fin _ (by rw [hs, if_neg (show ¬ (0 < i1 ∧ 0 < k1 ∧ R 32 i1 = R 33 (k1 - 1) ∧ R 32 (i1 - 1) = R 33 k1) from fun z => a4 z.2.2.2)])
                          · refine m_iload C d_Mo_distance_190 rfl ?_
                            refine m_aload_n C d_Mo_distance_192 rfl rfl ?_
                            refine m_get C fg_Mo_92 d_Mo_distance_193 hM3.1 rfl ?_
                            refine m_iload C d_Mo_distance_196 rfl ?_
                            refine m_iconst (v := 2) C d_Mo_distance_198 (by decide) ?_
                            refine m_isub C d_Mo_distance_199 ?_
                            rw [show nI i - 2 = nI (i1 - 1) by rw [hi1]; exact nI_sub2 a1]
                            refine m_iload_n C d_Mo_distance_200 rfl rfl ?_
                            refine m_imul C d_Mo_distance_201 ?_
                            rw [mulN 17 (b := 17) rfl]
                            refine m_iload C d_Mo_distance_202 rfl ?_
                            refine m_iadd C d_Mo_distance_204 ?_
                            refine m_iconst (v := 2) C d_Mo_distance_205 (by decide) ?_
                            refine m_isub C d_Mo_distance_206 ?_
                            rw [nI_add, show nI (17 * (i1 - 1) + k) - 2 = nI (17 * (i1 - 1) + (k1 - 1)) by rw [show 17 * (i1 - 1) + k = 17 * (i1 - 1) + k1 + 1 by omega, nI_sub2 (by omega), show 17 * (i1 - 1) + k1 - 1 = 17 * (i1 - 1) + (k1 - 1) by omega]]
                            refine m_iald (v := .int (((setF R 34 T3) 34) (17 * (i1 - 1) + (k1 - 1)))) C d_Mo_distance_207 (hM3.a34) kt_int (nI_pos (by omega)) (by rw [nI_clamp (by omega)]; exact arrL_get (by omega)) ?_
                            rw [q34, hT3 (i1 - 1) (k1 - 1) (by omega) (by omega)]
                            refine m_iconst (v := 1) C d_Mo_distance_208 (by decide) ?_
                            refine m_iadd C d_Mo_distance_209 ?_
                            refine m_callS C d_Mo_distance_210 mw_Mo_158 mst_Mo_least (ct_Mo_least _ _ _ (i_mn (od (R 32) (R 33) i1 k1 + (if R 32 i1 = R 33 k1 then 0 else 1)) (i_mn (od (R 32) (R 33) i1 k) (od (R 32) (R 33) i k1) + 1)) (od (R 32) (R 33) (i1 - 1) (k1 - 1) + 1) M3) (fun _ h => h.elim) rfl rfl (Nat.le_of_ble_eq_true rfl) (by decide) (fun v9 M9 hp h5 h6 => ?_)
                            obtain ⟨rfl, hM9⟩ := hp; rw [hM9]
                            show mj G 7 0 0 M3 213 [some (.ref m), some (.int (nI n)), some (.int (nI c9)), some (.int 17), some (.int (nI i)), some (.int (nI k)), some (.int (i_mn (od (R 32) (R 33) i1 k1 + (if R 32 i1 = R 33 k1 then 0 else 1)) (i_mn (od (R 32) (R 33) i1 k) (od (R 32) (R 33) i k1) + 1)))] [.int (i_mn (i_mn (od (R 32) (R 33) i1 k1 + (if R 32 i1 = R 33 k1 then 0 else 1)) (i_mn (od (R 32) (R 33) i1 k) (od (R 32) (R 33) i k1) + 1)) (od (R 32) (R 33) (i1 - 1) (k1 - 1) + 1))]
                            refine m_istore (L' := [some (.ref m), some (.int (nI n)), some (.int (nI c9)), some (.int 17), some (.int (nI i)), some (.int (nI k)), some (.int (i_mn (i_mn (od (R 32) (R 33) i1 k1 + (if R 32 i1 = R 33 k1 then 0 else 1)) (i_mn (od (R 32) (R 33) i1 k) (od (R 32) (R 33) i k1) + 1)) (od (R 32) (R 33) (i1 - 1) (k1 - 1) + 1)))]) C d_Mo_distance_213 (by decide) rfl ?_
                            exact fin _ (by rw [hs, if_pos (show 0 < i1 ∧ 0 < k1 ∧ R 32 i1 = R 33 (k1 - 1) ∧ R 32 (i1 - 1) = R 33 k1 from ⟨a1, a2, a3, a4⟩)])
                  refine m_aload_n C d_Mo_distance_51 rfl rfl ?_
                  refine m_get C fg_Mo_92 d_Mo_distance_52 hM3.1 rfl ?_
                  refine m_iload C d_Mo_distance_55 rfl ?_
                  refine m_iconst (v := 1) C d_Mo_distance_57 (by decide) ?_
                  refine m_isub C d_Mo_distance_58 ?_
                  rw [si]
                  refine m_iload_n C d_Mo_distance_59 rfl rfl ?_
                  refine m_imul C d_Mo_distance_60 ?_
                  rw [mulN 17 (b := 17) rfl]
                  refine m_iload C d_Mo_distance_61 rfl ?_
                  refine m_iadd C d_Mo_distance_63 ?_
                  refine m_iconst (v := 1) C d_Mo_distance_64 (by decide) ?_
                  refine m_isub C d_Mo_distance_65 ?_
                  rw [nI_add, nI_sub1 (by omega), show 17 * i1 + k - 1 = 17 * i1 + k1 by omega]
                  refine m_iald (v := .int (((setF R 34 T3) 34) (17 * i1 + k1))) C d_Mo_distance_66 (hM3.a34) kt_int (nI_pos (by omega)) (by rw [nI_clamp (by omega)]; exact arrL_get (by omega)) ?_
                  rw [q34, hT3 i1 k1 (by omega) (by omega)]
                  refine m_aload_n C d_Mo_distance_67 rfl rfl ?_
                  refine m_get C fg_Mo_86 d_Mo_distance_68 hM3.1 rfl ?_
                  refine m_iload C d_Mo_distance_71 rfl ?_
                  refine m_iconst (v := 1) C d_Mo_distance_73 (by decide) ?_
                  refine m_isub C d_Mo_distance_74 ?_
                  rw [si]
                  refine m_iald (v := .int (((setF R 34 T3) 32) i1)) C d_Mo_distance_75 (hM3.a32) kt_int (nI_pos (by omega)) (by rw [nI_clamp (by omega)]; exact arrL_get (by omega)) ?_
                  rw [q32]
                  refine m_aload_n C d_Mo_distance_76 rfl rfl ?_
                  refine m_get C fg_Mo_89 d_Mo_distance_77 hM3.1 rfl ?_
                  refine m_iload C d_Mo_distance_80 rfl ?_
                  refine m_iconst (v := 1) C d_Mo_distance_82 (by decide) ?_
                  refine m_isub C d_Mo_distance_83 ?_
                  rw [sk]
                  refine m_iald (v := .int (((setF R 34 T3) 33) k1)) C d_Mo_distance_84 (hM3.a33) kt_int (nI_pos (by omega)) (by rw [nI_clamp (by omega)]; exact arrL_get (by omega)) ?_
                  rw [q33]
                  refine m_icmp_ne (tgt := 92) C d_Mo_distance_85 (by decide) (fun b1 => ?_) (fun b1 => ?_)
                  · refine m_iconst (v := 1) C d_Mo_distance_92 (by decide) ?_
                    refine m_iadd C d_Mo_distance_93 ?_
                    exact mid _ (by rw [if_neg b1])
                  · refine m_iconst (v := 0) C d_Mo_distance_88 (by decide) ?_
                    refine m_goto (tgt := 93) C d_Mo_distance_89 (by decide) ?_
                    refine m_iadd C d_Mo_distance_93 ?_
                    exact mid _ (by rw [if_pos b1])
                · exact edge (Or.inr (e4.mp h6))
        exact inner _ M2 0 T rfl (Nat.zero_le _) hM2 hT (fun k' h => absurd h (by omega))
  exact loop _ M 0 (R 34) rfl (Nat.zero_le _) (by rw [setF_id]; exact hM) (fun i' k' h => absurd h (by omega))
