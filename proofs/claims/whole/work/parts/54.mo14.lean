/-! ===== the model's find ===== -/
set_option maxHeartbeats 4000000 in
set_option maxRecDepth 100000 in
theorem ct_Mo_find (l : Launch) (D : ma_D) (s0 : State) (R : mR) (m : Nat) (mr : Nat → Nat) (k : Int32) (M : ma_H) (hM : RepM R m mr M) (hwf : WfS R) : Ct l D s0 y_Mo_find c_Mo_find 5 (some .int) 4 0 0 96 [.ref m, .int k] M (fun q => q = m ∨ ∃ k, mln k ≠ 0 ∧ q = mr k) (fun v M' => ((gbN (true) (inn k 1 10) (decide (nW R ≠ 0)) (true)) = 0 → v = some (.int (nI (min (tn k) (nS R + nL R)))) ∧ ∃ R2, scr [32, 33, 34] (uR (fdR R (tn k)) 0 0 0) R2 ∧ RepM R2 m mr M') ∧ (¬ (gbN (true) (inn k 1 10) (decide (nW R ≠ 0)) (true)) = 0 → v = some (.int 0) ∧ RepM (uR R 0 0 (nI (thN 6 (gbN (true) (inn k 1 10) (decide (nW R ≠ 0)) (true))))) m mr M')) := by
  refine Ct_i 3 [some (.ref m), some (.int k), none, none, none] (by decide +kernel) (Nat.le_of_ble_eq_true rfl) rfl ?_
  intro G e1 e2 e3 C hw Rt
  subst e1; subst e2; subst e3
  obtain ⟨⟨⟨hbS, hbL, hbC, hbW, hbF⟩, hbi⟩, ⟨hS, hLm, hCo, hWd, hFn⟩, hst, hln, hmk, hz, hlt, hxy, hrg, hpl, hak, hcn⟩ := id hwf
  refine m_aload_n C d_Mo_find_0 rfl rfl ?_
  refine m_bipush (v := 6) C d_Mo_find_1 (by decide) ?_
  refine m_iconst (v := 1) C d_Mo_find_3 (by decide) ?_
  refine m_iload_n C d_Mo_find_4 rfl rfl ?_
  refine m_iconst (v := 1) C d_Mo_find_5 (by decide) ?_
  refine m_bipush (v := 10) C d_Mo_find_6 (by decide) ?_
  refine m_callS C d_Mo_find_8 mw_Mo_102 mst_Mo_in (ct_Mo_in _ _ _ k 1 10 M) (fun _ h => h.elim) rfl rfl (Nat.le_of_ble_eq_true rfl) (by decide) (fun v9 M9 hp h5 h6 => ?_)
  obtain ⟨rfl, hM9⟩ := hp; rw [hM9]
  show mj G 5 0 0 M 11 [some (.ref m), some (.int k), none, none, none] [.int (b2i (inn k 1 10)), .int 1, .int 6, .ref m]
  refine m_aload_n C d_Mo_find_11 rfl rfl ?_
  refine m_get C fg_Mo_155 d_Mo_find_12 hM.1 rfl ?_
  rw [hWd]
  have jnr : ∀ xr : Int32, xr = b2i (decide (nW R ≠ 0)) → mj G 5 0 0 M 23 [some (.ref m), some (.int k), none, none, none] [.int xr, .int (b2i (inn k 1 10)), .int 1, .int 6, .ref m] := by
    intro xr hxr
    subst hxr
    refine m_iconst (v := 1) C d_Mo_find_23 (by decide) ?_
    refine m_callV (ci := 10) C d_Mo_find_24 mw_Mo_110 mi_Mo_goes se_Mo_goes rfl (ct_Mo_goes _ _ _ R m mr 6 (true) (inn k 1 10) (decide (nW R ≠ 0)) (true) M hM) (fun q h => hw q h) rfl rfl (Nat.le_of_ble_eq_true rfl) hM.1 (by decide) (fun v9 Mg hp g5 g6 => ?_)
    obtain ⟨rfl, hMg⟩ := hp
    show mj G 5 0 0 Mg 27 [some (.ref m), some (.int k), none, none, none] [.int (b2i (decide ((gbN (true) (inn k 1 10) (decide (nW R ≠ 0)) (true)) = 0)))]
    refine m_if_ne (tgt := 32) C d_Mo_find_27 (by decide) (fun hgo => ?_) (fun hgo => ?_)
    · rw [b2i_ne0, decide_eq_true_eq] at hgo
      have hMg0 : RepM (uR R 0 0 0) m mr Mg := by rw [hgo] at hMg; exact hMg
      obtain ⟨hp9, hq9, hr9, hs9⟩ := gbN_0 hgo
      obtain ⟨Rg, hRg⟩ : ∃ Rg, Rg = uR R 0 0 0 := ⟨_, rfl⟩
      have hg : ∀ f, f ≠ 0 → Rg f = R f := fun f hf => by rw [hRg, uR_n hf]
      have hMr : RepM Rg m mr Mg := by rw [hRg]; exact hMg0
      obtain ⟨kk, rfl, hk1, hk10⟩ := inn_nat (b := 1) (c := 10) (by decide) (by decide) hq9
      have htk : tn (nI kk) = kk := tn_nI (by omega)
      obtain ⟨T, hT⟩ : ∃ T, T = nS R + nL R := ⟨_, rfl⟩
      have hT50 : T ≤ 50 := by omega
      obtain ⟨ap, hap⟩ : ∃ ap, ap = apF R := ⟨_, rfl⟩
      have q26 : Rg 26 = R 26 := hg 26 (by decide)
      have q27 : Rg 27 = R 27 := hg 27 (by decide)
      have qW : nW Rg = nW R := by rw [nW, nW, q26]
      refine m_aload_n C d_Mo_find_32 rfl rfl ?_
      refine m_aload_n C d_Mo_find_33 rfl rfl ?_
      refine m_callV (ci := 10) C d_Mo_find_34 mw_Mo_168 mi_Mo_houseSaid se_Mo_houseSaid rfl (ct_Mo_houseSaid _ _ _ Rg m mr Mg hMr (by rw [q26, qW]; exact hWd) (by rw [qW]; exact hbW)) (fun _ h => h.elim) rfl rfl (Nat.le_of_ble_eq_true rfl) hMr.1 (by decide) (fun v8 M8 hp h85 h86 => ?_)
      obtain ⟨rfl, hM8⟩ := hp; rw [hM8]
      show mj G 5 0 0 Mg 37 [some (.ref m), some (.int (nI kk)), none, none, none] [.int (hsM (Rg 27) (nW Rg)), .ref m]
      rw [q27, qW]
      refine m_putE C fp_Mo_172 d_Mo_find_37 (hw _ (Or.inl rfl)) hMr.1 rfl rfl (fun Ma Maa9 Mao => ?_)
      obtain ⟨R1, hR1⟩ : ∃ R1, R1 = uR Rg 31 0 ((hsM (R 27) (nW R))) := ⟨_, rfl⟩
      have hMa : RepM R1 m mr Ma := by rw [hR1]; exact hMr.put31 Maa9 Mao
      refine m_aload_n C d_Mo_find_40 rfl rfl ?_
      refine m_get C fg_Mo_99 d_Mo_find_41 hMa.1 rfl ?_
      have q9_1 : R1 1 = R 1 := by rw [hR1, uR_n (by decide), hg 1 (by decide)]
      rw [q9_1, hS]
      refine m_aload_n C d_Mo_find_44 rfl rfl ?_
      refine m_get C fg_Mo_133 d_Mo_find_45 hMa.1 rfl ?_
      have q9_2 : R1 16 = R 16 := by rw [hR1, uR_n (by decide), hg 16 (by decide)]
      rw [q9_2, hLm]
      refine m_iadd C d_Mo_find_48 ?_
      rw [nI_add, ← hT]
      refine m_istore_n (L' := [some (.ref m), some (.int (nI kk)), some (.int (nI T)), none, none]) C d_Mo_find_49 rfl (by decide) rfl ?_
      refine m_iconst (v := 0) C d_Mo_find_50 (by decide) ?_
      refine m_istore_n (L' := [some (.ref m), some (.int (nI kk)), some (.int (nI T)), some (.int 0), none]) C d_Mo_find_51 rfl (by decide) rfl ?_
      have loop : ∀ (lq9 : Nat) (M2 : ma_H) (i : Nat) (Ra : mR), T - i = lq9 → i ≤ T → (∀ f, f ∉ [30, 31, 32, 33, 34] → Ra f = Rg f) → Ra 30 = mixF ap (R 30) i → Ra 31 = fu (R 31) 0 (hsM (R 27) (nW R)) → RepM Ra m mr M2 → mj G 5 0 0 M2 52 [some (.ref m), some (.int (nI kk)), some (.int (nI T)), some (.int (nI i)), none] [] := by
        intro lq9
        induction lq9 using Nat.strongRecOn with
        | ind lq9 ih =>
          intro M2 i Ra hr hi hRa h30 h31 hM2
          have hRR : ∀ f, f ∉ [0, 30, 31, 32, 33, 34] → Ra f = R f := fun f hf => by rw [hRa f (fun z => hf (List.mem_cons_of_mem _ z)), hg f (fun z => hf (by rw [z]; decide))]
          have q1 : Ra 1 = R 1 := hRR 1 (by decide)
          have hwa : WfS Ra := WfS_sc hRR (by rw [h31, fu_s]; exact hsM_in _ _) hwf
          have eS : nS Ra = nS R := by rw [nS, nS, q1]
          have eL : nL Ra = nL R := by rw [nL, nL, hRR 16 (by decide)]
          refine m_iload_n C d_Mo_find_52 rfl rfl ?_
          refine m_iload_n C d_Mo_find_53 rfl rfl ?_
          have e1 : nI T ≤ nI i ↔ T ≤ i := nI_leI (by omega) (by omega)
          refine m_icmp_ge (tgt := 95) C d_Mo_find_54 (by decide) (fun h9 => ?_) (fun h9 => ?_)
          · rw [e1] at h9
            have hie : i = T := by omega
            have h30e : Ra 30 = mixF ap (R 30) T := by rw [← hie]; exact h30
            refine m_aload_n C d_Mo_find_95 rfl rfl ?_
            refine m_iconst (v := 0) C d_Mo_find_96 (by decide) ?_
            refine m_putE C fp_Mo_114 d_Mo_find_97 (hw _ (Or.inl rfl)) hM2.1 rfl rfl (fun M5 M5a9 M5o => ?_)
            obtain ⟨R5, hR5⟩ : ∃ R5, R5 = uR Ra 28 0 0 := ⟨_, rfl⟩
            have hM5 : RepM R5 m mr M5 := by rw [hR5]; exact hM2.put28 M5a9 M5o
            have loop2 : ∀ (lq9 : Nat) (M3 : ma_H) (t : Nat) (Rb : mR), T - t = lq9 → t ≤ min kk T → (∀ f, f ∉ [28, 29, 30, 31, 32, 33, 34] → Rb f = Rg f) → Rb 28 = fu (R 28) 0 (nI t) → Rb 29 = mixF (fun j => nI (psq ap T j)) (R 29) t → Rb 30 = mixF ap (R 30) T → Rb 31 = fu (R 31) 0 (hsM (R 27) (nW R)) → RepM Rb m mr M3 → mj G 5 0 0 M3 100 [some (.ref m), some (.int (nI kk)), some (.int (nI T)), none, none] [] := by
              intro lq9
              induction lq9 using Nat.strongRecOn with
              | ind lq9 ih =>
                have ih9 := ih
                intro M3 t Rb hr ht hRb h28 h29 b30 b31 hM3
                have h280 : Rb 28 0 = nI t := by rw [h28, fu_s]
                refine m_aload_n C d_Mo_find_100 rfl rfl ?_
                refine m_get C fg_Mo_114 d_Mo_find_101 hM3.1 rfl ?_
                rw [h280]
                refine m_iload_n C d_Mo_find_104 rfl rfl ?_
                have e3 : nI kk ≤ nI t ↔ kk ≤ t := nI_leI (by omega) (by omega)
                have e4 : nI T ≤ nI t ↔ T ≤ t := nI_leI (by omega) (by omega)
                refine m_icmp_ge (tgt := 188) C d_Mo_find_105 (by decide) (fun g9 => ?_) (fun g9 => ?_)
                · refine m_aload_n C d_Mo_find_188 rfl rfl ?_
                  refine m_get C fg_Mo_114 d_Mo_find_189 hM3.1 rfl ?_
                  rw [h280]
                  have hte : t = min kk T := by rw [e3] at g9; omega
                  exact Rt _ _ _ _ _ _ (by decide) (by decide) d_Mo_find_192 (⟨fun _ => ⟨by rw [htk, ← hT, hte], Rb, by rw [htk]; exact fd_fin hg (by rw [hRg]; rfl) hRb (by rw [h28, hte, hT]) (by rw [h29, hte, hT, hap]) (by rw [b30, hT, hap]) b31, hM3⟩, fun z => absurd hgo z⟩)
                · refine m_aload_n C d_Mo_find_108 rfl rfl ?_
                  refine m_get C fg_Mo_114 d_Mo_find_109 hM3.1 rfl ?_
                  rw [h280]
                  refine m_iload_n C d_Mo_find_112 rfl rfl ?_
                  refine m_icmp_ge (tgt := 188) C d_Mo_find_113 (by decide) (fun g8 => ?_) (fun g8 => ?_)
                  · refine m_aload_n C d_Mo_find_188 rfl rfl ?_
                    refine m_get C fg_Mo_114 d_Mo_find_189 hM3.1 rfl ?_
                    rw [h280]
                    have hte : t = min kk T := by rw [e4] at g8; rw [e3] at g9; omega
                    exact Rt _ _ _ _ _ _ (by decide) (by decide) d_Mo_find_192 (⟨fun _ => ⟨by rw [htk, ← hT, hte], Rb, by rw [htk]; exact fd_fin hg (by rw [hRg]; rfl) hRb (by rw [h28, hte, hT]) (by rw [h29, hte, hT, hap]) (by rw [b30, hT, hap]) b31, hM3⟩, fun z => absurd hgo z⟩)
                  · rw [e3] at g9; rw [e4] at g8
                    have htl : t < min kk T := by omega
                    obtain ⟨fl, hfl⟩ : ∃ fl : Nat → Bool, fl = fun j => decide (j ∈ sqL ap T t) := ⟨_, rfl⟩
                    refine m_iconst (v := (-1)) C d_Mo_find_116 (by decide) ?_
                    refine m_istore_n (L' := [some (.ref m), some (.int (nI kk)), some (.int (nI T)), some (.int (-1)), none]) C d_Mo_find_117 rfl (by decide) rfl ?_
                    refine m_iconst (v := 0) C d_Mo_find_118 (by decide) ?_
                    refine m_istore (L' := [some (.ref m), some (.int (nI kk)), some (.int (nI T)), some (.int (-1)), some (.int 0)]) C d_Mo_find_119 (by decide) rfl ?_
                    have inner : ∀ (lq9 : Nat) (i : Nat), T - i = lq9 → i ≤ T → mj G 5 0 0 M3 121 [some (.ref m), some (.int (nI kk)), some (.int (nI T)), some (.int (bsI ap fl i)), some (.int (nI i))] [] := by
                      intro lq9
                      induction lq9 using Nat.strongRecOn with
                      | ind lq9 ih =>
                        intro i hr hi
                        refine m_iload C d_Mo_find_121 rfl ?_
                        refine m_iload_n C d_Mo_find_123 rfl rfl ?_
                        have e5 : nI T ≤ nI i ↔ T ≤ i := nI_leI (by omega) (by omega)
                        refine m_icmp_ge (tgt := 165) C d_Mo_find_124 (by decide) (fun f9 => ?_) (fun f9 => ?_)
                        · rw [e5] at f9
                          have hie2 : T = i := by omega
                          subst hie2
                          have hbq : bsI ap fl T = nI (psq ap T t) := by rw [hfl, hap, hT]; exact bsq_eq hwf kk t (by rw [← hT]; exact htl)
                          refine m_aload_n C d_Mo_find_165 rfl rfl ?_
                          refine m_get C fg_Mo_80 d_Mo_find_166 hM3.1 rfl ?_
                          refine m_aload_n C d_Mo_find_169 rfl rfl ?_
                          refine m_get C fg_Mo_114 d_Mo_find_170 hM3.1 rfl ?_
                          rw [h280]
                          refine m_iload_n C d_Mo_find_173 rfl rfl ?_
                          rw [hbq]
                          refine m_iastE C d_Mo_find_174 (hw _ (Or.inr ⟨29, by decide, rfl⟩)) (hM3.a29) kt_int (nI_pos (by omega)) (by rw [nI_clamp (by omega), arrL_len]; omega) (fun M6 M6a9 M6o => ?_)
                          rw [nI_clamp (by omega), arrL_set] at M6a9
                          obtain ⟨R6, hR6⟩ : ∃ R6, R6 = uR Rb 29 t ((nI (psq ap T t))) := ⟨_, rfl⟩
                          have hM6 : RepM R6 m mr M6 := by rw [hR6]; exact hM3.set (k := 29) (by decide) (by decide) M6a9 M6o
                          refine m_aload_n C d_Mo_find_175 rfl rfl ?_
                          refine m_dup C d_Mo_find_176 rfl ?_
                          refine m_get C fg_Mo_114 d_Mo_find_177 hM6.1 rfl ?_
                          have h286 : R6 28 0 = nI t := by rw [hR6, uR_n (by decide)]; exact h280
                          rw [h286]
                          refine m_iconst (v := 1) C d_Mo_find_180 (by decide) ?_
                          refine m_iadd C d_Mo_find_181 ?_
                          rw [nI_1]
                          refine m_putE C fp_Mo_114 d_Mo_find_182 (hw _ (Or.inl rfl)) hM6.1 rfl rfl (fun M7 M7a9 M7o => ?_)
                          obtain ⟨R7, hR7⟩ : ∃ R7, R7 = uR R6 28 0 ((nI (t + 1))) := ⟨_, rfl⟩
                          have hM7 : RepM R7 m mr M7 := by rw [hR7]; exact hM6.put28 M7a9 M7o
                          refine m_goto (tgt := 100) C d_Mo_find_185 (by decide) ?_
                          have h6 := ih9 (T - (t + 1)) (by omega) M7 (t + 1) R7 rfl (by omega) (fun f hf => by rw [hR7, uR_n (fun z => hf (by rw [z]; decide)), hR6, uR_n (fun z => hf (by rw [z]; decide))]; exact hRb f hf) (by rw [hR7, uR_s, hR6, uR_n (by decide), h28, fu_fu]) (by rw [hR7, uR_n (by decide), hR6, uR_s, h29]; exact mixF_s (fun j => nI (psq ap T j)) (R 29) t) (by rw [hR7, uR_n (by decide), hR6, uR_n (by decide)]; exact b30) (by rw [hR7, uR_n (by decide), hR6, uR_n (by decide)]; exact b31) hM7
                          exact mj_L (fun q v hv => by rcases q with _ | _ | _ | _ | _ | q <;> first | exact hv | exact absurd (Option.some.inj hv) (by simp)) h6
                        · rw [e5] at f9
                          have hiT2 : i < T := by omega
                          refine m_aload_n C d_Mo_find_127 rfl rfl ?_
                          refine m_iload C d_Mo_find_128 rfl ?_
                          refine m_callV (ci := 10) C d_Mo_find_130 mw_Mo_181 mi_Mo_isFound se_Mo_isFound rfl (ct_Mo_isFound _ _ _ Rb m mr t (by omega) (nI i) M3 hM3 h280) (fun _ h => h.elim) rfl rfl (Nat.le_of_ble_eq_true rfl) hM3.1 (by decide) (fun v6 M6 hp h65 h66 => ?_)
                          obtain ⟨rfl, hM6⟩ := hp; rw [hM6]
                          show mj G 5 0 0 M3 133 [some (.ref m), some (.int (nI kk)), some (.int (nI T)), some (.int (bsI ap fl i)), some (.int (nI i))] [.int (b2i (decide (∃ k, k < t ∧ Rb 29 k = nI i)))]
                          have hfi : decide (∃ k, k < t ∧ Rb 29 k = nI i) = fl i := by rw [hfl]; exact decide_eq_decide.mpr (by rw [h29, hap, hT]; exact fnd_mem hwf (k := kk) (by rw [← hT]; exact ht) (by rw [← hT]; exact hiT2) (R 29))
                          rw [hfi]
                          refine m_if_ne (tgt := 159) C d_Mo_find_133 (by decide) (fun f8 => ?_) (fun f8 => ?_)
                          · rw [b2i_ne0] at f8
                            refine m_iinc (v := (nI (i + 1))) (L' := [some (.ref m), some (.int (nI kk)), some (.int (nI T)), some (.int (bsI ap fl i)), some (.int (nI (i + 1)))]) C d_Mo_find_159 rfl (nI_1 i) (by decide) rfl ?_
                            refine m_goto (tgt := 121) C d_Mo_find_162 (by decide) ?_
                            have h6 := ih (T - (i + 1)) (by omega) (i + 1) rfl (by omega)
                            rw [bsI, if_neg (fun z => by rw [f8] at z; cases z.1)] at h6
                            exact h6
                          · have f80 : fl i = false := by cases hh : fl i with | false => rfl | true => (rw [hh] at f8; exact absurd f8 (by decide))
                            refine m_iload_n C d_Mo_find_136 rfl rfl ?_
                            refine m_if_lt (tgt := 156) C d_Mo_find_137 (by decide) (fun f7 => ?_) (fun f7 => ?_)
                            · refine m_iload C d_Mo_find_156 rfl ?_
                              refine m_istore_n (L' := [some (.ref m), some (.int (nI kk)), some (.int (nI T)), some (.int (nI i)), some (.int (nI i))]) C d_Mo_find_158 rfl (by decide) rfl ?_
                              refine m_iinc (v := (nI (i + 1))) (L' := [some (.ref m), some (.int (nI kk)), some (.int (nI T)), some (.int (nI i)), some (.int (nI (i + 1)))]) C d_Mo_find_159 rfl (nI_1 i) (by decide) rfl ?_
                              refine m_goto (tgt := 121) C d_Mo_find_162 (by decide) ?_
                              have h6 := ih (T - (i + 1)) (by omega) (i + 1) rfl (by omega)
                              rw [bsI, if_pos ⟨f80, Or.inl f7⟩] at h6
                              exact h6
                            · obtain ⟨p9, hp9, hpb⟩ := bsI_nn (by omega) f7
                              have hih : bsI ap fl (i + 1) = if ap i < ap p9 then nI i else bsI ap fl i := by
                                rw [bsI, hpb, tn_nI (by omega)]
                                by_cases hc : ap i < ap p9
                                · rw [if_pos ⟨f80, Or.inr hc⟩, if_pos hc]
                                · rw [if_neg (fun z => z.2.elim (fun y => nI_pos (by omega) y) hc), if_neg hc]
                              refine m_aload_n C d_Mo_find_140 rfl rfl ?_
                              refine m_get C fg_Mo_83 d_Mo_find_141 hM3.1 rfl ?_
                              refine m_iload C d_Mo_find_144 rfl ?_
                              refine m_iald (v := .int ((Rb 30) i)) C d_Mo_find_146 (hM3.a30) kt_int (nI_pos (by omega)) (by rw [nI_clamp (by omega)]; exact arrL_get (by omega)) ?_
                              rw [b30, mixF_lt hiT2]
                              refine m_aload_n C d_Mo_find_147 rfl rfl ?_
                              refine m_get C fg_Mo_83 d_Mo_find_148 hM3.1 rfl ?_
                              refine m_iload_n C d_Mo_find_151 rfl rfl ?_
                              rw [hpb]
                              refine m_iald (v := .int ((Rb 30) p9)) C d_Mo_find_152 (hM3.a30) kt_int (nI_pos (by omega)) (by rw [nI_clamp (by omega)]; exact arrL_get (by omega)) ?_
                              rw [b30, mixF_lt (show p9 < T by omega)]
                              refine m_icmp_ge (tgt := 159) C d_Mo_find_153 (by decide) (fun f6 => ?_) (fun f6 => ?_)
                              · refine m_iinc (v := (nI (i + 1))) (L' := [some (.ref m), some (.int (nI kk)), some (.int (nI T)), some (.int (nI p9)), some (.int (nI (i + 1)))]) C d_Mo_find_159 rfl (nI_1 i) (by decide) rfl ?_
                                refine m_goto (tgt := 121) C d_Mo_find_162 (by decide) ?_
                                have h6 := ih (T - (i + 1)) (by omega) (i + 1) rfl (by omega)
                                rw [hih, if_neg (Int32.not_lt.mpr f6), hpb] at h6
                                exact h6
                              · refine m_iload C d_Mo_find_156 rfl ?_
                                refine m_istore_n (L' := [some (.ref m), some (.int (nI kk)), some (.int (nI T)), some (.int (nI i)), some (.int (nI i))]) C d_Mo_find_158 rfl (by decide) rfl ?_
                                refine m_iinc (v := (nI (i + 1))) (L' := [some (.ref m), some (.int (nI kk)), some (.int (nI T)), some (.int (nI i)), some (.int (nI (i + 1)))]) C d_Mo_find_159 rfl (nI_1 i) (by decide) rfl ?_
                                refine m_goto (tgt := 121) C d_Mo_find_162 (by decide) ?_
                                have h6 := ih (T - (i + 1)) (by omega) (i + 1) rfl (by omega)
                                rw [hih, if_pos (Int32.not_le.mp f6)] at h6
                                exact h6
                    exact inner _ 0 rfl (Nat.zero_le _)
            have h6 := loop2 _ M5 0 R5 rfl (Nat.zero_le _) (fun f hf => by rw [hR5, uR_n (fun z => hf (by rw [z]; decide))]; exact hRa f (fun z => hf (List.mem_cons_of_mem _ (List.mem_cons_of_mem _ z)))) (by rw [hR5, uR_s, hRa 28 (by decide), hg 28 (by decide)]; rfl) (by rw [hR5, uR_n (by decide), hRa 29 (by decide), hg 29 (by decide), mixF_0]) (by rw [hR5, uR_n (by decide)]; exact h30e) (by rw [hR5, uR_n (by decide)]; exact h31) hM5
            exact mj_L (fun q v hv => by rcases q with _ | _ | _ | _ | _ | q <;> first | exact hv | exact absurd (Option.some.inj hv) (by simp)) h6
          · rw [e1] at h9
            have hiT : i < T := by omega
            have jn : ∀ (x8 : Int32) (M3 : ma_H) (R3 : mR), x8 = ap i → scr [32, 33, 34] Ra R3 → RepM R3 m mr M3 → mj G 5 0 0 M3 88 [some (.ref m), some (.int (nI kk)), some (.int (nI T)), some (.int (nI i)), none] [.int x8, .int (nI i), .ref (mr 30)] := by
              intro x8 M3 R3 hx8 hR3 hM3
              subst hx8
              refine m_iastE C d_Mo_find_88 (hw _ (Or.inr ⟨30, by decide, rfl⟩)) (hM3.a30) kt_int (nI_pos (by omega)) (by rw [nI_clamp (by omega), arrL_len]; omega) (fun M4 M4a9 M4o => ?_)
              rw [nI_clamp (by omega), arrL_set] at M4a9
              obtain ⟨R4, hR4⟩ : ∃ R4, R4 = uR R3 30 i ((ap i)) := ⟨_, rfl⟩
              have hM4 : RepM R4 m mr M4 := by rw [hR4]; exact hM3.set (k := 30) (by decide) (by decide) M4a9 M4o
              refine m_iinc (v := (nI (i + 1))) (L' := [some (.ref m), some (.int (nI kk)), some (.int (nI T)), some (.int (nI (i + 1))), none]) C d_Mo_find_89 rfl (nI_1 i) (by decide) rfl ?_
              refine m_goto (tgt := 52) C d_Mo_find_92 (by decide) ?_
              refine ih (T - (i + 1)) (by omega) M4 (i + 1) R4 rfl (by omega) (fun f hf => ?_) ?_ ?_ hM4
              · rw [hR4, uR_n (fun z => hf (by rw [z]; decide)), hR3 f (fun z => hf (List.mem_cons_of_mem _ (List.mem_cons_of_mem _ z)))]; exact hRa f hf
              · rw [hR4, uR_s, hR3 30 (by decide), h30, mixF_s]
              · rw [hR4, uR_n (by decide), hR3 31 (by decide)]; exact h31
            refine m_aload_n C d_Mo_find_57 rfl rfl ?_
            refine m_get C fg_Mo_83 d_Mo_find_58 hM2.1 rfl ?_
            refine m_iload_n C d_Mo_find_61 rfl rfl ?_
            refine m_iload_n C d_Mo_find_62 rfl rfl ?_
            refine m_aload_n C d_Mo_find_63 rfl rfl ?_
            refine m_get C fg_Mo_99 d_Mo_find_64 hM2.1 rfl ?_
            rw [q1, hS]
            have e2 : nI (nS R) ≤ nI i ↔ nS R ≤ i := nI_leI (by omega) (by omega)
            refine m_icmp_ge (tgt := 78) C d_Mo_find_67 (by decide) (fun h8 => ?_) (fun h8 => ?_)
            · rw [e2] at h8
              refine m_aload_n C d_Mo_find_78 rfl rfl ?_
              refine m_iload_n C d_Mo_find_79 rfl rfl ?_
              refine m_aload_n C d_Mo_find_80 rfl rfl ?_
              refine m_get C fg_Mo_99 d_Mo_find_81 hM2.1 rfl ?_
              rw [q1, hS]
              refine m_isub C d_Mo_find_84 ?_
              rw [pk_sub h8]
              refine m_callV (ci := 10) C d_Mo_find_85 mw_Mo_178 mi_Mo_apartMark se_Mo_apartMark rfl (ct_Mo_apartMark _ _ _ Ra m mr (i - nS R) (by rw [eL]; omega) M2 hM2 hwa) (fun q h => hw q h) rfl rfl (Nat.le_of_ble_eq_true rfl) hM2.1 (by decide) (fun v7 M7 hp h75 h76 => ?_)
              obtain ⟨rfl, R7, hR7, hM7⟩ := hp
              show mj G 5 0 0 M7 88 [some (.ref m), some (.int (nI kk)), some (.int (nI T)), some (.int (nI i)), none] [.int (amM Ra (i - nS R)), .int (nI i), .ref (mr 30)]
              exact jn _ M7 R7 (by rw [hap]; exact apF_m hRR h8) hR7 hM7
            · rw [e2] at h8
              refine m_aload_n C d_Mo_find_70 rfl rfl ?_
              refine m_iload_n C d_Mo_find_71 rfl rfl ?_
              refine m_callV (ci := 10) C d_Mo_find_72 mw_Mo_175 mi_Mo_apartStreet se_Mo_apartStreet rfl (ct_Mo_apartStreet _ _ _ Ra m mr i (by rw [eS]; omega) M2 hM2 hwa) (fun q h => hw q h) rfl rfl (Nat.le_of_ble_eq_true rfl) hM2.1 (by decide) (fun v7 M7 hp h75 h76 => ?_)
              obtain ⟨rfl, R7, hR7, hM7⟩ := hp
              show mj G 5 0 0 M7 75 [some (.ref m), some (.int (nI kk)), some (.int (nI T)), some (.int (nI i)), none] [.int (asM Ra i (tn (Ra 4 i))), .int (nI i), .ref (mr 30)]
              refine m_goto (tgt := 88) C d_Mo_find_75 (by decide) ?_
              exact jn _ M7 R7 (by rw [hap]; exact apF_s hRR (by omega)) hR7 hM7
      exact loop _ Ma 0 R1 rfl (Nat.zero_le _) (fun f hf => by rw [hR1, uR_n (fun z => hf (by rw [z]; decide))]) (by rw [hR1, uR_n (by decide), hg 30 (by decide), mixF_0]) (by rw [hR1, uR_s, hg 31 (by decide)]) hMa
    · rw [b2i_eq0, decide_eq_false_iff_not] at hgo
      refine m_iconst (v := 0) C d_Mo_find_30 (by decide) ?_
      exact Rt _ _ _ _ _ _ (by decide) (by decide) d_Mo_find_31 (⟨fun z => absurd z hgo, fun _ => ⟨rfl, hMg⟩⟩)
  have e0 : nI (nW R) ≤ 0 ↔ nW R = 0 := by rw [show (0 : Int32) = nI 0 from rfl, nI_leI (by omega) (by decide)]; omega
  refine m_if_le (tgt := 22) C d_Mo_find_15 (by decide) (fun h1 => ?_) (fun h1 => ?_)
  · refine m_iconst (v := 0) C d_Mo_find_22 (by decide) ?_
    exact jnr _ (by rw [e0] at h1; rw [decide_eq_false (by simp [h1])]; rfl)
  · refine m_iconst (v := 1) C d_Mo_find_18 (by decide) ?_
    refine m_goto (tgt := 23) C d_Mo_find_19 (by decide) ?_
    exact jnr _ (by rw [e0] at h1; rw [decide_eq_true h1]; rfl)
