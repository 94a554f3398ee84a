/-! ===== the model's twice, place ===== -/
def shK (R : mR) (i : Nat) (o : Nat) : Bool := decide (∃ q, q < o ∧ shA R i q = true)
theorem shK_s (R : mR) (i o : Nat) : shK R i (o + 1) = (shK R i o || shA R i o) := by
  rw [shK, shK]
  by_cases h1 : ∃ q, q < o ∧ shA R i q = true
  · have h2 : ∃ q, q < o + 1 ∧ shA R i q = true := by obtain ⟨q, h3, h4⟩ := h1; exact ⟨q, by omega, h4⟩
    rw [decide_eq_true h1, decide_eq_true h2]; rfl
  · rw [decide_eq_false h1]
    cases h3 : shA R i o with
    | true => have h2 : ∃ q, q < o + 1 ∧ shA R i q = true := ⟨o, by omega, h3⟩
              rw [decide_eq_true h2]; rfl
    | false => have h2 : ¬ ∃ q, q < o + 1 ∧ shA R i q = true := fun ⟨q, h4, h5⟩ => by
                 by_cases h6 : q = o
                 · rw [h6, h3] at h5; cases h5
                 · exact h1 ⟨q, by omega, h5⟩
               rw [decide_eq_false h2]; rfl
theorem WfS_cg {R R' : mR} (h : ∀ f, f ≠ 0 → R' f = R f) (hw : WfS R) : WfS R' := by
  have e := fun f (hf : f ≠ 0) => h f hf
  simp only [WfS, Bd, Wz, nS, nL, nC, nW, nF, e 1 (by decide), e 2 (by decide), e 3 (by decide), e 4 (by decide), e 5 (by decide), e 6 (by decide), e 7 (by decide), e 8 (by decide), e 9 (by decide), e 10 (by decide), e 11 (by decide), e 12 (by decide), e 13 (by decide), e 14 (by decide), e 15 (by decide), e 16 (by decide), e 17 (by decide), e 18 (by decide), e 19 (by decide), e 20 (by decide), e 21 (by decide), e 22 (by decide), e 23 (by decide), e 24 (by decide), e 25 (by decide), e 26 (by decide), e 27 (by decide), e 28 (by decide), e 29 (by decide), e 30 (by decide), e 31 (by decide)]
  exact hw
theorem shB_cg {R R' : mR} (h : ∀ f, f ≠ 0 → R' f = R f) (i o : Nat) : shB R' i o = shB R i o := by
  have e : ∀ k, nmL R' k = nmL R k := fun k => nmL_congr (h 5 (by decide)) (h 6 (by decide))
  rw [shB, shB, decide_eq_decide]
  simp only [e, h 4 (by decide)]

set_option maxHeartbeats 4000000 in
set_option maxRecDepth 100000 in
theorem ct_Mo_twice (l : Launch) (D : ma_D) (s0 : State) (R : mR) (m : Nat) (mr : Nat → Nat) (M : ma_H) (hM : RepM R m mr M) (hwf : WfS R) : Ct l D s0 y_Mo_twice c_Mo_twice 5 (some .int) 2 0 0 48 [.ref m] M (fun q => q = m ∨ ∃ k, mln k ≠ 0 ∧ q = mr k) (fun v M' => v = some (.int (nI (twC R (nS R)))) ∧ RepM (uR R 0 0 0) m mr M') := by
  refine Ct_i 4 [some (.ref m), none, none, none, none] (by decide +kernel) (Nat.le_of_ble_eq_true rfl) rfl ?_
  intro G e1 e2 e3 C hw Rt
  subst e1; subst e2; subst e3
  obtain ⟨⟨⟨hbS, hbL, hbC, hbW, hbF⟩, hbi⟩, ⟨hS, hLm, hCo, hWd, hFn⟩, hst, hln, hmk, hz, hlt, hxy, hrg, hpl, hak, hcn⟩ := id hwf
  refine m_aload_n C d_Mo_twice_0 rfl rfl ?_
  refine m_iconst (v := 0) C d_Mo_twice_1 (by decide) ?_
  refine m_putE C fp_Mo_95 d_Mo_twice_2 (hw _ (Or.inl rfl)) hM.1 rfl rfl (fun Mg Mga9 Mgo => ?_)
  obtain ⟨Rg, hRg⟩ : ∃ Rg, Rg = uR R 0 0 0 := ⟨_, rfl⟩
  have hMg : RepM Rg m mr Mg := by rw [hRg]; exact hM.put0 Mga9 Mgo
  have hg : ∀ f, f ≠ 0 → Rg f = R f := fun f hf => by rw [hRg, uR_n hf]
  have hwg := WfS_cg hg hwf
  have g1 : nS Rg = nS R := by rw [nS, hg 1 (by decide)]
  refine m_iconst (v := 0) C d_Mo_twice_5 (by decide) ?_
  refine m_istore_n (L' := [some (.ref m), some (.int 0), none, none, none]) C d_Mo_twice_6 rfl (by decide) rfl ?_
  refine m_iconst (v := 0) C d_Mo_twice_7 (by decide) ?_
  refine m_istore_n (L' := [some (.ref m), some (.int 0), some (.int 0), none, none]) C d_Mo_twice_8 rfl (by decide) rfl ?_
  have loop : ∀ (lq9 : Nat) (i : Nat), nS R - i = lq9 → i ≤ nS R → mj G 5 0 0 Mg 9 [some (.ref m), some (.int (nI (twC R i))), some (.int (nI i)), none, none] [] := by
    intro lq9
    induction lq9 using Nat.strongRecOn with
    | ind lq9 ih =>
      have ih9 := ih
      intro i hr hi
      refine m_iload_n C d_Mo_twice_9 rfl rfl ?_
      refine m_aload_n C d_Mo_twice_10 rfl rfl ?_
      refine m_get C fg_Mo_99 d_Mo_twice_11 hMg.1 rfl ?_
      have q9_1 : Rg 1 = R 1 := by rw [hg 1 (by decide)]
      rw [q9_1, hS]
      have e1 : nI (nS R) ≤ nI i ↔ nS R ≤ i := nI_leI (by omega) (by omega)
      refine m_icmp_ge (tgt := 92) C d_Mo_twice_14 (by decide) (fun h9 => ?_) (fun h9 => ?_)
      · rw [e1] at h9
        obtain rfl : i = nS R := by omega
        refine m_iload_n C d_Mo_twice_92 rfl rfl ?_
        exact Rt _ _ _ _ _ _ (by decide) (by decide) d_Mo_twice_93 (⟨rfl, by rw [← hRg]; exact hMg⟩)
      · rw [e1] at h9
        have hin : i < nS R := by omega
        have hcnt := twC_le R i
        refine m_iconst (v := 0) C d_Mo_twice_17 (by decide) ?_
        refine m_istore_n (L' := [some (.ref m), some (.int (nI (twC R i))), some (.int (nI i)), some (.int 0), none]) C d_Mo_twice_18 rfl (by decide) rfl ?_
        refine m_iconst (v := 0) C d_Mo_twice_19 (by decide) ?_
        refine m_istore (L' := [some (.ref m), some (.int (nI (twC R i))), some (.int (nI i)), some (.int 0), some (.int 0)]) C d_Mo_twice_20 (by decide) rfl ?_
        have inner : ∀ (lq9 : Nat) (o : Nat), nS R - o = lq9 → o ≤ nS R → mj G 5 0 0 Mg 22 [some (.ref m), some (.int (nI (twC R i))), some (.int (nI i)), some (.int (b2i (shK R i o))), some (.int (nI o))] [] := by
          intro lq9
          induction lq9 using Nat.strongRecOn with
          | ind lq9 ih =>
            intro o hr ho
            refine m_iload C d_Mo_twice_22 rfl ?_
            refine m_aload_n C d_Mo_twice_24 rfl rfl ?_
            refine m_get C fg_Mo_99 d_Mo_twice_25 hMg.1 rfl ?_
            have q9_2 : Rg 1 = R 1 := by rw [hg 1 (by decide)]
            rw [q9_2, hS]
            have e2 : nI (nS R) ≤ nI o ↔ nS R ≤ o := nI_leI (by omega) (by omega)
            refine m_icmp_ge (tgt := 79) C d_Mo_twice_28 (by decide) (fun h8 => ?_) (fun h8 => ?_)
            · rw [e2] at h8
              obtain rfl : o = nS R := by omega
              refine m_iload_n C d_Mo_twice_79 rfl rfl ?_
              refine m_if_eq (tgt := 86) C d_Mo_twice_80 (by decide) (fun h7 => ?_) (fun h7 => ?_)
              · rw [b2i_eq0] at h7
                refine m_iinc (v := (nI (i + 1))) (L' := [some (.ref m), some (.int (nI (twC R i))), some (.int (nI (i + 1))), some (.int (b2i (shK R i (nS R)))), some (.int (nI (nS R)))]) C d_Mo_twice_86 rfl (nI_1 i) (by decide) rfl ?_
                refine m_goto (tgt := 9) C d_Mo_twice_89 (by decide) ?_
                have h5 := ih9 (nS R - (i + 1)) (by omega) (i + 1) rfl (by omega)
                rw [twC, if_neg (by rw [show shN R i = shK R i (nS R) from rfl, h7]; simp)] at h5
                exact mj_L (fun q v hv => by rcases q with _ | _ | _ | _ | _ | q <;> first | exact hv | exact absurd (Option.some.inj hv) (by simp)) h5
              · rw [b2i_eq0, Bool.not_eq_false] at h7
                refine m_iinc (v := (nI (twC R i + 1))) (L' := [some (.ref m), some (.int (nI (twC R i + 1))), some (.int (nI i)), some (.int (b2i (shK R i (nS R)))), some (.int (nI (nS R)))]) C d_Mo_twice_83 rfl (nI_1 _) (by decide) rfl ?_
                refine m_iinc (v := (nI (i + 1))) (L' := [some (.ref m), some (.int (nI (twC R i + 1))), some (.int (nI (i + 1))), some (.int (b2i (shK R i (nS R)))), some (.int (nI (nS R)))]) C d_Mo_twice_86 rfl (nI_1 i) (by decide) rfl ?_
                refine m_goto (tgt := 9) C d_Mo_twice_89 (by decide) ?_
                have h5 := ih9 (nS R - (i + 1)) (by omega) (i + 1) rfl (by omega)
                rw [twC, if_pos (show shN R i = true from h7)] at h5
                exact mj_L (fun q v hv => by rcases q with _ | _ | _ | _ | _ | q <;> first | exact hv | exact absurd (Option.some.inj hv) (by simp)) h5
            · rw [e2] at h8
              have hon : o < nS R := by omega
              have jn : ∀ x3 : Int32, x3 = b2i (shK R i (o + 1)) → mj G 5 0 0 Mg 72 [some (.ref m), some (.int (nI (twC R i))), some (.int (nI i)), some (.int (b2i (shK R i o))), some (.int (nI o))] [.int x3] := by
                intro x3 hx3
                subst hx3
                refine m_istore_n (L' := [some (.ref m), some (.int (nI (twC R i))), some (.int (nI i)), some (.int (b2i (shK R i (o + 1)))), some (.int (nI o))]) C d_Mo_twice_72 rfl (by decide) rfl ?_
                refine m_iinc (v := (nI (o + 1))) (L' := [some (.ref m), some (.int (nI (twC R i))), some (.int (nI i)), some (.int (b2i (shK R i (o + 1)))), some (.int (nI (o + 1)))]) C d_Mo_twice_73 rfl (nI_1 o) (by decide) rfl ?_
                refine m_goto (tgt := 22) C d_Mo_twice_76 (by decide) ?_
                exact ih (nS R - (o + 1)) (by omega) (o + 1) rfl (by omega)
              refine m_iload_n C d_Mo_twice_31 rfl rfl ?_
              refine m_if_ne (tgt := 67) C d_Mo_twice_32 (by decide) (fun h7 => ?_) (fun h7 => ?_)
              · rw [b2i_ne0] at h7
                refine m_iconst (v := 1) C d_Mo_twice_67 (by decide) ?_
                refine m_goto (tgt := 72) C d_Mo_twice_68 (by decide) ?_
                exact jn _ (by rw [shK_s, h7]; rfl)
              · rw [b2i_eq0] at h7
                refine m_iload C d_Mo_twice_35 rfl ?_
                refine m_iload_n C d_Mo_twice_37 rfl rfl ?_
                have e3 : nI o = nI i ↔ o = i := nI_eq (by omega) (by omega)
                refine m_icmp_eq (tgt := 71) C d_Mo_twice_38 (by decide) (fun h6 => ?_) (fun h6 => ?_)
                · refine m_iconst (v := 0) C d_Mo_twice_71 (by decide) ?_
                  exact jn _ (by rw [e3] at h6; rw [shK_s, h7, shA, decide_eq_true h6]; rfl)
                · rw [e3] at h6
                  refine m_aload_n C d_Mo_twice_41 rfl rfl ?_
                  refine m_get C fg_Mo_7 d_Mo_twice_42 hMg.1 rfl ?_
                  refine m_iload C d_Mo_twice_45 rfl ?_
                  refine m_iald (v := .int ((Rg 2) o)) C d_Mo_twice_47 (hMg.a2) kt_int (nI_pos (by omega)) (by rw [nI_clamp (by omega)]; exact arrL_get (by omega)) ?_
                  refine m_aload_n C d_Mo_twice_48 rfl rfl ?_
                  refine m_get C fg_Mo_7 d_Mo_twice_49 hMg.1 rfl ?_
                  refine m_iload_n C d_Mo_twice_52 rfl rfl ?_
                  refine m_iald (v := .int ((Rg 2) i)) C d_Mo_twice_53 (hMg.a2) kt_int (nI_pos (by omega)) (by rw [nI_clamp (by omega)]; exact arrL_get (by omega)) ?_
                  have q9_3 : Rg 2 = R 2 := by rw [hg 2 (by decide)]
                  rw [q9_3]
                  refine m_icmp_ne (tgt := 71) C d_Mo_twice_54 (by decide) (fun h5 => ?_) (fun h5 => ?_)
                  · refine m_iconst (v := 0) C d_Mo_twice_71 (by decide) ?_
                    exact jn _ (by rw [shK_s, h7, shA, decide_eq_false h6, decide_eq_false h5]; rfl)
                  · refine m_aload_n C d_Mo_twice_57 rfl rfl ?_
                    refine m_iload_n C d_Mo_twice_58 rfl rfl ?_
                    refine m_iload C d_Mo_twice_59 rfl ?_
                    refine m_callV (ci := 10) C d_Mo_twice_61 mw_Mo_196 mi_Mo_share se_Mo_share rfl (ct_Mo_share _ _ _ Rg m mr i o (by rw [g1]; exact hin) (by rw [g1]; exact hon) Mg hMg hwg) (fun _ h => h.elim) rfl rfl (Nat.le_of_ble_eq_true rfl) hMg.1 (by decide) (fun v8 M8 hp h85 h86 => ?_)
                    obtain ⟨rfl, hM8⟩ := hp; rw [hM8]
                    show mj G 5 0 0 Mg 64 [some (.ref m), some (.int (nI (twC R i))), some (.int (nI i)), some (.int (b2i (shK R i o))), some (.int (nI o))] [.int (b2i (shB Rg i o))]
                    have hB : shB Rg i o = shB R i o := shB_cg hg i o
                    rw [hB]
                    refine m_if_eq (tgt := 71) C d_Mo_twice_64 (by decide) (fun h4 => ?_) (fun h4 => ?_)
                    · refine m_iconst (v := 0) C d_Mo_twice_71 (by decide) ?_
                      exact jn _ (by rw [b2i_eq0] at h4; rw [shK_s, h7, shA, decide_eq_false h6, decide_eq_true h5, h4]; rfl)
                    · refine m_iconst (v := 1) C d_Mo_twice_67 (by decide) ?_
                      refine m_goto (tgt := 72) C d_Mo_twice_68 (by decide) ?_
                      exact jn _ (by rw [b2i_eq0, Bool.not_eq_false] at h4; rw [shK_s, h7, shA, decide_eq_false h6, decide_eq_true h5, h4]; rfl)
        exact inner _ 0 rfl (Nat.zero_le _)
  exact loop _ 0 rfl (Nat.zero_le _)

set_option maxHeartbeats 4000000 in
set_option maxRecDepth 100000 in
theorem ct_Mo_isFound (l : Launch) (D : ma_D) (s0 : State) (R : mR) (m : Nat) (mr : Nat → Nat) (n : Nat) (hn : n ≤ 10) (x : Int32) (M : ma_H) (hM : RepM R m mr M) (h28 : R 28 0 = nI n) : Ct l D s0 y_Mo_isFound c_Mo_isFound 3 (some .boolean) 0 0 0 0 [.ref m, .int x] M (fun _ => False) (pI (b2i (decide (∃ k, k < n ∧ R 29 k = x))) M) := by
  refine Ct_z 1 [some (.ref m), some (.int x), none] (by decide +kernel) (Nat.le_of_ble_eq_true rfl) rfl ?_
  intro G e1 e2 e3 C hw Rt
  subst e1; subst e2; subst e3
  refine m_iconst (v := 0) C d_Mo_isFound_0 (by decide) ?_
  refine m_istore_n (L' := [some (.ref m), some (.int x), some (.int 0)]) C d_Mo_isFound_1 rfl (by decide) rfl ?_
  have loop : ∀ (lq9 : Nat) (k : Nat), n - k = lq9 → k ≤ n → (∀ j, j < k → R 29 j ≠ x) → mj G 3 0 0 M 2 [some (.ref m), some (.int x), some (.int (nI k))] [] := by
    intro lq9
    induction lq9 using Nat.strongRecOn with
    | ind lq9 ih =>
      intro k hr hk hj
      refine m_iload_n C d_Mo_isFound_2 rfl rfl ?_
      refine m_aload_n C d_Mo_isFound_3 rfl rfl ?_
      refine m_get C fg_Mo_114 d_Mo_isFound_4 hM.1 rfl ?_
      rw [h28]
      have e1 : nI n ≤ nI k ↔ n ≤ k := nI_leI (by omega) (by omega)
      refine m_icmp_ge (tgt := 28) C d_Mo_isFound_7 (by decide) (fun h9 => ?_) (fun h9 => ?_)
      · refine m_iconst (v := 0) C d_Mo_isFound_28 (by decide) ?_
        exact Rt _ _ _ _ _ _ (by decide) (by decide) (by decide) d_Mo_isFound_29 (⟨by rw [e1] at h9; have : ¬ ∃ k, k < n ∧ R 29 k = x := fun ⟨j, q1, q2⟩ => hj j (by omega) q2; rw [decide_eq_false this]; rfl, rfl⟩)
      · rw [e1] at h9
        refine m_aload_n C d_Mo_isFound_10 rfl rfl ?_
        refine m_get C fg_Mo_80 d_Mo_isFound_11 hM.1 rfl ?_
        refine m_iload_n C d_Mo_isFound_14 rfl rfl ?_
        refine m_iald (v := .int ((R 29) k)) C d_Mo_isFound_15 (hM.a29) kt_int (nI_pos (by omega)) (by rw [nI_clamp (by omega)]; exact arrL_get (by omega)) ?_
        refine m_iload_n C d_Mo_isFound_16 rfl rfl ?_
        refine m_icmp_ne (tgt := 22) C d_Mo_isFound_17 (by decide) (fun h8 => ?_) (fun h8 => ?_)
        · refine m_iinc (v := (nI (k + 1))) (L' := [some (.ref m), some (.int x), some (.int (nI (k + 1)))]) C d_Mo_isFound_22 rfl (nI_1 k) (by decide) rfl ?_
          refine m_goto (tgt := 2) C d_Mo_isFound_25 (by decide) ?_
          exact ih (n - (k + 1)) (by omega) (k + 1) rfl (by omega) (fun j hj9 => by by_cases q : j = k; rw [q]; exact h8; exact hj j (by omega))
        · refine m_iconst (v := 1) C d_Mo_isFound_20 (by decide) ?_
          exact Rt _ _ _ _ _ _ (by decide) (by decide) (by decide) d_Mo_isFound_21 (⟨by have : ∃ k, k < n ∧ R 29 k = x := ⟨k, by omega, h8⟩; rw [decide_eq_true this]; rfl, rfl⟩)
  exact loop _ 0 rfl (Nat.zero_le _) (fun j h => absurd h (by omega))
