/-! ===== the model's meet, alias, range, line ===== -/
def isO (w n : Int32) : Bool := decide (w = 2) || decide (n % 2 = w)

set_option maxHeartbeats 4000000 in
set_option maxRecDepth 100000 in
theorem ct_Mo_meet (l : Launch) (D : ma_D) (s0 : State) (R : mR) (m : Nat) (mr : Nat → Nat) (s o a b : Int32) (M : ma_H) (hM : RepM R m mr M) (hwf : WfS R) : Ct l D s0 y_Mo_meet c_Mo_meet 7 none 2 0 0 43 [.ref m, .int s, .int o, .int a, .int b] M (fun q => q = m ∨ ∃ k, mln k ≠ 0 ∧ q = mr k) (fun v M' => ((gbN ((kn R s && kn R o)) (((kn R s && kn R o) && inn a 0 (R 15 (tn s)) && inn b 0 (R 15 (tn o)))) ((!decide (s = o) && decide (coF R s o (nC R) 0 < 0))) (decide (nC R < 40))) = 0 → v = none ∧ RepM (uR (uR (uR (uR (uR (uR R 0 0 0) 22 (nC R) s) 23 (nC R) o) 24 (nC R) a) 25 (nC R) b) 21 0 (nI (nC R + 1))) m mr M') ∧ (¬ (gbN ((kn R s && kn R o)) (((kn R s && kn R o) && inn a 0 (R 15 (tn s)) && inn b 0 (R 15 (tn o)))) ((!decide (s = o) && decide (coF R s o (nC R) 0 < 0))) (decide (nC R < 40))) = 0 → v = none ∧ RepM (uR R 0 0 (nI (thN 15 (gbN ((kn R s && kn R o)) (((kn R s && kn R o) && inn a 0 (R 15 (tn s)) && inn b 0 (R 15 (tn o)))) ((!decide (s = o) && decide (coF R s o (nC R) 0 < 0))) (decide (nC R < 40)))))) m mr M')) := by
  refine Ct_v 2 [some (.ref m), some (.int s), some (.int o), some (.int a), some (.int b), none, none] (by decide +kernel) (Nat.le_of_ble_eq_true rfl) rfl ?_
  intro G e1 e2 e3 C hw hI Rt
  subst e1; subst e2; subst e3
  obtain ⟨⟨⟨hbS, hbL, hbC, hbW, hbF⟩, hbi⟩, ⟨hS, hLm, hCo, hWd, hFn⟩, hst, hln, hmk, hz, hlt, hxy, hrg, hpl, hak, hcn⟩ := id hwf
  have jn5 : ∀ x5 : Int32, x5 = b2i (kn R s && kn R o) → mj G 7 0 0 M 21 [some (.ref m), some (.int s), some (.int o), some (.int a), some (.int b), none, none] [.int x5] := by
    intro x5 hx5
    subst hx5
    refine m_istore (L' := [some (.ref m), some (.int s), some (.int o), some (.int a), some (.int b), some (.int (b2i (kn R s && kn R o))), none]) C d_Mo_meet_21 (by decide) rfl ?_
    refine m_iload C d_Mo_meet_23 rfl ?_
    have jn6 : ∀ x6 : Int32, x6 = b2i ((kn R s && kn R o) && inn a 0 (R 15 (tn s)) && inn b 0 (R 15 (tn o))) → mj G 7 0 0 M 62 [some (.ref m), some (.int s), some (.int o), some (.int a), some (.int b), some (.int (b2i (kn R s && kn R o))), none] [.int x6] := by
      intro x6 hx6
      subst hx6
      refine m_istore (L' := [some (.ref m), some (.int s), some (.int o), some (.int a), some (.int b), some (.int (b2i (kn R s && kn R o))), some (.int (b2i ((kn R s && kn R o) && inn a 0 (R 15 (tn s)) && inn b 0 (R 15 (tn o)))))]) C d_Mo_meet_62 (by decide) rfl ?_
      refine m_aload_n C d_Mo_meet_64 rfl rfl ?_
      refine m_bipush (v := 15) C d_Mo_meet_65 (by decide) ?_
      refine m_iload C d_Mo_meet_67 rfl ?_
      refine m_iload C d_Mo_meet_69 rfl ?_
      refine m_iload_n C d_Mo_meet_71 rfl rfl ?_
      refine m_iload_n C d_Mo_meet_72 rfl rfl ?_
      have jn7 : ∀ x7 : Int32, x7 = b2i (!decide (s = o) && decide (coF R s o (nC R) 0 < 0)) → mj G 7 0 0 M 90 [some (.ref m), some (.int s), some (.int o), some (.int a), some (.int b), some (.int (b2i (kn R s && kn R o))), some (.int (b2i ((kn R s && kn R o) && inn a 0 (R 15 (tn s)) && inn b 0 (R 15 (tn o)))))] [.int x7, .int (b2i ((kn R s && kn R o) && inn a 0 (R 15 (tn s)) && inn b 0 (R 15 (tn o)))), .int (b2i (kn R s && kn R o)), .int 15, .ref m] := by
        intro x7 hx7
        subst hx7
        refine m_aload_n C d_Mo_meet_90 rfl rfl ?_
        refine m_get C fg_Mo_139 d_Mo_meet_91 hM.1 rfl ?_
        rw [hCo]
        have jn8 : ∀ x8 : Int32, x8 = b2i (decide (nC R < 40)) → mj G 7 0 0 M 104 [some (.ref m), some (.int s), some (.int o), some (.int a), some (.int b), some (.int (b2i (kn R s && kn R o))), some (.int (b2i ((kn R s && kn R o) && inn a 0 (R 15 (tn s)) && inn b 0 (R 15 (tn o)))))] [.int x8, .int (b2i (!decide (s = o) && decide (coF R s o (nC R) 0 < 0))), .int (b2i ((kn R s && kn R o) && inn a 0 (R 15 (tn s)) && inn b 0 (R 15 (tn o)))), .int (b2i (kn R s && kn R o)), .int 15, .ref m] := by
          intro x8 hx8
          subst hx8
          refine m_callV (ci := 10) C d_Mo_meet_104 mw_Mo_110 mi_Mo_goes se_Mo_goes rfl (ct_Mo_goes _ _ _ R m mr 15 ((kn R s && kn R o)) (((kn R s && kn R o) && inn a 0 (R 15 (tn s)) && inn b 0 (R 15 (tn o)))) ((!decide (s = o) && decide (coF R s o (nC R) 0 < 0))) (decide (nC R < 40)) M hM) (fun q h => hw q h) rfl rfl (Nat.le_of_ble_eq_true rfl) hM.1 (by decide) (fun v9 Mg hp g5 g6 => ?_)
          obtain ⟨rfl, hMg⟩ := hp
          show mj G 7 0 0 Mg 107 [some (.ref m), some (.int s), some (.int o), some (.int a), some (.int b), some (.int (b2i (kn R s && kn R o))), some (.int (b2i ((kn R s && kn R o) && inn a 0 (R 15 (tn s)) && inn b 0 (R 15 (tn o)))))] [.int (b2i (decide ((gbN ((kn R s && kn R o)) (((kn R s && kn R o) && inn a 0 (R 15 (tn s)) && inn b 0 (R 15 (tn o)))) ((!decide (s = o) && decide (coF R s o (nC R) 0 < 0))) (decide (nC R < 40))) = 0)))]
          refine m_if_ne (tgt := 111) C d_Mo_meet_107 (by decide) (fun hgo => ?_) (fun hgo => ?_)
          · rw [b2i_ne0, decide_eq_true_eq] at hgo
            have hMg0 : RepM (uR R 0 0 0) m mr Mg := by rw [hgo] at hMg; exact hMg
            obtain ⟨hp9, hq9, hr9, hs9⟩ := gbN_0 hgo
            obtain ⟨Rg, hRg⟩ : ∃ Rg, Rg = uR R 0 0 0 := ⟨_, rfl⟩
            have hg : ∀ f, f ≠ 0 → Rg f = R f := fun f hf => by rw [hRg, uR_n hf]
            have hMr : RepM Rg m mr Mg := by rw [hRg]; exact hMg0
            rw [decide_eq_true_eq] at hs9
            refine m_aload_n C d_Mo_meet_111 rfl rfl ?_
            refine m_get C fg_Mo_65 d_Mo_meet_112 hMr.1 rfl ?_
            refine m_aload_n C d_Mo_meet_115 rfl rfl ?_
            refine m_get C fg_Mo_139 d_Mo_meet_116 hMr.1 rfl ?_
            have q9_1 : Rg 21 = R 21 := by rw [hg 21 (by decide)]
            rw [q9_1, hCo]
            refine m_iload_n C d_Mo_meet_119 rfl rfl ?_
            refine m_iastE C d_Mo_meet_120 (hw _ (Or.inr ⟨22, by decide, rfl⟩)) (hMr.a22) kt_int (nI_pos (by omega)) (by rw [nI_clamp (by omega), arrL_len]; omega) (fun M1 M1a9 M1o => ?_)
            rw [nI_clamp (by omega), arrL_set] at M1a9
            obtain ⟨R1, hR1⟩ : ∃ R1, R1 = uR Rg 22 (nC R) s := ⟨_, rfl⟩
            have hM1 : RepM R1 m mr M1 := by rw [hR1]; exact hMr.set (k := 22) (by decide) (by decide) M1a9 M1o
            refine m_aload_n C d_Mo_meet_121 rfl rfl ?_
            refine m_get C fg_Mo_68 d_Mo_meet_122 hM1.1 rfl ?_
            refine m_aload_n C d_Mo_meet_125 rfl rfl ?_
            refine m_get C fg_Mo_139 d_Mo_meet_126 hM1.1 rfl ?_
            have q9_2 : R1 21 = R 21 := by rw [hR1, uR_n (by decide), hg 21 (by decide)]
            rw [q9_2, hCo]
            refine m_iload_n C d_Mo_meet_129 rfl rfl ?_
            refine m_iastE C d_Mo_meet_130 (hw _ (Or.inr ⟨23, by decide, rfl⟩)) (hM1.a23) kt_int (nI_pos (by omega)) (by rw [nI_clamp (by omega), arrL_len]; omega) (fun M2 M2a9 M2o => ?_)
            rw [nI_clamp (by omega), arrL_set] at M2a9
            obtain ⟨R2, hR2⟩ : ∃ R2, R2 = uR R1 23 (nC R) o := ⟨_, rfl⟩
            have hM2 : RepM R2 m mr M2 := by rw [hR2]; exact hM1.set (k := 23) (by decide) (by decide) M2a9 M2o
            refine m_aload_n C d_Mo_meet_131 rfl rfl ?_
            refine m_get C fg_Mo_71 d_Mo_meet_132 hM2.1 rfl ?_
            refine m_aload_n C d_Mo_meet_135 rfl rfl ?_
            refine m_get C fg_Mo_139 d_Mo_meet_136 hM2.1 rfl ?_
            have q9_3 : R2 21 = R 21 := by rw [hR2, uR_n (by decide), hR1, uR_n (by decide), hg 21 (by decide)]
            rw [q9_3, hCo]
            refine m_iload_n C d_Mo_meet_139 rfl rfl ?_
            refine m_iastE C d_Mo_meet_140 (hw _ (Or.inr ⟨24, by decide, rfl⟩)) (hM2.a24) kt_int (nI_pos (by omega)) (by rw [nI_clamp (by omega), arrL_len]; omega) (fun M3 M3a9 M3o => ?_)
            rw [nI_clamp (by omega), arrL_set] at M3a9
            obtain ⟨R3, hR3⟩ : ∃ R3, R3 = uR R2 24 (nC R) a := ⟨_, rfl⟩
            have hM3 : RepM R3 m mr M3 := by rw [hR3]; exact hM2.set (k := 24) (by decide) (by decide) M3a9 M3o
            refine m_aload_n C d_Mo_meet_141 rfl rfl ?_
            refine m_get C fg_Mo_74 d_Mo_meet_142 hM3.1 rfl ?_
            refine m_aload_n C d_Mo_meet_145 rfl rfl ?_
            refine m_get C fg_Mo_139 d_Mo_meet_146 hM3.1 rfl ?_
            have q9_4 : R3 21 = R 21 := by rw [hR3, uR_n (by decide), hR2, uR_n (by decide), hR1, uR_n (by decide), hg 21 (by decide)]
            rw [q9_4, hCo]
            refine m_iload C d_Mo_meet_149 rfl ?_
            refine m_iastE C d_Mo_meet_151 (hw _ (Or.inr ⟨25, by decide, rfl⟩)) (hM3.a25) kt_int (nI_pos (by omega)) (by rw [nI_clamp (by omega), arrL_len]; omega) (fun M4 M4a9 M4o => ?_)
            rw [nI_clamp (by omega), arrL_set] at M4a9
            obtain ⟨R4, hR4⟩ : ∃ R4, R4 = uR R3 25 (nC R) b := ⟨_, rfl⟩
            have hM4 : RepM R4 m mr M4 := by rw [hR4]; exact hM3.set (k := 25) (by decide) (by decide) M4a9 M4o
            refine m_aload_n C d_Mo_meet_152 rfl rfl ?_
            refine m_dup C d_Mo_meet_153 rfl ?_
            refine m_get C fg_Mo_139 d_Mo_meet_154 hM4.1 rfl ?_
            have q9_5 : R4 21 = R 21 := by rw [hR4, uR_n (by decide), hR3, uR_n (by decide), hR2, uR_n (by decide), hR1, uR_n (by decide), hg 21 (by decide)]
            rw [q9_5, hCo]
            refine m_iconst (v := 1) C d_Mo_meet_157 (by decide) ?_
            refine m_iadd C d_Mo_meet_158 ?_
            rw [nI_1]
            refine m_putE C fp_Mo_139 d_Mo_meet_159 (hw _ (Or.inl rfl)) hM4.1 rfl rfl (fun M5 M5a9 M5o => ?_)
            obtain ⟨R5, hR5⟩ : ∃ R5, R5 = uR R4 21 0 ((nI (nC R + 1))) := ⟨_, rfl⟩
            have hM5 : RepM R5 m mr M5 := by rw [hR5]; exact hM4.put21 M5a9 M5o
            exact Rt _ _ _ _ _ (by decide) (by decide) d_Mo_meet_162 (⟨fun _ => ⟨rfl, by rw [← hRg, ← hR1, ← hR2, ← hR3, ← hR4, ← hR5]; exact hM5⟩, fun z => absurd hgo z⟩)
          · rw [b2i_eq0, decide_eq_false_iff_not] at hgo
            exact Rt _ _ _ _ _ (by decide) (by decide) d_Mo_meet_110 (⟨fun z => absurd z hgo, fun _ => ⟨rfl, hMg⟩⟩)
        refine m_bipush (v := 40) C d_Mo_meet_94 (by decide) ?_
        have e1 : (40 : Int32) ≤ nI (nC R) ↔ ¬ nC R < 40 := by rw [show (40 : Int32) = nI 40 from rfl, nI_leI (by decide) (by omega)]; omega
        refine m_icmp_ge (tgt := 103) C d_Mo_meet_96 (by decide) (fun h9 => ?_) (fun h9 => ?_)
        · refine m_iconst (v := 0) C d_Mo_meet_103 (by decide) ?_
          exact jn8 _ (by rw [decide_eq_false (e1.mp h9)]; rfl)
        · refine m_iconst (v := 1) C d_Mo_meet_99 (by decide) ?_
          refine m_goto (tgt := 104) C d_Mo_meet_100 (by decide) ?_
          exact jn8 _ (by rw [decide_eq_true (Classical.not_not.mp (fun q => h9 (e1.mpr q)))]; rfl)
      refine m_icmp_eq (tgt := 89) C d_Mo_meet_73 (by decide) (fun h9 => ?_) (fun h9 => ?_)
      · refine m_iconst (v := 0) C d_Mo_meet_89 (by decide) ?_
        exact jn7 _ (by rw [decide_eq_true h9]; rfl)
      · refine m_aload_n C d_Mo_meet_76 rfl rfl ?_
        refine m_iload_n C d_Mo_meet_77 rfl rfl ?_
        refine m_iload_n C d_Mo_meet_78 rfl rfl ?_
        refine m_callV (ci := 10) C d_Mo_meet_79 mw_Mo_142 mi_Mo_cornerOf se_Mo_cornerOf rfl (ct_Mo_cornerOf _ _ _ R m mr s o M hM hCo hbC) (fun _ h => h.elim) rfl rfl (Nat.le_of_ble_eq_true rfl) hM.1 (by decide) (fun v9 M9 hp h5 h6 => ?_)
        obtain ⟨rfl, hM9⟩ := hp; rw [hM9]
        show mj G 7 0 0 M 82 [some (.ref m), some (.int s), some (.int o), some (.int a), some (.int b), some (.int (b2i (kn R s && kn R o))), some (.int (b2i ((kn R s && kn R o) && inn a 0 (R 15 (tn s)) && inn b 0 (R 15 (tn o)))))] [.int (coF R s o (nC R) 0), .int (b2i ((kn R s && kn R o) && inn a 0 (R 15 (tn s)) && inn b 0 (R 15 (tn o)))), .int (b2i (kn R s && kn R o)), .int 15, .ref m]
        refine m_if_ge (tgt := 89) C d_Mo_meet_82 (by decide) (fun h8 => ?_) (fun h8 => ?_)
        · refine m_iconst (v := 0) C d_Mo_meet_89 (by decide) ?_
          exact jn7 _ (by rw [decide_eq_false h9, decide_eq_false (Int32.not_lt.mpr h8)]; rfl)
        · refine m_iconst (v := 1) C d_Mo_meet_85 (by decide) ?_
          refine m_goto (tgt := 90) C d_Mo_meet_86 (by decide) ?_
          exact jn7 _ (by rw [decide_eq_false h9, decide_eq_true (Int32.not_le.mp h8)]; rfl)
    refine m_if_eq (tgt := 61) C d_Mo_meet_25 (by decide) (fun h9 => ?_) (fun h9 => ?_)
    · refine m_iconst (v := 0) C d_Mo_meet_61 (by decide) ?_
      exact jn6 _ (by rw [b2i_eq0] at h9; rw [h9]; rfl)
    · rw [b2i_eq0, Bool.not_eq_false] at h9
      have h9a := h9
      rw [Bool.and_eq_true] at h9a
      obtain ⟨i0, hi, hsi, ht⟩ := kn_i hwf.1 h9a.1
      obtain ⟨i1, hi1, hsi1, ht1⟩ := kn_i hwf.1 h9a.2
      refine m_iload_n C d_Mo_meet_28 rfl rfl ?_
      refine m_iconst (v := 0) C d_Mo_meet_29 (by decide) ?_
      refine m_aload_n C d_Mo_meet_30 rfl rfl ?_
      refine m_get C fg_Mo_50 d_Mo_meet_31 hM.1 rfl ?_
      refine m_iload_n C d_Mo_meet_34 rfl rfl ?_
      rw [hsi]
      refine m_iald (v := .int ((R 15) i0)) C d_Mo_meet_35 (hM.a15) kt_int (nI_pos (by omega)) (by rw [nI_clamp (by omega)]; exact arrL_get (by omega)) ?_
      refine m_callS C d_Mo_meet_36 mw_Mo_102 mst_Mo_in (ct_Mo_in _ _ _ a 0 (R 15 i0) M) (fun _ h => h.elim) rfl rfl (Nat.le_of_ble_eq_true rfl) (by decide) (fun v9 M9 hp h5 h6 => ?_)
      obtain ⟨rfl, hM9⟩ := hp; rw [hM9]
      show mj G 7 0 0 M 39 [some (.ref m), some (.int (nI i0)), some (.int o), some (.int a), some (.int b), some (.int (b2i (kn R (nI i0) && kn R o))), none] [.int (b2i (inn a 0 (R 15 i0)))]
      refine m_if_eq (tgt := 61) C d_Mo_meet_39 (by decide) (fun h8 => ?_) (fun h8 => ?_)
      · refine m_iconst (v := 0) C d_Mo_meet_61 (by decide) ?_
        rw [← hsi]
        exact jn6 _ (by rw [b2i_eq0] at h8; rw [h9, ht, h8]; rfl)
      · rw [b2i_eq0, Bool.not_eq_false] at h8
        refine m_iload C d_Mo_meet_42 rfl ?_
        refine m_iconst (v := 0) C d_Mo_meet_44 (by decide) ?_
        refine m_aload_n C d_Mo_meet_45 rfl rfl ?_
        refine m_get C fg_Mo_50 d_Mo_meet_46 hM.1 rfl ?_
        refine m_iload_n C d_Mo_meet_49 rfl rfl ?_
        rw [hsi1]
        refine m_iald (v := .int ((R 15) i1)) C d_Mo_meet_50 (hM.a15) kt_int (nI_pos (by omega)) (by rw [nI_clamp (by omega)]; exact arrL_get (by omega)) ?_
        refine m_callS C d_Mo_meet_51 mw_Mo_102 mst_Mo_in (ct_Mo_in _ _ _ b 0 (R 15 i1) M) (fun _ h => h.elim) rfl rfl (Nat.le_of_ble_eq_true rfl) (by decide) (fun v9 M9 hp h5 h6 => ?_)
        obtain ⟨rfl, hM9⟩ := hp; rw [hM9]
        show mj G 7 0 0 M 54 [some (.ref m), some (.int (nI i0)), some (.int (nI i1)), some (.int a), some (.int b), some (.int (b2i (kn R (nI i0) && kn R (nI i1)))), none] [.int (b2i (inn b 0 (R 15 i1)))]
        refine m_if_eq (tgt := 61) C d_Mo_meet_54 (by decide) (fun h7 => ?_) (fun h7 => ?_)
        · refine m_iconst (v := 0) C d_Mo_meet_61 (by decide) ?_
          rw [← hsi, ← hsi1]
          exact jn6 _ (by rw [b2i_eq0] at h7; rw [h9, ht, ht1, h8, h7]; rfl)
        · refine m_iconst (v := 1) C d_Mo_meet_57 (by decide) ?_
          refine m_goto (tgt := 62) C d_Mo_meet_58 (by decide) ?_
          rw [← hsi, ← hsi1]
          exact jn6 _ (by rw [b2i_eq0, Bool.not_eq_false] at h7; rw [h9, ht, ht1, h8, h7]; rfl)
  refine m_aload_n C d_Mo_meet_0 rfl rfl ?_
  refine m_iload_n C d_Mo_meet_1 rfl rfl ?_
  refine m_callV (ci := 10) C d_Mo_meet_2 mw_Mo_117 mi_Mo_isStreet se_Mo_isStreet rfl (ct_Mo_isStreet _ _ _ R m mr s M hM hS hbS) (fun _ h => h.elim) rfl rfl (Nat.le_of_ble_eq_true rfl) hM.1 (by decide) (fun v9 M9 hp h5 h6 => ?_)
  obtain ⟨rfl, hM9⟩ := hp; rw [hM9]
  show mj G 7 0 0 M 5 [some (.ref m), some (.int s), some (.int o), some (.int a), some (.int b), none, none] [.int (b2i (kn R s))]
  refine m_if_eq (tgt := 20) C d_Mo_meet_5 (by decide) (fun h9 => ?_) (fun h9 => ?_)
  · refine m_iconst (v := 0) C d_Mo_meet_20 (by decide) ?_
    rw [b2i_eq0] at h9
    exact jn5 _ (by rw [h9]; rfl)
  · rw [b2i_eq0, Bool.not_eq_false] at h9
    refine m_aload_n C d_Mo_meet_8 rfl rfl ?_
    refine m_iload_n C d_Mo_meet_9 rfl rfl ?_
    refine m_callV (ci := 10) C d_Mo_meet_10 mw_Mo_117 mi_Mo_isStreet se_Mo_isStreet rfl (ct_Mo_isStreet _ _ _ R m mr o M hM hS hbS) (fun _ h => h.elim) rfl rfl (Nat.le_of_ble_eq_true rfl) hM.1 (by decide) (fun v9 M9 hp h5 h6 => ?_)
    obtain ⟨rfl, hM9⟩ := hp; rw [hM9]
    show mj G 7 0 0 M 13 [some (.ref m), some (.int s), some (.int o), some (.int a), some (.int b), none, none] [.int (b2i (kn R o))]
    refine m_if_eq (tgt := 20) C d_Mo_meet_13 (by decide) (fun h8 => ?_) (fun h8 => ?_)
    · refine m_iconst (v := 0) C d_Mo_meet_20 (by decide) ?_
      rw [b2i_eq0] at h8
      exact jn5 _ (by rw [h9, h8]; rfl)
    · refine m_iconst (v := 1) C d_Mo_meet_16 (by decide) ?_
      refine m_goto (tgt := 21) C d_Mo_meet_17 (by decide) ?_
      rw [b2i_eq0, Bool.not_eq_false] at h8
      exact jn5 _ (by rw [h9, h8]; rfl)

set_option maxHeartbeats 4000000 in
set_option maxRecDepth 100000 in
theorem ct_Mo_alias (l : Launch) (D : ma_D) (s0 : State) (R : mR) (m : Nat) (mr : Nat → Nat) (s : Int32) (M : ma_H) (hM : RepM R m mr M) (hwf : WfS R) : Ct l D s0 y_Mo_alias c_Mo_alias 3 (some .int) 2 0 0 43 [.ref m, .int s] M (fun q => q = m ∨ ∃ k, mln k ≠ 0 ∧ q = mr k) (fun v M' => ((gbN (kn R s) (true) ((kn R s && decide (0 < R 5 (3 * tn s + (tn (R 4 (tn s)) - 1))))) ((kn R s && decide (tn (R 4 (tn s)) < 3)))) = 0 → v = some (.int (nI (tn (R 4 (tn s)) + 1))) ∧ RepM (uR (uR (uR (uR R 0 0 0) 5 (3 * tn s + tn (R 4 (tn s))) 0) 4 (tn s) (nI (tn (R 4 (tn s)) + 1))) 28 0 0) m mr M') ∧ (¬ (gbN (kn R s) (true) ((kn R s && decide (0 < R 5 (3 * tn s + (tn (R 4 (tn s)) - 1))))) ((kn R s && decide (tn (R 4 (tn s)) < 3)))) = 0 → v = some (.int 0) ∧ RepM (uR R 0 0 (nI (thN 13 (gbN (kn R s) (true) ((kn R s && decide (0 < R 5 (3 * tn s + (tn (R 4 (tn s)) - 1))))) ((kn R s && decide (tn (R 4 (tn s)) < 3))))))) m mr M')) := by
  refine Ct_i 1 [some (.ref m), some (.int s), none] (by decide +kernel) (Nat.le_of_ble_eq_true rfl) rfl ?_
  intro G e1 e2 e3 C hw Rt
  subst e1; subst e2; subst e3
  obtain ⟨⟨⟨hbS, hbL, hbC, hbW, hbF⟩, hbi⟩, ⟨hS, hLm, hCo, hWd, hFn⟩, hst, hln, hmk, hz, hlt, hxy, hrg, hpl, hak, hcn⟩ := id hwf
  refine m_aload_n C d_Mo_alias_0 rfl rfl ?_
  refine m_iload_n C d_Mo_alias_1 rfl rfl ?_
  refine m_callV (ci := 10) C d_Mo_alias_2 mw_Mo_117 mi_Mo_isStreet se_Mo_isStreet rfl (ct_Mo_isStreet _ _ _ R m mr s M hM hS hbS) (fun _ h => h.elim) rfl rfl (Nat.le_of_ble_eq_true rfl) hM.1 (by decide) (fun v9 M9 hp h5 h6 => ?_)
  obtain ⟨rfl, hM9⟩ := hp; rw [hM9]
  show mj G 3 0 0 M 5 [some (.ref m), some (.int s), none] [.int (b2i (kn R s))]
  refine m_istore_n (L' := [some (.ref m), some (.int s), some (.int (b2i (kn R s)))]) C d_Mo_alias_5 rfl (by decide) rfl ?_
  refine m_aload_n C d_Mo_alias_6 rfl rfl ?_
  refine m_bipush (v := 13) C d_Mo_alias_7 (by decide) ?_
  refine m_iload_n C d_Mo_alias_9 rfl rfl ?_
  refine m_iconst (v := 1) C d_Mo_alias_10 (by decide) ?_
  refine m_iload_n C d_Mo_alias_11 rfl rfl ?_
  have jn1 : ∀ x1 : Int32, x1 = b2i (kn R s && decide (0 < R 5 (3 * tn s + (tn (R 4 (tn s)) - 1)))) → mj G 3 0 0 M 40 [some (.ref m), some (.int s), some (.int (b2i (kn R s)))] [.int x1, .int 1, .int (b2i (kn R s)), .int 13, .ref m] := by
    intro x1 hx1
    subst hx1
    refine m_iload_n C d_Mo_alias_40 rfl rfl ?_
    have jn2 : ∀ x2 : Int32, x2 = b2i (kn R s && decide (tn (R 4 (tn s)) < 3)) → mj G 3 0 0 M 59 [some (.ref m), some (.int s), some (.int (b2i (kn R s)))] [.int x2, .int (b2i (kn R s && decide (0 < R 5 (3 * tn s + (tn (R 4 (tn s)) - 1))))), .int 1, .int (b2i (kn R s)), .int 13, .ref m] := by
      intro x2 hx2
      subst hx2
      refine m_callV (ci := 10) C d_Mo_alias_59 mw_Mo_110 mi_Mo_goes se_Mo_goes rfl (ct_Mo_goes _ _ _ R m mr 13 (kn R s) (true) ((kn R s && decide (0 < R 5 (3 * tn s + (tn (R 4 (tn s)) - 1))))) ((kn R s && decide (tn (R 4 (tn s)) < 3))) M hM) (fun q h => hw q h) rfl rfl (Nat.le_of_ble_eq_true rfl) hM.1 (by decide) (fun v9 Mg hp g5 g6 => ?_)
      obtain ⟨rfl, hMg⟩ := hp
      show mj G 3 0 0 Mg 62 [some (.ref m), some (.int s), some (.int (b2i (kn R s)))] [.int (b2i (decide ((gbN (kn R s) (true) ((kn R s && decide (0 < R 5 (3 * tn s + (tn (R 4 (tn s)) - 1))))) ((kn R s && decide (tn (R 4 (tn s)) < 3)))) = 0)))]
      refine m_if_ne (tgt := 67) C d_Mo_alias_62 (by decide) (fun hgo => ?_) (fun hgo => ?_)
      · rw [b2i_ne0, decide_eq_true_eq] at hgo
        have hMg0 : RepM (uR R 0 0 0) m mr Mg := by rw [hgo] at hMg; exact hMg
        obtain ⟨hp9, hq9, hr9, hs9⟩ := gbN_0 hgo
        obtain ⟨Rg, hRg⟩ : ∃ Rg, Rg = uR R 0 0 0 := ⟨_, rfl⟩
        have hg : ∀ f, f ≠ 0 → Rg f = R f := fun f hf => by rw [hRg, uR_n hf]
        have hMr : RepM Rg m mr Mg := by rw [hRg]; exact hMg0
        obtain ⟨i0, hi, rfl, ht⟩ := kn_i hwf.1 hp9
        rw [ht] at hr9 hs9
        rw [hp9, Bool.true_and, decide_eq_true_eq] at hr9 hs9
        have hn4 := (hbi i0 hi).1; have h4 := (hst i0 hi).1
        refine m_aload_n C d_Mo_alias_67 rfl rfl ?_
        refine m_get C fg_Mo_20 d_Mo_alias_68 hMr.1 rfl ?_
        refine m_iload_n C d_Mo_alias_71 rfl rfl ?_
        refine m_iconst (v := 3) C d_Mo_alias_72 (by decide) ?_
        refine m_imul C d_Mo_alias_73 ?_
        rw [show nI i0 * 3 = nI (3 * i0) by rw [show (3 : Int32) = nI 3 from rfl, nI_mul, Nat.mul_comm]]
        refine m_aload_n C d_Mo_alias_74 rfl rfl ?_
        refine m_get C fg_Mo_17 d_Mo_alias_75 hMr.1 rfl ?_
        refine m_iload_n C d_Mo_alias_78 rfl rfl ?_
        refine m_iald (v := .int ((Rg 4) i0)) C d_Mo_alias_79 (hMr.a4) kt_int (nI_pos (by omega)) (by rw [nI_clamp (by omega)]; exact arrL_get (by omega)) ?_
        have q9_6 : Rg 4 = R 4 := by rw [hg 4 (by decide)]
        rw [q9_6, h4]
        refine m_iadd C d_Mo_alias_80 ?_
        rw [nI_add]
        refine m_iconst (v := 0) C d_Mo_alias_81 (by decide) ?_
        refine m_iastE C d_Mo_alias_82 (hw _ (Or.inr ⟨5, by decide, rfl⟩)) (hMr.a5) kt_int (nI_pos (by omega)) (by rw [nI_clamp (by omega), arrL_len]; omega) (fun M1 M1a9 M1o => ?_)
        rw [nI_clamp (by omega), arrL_set] at M1a9
        obtain ⟨R1, hR1⟩ : ∃ R1, R1 = uR Rg 5 (3 * i0 + tn (R 4 i0)) 0 := ⟨_, rfl⟩
        have hM1 : RepM R1 m mr M1 := by rw [hR1]; exact hMr.set (k := 5) (by decide) (by decide) M1a9 M1o
        refine m_aload_n C d_Mo_alias_83 rfl rfl ?_
        refine m_get C fg_Mo_17 d_Mo_alias_84 hM1.1 rfl ?_
        refine m_iload_n C d_Mo_alias_87 rfl rfl ?_
        refine m_dup2 C d_Mo_alias_88 rfl rfl ?_
        refine m_iald (v := .int ((R1 4) i0)) C d_Mo_alias_89 (hM1.a4) kt_int (nI_pos (by omega)) (by rw [nI_clamp (by omega)]; exact arrL_get (by omega)) ?_
        have q9_7 : R1 4 = R 4 := by rw [hR1, uR_n (by decide), hg 4 (by decide)]
        rw [q9_7, h4]
        refine m_iconst (v := 1) C d_Mo_alias_90 (by decide) ?_
        refine m_iadd C d_Mo_alias_91 ?_
        rw [nI_1]
        refine m_iastE C d_Mo_alias_92 (hw _ (Or.inr ⟨4, by decide, rfl⟩)) (hM1.a4) kt_int (nI_pos (by omega)) (by rw [nI_clamp (by omega), arrL_len]; omega) (fun M2 M2a9 M2o => ?_)
        rw [nI_clamp (by omega), arrL_set] at M2a9
        obtain ⟨R2, hR2⟩ : ∃ R2, R2 = uR R1 4 i0 ((nI (tn (R 4 i0) + 1))) := ⟨_, rfl⟩
        have hM2 : RepM R2 m mr M2 := by rw [hR2]; exact hM1.set (k := 4) (by decide) (by decide) M2a9 M2o
        refine m_aload_n C d_Mo_alias_93 rfl rfl ?_
        refine m_iconst (v := 0) C d_Mo_alias_94 (by decide) ?_
        refine m_putE C fp_Mo_114 d_Mo_alias_95 (hw _ (Or.inl rfl)) hM2.1 rfl rfl (fun M3 M3a9 M3o => ?_)
        obtain ⟨R3, hR3⟩ : ∃ R3, R3 = uR R2 28 0 0 := ⟨_, rfl⟩
        have hM3 : RepM R3 m mr M3 := by rw [hR3]; exact hM2.put28 M3a9 M3o
        refine m_aload_n C d_Mo_alias_98 rfl rfl ?_
        refine m_get C fg_Mo_17 d_Mo_alias_99 hM3.1 rfl ?_
        refine m_iload_n C d_Mo_alias_102 rfl rfl ?_
        refine m_iald (v := .int ((R3 4) i0)) C d_Mo_alias_103 (hM3.a4) kt_int (nI_pos (by omega)) (by rw [nI_clamp (by omega)]; exact arrL_get (by omega)) ?_
        rw [show R3 4 i0 = nI (tn (R 4 i0) + 1) by rw [hR3, uR_n (by decide), hR2, uR_s, fu_s]]
        exact Rt _ _ _ _ _ _ (by decide) (by decide) d_Mo_alias_104 (⟨fun _ => ⟨by rw [ht], by rw [ht, ← hRg, ← hR1, ← hR2, ← hR3]; exact hM3⟩, fun z => absurd hgo z⟩)
      · rw [b2i_eq0, decide_eq_false_iff_not] at hgo
        refine m_iconst (v := 0) C d_Mo_alias_65 (by decide) ?_
        exact Rt _ _ _ _ _ _ (by decide) (by decide) d_Mo_alias_66 (⟨fun z => absurd z hgo, fun _ => ⟨rfl, hMg⟩⟩)
    refine m_if_eq (tgt := 58) C d_Mo_alias_41 (by decide) (fun h9 => ?_) (fun h9 => ?_)
    · refine m_iconst (v := 0) C d_Mo_alias_58 (by decide) ?_
      exact jn2 _ (by rw [b2i_eq0] at h9; rw [h9]; rfl)
    · rw [b2i_eq0, Bool.not_eq_false] at h9
      obtain ⟨i0, hi, hsi, ht⟩ := kn_i hwf.1 h9
      have hn4 := (hbi i0 hi).1; have h4 := (hst i0 hi).1
      refine m_aload_n C d_Mo_alias_44 rfl rfl ?_
      refine m_get C fg_Mo_17 d_Mo_alias_45 hM.1 rfl ?_
      refine m_iload_n C d_Mo_alias_48 rfl rfl ?_
      rw [hsi]
      refine m_iald (v := .int ((R 4) i0)) C d_Mo_alias_49 (hM.a4) kt_int (nI_pos (by omega)) (by rw [nI_clamp (by omega)]; exact arrL_get (by omega)) ?_
      rw [h4]
      refine m_iconst (v := 3) C d_Mo_alias_50 (by decide) ?_
      have e1 : (3 : Int32) ≤ nI (tn (R 4 i0)) ↔ ¬ tn (R 4 i0) < 3 := by rw [show (3 : Int32) = nI 3 from rfl, nI_leI (by decide) (by omega)]; omega
      rw [hsi] at jn2 h9 ht
      refine m_icmp_ge (tgt := 58) C d_Mo_alias_51 (by decide) (fun h8 => ?_) (fun h8 => ?_)
      · refine m_iconst (v := 0) C d_Mo_alias_58 (by decide) ?_
        exact jn2 _ (by rw [ht, h9, decide_eq_false (e1.mp h8)]; rfl)
      · refine m_iconst (v := 1) C d_Mo_alias_54 (by decide) ?_
        refine m_goto (tgt := 59) C d_Mo_alias_55 (by decide) ?_
        exact jn2 _ (by rw [ht, h9, decide_eq_true (Classical.not_not.mp (fun q => h8 (e1.mpr q)))]; rfl)
  refine m_if_eq (tgt := 39) C d_Mo_alias_12 (by decide) (fun h9 => ?_) (fun h9 => ?_)
  · refine m_iconst (v := 0) C d_Mo_alias_39 (by decide) ?_
    exact jn1 _ (by rw [b2i_eq0] at h9; rw [h9]; rfl)
  · rw [b2i_eq0, Bool.not_eq_false] at h9
    obtain ⟨i0, hi, hsi, ht⟩ := kn_i hwf.1 h9
    have hn4 := (hbi i0 hi).1; have h4 := (hst i0 hi).1
    refine m_aload_n C d_Mo_alias_15 rfl rfl ?_
    refine m_get C fg_Mo_20 d_Mo_alias_16 hM.1 rfl ?_
    refine m_iload_n C d_Mo_alias_19 rfl rfl ?_
    refine m_iconst (v := 3) C d_Mo_alias_20 (by decide) ?_
    rw [hsi]
    refine m_imul C d_Mo_alias_21 ?_
    rw [show nI i0 * 3 = nI (3 * i0) by rw [show (3 : Int32) = nI 3 from rfl, nI_mul, Nat.mul_comm]]
    refine m_aload_n C d_Mo_alias_22 rfl rfl ?_
    refine m_get C fg_Mo_17 d_Mo_alias_23 hM.1 rfl ?_
    refine m_iload_n C d_Mo_alias_26 rfl rfl ?_
    refine m_iald (v := .int ((R 4) i0)) C d_Mo_alias_27 (hM.a4) kt_int (nI_pos (by omega)) (by rw [nI_clamp (by omega)]; exact arrL_get (by omega)) ?_
    rw [h4]
    refine m_iadd C d_Mo_alias_28 ?_
    refine m_iconst (v := 1) C d_Mo_alias_29 (by decide) ?_
    refine m_isub C d_Mo_alias_30 ?_
    rw [nI_add, nI_sub1 (by omega)]
    refine m_iald (v := .int ((R 5) (3 * i0 + tn (R 4 i0) - 1))) C d_Mo_alias_31 (hM.a5) kt_int (nI_pos (by omega)) (by rw [nI_clamp (by omega)]; exact arrL_get (by omega)) ?_
    rw [hsi] at jn1 h9 ht
    have ek : 3 * i0 + tn (R 4 i0) - 1 = 3 * i0 + (tn (R 4 i0) - 1) := by omega
    refine m_if_le (tgt := 39) C d_Mo_alias_32 (by decide) (fun h8 => ?_) (fun h8 => ?_)
    · refine m_iconst (v := 0) C d_Mo_alias_39 (by decide) ?_
      exact jn1 _ (by rw [ht, h9, decide_eq_false (by rw [← ek]; exact Int32.not_lt.mpr h8)]; rfl)
    · refine m_iconst (v := 1) C d_Mo_alias_35 (by decide) ?_
      refine m_goto (tgt := 40) C d_Mo_alias_36 (by decide) ?_
      exact jn1 _ (by rw [ht, h9, decide_eq_true (by rw [← ek]; exact Int32.not_le.mp h8)]; rfl)
