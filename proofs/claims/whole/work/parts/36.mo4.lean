/-! ===== the model's range, sign, word, landmark ===== -/
def iOf (w n : Int32) : Bool := decide (w = 2) || decide (n - n / 2 * 2 = w)

set_option maxHeartbeats 4000000 in
set_option maxRecDepth 100000 in
theorem ct_Mo_isOf (l : Launch) (D : ma_D) (s0 : State) (x n : Int32) (M : ma_H) : Ct l D s0 y_Mo_isOf c_Mo_isOf 2 (some .boolean) 0 0 0 0 [.int x, .int n] M (fun _ => False) (pI (b2i (iOf x n)) M) := by
  refine Ct_z 0 [some (.int x), some (.int n)] (by decide +kernel) (Nat.le_of_ble_eq_true rfl) rfl ?_
  intro G e1 e2 e3 C hw Rt
  subst e1; subst e2; subst e3
  refine m_iload_n C d_Mo_isOf_0 rfl rfl ?_
  refine m_iconst (v := 2) C d_Mo_isOf_1 (by decide) ?_
  refine m_icmp_eq (tgt := 12) C d_Mo_isOf_2 (by decide) (fun h1 => ?_) (fun h1 => ?_)
  · refine m_iconst (v := 1) C d_Mo_isOf_12 (by decide) ?_
    refine m_goto (tgt := 17) C d_Mo_isOf_13 (by decide) ?_
    exact Rt _ _ _ _ _ _ (by decide) (by decide) (by decide) d_Mo_isOf_17 (⟨by simp [iOf, h1, b2i], rfl⟩)
  · refine m_iload_n C d_Mo_isOf_5 rfl rfl ?_
    refine m_iconst (v := 2) C d_Mo_isOf_6 (by decide) ?_
    refine m_irem C d_Mo_isOf_7 (by decide) ?_
    refine m_iload_n C d_Mo_isOf_8 rfl rfl ?_
    refine m_icmp_ne (tgt := 16) C d_Mo_isOf_9 (by decide) (fun h2 => ?_) (fun h2 => ?_)
    · refine m_iconst (v := 0) C d_Mo_isOf_16 (by decide) ?_
      exact Rt _ _ _ _ _ _ (by decide) (by decide) (by decide) d_Mo_isOf_17 (⟨by simp [iOf, h1, h2, b2i], rfl⟩)
    · refine m_iconst (v := 1) C d_Mo_isOf_12 (by decide) ?_
      refine m_goto (tgt := 17) C d_Mo_isOf_13 (by decide) ?_
      exact Rt _ _ _ _ _ _ (by decide) (by decide) (by decide) d_Mo_isOf_17 (⟨by simp [iOf, h1, h2, b2i], rfl⟩)

set_option maxHeartbeats 4000000 in
set_option maxRecDepth 100000 in
theorem ct_Mo_isSign (l : Launch) (D : ma_D) (s0 : State) (c : Int32) (M : ma_H) : Ct l D s0 y_Mo_isSign c_Mo_isSign 1 (some .boolean) 1 0 0 22 [.int c] M (fun _ => False) (pI (b2i (is_s c)) M) := by
  refine Ct_z 0 [some (.int c)] (by decide +kernel) (Nat.le_of_ble_eq_true rfl) rfl ?_
  intro G e1 e2 e3 C hw Rt
  subst e1; subst e2; subst e3
  refine m_iload_n C d_Mo_isSign_0 rfl rfl ?_
  refine m_bipush (v := 97) C d_Mo_isSign_1 (by decide) ?_
  refine m_bipush (v := 122) C d_Mo_isSign_3 (by decide) ?_
  refine m_callS C d_Mo_isSign_5 mw_Mo_102 mst_Mo_in (ct_Mo_in _ _ _ c 97 122 M) (fun _ h => h.elim) rfl rfl (Nat.le_of_ble_eq_true rfl) (by decide) (fun v9 M9 hp h5 h6 => ?_)
  obtain ⟨rfl, hM9⟩ := hp; rw [hM9]
  show mj G 1 0 0 M 8 [some (.int c)] [.int (b2i (inn c 97 122))]
  rw [is_l_inn]
  refine m_if_ne (tgt := 28) C d_Mo_isSign_8 (by decide) (fun h1 => ?_) (fun h1 => ?_)
  · refine m_iconst (v := 1) C d_Mo_isSign_28 (by decide) ?_
    refine m_goto (tgt := 33) C d_Mo_isSign_29 (by decide) ?_
    exact Rt _ _ _ _ _ _ (by decide) (by decide) (by decide) d_Mo_isSign_33 (⟨by rw [b2i_ne0] at h1; simp [is_s, h1, b2i], rfl⟩)
  · rw [b2i_eq0] at h1
    refine m_iload_n C d_Mo_isSign_11 rfl rfl ?_
    refine m_bipush (v := 48) C d_Mo_isSign_12 (by decide) ?_
    refine m_bipush (v := 57) C d_Mo_isSign_14 (by decide) ?_
    refine m_callS C d_Mo_isSign_16 mw_Mo_102 mst_Mo_in (ct_Mo_in _ _ _ c 48 57 M) (fun _ h => h.elim) rfl rfl (Nat.le_of_ble_eq_true rfl) (by decide) (fun v9 M9 hp h5 h6 => ?_)
    obtain ⟨rfl, hM9⟩ := hp; rw [hM9]
    show mj G 1 0 0 M 19 [some (.int c)] [.int (b2i (inn c 48 57))]
    rw [is_d_inn]
    refine m_if_ne (tgt := 28) C d_Mo_isSign_19 (by decide) (fun h2 => ?_) (fun h2 => ?_)
    · refine m_iconst (v := 1) C d_Mo_isSign_28 (by decide) ?_
      refine m_goto (tgt := 33) C d_Mo_isSign_29 (by decide) ?_
      exact Rt _ _ _ _ _ _ (by decide) (by decide) (by decide) d_Mo_isSign_33 (⟨by rw [b2i_ne0] at h2; simp [is_s, h2, b2i], rfl⟩)
    · rw [b2i_eq0] at h2
      refine m_iload_n C d_Mo_isSign_22 rfl rfl ?_
      refine m_bipush (v := 32) C d_Mo_isSign_23 (by decide) ?_
      refine m_icmp_ne (tgt := 32) C d_Mo_isSign_25 (by decide) (fun h3 => ?_) (fun h3 => ?_)
      · refine m_iconst (v := 0) C d_Mo_isSign_32 (by decide) ?_
        exact Rt _ _ _ _ _ _ (by decide) (by decide) (by decide) d_Mo_isSign_33 (⟨by simp [is_s, h1, h2, h3, b2i], rfl⟩)
      · refine m_iconst (v := 1) C d_Mo_isSign_28 (by decide) ?_
        refine m_goto (tgt := 33) C d_Mo_isSign_29 (by decide) ?_
        exact Rt _ _ _ _ _ _ (by decide) (by decide) (by decide) d_Mo_isSign_33 (⟨by simp [is_s, h1, h2, h3, b2i], rfl⟩)

set_option maxHeartbeats 4000000 in
set_option maxRecDepth 100000 in
theorem ct_Mo_range (l : Launch) (D : ma_D) (s0 : State) (R : mR) (m : Nat) (mr : Nat → Nat) (s sd lo hi : Int32) (M : ma_H) (hM : RepM R m mr M) (hwf : WfS R) : Ct l D s0 y_Mo_range c_Mo_range 8 (some .int) 2 0 0 43 [.ref m, .int s, .int sd, .int lo, .int hi] M (fun q => q = m ∨ ∃ k, mln k ≠ 0 ∧ q = mr k) (fun v M' => ((gbN (kn R s) ((inn sd 0 2 && inn lo 1 9999 && inn hi lo 9999 && (iOf sd lo || decide (lo < hi)))) (true) ((kn R s && decide (tn (R 7 (tn s)) < 6)))) = 0 → v = some (.int (nI (tn (R 7 (tn s)) + 1))) ∧ RepM (uR (uR (uR (uR (uR (uR R 0 0 0) 8 (6 * tn s + tn (R 7 (tn s))) sd) 9 (6 * tn s + tn (R 7 (tn s))) lo) 10 (6 * tn s + tn (R 7 (tn s))) hi) 7 (tn s) (nI (tn (R 7 (tn s)) + 1))) 28 0 0) m mr M') ∧ (¬ (gbN (kn R s) ((inn sd 0 2 && inn lo 1 9999 && inn hi lo 9999 && (iOf sd lo || decide (lo < hi)))) (true) ((kn R s && decide (tn (R 7 (tn s)) < 6)))) = 0 → v = some (.int 0) ∧ RepM (uR R 0 0 (nI (thN 11 (gbN (kn R s) ((inn sd 0 2 && inn lo 1 9999 && inn hi lo 9999 && (iOf sd lo || decide (lo < hi)))) (true) ((kn R s && decide (tn (R 7 (tn s)) < 6))))))) m mr M')) := by
  refine Ct_i 3 [some (.ref m), some (.int s), some (.int sd), some (.int lo), some (.int hi), none, none, none] (by decide +kernel) (Nat.le_of_ble_eq_true rfl) rfl ?_
  intro G e1 e2 e3 C hw Rt
  subst e1; subst e2; subst e3
  obtain ⟨⟨⟨hbS, hbL, hbC, hbW, hbF⟩, hbi⟩, ⟨hS, hLm, hCo, hWd, hFn⟩, hst, hln, hmk, hz, hlt, hxy, hrg, hpl, hak, hcn⟩ := id hwf
  have jn5 : ∀ x5 : Int32, x5 = b2i (inn sd 0 2 && inn lo 1 9999 && inn hi lo 9999 && (iOf sd lo || decide (lo < hi))) → mj G 8 0 0 M 51 [some (.ref m), some (.int s), some (.int sd), some (.int lo), some (.int hi), none, none, none] [.int x5] := by
    intro x5 hx5
    subst hx5
    refine m_istore (L' := [some (.ref m), some (.int s), some (.int sd), some (.int lo), some (.int hi), some (.int (b2i (inn sd 0 2 && inn lo 1 9999 && inn hi lo 9999 && (iOf sd lo || decide (lo < hi))))), none, none]) C d_Mo_range_51 (by decide) rfl ?_
    refine m_aload_n C d_Mo_range_53 rfl rfl ?_
    refine m_iload_n C d_Mo_range_54 rfl rfl ?_
    refine m_callV (ci := 10) C d_Mo_range_55 mw_Mo_117 mi_Mo_isStreet se_Mo_isStreet rfl (ct_Mo_isStreet _ _ _ R m mr s M hM hS hbS) (fun _ h => h.elim) rfl rfl (Nat.le_of_ble_eq_true rfl) hM.1 (by decide) (fun v9 M9 hp h5 h6 => ?_)
    obtain ⟨rfl, hM9⟩ := hp; rw [hM9]
    show mj G 8 0 0 M 58 [some (.ref m), some (.int s), some (.int sd), some (.int lo), some (.int hi), some (.int (b2i (inn sd 0 2 && inn lo 1 9999 && inn hi lo 9999 && (iOf sd lo || decide (lo < hi))))), none, none] [.int (b2i (kn R s))]
    refine m_istore (L' := [some (.ref m), some (.int s), some (.int sd), some (.int lo), some (.int hi), some (.int (b2i (inn sd 0 2 && inn lo 1 9999 && inn hi lo 9999 && (iOf sd lo || decide (lo < hi))))), some (.int (b2i (kn R s))), none]) C d_Mo_range_58 (by decide) rfl ?_
    refine m_aload_n C d_Mo_range_60 rfl rfl ?_
    refine m_bipush (v := 11) C d_Mo_range_61 (by decide) ?_
    refine m_iload C d_Mo_range_63 rfl ?_
    refine m_iload C d_Mo_range_65 rfl ?_
    refine m_iconst (v := 1) C d_Mo_range_67 (by decide) ?_
    refine m_iload C d_Mo_range_68 rfl ?_
    have jn2 : ∀ x2 : Int32, x2 = b2i (kn R s && decide (tn (R 7 (tn s)) < 6)) → mj G 8 0 0 M 89 [some (.ref m), some (.int s), some (.int sd), some (.int lo), some (.int hi), some (.int (b2i (inn sd 0 2 && inn lo 1 9999 && inn hi lo 9999 && (iOf sd lo || decide (lo < hi))))), some (.int (b2i (kn R s))), none] [.int x2, .int 1, .int (b2i (inn sd 0 2 && inn lo 1 9999 && inn hi lo 9999 && (iOf sd lo || decide (lo < hi)))), .int (b2i (kn R s)), .int 11, .ref m] := by
      intro x2 hx2
      subst hx2
      refine m_callV (ci := 10) C d_Mo_range_89 mw_Mo_110 mi_Mo_goes se_Mo_goes rfl (ct_Mo_goes _ _ _ R m mr 11 (kn R s) ((inn sd 0 2 && inn lo 1 9999 && inn hi lo 9999 && (iOf sd lo || decide (lo < hi)))) (true) ((kn R s && decide (tn (R 7 (tn s)) < 6))) M hM) (fun q h => hw q h) rfl rfl (Nat.le_of_ble_eq_true rfl) hM.1 (by decide) (fun v9 Mg hp g5 g6 => ?_)
      obtain ⟨rfl, hMg⟩ := hp
      show mj G 8 0 0 Mg 92 [some (.ref m), some (.int s), some (.int sd), some (.int lo), some (.int hi), some (.int (b2i (inn sd 0 2 && inn lo 1 9999 && inn hi lo 9999 && (iOf sd lo || decide (lo < hi))))), some (.int (b2i (kn R s))), none] [.int (b2i (decide ((gbN (kn R s) ((inn sd 0 2 && inn lo 1 9999 && inn hi lo 9999 && (iOf sd lo || decide (lo < hi)))) (true) ((kn R s && decide (tn (R 7 (tn s)) < 6)))) = 0)))]
      refine m_if_ne (tgt := 97) C d_Mo_range_92 (by decide) (fun hgo => ?_) (fun hgo => ?_)
      · rw [b2i_ne0, decide_eq_true_eq] at hgo
        have hMg0 : RepM (uR R 0 0 0) m mr Mg := by rw [hgo] at hMg; exact hMg
        obtain ⟨hp9, hq9, hr9, hs9⟩ := gbN_0 hgo
        obtain ⟨Rg, hRg⟩ : ∃ Rg, Rg = uR R 0 0 0 := ⟨_, rfl⟩
        have hg : ∀ f, f ≠ 0 → Rg f = R f := fun f hf => by rw [hRg, uR_n hf]
        have hMr : RepM Rg m mr Mg := by rw [hRg]; exact hMg0
        obtain ⟨i0, hi9, rfl, ht⟩ := kn_i hwf.1 hp9
        rw [ht] at hs9
        rw [hp9, Bool.true_and, decide_eq_true_eq] at hs9
        have h7 := (hst i0 hi9).2
        refine m_iload_n C d_Mo_range_97 rfl rfl ?_
        refine m_bipush (v := 6) C d_Mo_range_98 (by decide) ?_
        refine m_imul C d_Mo_range_100 ?_
        rw [show nI i0 * 6 = nI (6 * i0) by rw [show (6 : Int32) = nI 6 from rfl, nI_mul, Nat.mul_comm]]
        refine m_aload_n C d_Mo_range_101 rfl rfl ?_
        refine m_get C fg_Mo_26 d_Mo_range_102 hMr.1 rfl ?_
        refine m_iload_n C d_Mo_range_105 rfl rfl ?_
        refine m_iald (v := .int ((Rg 7) i0)) C d_Mo_range_106 (hMr.a7) kt_int (nI_pos (by omega)) (by rw [nI_clamp (by omega)]; exact arrL_get (by omega)) ?_
        have q9_1 : Rg 7 = R 7 := by rw [hg 7 (by decide)]
        rw [q9_1, h7]
        refine m_iadd C d_Mo_range_107 ?_
        rw [nI_add]
        refine m_istore (L' := [some (.ref m), some (.int (nI i0)), some (.int sd), some (.int lo), some (.int hi), some (.int (b2i (inn sd 0 2 && inn lo 1 9999 && inn hi lo 9999 && (iOf sd lo || decide (lo < hi))))), some (.int (b2i (kn R (nI i0)))), some (.int (nI (6 * i0 + tn (R 7 i0))))]) C d_Mo_range_108 (by decide) rfl ?_
        refine m_aload_n C d_Mo_range_110 rfl rfl ?_
        refine m_get C fg_Mo_29 d_Mo_range_111 hMr.1 rfl ?_
        refine m_iload C d_Mo_range_114 rfl ?_
        refine m_iload_n C d_Mo_range_116 rfl rfl ?_
        refine m_iastE C d_Mo_range_117 (hw _ (Or.inr ⟨8, by decide, rfl⟩)) (hMr.a8) kt_int (nI_pos (by omega)) (by rw [nI_clamp (by omega), arrL_len]; omega) (fun M1 M1a9 M1o => ?_)
        rw [nI_clamp (by omega), arrL_set] at M1a9
        obtain ⟨R1, hR1⟩ : ∃ R1, R1 = uR Rg 8 (6 * i0 + tn (R 7 i0)) sd := ⟨_, rfl⟩
        have hM1 : RepM R1 m mr M1 := by rw [hR1]; exact hMr.set (k := 8) (by decide) (by decide) M1a9 M1o
        refine m_aload_n C d_Mo_range_118 rfl rfl ?_
        refine m_get C fg_Mo_32 d_Mo_range_119 hM1.1 rfl ?_
        refine m_iload C d_Mo_range_122 rfl ?_
        refine m_iload_n C d_Mo_range_124 rfl rfl ?_
        refine m_iastE C d_Mo_range_125 (hw _ (Or.inr ⟨9, by decide, rfl⟩)) (hM1.a9) kt_int (nI_pos (by omega)) (by rw [nI_clamp (by omega), arrL_len]; omega) (fun M2 M2a9 M2o => ?_)
        rw [nI_clamp (by omega), arrL_set] at M2a9
        obtain ⟨R2, hR2⟩ : ∃ R2, R2 = uR R1 9 (6 * i0 + tn (R 7 i0)) lo := ⟨_, rfl⟩
        have hM2 : RepM R2 m mr M2 := by rw [hR2]; exact hM1.set (k := 9) (by decide) (by decide) M2a9 M2o
        refine m_aload_n C d_Mo_range_126 rfl rfl ?_
        refine m_get C fg_Mo_35 d_Mo_range_127 hM2.1 rfl ?_
        refine m_iload C d_Mo_range_130 rfl ?_
        refine m_iload C d_Mo_range_132 rfl ?_
        refine m_iastE C d_Mo_range_134 (hw _ (Or.inr ⟨10, by decide, rfl⟩)) (hM2.a10) kt_int (nI_pos (by omega)) (by rw [nI_clamp (by omega), arrL_len]; omega) (fun M3 M3a9 M3o => ?_)
        rw [nI_clamp (by omega), arrL_set] at M3a9
        obtain ⟨R3, hR3⟩ : ∃ R3, R3 = uR R2 10 (6 * i0 + tn (R 7 i0)) hi := ⟨_, rfl⟩
        have hM3 : RepM R3 m mr M3 := by rw [hR3]; exact hM2.set (k := 10) (by decide) (by decide) M3a9 M3o
        refine m_aload_n C d_Mo_range_135 rfl rfl ?_
        refine m_get C fg_Mo_26 d_Mo_range_136 hM3.1 rfl ?_
        refine m_iload_n C d_Mo_range_139 rfl rfl ?_
        refine m_dup2 C d_Mo_range_140 rfl rfl ?_
        refine m_iald (v := .int ((R3 7) i0)) C d_Mo_range_141 (hM3.a7) kt_int (nI_pos (by omega)) (by rw [nI_clamp (by omega)]; exact arrL_get (by omega)) ?_
        have q9_2 : R3 7 = R 7 := by rw [hR3, uR_n (by decide), hR2, uR_n (by decide), hR1, uR_n (by decide), hg 7 (by decide)]
        rw [q9_2, h7]
        refine m_iconst (v := 1) C d_Mo_range_142 (by decide) ?_
        refine m_iadd C d_Mo_range_143 ?_
        rw [nI_1]
        refine m_iastE C d_Mo_range_144 (hw _ (Or.inr ⟨7, by decide, rfl⟩)) (hM3.a7) kt_int (nI_pos (by omega)) (by rw [nI_clamp (by omega), arrL_len]; omega) (fun M4 M4a9 M4o => ?_)
        rw [nI_clamp (by omega), arrL_set] at M4a9
        obtain ⟨R4, hR4⟩ : ∃ R4, R4 = uR R3 7 i0 ((nI (tn (R 7 i0) + 1))) := ⟨_, rfl⟩
        have hM4 : RepM R4 m mr M4 := by rw [hR4]; exact hM3.set (k := 7) (by decide) (by decide) M4a9 M4o
        refine m_aload_n C d_Mo_range_145 rfl rfl ?_
        refine m_iconst (v := 0) C d_Mo_range_146 (by decide) ?_
        refine m_putE C fp_Mo_114 d_Mo_range_147 (hw _ (Or.inl rfl)) hM4.1 rfl rfl (fun M5 M5a9 M5o => ?_)
        obtain ⟨R5, hR5⟩ : ∃ R5, R5 = uR R4 28 0 0 := ⟨_, rfl⟩
        have hM5 : RepM R5 m mr M5 := by rw [hR5]; exact hM4.put28 M5a9 M5o
        refine m_aload_n C d_Mo_range_150 rfl rfl ?_
        refine m_get C fg_Mo_26 d_Mo_range_151 hM5.1 rfl ?_
        refine m_iload_n C d_Mo_range_154 rfl rfl ?_
        refine m_iald (v := .int ((R5 7) i0)) C d_Mo_range_155 (hM5.a7) kt_int (nI_pos (by omega)) (by rw [nI_clamp (by omega)]; exact arrL_get (by omega)) ?_
        rw [show R5 7 i0 = nI (tn (R 7 i0) + 1) by rw [hR5, uR_n (by decide), hR4, uR_s, fu_s]]
        exact Rt _ _ _ _ _ _ (by decide) (by decide) d_Mo_range_156 (⟨fun _ => ⟨by rw [ht], by rw [ht, ← hRg, ← hR1, ← hR2, ← hR3, ← hR4, ← hR5]; exact hM5⟩, fun z => absurd hgo z⟩)
      · rw [b2i_eq0, decide_eq_false_iff_not] at hgo
        refine m_iconst (v := 0) C d_Mo_range_95 (by decide) ?_
        exact Rt _ _ _ _ _ _ (by decide) (by decide) d_Mo_range_96 (⟨fun z => absurd z hgo, fun _ => ⟨rfl, hMg⟩⟩)
    refine m_if_eq (tgt := 88) C d_Mo_range_70 (by decide) (fun h9 => ?_) (fun h9 => ?_)
    · refine m_iconst (v := 0) C d_Mo_range_88 (by decide) ?_
      exact jn2 _ (by rw [b2i_eq0] at h9; rw [h9]; rfl)
    · rw [b2i_eq0, Bool.not_eq_false] at h9
      obtain ⟨i0, hi9, hsi, ht⟩ := kn_i hwf.1 h9
      have h7 := (hst i0 hi9).2; have hb7 := (hbi i0 hi9).2.1
      refine m_aload_n C d_Mo_range_73 rfl rfl ?_
      refine m_get C fg_Mo_26 d_Mo_range_74 hM.1 rfl ?_
      refine m_iload_n C d_Mo_range_77 rfl rfl ?_
      rw [hsi]
      refine m_iald (v := .int ((R 7) i0)) C d_Mo_range_78 (hM.a7) kt_int (nI_pos (by omega)) (by rw [nI_clamp (by omega)]; exact arrL_get (by omega)) ?_
      rw [h7]
      refine m_bipush (v := 6) C d_Mo_range_79 (by decide) ?_
      have e1 : (6 : Int32) ≤ nI (tn (R 7 i0)) ↔ ¬ tn (R 7 i0) < 6 := by rw [show (6 : Int32) = nI 6 from rfl, nI_leI (by decide) (by omega)]; omega
      rw [hsi] at jn2 h9 ht
      refine m_icmp_ge (tgt := 88) C d_Mo_range_81 (by decide) (fun h8 => ?_) (fun h8 => ?_)
      · refine m_iconst (v := 0) C d_Mo_range_88 (by decide) ?_
        exact jn2 _ (by rw [ht, h9, decide_eq_false (e1.mp h8)]; rfl)
      · refine m_iconst (v := 1) C d_Mo_range_84 (by decide) ?_
        refine m_goto (tgt := 89) C d_Mo_range_85 (by decide) ?_
        exact jn2 _ (by rw [ht, h9, decide_eq_true (Classical.not_not.mp (fun q => h8 (e1.mpr q)))]; rfl)
  refine m_iload_n C d_Mo_range_0 rfl rfl ?_
  refine m_iconst (v := 0) C d_Mo_range_1 (by decide) ?_
  refine m_iconst (v := 2) C d_Mo_range_2 (by decide) ?_
  refine m_callS C d_Mo_range_3 mw_Mo_102 mst_Mo_in (ct_Mo_in _ _ _ sd 0 2 M) (fun _ h => h.elim) rfl rfl (Nat.le_of_ble_eq_true rfl) (by decide) (fun v9 M9 hp h5 h6 => ?_)
  obtain ⟨rfl, hM9⟩ := hp; rw [hM9]
  show mj G 8 0 0 M 6 [some (.ref m), some (.int s), some (.int sd), some (.int lo), some (.int hi), none, none, none] [.int (b2i (inn sd 0 2))]
  refine m_if_eq (tgt := 50) C d_Mo_range_6 (by decide) (fun c0 => ?_) (fun c0 => ?_)
  · refine m_iconst (v := 0) C d_Mo_range_50 (by decide) ?_
    rw [b2i_eq0] at c0
    exact jn5 _ (by rw [c0]; rfl)
  · rw [b2i_eq0, Bool.not_eq_false] at c0
    refine m_iload_n C d_Mo_range_9 rfl rfl ?_
    refine m_iconst (v := 1) C d_Mo_range_10 (by decide) ?_
    refine m_sipush (v := 9999) C d_Mo_range_11 (by decide) ?_
    refine m_callS C d_Mo_range_14 mw_Mo_102 mst_Mo_in (ct_Mo_in _ _ _ lo 1 9999 M) (fun _ h => h.elim) rfl rfl (Nat.le_of_ble_eq_true rfl) (by decide) (fun v9 M9 hp h5 h6 => ?_)
    obtain ⟨rfl, hM9⟩ := hp; rw [hM9]
    show mj G 8 0 0 M 17 [some (.ref m), some (.int s), some (.int sd), some (.int lo), some (.int hi), none, none, none] [.int (b2i (inn lo 1 9999))]
    refine m_if_eq (tgt := 50) C d_Mo_range_17 (by decide) (fun c1 => ?_) (fun c1 => ?_)
    · refine m_iconst (v := 0) C d_Mo_range_50 (by decide) ?_
      rw [b2i_eq0] at c1
      exact jn5 _ (by rw [c0, c1]; rfl)
    · rw [b2i_eq0, Bool.not_eq_false] at c1
      refine m_iload C d_Mo_range_20 rfl ?_
      refine m_iload_n C d_Mo_range_22 rfl rfl ?_
      refine m_sipush (v := 9999) C d_Mo_range_23 (by decide) ?_
      refine m_callS C d_Mo_range_26 mw_Mo_102 mst_Mo_in (ct_Mo_in _ _ _ hi lo 9999 M) (fun _ h => h.elim) rfl rfl (Nat.le_of_ble_eq_true rfl) (by decide) (fun v9 M9 hp h5 h6 => ?_)
      obtain ⟨rfl, hM9⟩ := hp; rw [hM9]
      show mj G 8 0 0 M 29 [some (.ref m), some (.int s), some (.int sd), some (.int lo), some (.int hi), none, none, none] [.int (b2i (inn hi lo 9999))]
      refine m_if_eq (tgt := 50) C d_Mo_range_29 (by decide) (fun c2 => ?_) (fun c2 => ?_)
      · refine m_iconst (v := 0) C d_Mo_range_50 (by decide) ?_
        rw [b2i_eq0] at c2
        exact jn5 _ (by rw [c0, c1, c2]; rfl)
      · rw [b2i_eq0, Bool.not_eq_false] at c2
        refine m_iload_n C d_Mo_range_32 rfl rfl ?_
        refine m_iload_n C d_Mo_range_33 rfl rfl ?_
        refine m_callS C d_Mo_range_34 mw_Mo_125 mst_Mo_isOf (ct_Mo_isOf _ _ _ sd lo M) (fun _ h => h.elim) rfl rfl (Nat.le_of_ble_eq_true rfl) (by decide) (fun v9 M9 hp h5 h6 => ?_)
        obtain ⟨rfl, hM9⟩ := hp; rw [hM9]
        show mj G 8 0 0 M 37 [some (.ref m), some (.int s), some (.int sd), some (.int lo), some (.int hi), none, none, none] [.int (b2i (iOf sd lo))]
        refine m_if_ne (tgt := 46) C d_Mo_range_37 (by decide) (fun h8 => ?_) (fun h8 => ?_)
        · refine m_iconst (v := 1) C d_Mo_range_46 (by decide) ?_
          refine m_goto (tgt := 51) C d_Mo_range_47 (by decide) ?_
          rw [b2i_ne0] at h8
          exact jn5 _ (by rw [c0, c1, c2, h8]; rfl)
        · rw [b2i_eq0] at h8
          refine m_iload_n C d_Mo_range_40 rfl rfl ?_
          refine m_iload C d_Mo_range_41 rfl ?_
          refine m_icmp_ge (tgt := 50) C d_Mo_range_43 (by decide) (fun h7 => ?_) (fun h7 => ?_)
          · refine m_iconst (v := 0) C d_Mo_range_50 (by decide) ?_
            exact jn5 _ (by rw [c0, c1, c2, h8, decide_eq_false (Int32.not_lt.mpr h7)]; rfl)
          · refine m_iconst (v := 1) C d_Mo_range_46 (by decide) ?_
            refine m_goto (tgt := 51) C d_Mo_range_47 (by decide) ?_
            exact jn5 _ (by rw [c0, c1, c2, h8, decide_eq_true (Int32.not_le.mp h7)]; rfl)
