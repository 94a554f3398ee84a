/-! ===== the model's sign, word ===== -/
theorem uR_setF (R : mR) (k e : Nat) (f : Nat → Int32) (v : Int32) : uR (setF R k f) k e v = setF R k (fu f e v) := by
  funext k' i
  by_cases h : k' = k
  · subst h; rw [uR_s, setF_s, setF_s]
  · rw [uR_n h, setF_n h, setF_n h]
theorem setF_id (R : mR) (k : Nat) : setF R k (R k) = R := by
  funext k' i
  by_cases h : k' = k
  · subst h; rw [setF_s]
  · rw [setF_n h]
theorem inn18 {n : Int32} (h : inn n 1 8 = true) : ∃ m : Nat, m ≤ 8 ∧ n = nI m ∧ tn n = m := by
  have h1 := inn_i h
  have h0 : (0 : Int32) ≤ n := Int32.le_trans (by decide) h1.1
  exact ⟨tn n, tn_le h0 (by decide) h1.2, (tn_of h0).1, rfl⟩
theorem inn08 {n : Int32} (h : inn n 0 8 = true) : ∃ m : Nat, m ≤ 8 ∧ n = nI m ∧ tn n = m := by
  have h1 := inn_i h
  exact ⟨tn n, tn_le h1.1 (by decide) h1.2, (tn_of h1.1).1, rfl⟩

set_option maxHeartbeats 4000000 in
set_option maxRecDepth 100000 in
theorem ct_Mo_sign (l : Launch) (D : ma_D) (s0 : State) (R : mR) (m : Nat) (mr : Nat → Nat) (s : Int32) (p : Int64) (n : Int32) (M : ma_H) (hM : RepM R m mr M) (hwf : WfS R) : Ct l D s0 y_Mo_sign c_Mo_sign 8 (some .int) 2 0 0 46 [.ref m, .int s, .long p, .int n] M (fun q => q = m ∨ ∃ k, mln k ≠ 0 ∧ q = mr k) (fun v M' => ((gbN (kn R s) ((inn n 1 8 && decide (∀ i, i < tn n → is_l (sgn p (tn n) i) = true))) (true) (decide (R 5 (if kn R s = true then 3 * tn s + (tn (R 4 (tn s)) - 1) else 0) + n ≤ 16))) = 0 → v = some (.int (nI (tn (R 5 (3 * tn s + (tn (R 4 (tn s)) - 1))) + tn n))) ∧ RepM (uR (uR (setF (uR R 0 0 0) 6 (fa (R 6) (16 * (3 * tn s + (tn (R 4 (tn s)) - 1)) + tn (R 5 (3 * tn s + (tn (R 4 (tn s)) - 1)))) p (tn n) (tn n))) 5 (3 * tn s + (tn (R 4 (tn s)) - 1)) (nI (tn (R 5 (3 * tn s + (tn (R 4 (tn s)) - 1))) + tn n))) 28 0 0) m mr M') ∧ (¬ (gbN (kn R s) ((inn n 1 8 && decide (∀ i, i < tn n → is_l (sgn p (tn n) i) = true))) (true) (decide (R 5 (if kn R s = true then 3 * tn s + (tn (R 4 (tn s)) - 1) else 0) + n ≤ 16))) = 0 → v = some (.int 0) ∧ RepM (uR R 0 0 (nI (thN 11 (gbN (kn R s) ((inn n 1 8 && decide (∀ i, i < tn n → is_l (sgn p (tn n) i) = true))) (true) (decide (R 5 (if kn R s = true then 3 * tn s + (tn (R 4 (tn s)) - 1) else 0) + n ≤ 16)))))) m mr M')) := by
  refine Ct_i 3 [some (.ref m), some (.int s), some (.long p), none, some (.int n), none, none, none] (by decide +kernel) (Nat.le_of_ble_eq_true rfl) rfl ?_
  intro G e1 e2 e3 C hw Rt
  subst e1; subst e2; subst e3
  obtain ⟨⟨⟨hbS, hbL, hbC, hbW, hbF⟩, hbi⟩, ⟨hS, hLm, hCo, hWd, hFn⟩, hst, hln, hmk, hz, hlt, hxy, hrg, hpl, hak, hcn⟩ := id hwf
  refine m_aload_n C d_Mo_sign_0 rfl rfl ?_
  refine m_iload_n C d_Mo_sign_1 rfl rfl ?_
  refine m_callV (ci := 10) C d_Mo_sign_2 mw_Mo_117 mi_Mo_isStreet se_Mo_isStreet rfl (ct_Mo_isStreet _ _ _ R m mr s M hM hS hbS) (fun _ h => h.elim) rfl rfl (Nat.le_of_ble_eq_true rfl) hM.1 (by decide) (fun v9 M9 hp h5 h6 => ?_)
  obtain ⟨rfl, hM9⟩ := hp; rw [hM9]
  show mj G 8 0 0 M 5 [some (.ref m), some (.int s), some (.long p), none, some (.int n), none, none, none] [.int (b2i (kn R s))]
  refine m_istore (L' := [some (.ref m), some (.int s), some (.long p), none, some (.int n), some (.int (b2i (kn R s))), none, none]) C d_Mo_sign_5 (by decide) rfl ?_
  refine m_iload C d_Mo_sign_7 rfl ?_
  have jnk : ∀ xk : Int32, xk = nI (if kn R s = true then 3 * tn s + (tn (R 4 (tn s)) - 1) else 0) → mj G 8 0 0 M 28 [some (.ref m), some (.int s), some (.long p), none, some (.int n), some (.int (b2i (kn R s))), none, none] [.int xk] := by
    intro xk hxk
    have hK90 : (if kn R s = true then 3 * tn s + (tn (R 4 (tn s)) - 1) else 0) < 90 := by
      split
      · rename_i hk; obtain ⟨i0, hi, -, ht⟩ := kn_i hwf.1 hk; have := (hbi i0 hi).1; rw [ht]; omega
      · decide
    obtain ⟨K, hK⟩ : ∃ K, K = (if kn R s = true then 3 * tn s + (tn (R 4 (tn s)) - 1) else 0) := ⟨_, rfl⟩
    rw [← hK] at hxk hK90
    subst hxk
    refine m_istore (L' := [some (.ref m), some (.int s), some (.long p), none, some (.int n), some (.int (b2i (kn R s))), some (.int (nI K)), none]) C d_Mo_sign_28 (by decide) rfl ?_
    refine m_aload_n C d_Mo_sign_30 rfl rfl ?_
    refine m_bipush (v := 11) C d_Mo_sign_31 (by decide) ?_
    refine m_iload C d_Mo_sign_33 rfl ?_
    refine m_iload C d_Mo_sign_35 rfl ?_
    refine m_iconst (v := 1) C d_Mo_sign_37 (by decide) ?_
    refine m_bipush (v := 8) C d_Mo_sign_38 (by decide) ?_
    refine m_callS C d_Mo_sign_40 mw_Mo_102 mst_Mo_in (ct_Mo_in _ _ _ n 1 8 M) (fun _ h => h.elim) rfl rfl (Nat.le_of_ble_eq_true rfl) (by decide) (fun v9 M9 hp h5 h6 => ?_)
    obtain ⟨rfl, hM9⟩ := hp; rw [hM9]
    show mj G 8 0 0 M 43 [some (.ref m), some (.int s), some (.long p), none, some (.int n), some (.int (b2i (kn R s))), some (.int (nI K)), none] [.int (b2i (inn n 1 8)), .int (b2i (kn R s)), .int 11, .ref m]
    have jnq : ∀ xq : Int32, xq = b2i (inn n 1 8 && decide (∀ i, i < tn n → is_l (sgn p (tn n) i) = true)) → mj G 8 0 0 M 60 [some (.ref m), some (.int s), some (.long p), none, some (.int n), some (.int (b2i (kn R s))), some (.int (nI K)), none] [.int xq, .int (b2i (kn R s)), .int 11, .ref m] := by
      intro xq hxq
      subst hxq
      refine m_iconst (v := 1) C d_Mo_sign_60 (by decide) ?_
      refine m_aload_n C d_Mo_sign_61 rfl rfl ?_
      refine m_get C fg_Mo_20 d_Mo_sign_62 hM.1 rfl ?_
      refine m_iload C d_Mo_sign_65 rfl ?_
      refine m_iald (v := .int ((R 5) K)) C d_Mo_sign_67 (hM.a5) kt_int (nI_pos (by omega)) (by rw [nI_clamp (by omega)]; exact arrL_get (by omega)) ?_
      refine m_iload C d_Mo_sign_68 rfl ?_
      refine m_iadd C d_Mo_sign_70 ?_
      refine m_bipush (v := 16) C d_Mo_sign_71 (by decide) ?_
      have jns : ∀ xs : Int32, xs = b2i (decide (R 5 K + n ≤ 16)) → mj G 8 0 0 M 81 [some (.ref m), some (.int s), some (.long p), none, some (.int n), some (.int (b2i (kn R s))), some (.int (nI K)), none] [.int xs, .int 1, .int (b2i (inn n 1 8 && decide (∀ i, i < tn n → is_l (sgn p (tn n) i) = true))), .int (b2i (kn R s)), .int 11, .ref m] := by
        intro xs hxs
        subst hxs
        refine m_callV (ci := 10) C d_Mo_sign_81 mw_Mo_110 mi_Mo_goes se_Mo_goes rfl (ct_Mo_goes _ _ _ R m mr 11 (kn R s) ((inn n 1 8 && decide (∀ i, i < tn n → is_l (sgn p (tn n) i) = true))) (true) (decide (R 5 K + n ≤ 16)) M hM) (fun q h => hw q h) rfl rfl (Nat.le_of_ble_eq_true rfl) hM.1 (by decide) (fun v9 Mg hp g5 g6 => ?_)
        obtain ⟨rfl, hMg⟩ := hp
        show mj G 8 0 0 Mg 84 [some (.ref m), some (.int s), some (.long p), none, some (.int n), some (.int (b2i (kn R s))), some (.int (nI K)), none] [.int (b2i (decide ((gbN (kn R s) ((inn n 1 8 && decide (∀ i, i < tn n → is_l (sgn p (tn n) i) = true))) (true) (decide (R 5 K + n ≤ 16))) = 0)))]
        refine m_if_ne (tgt := 89) C d_Mo_sign_84 (by decide) (fun hgo => ?_) (fun hgo => ?_)
        · rw [b2i_ne0, decide_eq_true_eq] at hgo
          have hMg0 : RepM (uR R 0 0 0) m mr Mg := by rw [hgo] at hMg; exact hMg
          obtain ⟨hp9, hq9, hr9, hs9⟩ := gbN_0 hgo
          obtain ⟨Rg, hRg⟩ : ∃ Rg, Rg = uR R 0 0 0 := ⟨_, rfl⟩
          have hg : ∀ f, f ≠ 0 → Rg f = R f := fun f hf => by rw [hRg, uR_n hf]
          have hMr : RepM Rg m mr Mg := by rw [hRg]; exact hMg0
          obtain ⟨i0, hi, rfl, ht⟩ := kn_i hwf.1 hp9
          have hK0 := hK
          rw [if_pos hp9, ht] at hK
          rw [Bool.and_eq_true, decide_eq_true_eq] at hq9
          obtain ⟨n8, hn8, rfl, htn⟩ := inn18 hq9.1
          have h5 := hln K hK90
          rw [decide_eq_true_eq, h5.1, nI_add, show (16 : Int32) = nI 16 from rfl, nI_leI (by omega) (by decide)] at hs9
          refine m_iconst (v := 0) C d_Mo_sign_89 (by decide) ?_
          refine m_istore (L' := [some (.ref m), some (.int (nI i0)), some (.long p), none, some (.int (nI n8)), some (.int (b2i (kn R (nI i0)))), some (.int (nI K)), some (.int 0)]) C d_Mo_sign_90 (by decide) rfl ?_
          have loop : ∀ (lq9 : Nat) (M2 : ma_H) (i : Nat), n8 - i = lq9 → i ≤ n8 → RepM (setF Rg 6 (fa (R 6) (16 * K + tn (R 5 K)) p n8 i)) m mr M2 → mj G 8 0 0 M2 92 [some (.ref m), some (.int (nI i0)), some (.long p), none, some (.int (nI n8)), some (.int (b2i (kn R (nI i0)))), some (.int (nI K)), some (.int (nI i))] [] := by
            intro lq9
            induction lq9 using Nat.strongRecOn with
            | ind lq9 ih =>
              intro M2 i hr hi8 hM2
              have q5 : (setF Rg 6 (fa (R 6) (16 * K + tn (R 5 K)) p n8 i)) 5 = R 5 := by rw [setF_n (by decide), hg 5 (by decide)]
              refine m_iload C d_Mo_sign_92 rfl ?_
              refine m_iload C d_Mo_sign_94 rfl ?_
              have e1 : nI n8 ≤ nI i ↔ n8 ≤ i := nI_leI (by omega) (by omega)
              refine m_icmp_ge (tgt := 134) C d_Mo_sign_96 (by decide) (fun h9 => ?_) (fun h9 => ?_)
              · rw [e1] at h9
                obtain rfl : n8 = i := by omega
                refine m_aload_n C d_Mo_sign_134 rfl rfl ?_
                refine m_get C fg_Mo_20 d_Mo_sign_135 hM2.1 rfl ?_
                refine m_iload C d_Mo_sign_138 rfl ?_
                refine m_aload_n C d_Mo_sign_140 rfl rfl ?_
                refine m_get C fg_Mo_20 d_Mo_sign_141 hM2.1 rfl ?_
                refine m_iload C d_Mo_sign_144 rfl ?_
                refine m_iald (v := .int (((setF Rg 6 (fa (R 6) (16 * K + tn (R 5 K)) p n8 n8)) 5) K)) C d_Mo_sign_146 (hM2.a5) kt_int (nI_pos (by omega)) (by rw [nI_clamp (by omega)]; exact arrL_get (by omega)) ?_
                rw [q5, h5.1]
                refine m_iload C d_Mo_sign_147 rfl ?_
                refine m_iadd C d_Mo_sign_149 ?_
                rw [nI_add]
                refine m_iastE C d_Mo_sign_150 (hw _ (Or.inr ⟨5, by decide, rfl⟩)) (hM2.a5) kt_int (nI_pos (by omega)) (by rw [nI_clamp (by omega), arrL_len]; omega) (fun M3 M3a9 M3o => ?_)
                rw [nI_clamp (by omega), arrL_set] at M3a9
                obtain ⟨R3, hR3⟩ : ∃ R3, R3 = uR ((setF Rg 6 (fa (R 6) (16 * K + tn (R 5 K)) p n8 n8))) 5 K ((nI (tn (R 5 K) + n8))) := ⟨_, rfl⟩
                have hM3 : RepM R3 m mr M3 := by rw [hR3]; exact hM2.set (k := 5) (by decide) (by decide) M3a9 M3o
                refine m_aload_n C d_Mo_sign_151 rfl rfl ?_
                refine m_iconst (v := 0) C d_Mo_sign_152 (by decide) ?_
                refine m_putE C fp_Mo_114 d_Mo_sign_153 (hw _ (Or.inl rfl)) hM3.1 rfl rfl (fun M4 M4a9 M4o => ?_)
                obtain ⟨R4, hR4⟩ : ∃ R4, R4 = uR R3 28 0 0 := ⟨_, rfl⟩
                have hM4 : RepM R4 m mr M4 := by rw [hR4]; exact hM3.put28 M4a9 M4o
                refine m_aload_n C d_Mo_sign_156 rfl rfl ?_
                refine m_get C fg_Mo_20 d_Mo_sign_157 hM4.1 rfl ?_
                refine m_iload C d_Mo_sign_160 rfl ?_
                refine m_iald (v := .int ((R4 5) K)) C d_Mo_sign_162 (hM4.a5) kt_int (nI_pos (by omega)) (by rw [nI_clamp (by omega)]; exact arrL_get (by omega)) ?_
                rw [show R4 5 K = nI (tn (R 5 K) + n8) by rw [hR4, uR_n (by decide), hR3, uR_s, fu_s]]
                exact Rt _ _ _ _ _ _ (by decide) (by decide) d_Mo_sign_163 (⟨fun _ => ⟨by rw [ht, htn, ← hK], by rw [ht, htn, ← hK, ← hRg, ← hR3, ← hR4]; exact hM4⟩, fun z => absurd (by rw [hK0] at hgo; exact hgo) z⟩)
              · rw [e1] at h9
                refine m_aload_n C d_Mo_sign_99 rfl rfl ?_
                refine m_get C fg_Mo_23 d_Mo_sign_100 hM2.1 rfl ?_
                refine m_iload C d_Mo_sign_103 rfl ?_
                refine m_bipush (v := 16) C d_Mo_sign_105 (by decide) ?_
                refine m_imul C d_Mo_sign_107 ?_
                rw [show nI K * 16 = nI (16 * K) by rw [show (16 : Int32) = nI 16 from rfl, nI_mul, Nat.mul_comm]]
                refine m_aload_n C d_Mo_sign_108 rfl rfl ?_
                refine m_get C fg_Mo_20 d_Mo_sign_109 hM2.1 rfl ?_
                refine m_iload C d_Mo_sign_112 rfl ?_
                refine m_iald (v := .int (((setF Rg 6 (fa (R 6) (16 * K + tn (R 5 K)) p n8 i)) 5) K)) C d_Mo_sign_114 (hM2.a5) kt_int (nI_pos (by omega)) (by rw [nI_clamp (by omega)]; exact arrL_get (by omega)) ?_
                rw [q5, h5.1]
                refine m_iadd C d_Mo_sign_115 ?_
                refine m_iload C d_Mo_sign_116 rfl ?_
                refine m_iadd C d_Mo_sign_118 ?_
                rw [nI_add, nI_add]
                refine m_lload_n C d_Mo_sign_119 rfl rfl ?_
                refine m_iload C d_Mo_sign_120 rfl ?_
                refine m_iload C d_Mo_sign_122 rfl ?_
                refine m_callS C d_Mo_sign_124 mw_Mo_106 mst_Mo_byteOf (ct_Mo_byteOf _ _ _ p n8 i hn8 (by omega) M2) (fun _ h => h.elim) rfl rfl (Nat.le_of_ble_eq_true rfl) (by decide) (fun v9 M9 hp h5 h6 => ?_)
                obtain ⟨rfl, hM9⟩ := hp; rw [hM9]
                show mj G 8 0 0 M2 127 [some (.ref m), some (.int (nI i0)), some (.long p), none, some (.int (nI n8)), some (.int (b2i (kn R (nI i0)))), some (.int (nI K)), some (.int (nI i))] [.int (sgn p n8 i), .int (nI (16 * K + tn (R 5 K) + i)), .ref (mr 6)]
                refine m_iastE C d_Mo_sign_127 (hw _ (Or.inr ⟨6, by decide, rfl⟩)) (hM2.a6) kt_int (nI_pos (by omega)) (by rw [nI_clamp (by omega), arrL_len]; omega) (fun M3 M3a9 M3o => ?_)
                rw [nI_clamp (by omega), arrL_set] at M3a9
                obtain ⟨R3, hR3⟩ : ∃ R3, R3 = uR ((setF Rg 6 (fa (R 6) (16 * K + tn (R 5 K)) p n8 i))) 6 (16 * K + tn (R 5 K) + i) ((sgn p n8 i)) := ⟨_, rfl⟩
                have hM3 : RepM R3 m mr M3 := by rw [hR3]; exact hM2.set (k := 6) (by decide) (by decide) M3a9 M3o
                refine m_iinc (v := (nI (i + 1))) (L' := [some (.ref m), some (.int (nI i0)), some (.long p), none, some (.int (nI n8)), some (.int (b2i (kn R (nI i0)))), some (.int (nI K)), some (.int (nI (i + 1)))]) C d_Mo_sign_128 rfl (nI_1 i) (by decide) rfl ?_
                refine m_goto (tgt := 92) C d_Mo_sign_131 (by decide) ?_
                exact ih (n8 - (i + 1)) (by omega) M3 (i + 1) rfl (by omega) (by rw [← fa_s, ← uR_setF, ← hR3]; exact hM3)
          exact loop _ Mg 0 rfl (Nat.zero_le _) (by rw [fa_0, ← hg 6 (by decide), setF_id]; exact hMr)
        · rw [b2i_eq0, decide_eq_false_iff_not] at hgo
          rw [hK] at hgo hMg
          refine m_iconst (v := 0) C d_Mo_sign_87 (by decide) ?_
          exact Rt _ _ _ _ _ _ (by decide) (by decide) d_Mo_sign_88 (⟨fun z => absurd z hgo, fun _ => ⟨rfl, hMg⟩⟩)
      refine m_icmp_gt (tgt := 80) C d_Mo_sign_73 (by decide) (fun h9 => ?_) (fun h9 => ?_)
      · refine m_iconst (v := 0) C d_Mo_sign_80 (by decide) ?_
        exact jns _ (by rw [decide_eq_false (Int32.not_le.mpr h9)]; rfl)
      · refine m_iconst (v := 1) C d_Mo_sign_76 (by decide) ?_
        refine m_goto (tgt := 81) C d_Mo_sign_77 (by decide) ?_
        exact jns _ (by rw [decide_eq_true (Int32.not_lt.mp h9)]; rfl)
    refine m_if_eq (tgt := 59) C d_Mo_sign_43 (by decide) (fun h9 => ?_) (fun h9 => ?_)
    · refine m_iconst (v := 0) C d_Mo_sign_59 (by decide) ?_
      exact jnq _ (by rw [b2i_eq0] at h9; rw [h9]; rfl)
    · rw [b2i_eq0, Bool.not_eq_false] at h9
      obtain ⟨n8, hn8, hnn, htn⟩ := inn18 h9
      refine m_lload_n C d_Mo_sign_46 rfl rfl ?_
      refine m_iload C d_Mo_sign_47 rfl ?_
      rw [hnn]
      refine m_callS C d_Mo_sign_49 mw_Mo_121 mst_Mo_areLetters (ct_Mo_areLetters _ _ _ p n8 hn8 M) (fun _ h => h.elim) rfl rfl (Nat.le_of_ble_eq_true rfl) (by decide) (fun v9 M9 hp h5 h6 => ?_)
      obtain ⟨rfl, hM9⟩ := hp; rw [hM9]
      show mj G 8 0 0 M 52 [some (.ref m), some (.int s), some (.long p), none, some (.int (nI n8)), some (.int (b2i (kn R s))), some (.int (nI K)), none] [.int (b2i (decide (∀ i, i < n8 → is_l (sgn p n8 i) = true))), .int (b2i (kn R s)), .int 11, .ref m]
      rw [hnn] at jnq h9 htn
      refine m_if_eq (tgt := 59) C d_Mo_sign_52 (by decide) (fun h8 => ?_) (fun h8 => ?_)
      · refine m_iconst (v := 0) C d_Mo_sign_59 (by decide) ?_
        exact jnq _ (by rw [b2i_eq0] at h8; rw [htn, h9, h8]; rfl)
      · refine m_iconst (v := 1) C d_Mo_sign_55 (by decide) ?_
        refine m_goto (tgt := 60) C d_Mo_sign_56 (by decide) ?_
        exact jnq _ (by rw [b2i_eq0, Bool.not_eq_false] at h8; rw [htn, h9, h8]; rfl)
  refine m_if_eq (tgt := 27) C d_Mo_sign_9 (by decide) (fun h9 => ?_) (fun h9 => ?_)
  · refine m_iconst (v := 0) C d_Mo_sign_27 (by decide) ?_
    exact jnk _ (by rw [b2i_eq0] at h9; rw [if_neg (by rw [h9]; simp)]; rfl)
  · rw [b2i_eq0, Bool.not_eq_false] at h9
    obtain ⟨i0, hi, hsi, ht⟩ := kn_i hwf.1 h9
    have hn4 := (hbi i0 hi).1; have h4 := (hst i0 hi).1
    refine m_iload_n C d_Mo_sign_12 rfl rfl ?_
    refine m_iconst (v := 3) C d_Mo_sign_13 (by decide) ?_
    rw [hsi]
    refine m_imul C d_Mo_sign_14 ?_
    rw [show nI i0 * 3 = nI (3 * i0) by rw [show (3 : Int32) = nI 3 from rfl, nI_mul, Nat.mul_comm]]
    refine m_aload_n C d_Mo_sign_15 rfl rfl ?_
    refine m_get C fg_Mo_17 d_Mo_sign_16 hM.1 rfl ?_
    refine m_iload_n C d_Mo_sign_19 rfl rfl ?_
    refine m_iald (v := .int ((R 4) i0)) C d_Mo_sign_20 (hM.a4) kt_int (nI_pos (by omega)) (by rw [nI_clamp (by omega)]; exact arrL_get (by omega)) ?_
    rw [h4]
    refine m_iadd C d_Mo_sign_21 ?_
    refine m_iconst (v := 1) C d_Mo_sign_22 (by decide) ?_
    refine m_isub C d_Mo_sign_23 ?_
    rw [nI_add, nI_sub1 (by omega)]
    refine m_goto (tgt := 28) C d_Mo_sign_24 (by decide) ?_
    rw [hsi] at jnk h9 ht
    exact jnk _ (by rw [if_pos h9, ht, show 3 * i0 + tn (R 4 i0) - 1 = 3 * i0 + (tn (R 4 i0) - 1) by omega])

set_option maxHeartbeats 4000000 in
set_option maxRecDepth 100000 in
theorem ct_Mo_word (l : Launch) (D : ma_D) (s0 : State) (R : mR) (m : Nat) (mr : Nat → Nat) (p : Int64) (n : Int32) (M : ma_H) (hM : RepM R m mr M) (hwf : WfS R) : Ct l D s0 y_Mo_word c_Mo_word 6 (some .int) 2 0 0 42 [.ref m, .long p, .int n] M (fun q => q = m ∨ ∃ k, mln k ≠ 0 ∧ q = mr k) (fun v M' => ((gbN (true) ((inn n 0 8 && decide (∀ i, i < tn n → is_s (sgn p (tn n) i) = true))) (true) (decide (R 26 0 + n ≤ 40))) = 0 → v = some (.int (nI (if tn n = 0 then 0 else nW R + tn n))) ∧ RepM (uR (uR (setF (uR R 0 0 0) 27 (fa (R 27) (if tn n = 0 then 0 else nW R) p (tn n) (tn n))) 26 0 (nI (if tn n = 0 then 0 else nW R + tn n))) 28 0 0) m mr M') ∧ (¬ (gbN (true) ((inn n 0 8 && decide (∀ i, i < tn n → is_s (sgn p (tn n) i) = true))) (true) (decide (R 26 0 + n ≤ 40))) = 0 → v = some (.int 0) ∧ RepM (uR R 0 0 (nI (thN 10 (gbN (true) ((inn n 0 8 && decide (∀ i, i < tn n → is_s (sgn p (tn n) i) = true))) (true) (decide (R 26 0 + n ≤ 40)))))) m mr M')) := by
  refine Ct_i 2 [some (.ref m), some (.long p), none, some (.int n), none, none] (by decide +kernel) (Nat.le_of_ble_eq_true rfl) rfl ?_
  intro G e1 e2 e3 C hw Rt
  subst e1; subst e2; subst e3
  obtain ⟨⟨⟨hbS, hbL, hbC, hbW, hbF⟩, hbi⟩, ⟨hS, hLm, hCo, hWd, hFn⟩, hst, hln, hmk, hz, hlt, hxy, hrg, hpl, hak, hcn⟩ := id hwf
  refine m_iload_n C d_Mo_word_0 rfl rfl ?_
  refine m_iconst (v := 0) C d_Mo_word_1 (by decide) ?_
  refine m_bipush (v := 8) C d_Mo_word_2 (by decide) ?_
  refine m_callS C d_Mo_word_4 mw_Mo_102 mst_Mo_in (ct_Mo_in _ _ _ n 0 8 M) (fun _ h => h.elim) rfl rfl (Nat.le_of_ble_eq_true rfl) (by decide) (fun v9 M9 hp h5 h6 => ?_)
  obtain ⟨rfl, hM9⟩ := hp; rw [hM9]
  show mj G 6 0 0 M 7 [some (.ref m), some (.long p), none, some (.int n), none, none] [.int (b2i (inn n 0 8))]
  refine m_istore (L' := [some (.ref m), some (.long p), none, some (.int n), some (.int (b2i (inn n 0 8))), none]) C d_Mo_word_7 (by decide) rfl ?_
  refine m_iconst (v := 0) C d_Mo_word_9 (by decide) ?_
  refine m_istore (L' := [some (.ref m), some (.long p), none, some (.int n), some (.int (b2i (inn n 0 8))), some (.int 0)]) C d_Mo_word_10 (by decide) rfl ?_
  have jn : ∀ x4 : Int32, x4 = b2i (inn n 0 8 && decide (∀ i, i < tn n → is_s (sgn p (tn n) i) = true)) → mj G 6 0 0 M 41 [some (.ref m), some (.long p), none, some (.int n), some (.int x4), none] [] := by
    intro x4 hx4
    subst hx4
    refine m_aload_n C d_Mo_word_41 rfl rfl ?_
    refine m_bipush (v := 10) C d_Mo_word_42 (by decide) ?_
    refine m_iconst (v := 1) C d_Mo_word_44 (by decide) ?_
    refine m_iload C d_Mo_word_45 rfl ?_
    refine m_iconst (v := 1) C d_Mo_word_47 (by decide) ?_
    refine m_aload_n C d_Mo_word_48 rfl rfl ?_
    refine m_get C fg_Mo_155 d_Mo_word_49 hM.1 rfl ?_
    refine m_iload_n C d_Mo_word_52 rfl rfl ?_
    refine m_iadd C d_Mo_word_53 ?_
    refine m_bipush (v := 40) C d_Mo_word_54 (by decide) ?_
    have jns : ∀ xs : Int32, xs = b2i (decide (R 26 0 + n ≤ 40)) → mj G 6 0 0 M 64 [some (.ref m), some (.long p), none, some (.int n), some (.int (b2i (inn n 0 8 && decide (∀ i, i < tn n → is_s (sgn p (tn n) i) = true)))), none] [.int xs, .int 1, .int (b2i (inn n 0 8 && decide (∀ i, i < tn n → is_s (sgn p (tn n) i) = true))), .int 1, .int 10, .ref m] := by
      intro xs hxs
      subst hxs
      refine m_callV (ci := 10) C d_Mo_word_64 mw_Mo_110 mi_Mo_goes se_Mo_goes rfl (ct_Mo_goes _ _ _ R m mr 10 (true) ((inn n 0 8 && decide (∀ i, i < tn n → is_s (sgn p (tn n) i) = true))) (true) (decide (R 26 0 + n ≤ 40)) M hM) (fun q h => hw q h) rfl rfl (Nat.le_of_ble_eq_true rfl) hM.1 (by decide) (fun v9 Mg hp g5 g6 => ?_)
      obtain ⟨rfl, hMg⟩ := hp
      show mj G 6 0 0 Mg 67 [some (.ref m), some (.long p), none, some (.int n), some (.int (b2i (inn n 0 8 && decide (∀ i, i < tn n → is_s (sgn p (tn n) i) = true)))), none] [.int (b2i (decide ((gbN (true) ((inn n 0 8 && decide (∀ i, i < tn n → is_s (sgn p (tn n) i) = true))) (true) (decide (R 26 0 + n ≤ 40))) = 0)))]
      refine m_if_ne (tgt := 72) C d_Mo_word_67 (by decide) (fun hgo => ?_) (fun hgo => ?_)
      · rw [b2i_ne0, decide_eq_true_eq] at hgo
        have hMg0 : RepM (uR R 0 0 0) m mr Mg := by rw [hgo] at hMg; exact hMg
        obtain ⟨hp9, hq9, hr9, hs9⟩ := gbN_0 hgo
        obtain ⟨Rg, hRg⟩ : ∃ Rg, Rg = uR R 0 0 0 := ⟨_, rfl⟩
        have hg : ∀ f, f ≠ 0 → Rg f = R f := fun f hf => by rw [hRg, uR_n hf]
        have hMr : RepM Rg m mr Mg := by rw [hRg]; exact hMg0
        rw [Bool.and_eq_true, decide_eq_true_eq] at hq9
        obtain ⟨n8, hn8, rfl, htn⟩ := inn08 hq9.1
        rw [decide_eq_true_eq, hWd, nI_add, show (40 : Int32) = nI 40 from rfl, nI_leI (by omega) (by decide)] at hs9
        have em : nI n8 = 0 ↔ n8 = 0 := nI_eq (b := 0) (by omega) (by decide)
        have go : ∀ (W9 : Nat) (Ma : ma_H) (Ra : mR), W9 + n8 ≤ 40 → (∀ f, f ≠ 0 → f ≠ 26 → Ra f = R f) → Ra 26 0 = nI W9 → (RepM (uR (uR (setF Ra 27 (fa (R 27) W9 p n8 n8)) 26 0 (nI (W9 + n8))) 28 0 0) m mr = RepM (uR (uR (setF (uR R 0 0 0) 27 (fa (R 27) (if n8 = 0 then 0 else nW R) p n8 n8)) 26 0 (nI (if n8 = 0 then 0 else nW R + n8))) 28 0 0) m mr) → (nI (W9 + n8) = nI (if n8 = 0 then 0 else nW R + n8)) → RepM Ra m mr Ma → mj G 6 0 0 Ma 81 [some (.ref m), some (.long p), none, some (.int (nI n8)), some (.int (b2i (inn (nI n8) 0 8 && decide (∀ i, i < tn (nI n8) → is_s (sgn p (tn (nI n8)) i) = true)))), none] [] := by
          intro W9 Ma Ra hW9 ha h26 hRR hvv hMa
          refine m_iconst (v := 0) C d_Mo_word_81 (by decide) ?_
          refine m_istore (L' := [some (.ref m), some (.long p), none, some (.int (nI n8)), some (.int (b2i (inn (nI n8) 0 8 && decide (∀ i, i < tn (nI n8) → is_s (sgn p (tn (nI n8)) i) = true)))), some (.int 0)]) C d_Mo_word_82 (by decide) rfl ?_
          have loop : ∀ (lq9 : Nat) (M2 : ma_H) (i : Nat), n8 - i = lq9 → i ≤ n8 → RepM (setF Ra 27 (fa (R 27) W9 p n8 i)) m mr M2 → mj G 6 0 0 M2 84 [some (.ref m), some (.long p), none, some (.int (nI n8)), some (.int (b2i (inn (nI n8) 0 8 && decide (∀ i, i < tn (nI n8) → is_s (sgn p (tn (nI n8)) i) = true)))), some (.int (nI i))] [] := by
            intro lq9
            induction lq9 using Nat.strongRecOn with
            | ind lq9 ih =>
              intro M2 i hr hi8 hM2
              have q26 : (setF Ra 27 (fa (R 27) W9 p n8 i)) 26 0 = nI W9 := by rw [setF_n (by decide)]; exact h26
              refine m_iload C d_Mo_word_84 rfl ?_
              refine m_iload_n C d_Mo_word_86 rfl rfl ?_
              have e1 : nI n8 ≤ nI i ↔ n8 ≤ i := nI_leI (by omega) (by omega)
              refine m_icmp_ge (tgt := 115) C d_Mo_word_87 (by decide) (fun h9 => ?_) (fun h9 => ?_)
              · rw [e1] at h9
                obtain rfl : n8 = i := by omega
                refine m_aload_n C d_Mo_word_115 rfl rfl ?_
                refine m_aload_n C d_Mo_word_116 rfl rfl ?_
                refine m_get C fg_Mo_155 d_Mo_word_117 hM2.1 rfl ?_
                rw [q26]
                refine m_iload_n C d_Mo_word_120 rfl rfl ?_
                refine m_iadd C d_Mo_word_121 ?_
                rw [nI_add]
                refine m_putE C fp_Mo_155 d_Mo_word_122 (hw _ (Or.inl rfl)) hM2.1 rfl rfl (fun M3 M3a9 M3o => ?_)
                obtain ⟨R3, hR3⟩ : ∃ R3, R3 = uR ((setF Ra 27 (fa (R 27) W9 p n8 n8))) 26 0 ((nI (W9 + n8))) := ⟨_, rfl⟩
                have hM3 : RepM R3 m mr M3 := by rw [hR3]; exact hM2.put26 M3a9 M3o
                refine m_aload_n C d_Mo_word_125 rfl rfl ?_
                refine m_iconst (v := 0) C d_Mo_word_126 (by decide) ?_
                refine m_putE C fp_Mo_114 d_Mo_word_127 (hw _ (Or.inl rfl)) hM3.1 rfl rfl (fun M4 M4a9 M4o => ?_)
                obtain ⟨R4, hR4⟩ : ∃ R4, R4 = uR R3 28 0 0 := ⟨_, rfl⟩
                have hM4 : RepM R4 m mr M4 := by rw [hR4]; exact hM3.put28 M4a9 M4o
                refine m_aload_n C d_Mo_word_130 rfl rfl ?_
                refine m_get C fg_Mo_155 d_Mo_word_131 hM4.1 rfl ?_
                rw [show R4 26 0 = nI (W9 + n8) by rw [hR4, uR_n (by decide), hR3, uR_s, fu_s], hvv]
                exact Rt _ _ _ _ _ _ (by decide) (by decide) d_Mo_word_134 (⟨fun _ => ⟨by rw [htn], by rw [htn, ← congrFun hRR, ← hR3, ← hR4]; exact hM4⟩, fun z => absurd hgo z⟩)
              · rw [e1] at h9
                refine m_aload_n C d_Mo_word_90 rfl rfl ?_
                refine m_get C fg_Mo_77 d_Mo_word_91 hM2.1 rfl ?_
                refine m_aload_n C d_Mo_word_94 rfl rfl ?_
                refine m_get C fg_Mo_155 d_Mo_word_95 hM2.1 rfl ?_
                rw [q26]
                refine m_iload C d_Mo_word_98 rfl ?_
                refine m_iadd C d_Mo_word_100 ?_
                rw [nI_add]
                refine m_lload_n C d_Mo_word_101 rfl rfl ?_
                refine m_iload_n C d_Mo_word_102 rfl rfl ?_
                refine m_iload C d_Mo_word_103 rfl ?_
                refine m_callS C d_Mo_word_105 mw_Mo_106 mst_Mo_byteOf (ct_Mo_byteOf _ _ _ p n8 i hn8 (by omega) M2) (fun _ h => h.elim) rfl rfl (Nat.le_of_ble_eq_true rfl) (by decide) (fun v9 M9 hp h5 h6 => ?_)
                obtain ⟨rfl, hM9⟩ := hp; rw [hM9]
                show mj G 6 0 0 M2 108 [some (.ref m), some (.long p), none, some (.int (nI n8)), some (.int (b2i (inn (nI n8) 0 8 && decide (∀ i, i < tn (nI n8) → is_s (sgn p (tn (nI n8)) i) = true)))), some (.int (nI i))] [.int (sgn p n8 i), .int (nI (W9 + i)), .ref (mr 27)]
                refine m_iastE C d_Mo_word_108 (hw _ (Or.inr ⟨27, by decide, rfl⟩)) (hM2.a27) kt_int (nI_pos (by omega)) (by rw [nI_clamp (by omega), arrL_len]; omega) (fun M3 M3a9 M3o => ?_)
                rw [nI_clamp (by omega), arrL_set] at M3a9
                obtain ⟨R3, hR3⟩ : ∃ R3, R3 = uR ((setF Ra 27 (fa (R 27) W9 p n8 i))) 27 (W9 + i) ((sgn p n8 i)) := ⟨_, rfl⟩
                have hM3 : RepM R3 m mr M3 := by rw [hR3]; exact hM2.set (k := 27) (by decide) (by decide) M3a9 M3o
                refine m_iinc (v := (nI (i + 1))) (L' := [some (.ref m), some (.long p), none, some (.int (nI n8)), some (.int (b2i (inn (nI n8) 0 8 && decide (∀ i, i < tn (nI n8) → is_s (sgn p (tn (nI n8)) i) = true)))), some (.int (nI (i + 1)))]) C d_Mo_word_109 rfl (nI_1 i) (by decide) rfl ?_
                refine m_goto (tgt := 84) C d_Mo_word_112 (by decide) ?_
                exact ih (n8 - (i + 1)) (by omega) M3 (i + 1) rfl (by omega) (by rw [← fa_s, ← uR_setF, ← hR3]; exact hM3)
          exact loop _ Ma 0 rfl (Nat.zero_le _) (by rw [fa_0, ← ha 27 (by decide) (by decide), setF_id]; exact hMa)
        refine m_iload_n C d_Mo_word_72 rfl rfl ?_
        refine m_if_ne (tgt := 81) C d_Mo_word_73 (by decide) (fun h7 => ?_) (fun h7 => ?_)
        · rw [em] at h7
          exact go (nW R) Mg Rg hs9 (fun f h1 h2 => hg f h1) (by rw [hg 26 (by decide)]; exact hWd) (by rw [if_neg h7, if_neg h7, ← hRg]) (by rw [if_neg h7]) hMr
        · rw [em] at h7
          refine m_aload_n C d_Mo_word_76 rfl rfl ?_
          refine m_iconst (v := 0) C d_Mo_word_77 (by decide) ?_
          refine m_putE C fp_Mo_155 d_Mo_word_78 (hw _ (Or.inl rfl)) hMr.1 rfl rfl (fun M1 M1a9 M1o => ?_)
          obtain ⟨R1, hR1⟩ : ∃ R1, R1 = uR Rg 26 0 0 := ⟨_, rfl⟩
          have hM1 : RepM R1 m mr M1 := by rw [hR1]; exact hMr.put26 M1a9 M1o
          refine go 0 M1 R1 (by omega) (fun f h1 h2 => by rw [hR1, uR_n h2]; exact hg f h1) (by rw [hR1, uR_s, fu_s]; rfl) ?_ (by rw [if_pos h7, h7]) hM1
          rw [if_pos h7, if_pos h7, h7, hR1, ← hRg]
          congr 2
          funext k i
          by_cases h1 : k = 26
          · subst h1; rw [uR_s, uR_s, setF_n (by decide), setF_n (by decide), uR_s]
            by_cases h2 : i = 0
            · subst h2; rw [fu_s, fu_s]
            · rw [fu_n h2, fu_n h2, fu_n h2]
          · rw [uR_n h1, uR_n h1]
            by_cases h2 : k = 27
            · subst h2; rw [setF_s, setF_s]
            · rw [setF_n h2, setF_n h2, uR_n h1]
      · rw [b2i_eq0, decide_eq_false_iff_not] at hgo
        refine m_iconst (v := 0) C d_Mo_word_70 (by decide) ?_
        exact Rt _ _ _ _ _ _ (by decide) (by decide) d_Mo_word_71 (⟨fun z => absurd z hgo, fun _ => ⟨rfl, hMg⟩⟩)
    refine m_icmp_gt (tgt := 63) C d_Mo_word_56 (by decide) (fun h9 => ?_) (fun h9 => ?_)
    · refine m_iconst (v := 0) C d_Mo_word_63 (by decide) ?_
      exact jns _ (by rw [decide_eq_false (Int32.not_le.mpr h9)]; rfl)
    · refine m_iconst (v := 1) C d_Mo_word_59 (by decide) ?_
      refine m_goto (tgt := 64) C d_Mo_word_60 (by decide) ?_
      exact jns _ (by rw [decide_eq_true (Int32.not_lt.mp h9)]; rfl)
  by_cases hin : inn n 0 8 = true
  · obtain ⟨n8, hn8, hnn, htn⟩ := inn08 hin
    subst hnn
    have h00 : b2i (inn (nI n8) 0 8) = b2i true := by rw [hin]
    rw [h00]
    have loop : ∀ (lq9 : Nat) (i : Nat) (g : Bool), n8 - i = lq9 → i ≤ n8 → g = decide (∀ j, j < i → is_s (sgn p n8 j) = true) → (g = false → ∃ j, j < n8 ∧ is_s (sgn p n8 j) = false) → mj G 6 0 0 M 12 [some (.ref m), some (.long p), none, some (.int (nI n8)), some (.int (b2i g)), some (.int (nI i))] [] := by
      intro lq9
      induction lq9 using Nat.strongRecOn with
      | ind lq9 ih =>
        intro i g hr hi8 hgd hgf
        refine m_iload C d_Mo_word_12 rfl ?_
        refine m_iload_n C d_Mo_word_14 rfl rfl ?_
        have e1 : nI n8 ≤ nI i ↔ n8 ≤ i := nI_leI (by omega) (by omega)
        refine m_icmp_ge (tgt := 41) C d_Mo_word_15 (by decide) (fun h9 => ?_) (fun h9 => ?_)
        · rw [e1] at h9
          obtain rfl : n8 = i := by omega
          exact mj_L (fun q v hv => by rcases q with _ | _ | _ | _ | _ | _ | q <;> first | exact hv | exact absurd (Option.some.inj hv) (by simp)) (jn _ (by rw [htn, hin, hgd]; rfl))
        · rw [e1] at h9
          refine m_iload C d_Mo_word_18 rfl ?_
          refine m_if_eq (tgt := 41) C d_Mo_word_20 (by decide) (fun h8 => ?_) (fun h8 => ?_)
          · rw [b2i_eq0] at h8
            obtain ⟨j, hj1, hj2⟩ := hgf h8
            have h6 : ¬ ∀ i, i < n8 → is_s (sgn p n8 i) = true := fun q => by rw [q j hj1] at hj2; cases hj2
            exact mj_L (fun q v hv => by rcases q with _ | _ | _ | _ | _ | _ | q <;> first | exact hv | exact absurd (Option.some.inj hv) (by simp)) (jn _ (by rw [htn, h8, decide_eq_false h6, Bool.and_false]))
          · rw [b2i_eq0, Bool.not_eq_false] at h8
            refine m_lload_n C d_Mo_word_23 rfl rfl ?_
            refine m_iload_n C d_Mo_word_24 rfl rfl ?_
            refine m_iload C d_Mo_word_25 rfl ?_
            refine m_callS C d_Mo_word_27 mw_Mo_106 mst_Mo_byteOf (ct_Mo_byteOf _ _ _ p n8 i hn8 (by omega) M) (fun _ h => h.elim) rfl rfl (Nat.le_of_ble_eq_true rfl) (by decide) (fun v9 M9 hp h5 h6 => ?_)
            obtain ⟨rfl, hM9⟩ := hp; rw [hM9]
            show mj G 6 0 0 M 30 [some (.ref m), some (.long p), none, some (.int (nI n8)), some (.int (b2i g)), some (.int (nI i))] [.int (sgn p n8 i)]
            refine m_callS C d_Mo_word_30 mw_Mo_152 mst_Mo_isSign (ct_Mo_isSign _ _ _ (sgn p n8 i) M) (fun _ h => h.elim) rfl rfl (Nat.le_of_ble_eq_true rfl) (by decide) (fun v9 M9 hp h5 h6 => ?_)
            obtain ⟨rfl, hM9⟩ := hp; rw [hM9]
            show mj G 6 0 0 M 33 [some (.ref m), some (.long p), none, some (.int (nI n8)), some (.int (b2i g)), some (.int (nI i))] [.int (b2i (is_s (sgn p n8 i)))]
            refine m_istore (L' := [some (.ref m), some (.long p), none, some (.int (nI n8)), some (.int (b2i (is_s (sgn p n8 i)))), some (.int (nI i))]) C d_Mo_word_33 (by decide) rfl ?_
            refine m_iinc (v := (nI (i + 1))) (L' := [some (.ref m), some (.long p), none, some (.int (nI n8)), some (.int (b2i (is_s (sgn p n8 i)))), some (.int (nI (i + 1)))]) C d_Mo_word_35 rfl (nI_1 i) (by decide) rfl ?_
            refine m_goto (tgt := 12) C d_Mo_word_38 (by decide) ?_
            refine ih (n8 - (i + 1)) (by omega) (i + 1) (is_s (sgn p n8 i)) rfl (by omega) ?_ (fun h => ⟨i, by omega, h⟩)
            rw [h8] at hgd
            have h6 := of_decide_eq_true hgd.symm
            cases h5 : is_s (sgn p n8 i) with
            | true => exact (decide_eq_true (fun j hj => by by_cases q : j = i; rw [q]; exact h5; exact h6 j (by omega))).symm
            | false => exact (decide_eq_false (fun q => by rw [q i (by omega)] at h5; cases h5)).symm
    exact loop _ 0 true rfl (Nat.zero_le _) (decide_eq_true (fun j h => absurd h (by omega))).symm (fun h => by cases h)
  · rw [Bool.not_eq_true] at hin
    refine m_iload C d_Mo_word_12 rfl ?_
    refine m_iload_n C d_Mo_word_14 rfl rfl ?_
    refine m_icmp_ge (tgt := 41) C d_Mo_word_15 (by decide) (fun h9 => ?_) (fun h9 => ?_)
    · exact mj_L (fun q v hv => by rcases q with _ | _ | _ | _ | _ | _ | q <;> first | exact hv | exact absurd (Option.some.inj hv) (by simp)) (jn _ (by rw [hin]; rfl))
    · refine m_iload C d_Mo_word_18 rfl ?_
      refine m_if_eq (tgt := 41) C d_Mo_word_20 (by decide) (fun h8 => ?_) (fun h8 => ?_)
      · exact mj_L (fun q v hv => by rcases q with _ | _ | _ | _ | _ | _ | q <;> first | exact hv | exact absurd (Option.some.inj hv) (by simp)) (jn _ (by rw [hin]; rfl))
      · exact absurd (by rw [hin]; rfl) h8
