/-! ===== the model's place ===== -/
theorem isH_cg {R R' : mR} (h : ∀ f, f ≠ 0 → R' f = R f) (s : Nat) (x : Int32) : isH R' s x = isH R s x := by
  simp only [isH, h 7 (by decide), h 8 (by decide), h 9 (by decide), h 10 (by decide)]
theorem nhM_cg {R R' : mR} (h : ∀ f, f ≠ 0 → R' f = R f) (s : Nat) (x : Int32) : ∀ f d, nhM R' s x f d = nhM R s x f d := by
  intro f
  induction f with
  | zero => intro d; rfl
  | succ f ih => intro d; rw [nhM, nhM, isH_cg h, isH_cg h, ih]
theorem nhR_cg {R R' : mR} (h : ∀ f, f ≠ 0 → R' f = R f) (s : Nat) (x : Int32) : nhR R' s x = nhR R s x := by
  rw [nhR, nhR, h 7 (by decide), nhM_cg h]

set_option maxHeartbeats 4000000 in
set_option maxRecDepth 100000 in
theorem ct_Mo_place (l : Launch) (D : ma_D) (s0 : State) (R : mR) (m : Nat) (mr : Nat → Nat) (i w : Int32) (M : ma_H) (hM : RepM R m mr M) (hwf : WfS R) : Ct l D s0 y_Mo_place c_Mo_place 7 (some .int) 3 0 0 68 [.ref m, .int i, .int w] M (fun q => q = m ∨ ∃ k, mln k ≠ 0 ∧ q = mr k) (fun v M' => ((gbN (inn i 0 (R 28 0 - 1)) (inn w 0 5) (true) (true)) = 0 → v = some (.int (plM R (tn (R 29 (tn i))) (tn w))) ∧ RepM (uR R 0 0 0) m mr M') ∧ (¬ (gbN (inn i 0 (R 28 0 - 1)) (inn w 0 5) (true) (true)) = 0 → v = some (.int 0) ∧ RepM (uR R 0 0 (nI (thN 3 (gbN (inn i 0 (R 28 0 - 1)) (inn w 0 5) (true) (true))))) m mr M')) := by
  refine Ct_i 4 [some (.ref m), some (.int i), some (.int w), none, none, none, none] (by decide +kernel) (Nat.le_of_ble_eq_true rfl) rfl ?_
  intro G e1 e2 e3 C hw Rt
  subst e1; subst e2; subst e3
  obtain ⟨⟨⟨hbS, hbL, hbC, hbW, hbF⟩, hbi⟩, ⟨hS, hLm, hCo, hWd, hFn⟩, hst, hln, hmk, hz, hlt, hxy, hrg, hpl, hak, hcn⟩ := id hwf
  refine m_aload_n C d_Mo_place_0 rfl rfl ?_
  refine m_iconst (v := 3) C d_Mo_place_1 (by decide) ?_
  refine m_iload_n C d_Mo_place_2 rfl rfl ?_
  refine m_iconst (v := 0) C d_Mo_place_3 (by decide) ?_
  refine m_aload_n C d_Mo_place_4 rfl rfl ?_
  refine m_get C fg_Mo_114 d_Mo_place_5 hM.1 rfl ?_
  refine m_iconst (v := 1) C d_Mo_place_8 (by decide) ?_
  refine m_isub C d_Mo_place_9 ?_
  refine m_callS C d_Mo_place_10 mw_Mo_102 mst_Mo_in (ct_Mo_in _ _ _ i 0 (R 28 0 - 1) M) (fun _ h => h.elim) rfl rfl (Nat.le_of_ble_eq_true rfl) (by decide) (fun v9 M9 hp h5 h6 => ?_)
  obtain ⟨rfl, hM9⟩ := hp; rw [hM9]
  show mj G 7 0 0 M 13 [some (.ref m), some (.int i), some (.int w), none, none, none, none] [.int (b2i (inn i 0 (R 28 0 - 1))), .int 3, .ref m]
  refine m_iload_n C d_Mo_place_13 rfl rfl ?_
  refine m_iconst (v := 0) C d_Mo_place_14 (by decide) ?_
  refine m_iconst (v := 5) C d_Mo_place_15 (by decide) ?_
  refine m_callS C d_Mo_place_16 mw_Mo_102 mst_Mo_in (ct_Mo_in _ _ _ w 0 5 M) (fun _ h => h.elim) rfl rfl (Nat.le_of_ble_eq_true rfl) (by decide) (fun v9 M9 hp h5 h6 => ?_)
  obtain ⟨rfl, hM9⟩ := hp; rw [hM9]
  show mj G 7 0 0 M 19 [some (.ref m), some (.int i), some (.int w), none, none, none, none] [.int (b2i (inn w 0 5)), .int (b2i (inn i 0 (R 28 0 - 1))), .int 3, .ref m]
  refine m_iconst (v := 1) C d_Mo_place_19 (by decide) ?_
  refine m_iconst (v := 1) C d_Mo_place_20 (by decide) ?_
  refine m_callV (ci := 10) C d_Mo_place_21 mw_Mo_110 mi_Mo_goes se_Mo_goes rfl (ct_Mo_goes _ _ _ R m mr 3 (inn i 0 (R 28 0 - 1)) (inn w 0 5) (true) (true) M hM) (fun q h => hw q h) rfl rfl (Nat.le_of_ble_eq_true rfl) hM.1 (by decide) (fun v9 Mg hp g5 g6 => ?_)
  obtain ⟨rfl, hMg⟩ := hp
  show mj G 7 0 0 Mg 24 [some (.ref m), some (.int i), some (.int w), none, none, none, none] [.int (b2i (decide ((gbN (inn i 0 (R 28 0 - 1)) (inn w 0 5) (true) (true)) = 0)))]
  refine m_if_ne (tgt := 29) C d_Mo_place_24 (by decide) (fun hgo => ?_) (fun hgo => ?_)
  · rw [b2i_ne0, decide_eq_true_eq] at hgo
    have hMg0 : RepM (uR R 0 0 0) m mr Mg := by rw [hgo] at hMg; exact hMg
    obtain ⟨hp9, hq9, hr9, hs9⟩ := gbN_0 hgo
    obtain ⟨Rg, hRg⟩ : ∃ Rg, Rg = uR R 0 0 0 := ⟨_, rfl⟩
    have hg : ∀ f, f ≠ 0 → Rg f = R f := fun f hf => by rw [hRg, uR_n hf]
    have hMr : RepM Rg m mr Mg := by rw [hRg]; exact hMg0
    obtain ⟨hi0, hi1⟩ := (inn_cnt hFn (by omega) i).mp hp9
    obtain ⟨i9, hi9, rfl⟩ := nI_of (Int32.not_lt.mpr hi0)
    have hi2 : i9 < nF R := (nI_ltI hi9 (by omega)).mp hi1
    obtain ⟨w9, rfl, _, hw9⟩ := inn_nat (b := 0) (c := 5) (by decide) (by decide) hq9
    have eti : tn (nI i9) = i9 := tn_nI hi9
    have etw : tn (nI w9) = w9 := tn_nI (by omega)
    have hwg : WfS Rg := WfS_cg hg hwf
    have q1 : Rg 1 = R 1 := hg 1 (by decide)
    have q2 : Rg 2 = R 2 := hg 2 (by decide)
    have q3 : Rg 3 = R 3 := hg 3 (by decide)
    have q17 : Rg 17 = R 17 := hg 17 (by decide)
    have q18 : Rg 18 = R 18 := hg 18 (by decide)
    have q28 : Rg 28 = R 28 := hg 28 (by decide)
    have q29 : Rg 29 = R 29 := hg 29 (by decide)
    have q30 : Rg 30 = R 30 := hg 30 (by decide)
    have q31 : Rg 31 = R 31 := hg 31 (by decide)
    have eS : nS Rg = nS R := by rw [nS, nS, q1]
    obtain ⟨p, hp⟩ : ∃ p, p = tn (R 29 i9) := ⟨_, rfl⟩
    obtain ⟨h29, hpl9⟩ := hpl i9 hi2
    rw [← hp] at h29 hpl9
    refine m_aload_n C d_Mo_place_29 rfl rfl ?_
    refine m_get C fg_Mo_80 d_Mo_place_30 hMr.1 rfl ?_
    refine m_iload_n C d_Mo_place_33 rfl rfl ?_
    refine m_iald (v := .int ((Rg 29) i9)) C d_Mo_place_34 (hMr.a29) kt_int (nI_pos (by omega)) (by rw [nI_clamp (by omega)]; exact arrL_get (by omega)) ?_
    rw [q29, h29]
    refine m_istore_n (L' := [some (.ref m), some (.int (nI i9)), some (.int (nI w9)), some (.int (nI p)), none, none, none]) C d_Mo_place_35 rfl (by decide) rfl ?_
    refine m_iload_n C d_Mo_place_36 rfl rfl ?_
    refine m_aload_n C d_Mo_place_37 rfl rfl ?_
    refine m_get C fg_Mo_99 d_Mo_place_38 hMr.1 rfl ?_
    rw [q1, hS]
    have e1 : nI (nS R) ≤ nI p ↔ nS R ≤ p := nI_leI (by omega) (by omega)
    have w_0 : nI w9 = 0 ↔ w9 = 0 := by rw [show (0 : Int32) = nI 0 from rfl]; exact nI_eq (by omega) (by decide)
    have w_1 : nI w9 = 1 ↔ w9 = 1 := by rw [show (1 : Int32) = nI 1 from rfl]; exact nI_eq (by omega) (by decide)
    have w_2 : nI w9 = 2 ↔ w9 = 2 := by rw [show (2 : Int32) = nI 2 from rfl]; exact nI_eq (by omega) (by decide)
    have w_3 : nI w9 = 3 ↔ w9 = 3 := by rw [show (3 : Int32) = nI 3 from rfl]; exact nI_eq (by omega) (by decide)
    have w_4 : nI w9 = 4 ↔ w9 = 4 := by rw [show (4 : Int32) = nI 4 from rfl]; exact nI_eq (by omega) (by decide)
    have w_5 : nI w9 = 5 ↔ w9 = 5 := by rw [show (5 : Int32) = nI 5 from rfl]; exact nI_eq (by omega) (by decide)
    refine m_icmp_ge (tgt := 48) C d_Mo_place_41 (by decide) (fun h9 => ?_) (fun h9 => ?_)
    · rw [e1] at h9
      obtain ⟨mm, hmm⟩ : ∃ mm, mm = p - nS R := ⟨_, rfl⟩
      have hmL : mm < nL R := by omega
      obtain ⟨g, hgS, h17⟩ := (hmk mm hmL).2
      have h17t : tn (R 17 mm) = g := by rw [h17]; exact tn_nI (by omega)
      refine m_iload_n C d_Mo_place_48 rfl rfl ?_
      refine m_aload_n C d_Mo_place_49 rfl rfl ?_
      refine m_get C fg_Mo_99 d_Mo_place_50 hMr.1 rfl ?_
      rw [q1, hS]
      refine m_isub C d_Mo_place_53 ?_
      rw [pk_sub h9, ← hmm]
      refine m_istore (L' := [some (.ref m), some (.int (nI i9)), some (.int (nI w9)), some (.int (nI p)), some (.int (nI mm)), none, none]) C d_Mo_place_54 (by decide) rfl ?_
      refine m_iload C d_Mo_place_56 rfl ?_
      refine m_if_ge (tgt := 65) C d_Mo_place_58 (by decide) (fun h8 => ?_) (fun h8 => ?_)
      · refine m_aload_n C d_Mo_place_65 rfl rfl ?_
        refine m_get C fg_Mo_53 d_Mo_place_66 hMr.1 rfl ?_
        refine m_iload C d_Mo_place_69 rfl ?_
        refine m_iald (v := .int ((Rg 17) mm)) C d_Mo_place_71 (hMr.a17) kt_int (nI_pos (by omega)) (by rw [nI_clamp (by omega)]; exact arrL_get (by omega)) ?_
        rw [q17, h17]
        refine m_istore (L' := [some (.ref m), some (.int (nI i9)), some (.int (nI w9)), some (.int (nI p)), some (.int (nI mm)), some (.int (nI g)), none]) C d_Mo_place_72 (by decide) rfl ?_
        refine m_iload C d_Mo_place_74 rfl ?_
        refine m_if_ge (tgt := 88) C d_Mo_place_76 (by decide) (fun h7 => ?_) (fun h7 => ?_)
        · refine m_iconst (v := 3) C d_Mo_place_88 (by decide) ?_
          refine m_istore (L' := [some (.ref m), some (.int (nI i9)), some (.int (nI w9)), some (.int (nI p)), some (.int (nI mm)), some (.int (nI g)), some (.int 3)]) C d_Mo_place_89 (by decide) rfl ?_
          refine m_iload_n C d_Mo_place_91 rfl rfl ?_
          refine m_iconst (v := 1) C d_Mo_place_92 (by decide) ?_
          refine m_icmp_ne (tgt := 132) C d_Mo_place_93 (by decide) (fun h8 => ?_) (fun h8 => ?_)
          · rw [w_1] at h8
            refine m_iload_n C d_Mo_place_132 rfl rfl ?_
            refine m_if_ne (tgt := 141) C d_Mo_place_133 (by decide) (fun h7 => ?_) (fun h7 => ?_)
            · have h70 : ¬ w9 = 0 := fun z => h7 (by rw [z]; rfl)
              refine m_iload_n C d_Mo_place_141 rfl rfl ?_
              refine m_iconst (v := 2) C d_Mo_place_142 (by decide) ?_
              refine m_icmp_ne (tgt := 168) C d_Mo_place_143 (by decide) (fun h6 => ?_) (fun h6 => ?_)
              · rw [w_2] at h6
                refine m_iload_n C d_Mo_place_168 rfl rfl ?_
                refine m_iconst (v := 3) C d_Mo_place_169 (by decide) ?_
                refine m_icmp_ne (tgt := 182) C d_Mo_place_170 (by decide) (fun h5 => ?_) (fun h5 => ?_)
                · rw [w_3] at h5
                  refine m_iload_n C d_Mo_place_182 rfl rfl ?_
                  refine m_iconst (v := 4) C d_Mo_place_183 (by decide) ?_
                  refine m_icmp_ne (tgt := 197) C d_Mo_place_184 (by decide) (fun h4 => ?_) (fun h4 => ?_)
                  · rw [w_4] at h4
                    refine m_iload C d_Mo_place_197 rfl ?_
                    exact Rt _ _ _ _ _ _ (by decide) (by decide) d_Mo_place_199 (⟨fun _ => ⟨by rw [eti, etw, ← hp]; exact congrArg (fun z => some (Value.int z)) (Eq.symm (by rw [plM, if_neg (by omega), ← hmm, tlM, if_neg (by omega), if_neg (by omega), if_neg (by omega), if_neg (by omega), if_neg (by omega)])), by rw [← hRg]; exact hMr⟩, fun z => absurd hgo z⟩)
                  · rw [w_4] at h4
                    refine m_aload_n C d_Mo_place_187 rfl rfl ?_
                    refine m_get C fg_Mo_7 d_Mo_place_188 hMr.1 rfl ?_
                    refine m_iload C d_Mo_place_191 rfl ?_
                    refine m_iald (v := .int ((Rg 2) g)) C d_Mo_place_193 (hMr.a2) kt_int (nI_pos (by omega)) (by rw [nI_clamp (by omega)]; exact arrL_get (by omega)) ?_
                    rw [q2]
                    refine m_goto (tgt := 199) C d_Mo_place_194 (by decide) ?_
                    exact Rt _ _ _ _ _ _ (by decide) (by decide) d_Mo_place_199 (⟨fun _ => ⟨by rw [eti, etw, ← hp]; exact congrArg (fun z => some (Value.int z)) (Eq.symm (by rw [plM, if_neg (by omega), ← hmm, tlM, if_neg (by omega), if_neg (by omega), if_neg (by omega), if_neg (by omega), if_pos h4, h17t])), by rw [← hRg]; exact hMr⟩, fun z => absurd hgo z⟩)
                · rw [w_3] at h5
                  refine m_aload_n C d_Mo_place_173 rfl rfl ?_
                  refine m_get C fg_Mo_83 d_Mo_place_174 hMr.1 rfl ?_
                  refine m_iload_n C d_Mo_place_177 rfl rfl ?_
                  refine m_iald (v := .int ((Rg 30) p)) C d_Mo_place_178 (hMr.a30) kt_int (nI_pos (by omega)) (by rw [nI_clamp (by omega)]; exact arrL_get (by omega)) ?_
                  rw [q30]
                  refine m_goto (tgt := 199) C d_Mo_place_179 (by decide) ?_
                  exact Rt _ _ _ _ _ _ (by decide) (by decide) d_Mo_place_199 (⟨fun _ => ⟨by rw [eti, etw, ← hp]; exact congrArg (fun z => some (Value.int z)) (Eq.symm (by rw [plM, if_neg (by omega), ← hmm, tlM, if_neg (by omega), if_neg (by omega), if_neg (by omega), if_pos h5])), by rw [← hRg]; exact hMr⟩, fun z => absurd hgo z⟩)
              · rw [w_2] at h6
                refine m_iload C d_Mo_place_146 rfl ?_
                refine m_aload_n C d_Mo_place_148 rfl rfl ?_
                refine m_get C fg_Mo_13 d_Mo_place_149 hMr.1 rfl ?_
                refine m_iload C d_Mo_place_152 rfl ?_
                refine m_zald (v := .int ((Rg 3) g)) C d_Mo_place_154 (hMr.a3) kt_bool (nI_pos (by omega)) (by rw [nI_clamp (by omega)]; exact arrL_get (by omega)) ?_
                rw [q3]
                refine m_if_eq (tgt := 163) C d_Mo_place_155 (by decide) (fun h5 => ?_) (fun h5 => ?_)
                · refine m_iconst (v := 0) C d_Mo_place_163 (by decide) ?_
                  refine m_iadd C d_Mo_place_164 ?_
                  refine m_goto (tgt := 199) C d_Mo_place_165 (by decide) ?_
                  exact Rt _ _ _ _ _ _ (by decide) (by decide) d_Mo_place_199 (⟨fun _ => ⟨by rw [eti, etw, ← hp]; exact congrArg (fun z => some (Value.int z)) (Eq.symm (by rw [plM, if_neg (by omega), ← hmm, tlM, if_neg (by omega), if_neg (by omega), if_pos h6, h17t, if_pos h5])), by rw [← hRg]; exact hMr⟩, fun z => absurd hgo z⟩)
                · refine m_bipush (v := 10) C d_Mo_place_158 (by decide) ?_
                  refine m_goto (tgt := 164) C d_Mo_place_160 (by decide) ?_
                  refine m_iadd C d_Mo_place_164 ?_
                  refine m_goto (tgt := 199) C d_Mo_place_165 (by decide) ?_
                  exact Rt _ _ _ _ _ _ (by decide) (by decide) d_Mo_place_199 (⟨fun _ => ⟨by rw [eti, etw, ← hp]; exact congrArg (fun z => some (Value.int z)) (Eq.symm (by rw [plM, if_neg (by omega), ← hmm, tlM, if_neg (by omega), if_neg (by omega), if_pos h6, h17t, if_neg h5])), by rw [← hRg]; exact hMr⟩, fun z => absurd hgo z⟩)
            · have h70 : w9 = 0 := w_0.mp h7
              refine m_iload C d_Mo_place_136 rfl ?_
              refine m_goto (tgt := 199) C d_Mo_place_138 (by decide) ?_
              exact Rt _ _ _ _ _ _ (by decide) (by decide) d_Mo_place_199 (⟨fun _ => ⟨by rw [eti, etw, ← hp]; exact congrArg (fun z => some (Value.int z)) (Eq.symm (by rw [plM, if_neg (by omega), ← hmm, tlM, if_pos h70, h17])), by rw [← hRg]; exact hMr⟩, fun z => absurd hgo z⟩)
          · have h81 : w9 = 1 := by first | exact w_1.mp h8 | exact w_1.mp (Classical.not_not.mp h8)
            refine m_iload C d_Mo_place_96 rfl ?_
            refine m_if_lt (tgt := 111) C d_Mo_place_98 (by decide) (fun h7 => ?_) (fun h7 => ?_)
            · exact absurd h7 (nI_pos (by omega))
            · refine m_aload_n C d_Mo_place_101 rfl rfl ?_
              refine m_get C fg_Mo_56 d_Mo_place_102 hMr.1 rfl ?_
              refine m_iload C d_Mo_place_105 rfl ?_
              refine m_iald (v := .int ((Rg 18) mm)) C d_Mo_place_107 (hMr.a18) kt_int (nI_pos (by omega)) (by rw [nI_clamp (by omega)]; exact arrL_get (by omega)) ?_
              rw [q18]
              refine m_goto (tgt := 131) C d_Mo_place_108 (by decide) ?_
              exact Rt _ _ _ _ _ _ (by decide) (by decide) d_Mo_place_131 (⟨fun _ => ⟨by rw [eti, etw, ← hp]; exact congrArg (fun z => some (Value.int z)) (Eq.symm (by rw [plM, if_neg (by omega), ← hmm, tlM, if_neg (by omega), if_pos h81])), by rw [← hRg]; exact hMr⟩, fun z => absurd hgo z⟩)
        · exact absurd (nI_pos' (by omega)) h7
      · exact absurd (nI_pos' (by omega)) h8
    · rw [e1] at h9
      have hpS : p < nS R := by omega
      refine m_iconst (v := (-1)) C d_Mo_place_44 (by decide) ?_
      refine m_goto (tgt := 54) C d_Mo_place_45 (by decide) ?_
      refine m_istore (L' := [some (.ref m), some (.int (nI i9)), some (.int (nI w9)), some (.int (nI p)), some (.int (-1)), none, none]) C d_Mo_place_54 (by decide) rfl ?_
      refine m_iload C d_Mo_place_56 rfl ?_
      refine m_if_ge (tgt := 65) C d_Mo_place_58 (by decide) (fun h8 => ?_) (fun h8 => ?_)
      · exact absurd h8 (by decide)
      · refine m_iload_n C d_Mo_place_61 rfl rfl ?_
        refine m_goto (tgt := 72) C d_Mo_place_62 (by decide) ?_
        refine m_istore (L' := [some (.ref m), some (.int (nI i9)), some (.int (nI w9)), some (.int (nI p)), some (.int (-1)), some (.int (nI p)), none]) C d_Mo_place_72 (by decide) rfl ?_
        refine m_iload C d_Mo_place_74 rfl ?_
        refine m_if_ge (tgt := 88) C d_Mo_place_76 (by decide) (fun h7 => ?_) (fun h7 => ?_)
        · exact absurd h7 (by decide)
        · refine m_aload_n C d_Mo_place_79 rfl rfl ?_
          refine m_iload C d_Mo_place_80 rfl ?_
          refine m_callV (ci := 10) C d_Mo_place_82 mw_Mo_187 mi_Mo_reason se_Mo_reason rfl (ct_Mo_reason _ _ _ Rg m mr p (by rw [eS]; exact hpS) Mg hMr hwg) (fun _ h => h.elim) rfl rfl (Nat.le_of_ble_eq_true rfl) hMr.1 (by decide) (fun v6 M6 hp6 h65 h66 => ?_)
          obtain ⟨rfl, hM6⟩ := hp6; rw [hM6]
          show mj G 7 0 0 Mg 85 [some (.ref m), some (.int (nI i9)), some (.int (nI w9)), some (.int (nI p)), some (.int (-1)), some (.int (nI p)), none] [.int (if Rg 31 0 = 0 then 2 else if isH Rg p (Rg 31 0) then 0 else 1)]
          rw [isH_cg hg p (Rg 31 0), q31]
          refine m_goto (tgt := 89) C d_Mo_place_85 (by decide) ?_
          refine m_istore (L' := [some (.ref m), some (.int (nI i9)), some (.int (nI w9)), some (.int (nI p)), some (.int (-1)), some (.int (nI p)), some (.int (if R 31 0 = 0 then 2 else if isH R p (R 31 0) then 0 else 1))]) C d_Mo_place_89 (by decide) rfl ?_
          refine m_iload_n C d_Mo_place_91 rfl rfl ?_
          refine m_iconst (v := 1) C d_Mo_place_92 (by decide) ?_
          refine m_icmp_ne (tgt := 132) C d_Mo_place_93 (by decide) (fun h8 => ?_) (fun h8 => ?_)
          · rw [w_1] at h8
            refine m_iload_n C d_Mo_place_132 rfl rfl ?_
            refine m_if_ne (tgt := 141) C d_Mo_place_133 (by decide) (fun h7 => ?_) (fun h7 => ?_)
            · have h70 : ¬ w9 = 0 := fun z => h7 (by rw [z]; rfl)
              refine m_iload_n C d_Mo_place_141 rfl rfl ?_
              refine m_iconst (v := 2) C d_Mo_place_142 (by decide) ?_
              refine m_icmp_ne (tgt := 168) C d_Mo_place_143 (by decide) (fun h6 => ?_) (fun h6 => ?_)
              · rw [w_2] at h6
                refine m_iload_n C d_Mo_place_168 rfl rfl ?_
                refine m_iconst (v := 3) C d_Mo_place_169 (by decide) ?_
                refine m_icmp_ne (tgt := 182) C d_Mo_place_170 (by decide) (fun h5 => ?_) (fun h5 => ?_)
                · rw [w_3] at h5
                  refine m_iload_n C d_Mo_place_182 rfl rfl ?_
                  refine m_iconst (v := 4) C d_Mo_place_183 (by decide) ?_
                  refine m_icmp_ne (tgt := 197) C d_Mo_place_184 (by decide) (fun h4 => ?_) (fun h4 => ?_)
                  · rw [w_4] at h4
                    refine m_iload C d_Mo_place_197 rfl ?_
                    exact Rt _ _ _ _ _ _ (by decide) (by decide) d_Mo_place_199 (⟨fun _ => ⟨by rw [eti, etw, ← hp]; exact congrArg (fun z => some (Value.int z)) (Eq.symm (by rw [plM, if_pos hpS, if_neg (by omega), if_neg (by omega), if_neg (by omega), if_neg (by omega), if_neg (by omega)])), by rw [← hRg]; exact hMr⟩, fun z => absurd hgo z⟩)
                  · rw [w_4] at h4
                    refine m_aload_n C d_Mo_place_187 rfl rfl ?_
                    refine m_get C fg_Mo_7 d_Mo_place_188 hMr.1 rfl ?_
                    refine m_iload C d_Mo_place_191 rfl ?_
                    refine m_iald (v := .int ((Rg 2) p)) C d_Mo_place_193 (hMr.a2) kt_int (nI_pos (by omega)) (by rw [nI_clamp (by omega)]; exact arrL_get (by omega)) ?_
                    rw [q2]
                    refine m_goto (tgt := 199) C d_Mo_place_194 (by decide) ?_
                    exact Rt _ _ _ _ _ _ (by decide) (by decide) d_Mo_place_199 (⟨fun _ => ⟨by rw [eti, etw, ← hp]; exact congrArg (fun z => some (Value.int z)) (Eq.symm (by rw [plM, if_pos hpS, if_neg (by omega), if_neg (by omega), if_neg (by omega), if_neg (by omega), if_pos h4])), by rw [← hRg]; exact hMr⟩, fun z => absurd hgo z⟩)
                · rw [w_3] at h5
                  refine m_aload_n C d_Mo_place_173 rfl rfl ?_
                  refine m_get C fg_Mo_83 d_Mo_place_174 hMr.1 rfl ?_
                  refine m_iload_n C d_Mo_place_177 rfl rfl ?_
                  refine m_iald (v := .int ((Rg 30) p)) C d_Mo_place_178 (hMr.a30) kt_int (nI_pos (by omega)) (by rw [nI_clamp (by omega)]; exact arrL_get (by omega)) ?_
                  rw [q30]
                  refine m_goto (tgt := 199) C d_Mo_place_179 (by decide) ?_
                  exact Rt _ _ _ _ _ _ (by decide) (by decide) d_Mo_place_199 (⟨fun _ => ⟨by rw [eti, etw, ← hp]; exact congrArg (fun z => some (Value.int z)) (Eq.symm (by rw [plM, if_pos hpS, if_neg (by omega), if_neg (by omega), if_neg (by omega), if_pos h5])), by rw [← hRg]; exact hMr⟩, fun z => absurd hgo z⟩)
              · rw [w_2] at h6
                refine m_iload C d_Mo_place_146 rfl ?_
                refine m_aload_n C d_Mo_place_148 rfl rfl ?_
                refine m_get C fg_Mo_13 d_Mo_place_149 hMr.1 rfl ?_
                refine m_iload C d_Mo_place_152 rfl ?_
                refine m_zald (v := .int ((Rg 3) p)) C d_Mo_place_154 (hMr.a3) kt_bool (nI_pos (by omega)) (by rw [nI_clamp (by omega)]; exact arrL_get (by omega)) ?_
                rw [q3]
                refine m_if_eq (tgt := 163) C d_Mo_place_155 (by decide) (fun h5 => ?_) (fun h5 => ?_)
                · refine m_iconst (v := 0) C d_Mo_place_163 (by decide) ?_
                  refine m_iadd C d_Mo_place_164 ?_
                  refine m_goto (tgt := 199) C d_Mo_place_165 (by decide) ?_
                  exact Rt _ _ _ _ _ _ (by decide) (by decide) d_Mo_place_199 (⟨fun _ => ⟨by rw [eti, etw, ← hp]; exact congrArg (fun z => some (Value.int z)) (Eq.symm (by rw [plM, if_pos hpS, if_neg (by omega), if_neg (by omega), if_pos h6, if_pos h5])), by rw [← hRg]; exact hMr⟩, fun z => absurd hgo z⟩)
                · refine m_bipush (v := 10) C d_Mo_place_158 (by decide) ?_
                  refine m_goto (tgt := 164) C d_Mo_place_160 (by decide) ?_
                  refine m_iadd C d_Mo_place_164 ?_
                  refine m_goto (tgt := 199) C d_Mo_place_165 (by decide) ?_
                  exact Rt _ _ _ _ _ _ (by decide) (by decide) d_Mo_place_199 (⟨fun _ => ⟨by rw [eti, etw, ← hp]; exact congrArg (fun z => some (Value.int z)) (Eq.symm (by rw [plM, if_pos hpS, if_neg (by omega), if_neg (by omega), if_pos h6, if_neg h5])), by rw [← hRg]; exact hMr⟩, fun z => absurd hgo z⟩)
            · have h70 : w9 = 0 := w_0.mp h7
              refine m_iload C d_Mo_place_136 rfl ?_
              refine m_goto (tgt := 199) C d_Mo_place_138 (by decide) ?_
              exact Rt _ _ _ _ _ _ (by decide) (by decide) d_Mo_place_199 (⟨fun _ => ⟨by rw [eti, etw, ← hp]; exact congrArg (fun z => some (Value.int z)) (Eq.symm (by rw [plM, if_pos hpS, if_pos h70])), by rw [← hRg]; exact hMr⟩, fun z => absurd hgo z⟩)
          · have h81 : w9 = 1 := by first | exact w_1.mp h8 | exact w_1.mp (Classical.not_not.mp h8)
            refine m_iload C d_Mo_place_96 rfl ?_
            refine m_if_lt (tgt := 111) C d_Mo_place_98 (by decide) (fun h7 => ?_) (fun h7 => ?_)
            · refine m_iload C d_Mo_place_111 rfl ?_
              refine m_iconst (v := 2) C d_Mo_place_113 (by decide) ?_
              refine m_icmp_ne (tgt := 121) C d_Mo_place_114 (by decide) (fun h6 => ?_) (fun h6 => ?_)
              · have h31 : ¬ R 31 0 = 0 := fun z => by rw [if_pos z] at h6; exact h6 rfl
                refine m_aload_n C d_Mo_place_121 rfl rfl ?_
                refine m_iload C d_Mo_place_122 rfl ?_
                refine m_aload_n C d_Mo_place_124 rfl rfl ?_
                refine m_get C fg_Mo_172 d_Mo_place_125 hMr.1 rfl ?_
                rw [q31]
                refine m_callV (ci := 10) C d_Mo_place_128 mw_Mo_190 mi_Mo_nearestHouse se_Mo_nearestHouse rfl (ct_Mo_nearestHouse _ _ _ Rg m mr p (by rw [eS]; omega) (R 31 0) Mg hMr hwg) (fun _ h => h.elim) rfl rfl (Nat.le_of_ble_eq_true rfl) hMr.1 (by decide) (fun v6 M6 hp6 h65 h66 => ?_)
                obtain ⟨rfl, hM6⟩ := hp6; rw [hM6]
                show mj G 7 0 0 Mg 131 [some (.ref m), some (.int (nI i9)), some (.int (nI w9)), some (.int (nI p)), some (.int (-1)), some (.int (nI p)), some (.int (if R 31 0 = 0 then 2 else if isH R p (R 31 0) then 0 else 1))] [.int (nhR Rg p (R 31 0))]
                have enh : nhR Rg p (R 31 0) = nhR R p (R 31 0) := nhR_cg hg p (R 31 0)
                rw [enh]
                exact Rt _ _ _ _ _ _ (by decide) (by decide) d_Mo_place_131 (⟨fun _ => ⟨by rw [eti, etw, ← hp]; exact congrArg (fun z => some (Value.int z)) (Eq.symm (by rw [plM, if_pos hpS, if_neg (by omega), if_pos h81, if_neg h31])), by rw [← hRg]; exact hMr⟩, fun z => absurd hgo z⟩)
              · have h31 : R 31 0 = 0 := by
                  by_cases z : R 31 0 = 0
                  · exact z
                  · have h60 : (if R 31 0 = 0 then (2 : Int32) else if isH R p (R 31 0) then 0 else 1) = 2 := by first | exact h6 | exact Classical.not_not.mp h6
                    rw [if_neg z] at h60
                    by_cases z2 : isH R p (R 31 0) = true
                    · rw [if_pos z2] at h60; exact absurd h60 (by decide)
                    · rw [if_neg z2] at h60; exact absurd h60 (by decide)
                refine m_iconst (v := 0) C d_Mo_place_117 (by decide) ?_
                refine m_goto (tgt := 131) C d_Mo_place_118 (by decide) ?_
                exact Rt _ _ _ _ _ _ (by decide) (by decide) d_Mo_place_131 (⟨fun _ => ⟨by rw [eti, etw, ← hp]; exact congrArg (fun z => some (Value.int z)) (Eq.symm (by rw [plM, if_pos hpS, if_neg (by omega), if_pos h81, if_pos h31])), by rw [← hRg]; exact hMr⟩, fun z => absurd hgo z⟩)
            · exact absurd (by decide) h7
  · rw [b2i_eq0, decide_eq_false_iff_not] at hgo
    refine m_iconst (v := 0) C d_Mo_place_27 (by decide) ?_
    exact Rt _ _ _ _ _ _ (by decide) (by decide) d_Mo_place_28 (⟨fun z => absurd z hgo, fun _ => ⟨rfl, hMg⟩⟩)
