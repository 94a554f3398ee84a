/-! ===== the law, call by call ===== -/
theorem gbQ.r {p q r s : Prop} {p' q' r' s' : Bool} (h : gbQ p q r s p' q' r' s') (h0 : gbN p' q' r' s' = 0) : p ∧ q ∧ r ∧ s := by
  obtain ⟨a, b, c, d⟩ := gbN_0 h0
  have a1 := h.1.mpr a
  have b1 := (h.2.1 a1).mpr b
  have c1 := (h.2.2.1 a1 b1).mpr c
  exact ⟨a1, b1, c1, (h.2.2.2 a1 b1 c1).mpr d⟩
theorem lgc (x : Int64) : lg_cmp x x = 0 := by simp [lg_cmp]
theorem eq0_0 (R : mR) (v : Int32) : ∀ f, f ≠ 0 → uR R 0 0 v f = R f := fun f hf => uR_n hf
theorem eq0_u {Q Q' : mR} (h : ∀ f, f ≠ 0 → Q' f = Q f) (k i : Nat) (v : Int32) (hk : k ≠ 0) : ∀ f, f ≠ 0 → uR Q' k i v f = uR Q k i v f := fun f hf => by
  by_cases z : f = k
  · subst z; rw [uR_s, uR_s, h _ hk]
  · rw [uR_n z, uR_n z, h f hf]
theorem eq0_s {Q Q' : mR} (h : ∀ f, f ≠ 0 → Q' f = Q f) (k : Nat) (g : Nat → Int32) : ∀ f, f ≠ 0 → setF Q' k g f = setF Q k g f := fun f hf => by
  unfold setF
  split
  · rfl
  · exact h f hf
theorem eq0_4 {Q Q' : mR} (h : ∀ f, f ≠ 0 → Q' f = Q f) : ∀ f, f ∉ [0, 32, 33, 34] → Q' f = Q f := fun f hf => h f (fun z => hf (by rw [z]; decide))

set_option maxHeartbeats 4000000 in
set_option maxRecDepth 100000 in
theorem la_street {G : ma_G} {fr mc ms lo k n : Nat} (C : ma_C G c_La_law 7 R_La fr mc ms lo) (sc N : Nat) (f : Nat → Int32) (i : Nat) (hN : N < 2 ^ 31) (hi : i + 6 ≤ N) (R : mR) (ad : mAd) (xa m : Nat) (mr : Nat → Nat) (o : Nat) (M : ma_H) (hX : ma_X9 G sc N f) (h : LI G R ad xa m mr o M) (hfr : 11 ≤ fr) (hlo : 400 ≤ lo) (hk : k + 9 ≤ mc) (hn : n + 74 ≤ ms) (nx : ∀ (R' : mR) (ad' : mAd) (M' : ma_H) (k' n' : Nat), LI G R' ad' xa m mr o M' → k' ≤ k + 9 → n' ≤ n + 74 → mj G 7 k' n' M' 1237 [some (.ref sc), some (.ref xa), some (.ref m), some (.ref o), some (.int (nI i)), none, none] []) : mj G 7 k n M 116 [some (.ref sc), some (.ref xa), some (.ref m), some (.ref o), some (.int (nI i)), none, none] [] := by
  obtain ⟨hwf, hR, hM, rfl, ⟨ov, ho⟩, hF, hMw, hoW⟩ := id h
  have hof : ¬ foot R ad o := fun z => (hF o z).2.2 rfl
  obtain ⟨s1, hs1⟩ : ∃ z : Int32, z = f (i + 1) := ⟨_, rfl⟩
  obtain ⟨s2, hs2⟩ : ∃ z : Int32, z = f (i + 2) := ⟨_, rfl⟩
  obtain ⟨s3, hs3⟩ : ∃ z : Int32, z = f (i + 3) := ⟨_, rfl⟩
  obtain ⟨s4, hs4⟩ : ∃ z : Int32, z = f (i + 4) := ⟨_, rfl⟩
  obtain ⟨s5, hs5⟩ : ∃ z : Int32, z = f (i + 5) := ⟨_, rfl⟩
  refine m_aload_n C d_La_law_116 rfl rfl ?_
  refine m_aload_n C d_La_law_117 rfl rfl ?_
  refine m_iload C d_La_law_118 rfl ?_
  refine m_iconst (v := 1) C d_La_law_120 (by decide) ?_
  refine m_iadd C d_La_law_121 ?_
  rw [show nI i + 1 = nI (i + 1) from nI_add i 1]
  refine m_xld C d_La_law_122 hX (by omega) hN ?_
  rw [← hs1]
  refine m_aload_n C d_La_law_123 rfl rfl ?_
  refine m_callSW C d_La_law_124 mh_La_72 mst_La_street (ct_La_street _ _ _ R ad o ov s1 M hR hwf ho hof) (fun q z => z.elim (fun y => (hF q y).1) (fun y => by rw [y]; exact hoW)) rfl rfl (Nat.le_of_ble_eq_true rfl) ⟨⟨by omega, by omega⟩, by omega, by omega⟩ (fun v9 M1 hp h5 h6 => ?_)
  rcases hp with ⟨hg0, rfl, hMo, ad1, ha1, hc1, hf1⟩ | ⟨hg1, ht1, rfl, hMo, hc1⟩
  · have hk1 : ∀ q : Nat, M q ≠ none → ¬ (foot R ad q ∨ q = o) → M1 q = M q := h5
    obtain ⟨hM1, hF1⟩ := h.cls hk1 h6 hc1 hf1
    have hc0 := (gq_street (R := R) (ar := s1)).r hg0
    show mj G 7 (k + 9) (n + 74) M1 127 [some (.ref sc), some (.ref (ad 0 0 0)), some (.ref m), some (.ref o), some (.int (nI i)), none, none] [.int 0]
    refine m_istore (L' := [some (.ref sc), some (.ref (ad 0 0 0)), some (.ref m), some (.ref o), some (.int (nI i)), some (.int 0), none]) C d_La_law_127 (by decide) rfl ?_
    refine m_aload_n C d_La_law_129 rfl rfl ?_
    refine m_aload_n C d_La_law_130 rfl rfl ?_
    refine m_iload C d_La_law_131 rfl ?_
    refine m_iconst (v := 1) C d_La_law_133 (by decide) ?_
    refine m_iadd C d_La_law_134 ?_
    rw [show nI i + 1 = nI (i + 1) from nI_add i 1]
    refine m_xld C d_La_law_135 hX (by omega) hN ?_
    rw [← hs1]
    refine m_callV (ci := 10) C d_La_law_136 mw_La_77 mi_Mo_street se_Mo_street rfl (ct_Mo_street _ _ _ R m mr s1 M1 hM1 hwf) (fun q z => (hMw q z).1) rfl rfl (Nat.le_of_ble_eq_true rfl) hM1.1 ⟨⟨by omega, by omega⟩, by omega, by omega⟩ (fun v8 M2 hp2 h25 h26 => ?_)
    obtain ⟨rfl, hM2⟩ := hp2.1 hg0
    obtain ⟨R2, hR2⟩ : ∃ R2 : mR, R2 = uR (uR (uR (uR (uR (uR R 0 0 0) 2 (nS R) s1) 4 (nS R) 1) 5 (3 * nS R) 0) 1 0 (nI (nS R + 1))) 28 0 0 := ⟨_, rfl⟩
    rw [← hR2] at hM2
    have hE0 : ∀ f, f ≠ 0 → R2 f = (uR (uR (uR (uR (uR R 2 (nS R) s1) 4 (nS R) 1) 5 (3 * nS R) 0) 1 0 (nI (nS R + 1))) 28 0 0 : mR) f := by rw [hR2]; exact eq0_u (eq0_u (eq0_u (eq0_u (eq0_u (eq0_0 R 0) _ _ _ (by decide)) _ _ _ (by decide)) _ _ _ (by decide)) _ _ _ (by decide)) _ _ _ (by decide)
    have he0 := eq0_4 hE0
    have hw2 : WfS R2 := WfS_cg hE0 (wf_street hwf s1 hc0.2.2.2)
    have hz2 : R2 0 0 = 0 := by rw [hR2]; rfl
    obtain ⟨hLI, ho2⟩ := LI.mod (G := G) hw2 hc1 hM2 ha1 hMo hF1 hMw hoW he0 (fun q a b => h25 q a b)
    show mj G 7 (k + 9) (n + 74) M2 139 [some (.ref sc), some (.ref (ad 0 0 0)), some (.ref m), some (.ref o), some (.int (nI i)), some (.int 0), none] [.int (nI (nS R))]
    refine m_istore (L' := [some (.ref sc), some (.ref (ad 0 0 0)), some (.ref m), some (.ref o), some (.int (nI i)), some (.int 0), some (.int (nI (nS R)))]) C d_La_law_139 (by decide) rfl ?_
    refine m_aload_n C d_La_law_141 rfl rfl ?_
    refine m_callV (ci := 10) C d_La_law_142 mw_La_78 mi_Mo_thrown se_Mo_thrown rfl (ct_Mo_thrown _ _ _ R2 m mr M2 hM2) (fun _ z => z.elim) rfl rfl (Nat.le_of_ble_eq_true rfl) hM2.1 ⟨⟨by omega, by omega⟩, by omega, by omega⟩ (fun v7 M3 hp3 h35 h36 => ?_)
    obtain ⟨rfl, hM3⟩ := hp3; rw [hM3, hz2]
    show mj G 7 (k + 9) (n + 74) M2 145 [some (.ref sc), some (.ref (ad 0 0 0)), some (.ref m), some (.ref o), some (.int (nI i)), some (.int 0), some (.int (nI (nS R)))] [.int 0]
    refine m_iload C d_La_law_145 rfl ?_
    refine m_icmp_eq (tgt := 152) C d_La_law_147 (by decide) (fun hq9 => ?_) (fun hq9 => ?_)
    · refine m_iload C d_La_law_152 rfl ?_
      refine m_if_ne (tgt := 169) C d_La_law_154 (by decide) (fun hq8 => ?_) (fun hq8 => ?_)
      · exact absurd rfl hq8
      · refine m_aload_n C d_La_law_157 rfl rfl ?_
        refine m_iconst (v := 0) C d_La_law_158 (by decide) ?_
        refine m_lald (v := .long (nI (nS R)).toInt64) C d_La_law_159 ho2 kt_long (by decide) rfl ?_
        refine m_iload C d_La_law_160 rfl ?_
        refine m_i2l C d_La_law_162 ?_
        refine m_lcmp C d_La_law_163 ?_
        rw [lgc]
        refine m_if_eq (tgt := 169) C d_La_law_164 (by decide) (fun hq7 => ?_) (fun hq7 => ?_)
        · refine m_goto (tgt := 1237) C d_La_law_169 (by decide) ?_
          exact mj_L (fun q v hv => by rcases q with _ | _ | _ | _ | _ | _ | _ | q <;> first | exact hv | exact absurd (Option.some.inj hv) (by simp)) (nx R2 ad1 M2 (k + 9) (n + 74) hLI (by omega) (by omega))
        · exact absurd rfl hq7
    · exact absurd rfl hq9
  · have hk1 : ∀ q : Nat, M q ≠ none → ¬ (foot R ad q ∨ q = o) → M1 q = M q := h5
    obtain ⟨hM1, hF1⟩ := h.cls hk1 h6 hc1 (fun q z => Or.inl z)
    obtain ⟨kv, hkv⟩ : ∃ z : Int32, z = (nI (thN 10 (gbN (true) (inn s1 0 9) (true) (decide (nS R < 30))))) := ⟨_, rfl⟩
    show mj G 7 (k + 9) (n + 74) M1 127 [some (.ref sc), some (.ref (ad 0 0 0)), some (.ref m), some (.ref o), some (.int (nI i)), none, none] [.int (nI (thN 10 (gbN (true) (inn s1 0 9) (true) (decide (nS R < 30)))))]
    rw [← hkv]
    refine m_istore (L' := [some (.ref sc), some (.ref (ad 0 0 0)), some (.ref m), some (.ref o), some (.int (nI i)), some (.int kv), none]) C d_La_law_127 (by decide) rfl ?_
    refine m_aload_n C d_La_law_129 rfl rfl ?_
    refine m_aload_n C d_La_law_130 rfl rfl ?_
    refine m_iload C d_La_law_131 rfl ?_
    refine m_iconst (v := 1) C d_La_law_133 (by decide) ?_
    refine m_iadd C d_La_law_134 ?_
    rw [show nI i + 1 = nI (i + 1) from nI_add i 1]
    refine m_xld C d_La_law_135 hX (by omega) hN ?_
    rw [← hs1]
    refine m_callV (ci := 10) C d_La_law_136 mw_La_77 mi_Mo_street se_Mo_street rfl (ct_Mo_street _ _ _ R m mr s1 M1 hM1 hwf) (fun q z => (hMw q z).1) rfl rfl (Nat.le_of_ble_eq_true rfl) hM1.1 ⟨⟨by omega, by omega⟩, by omega, by omega⟩ (fun v8 M2 hp2 h25 h26 => ?_)
    obtain ⟨rfl, hM2⟩ := hp2.2 hg1
    obtain ⟨R2, hR2⟩ : ∃ R2 : mR, R2 = uR R 0 0 (nI (thN 10 (gbN (true) (inn s1 0 9) (true) (decide (nS R < 30))))) := ⟨_, rfl⟩
    rw [← hR2] at hM2
    have hE0 : ∀ f, f ≠ 0 → R2 f = R f := by rw [hR2]; exact eq0_0 R _
    have hz2 : R2 0 0 = kv := by rw [hR2, hkv]; rfl
    obtain ⟨hLI, ho2⟩ := LI.mod (G := G) (WfS_cg hE0 hwf) hc1 hM2 rfl hMo hF1 hMw hoW (eq0_4 hE0) (fun q a b => h25 q a b)
    have hkn : ¬ kv = 0 := by rw [hkv]; exact nI_ne0 ht1 (Nat.lt_of_le_of_lt (Nat.le_trans (thN_le _ _) (gbN_le _ _ _ _)) (by decide))
    show mj G 7 (k + 9) (n + 74) M2 139 [some (.ref sc), some (.ref (ad 0 0 0)), some (.ref m), some (.ref o), some (.int (nI i)), some (.int kv), none] [.int (0)]
    refine m_istore (L' := [some (.ref sc), some (.ref (ad 0 0 0)), some (.ref m), some (.ref o), some (.int (nI i)), some (.int kv), some (.int (0))]) C d_La_law_139 (by decide) rfl ?_
    refine m_aload_n C d_La_law_141 rfl rfl ?_
    refine m_callV (ci := 10) C d_La_law_142 mw_La_78 mi_Mo_thrown se_Mo_thrown rfl (ct_Mo_thrown _ _ _ R2 m mr M2 hM2) (fun _ z => z.elim) rfl rfl (Nat.le_of_ble_eq_true rfl) hM2.1 ⟨⟨by omega, by omega⟩, by omega, by omega⟩ (fun v7 M3 hp3 h35 h36 => ?_)
    obtain ⟨rfl, hM3⟩ := hp3; rw [hM3, hz2]
    show mj G 7 (k + 9) (n + 74) M2 145 [some (.ref sc), some (.ref (ad 0 0 0)), some (.ref m), some (.ref o), some (.int (nI i)), some (.int kv), some (.int (0))] [.int kv]
    refine m_iload C d_La_law_145 rfl ?_
    refine m_icmp_eq (tgt := 152) C d_La_law_147 (by decide) (fun hq9 => ?_) (fun hq9 => ?_)
    · refine m_iload C d_La_law_152 rfl ?_
      refine m_if_ne (tgt := 169) C d_La_law_154 (by decide) (fun hq8 => ?_) (fun hq8 => ?_)
      · refine m_goto (tgt := 1237) C d_La_law_169 (by decide) ?_
        exact mj_L (fun q v hv => by rcases q with _ | _ | _ | _ | _ | _ | _ | q <;> first | exact hv | exact absurd (Option.some.inj hv) (by simp)) (nx R2 ad M2 (k + 9) (n + 74) hLI (by omega) (by omega))
      · exact absurd hq8 hkn
    · exact absurd rfl hq9

set_option maxHeartbeats 4000000 in
set_option maxRecDepth 100000 in
theorem la_sign {G : ma_G} {fr mc ms lo k n : Nat} (C : ma_C G c_La_law 7 R_La fr mc ms lo) (sc N : Nat) (f : Nat → Int32) (i : Nat) (hN : N < 2 ^ 31) (hi : i + 6 ≤ N) (R : mR) (ad : mAd) (xa m : Nat) (mr : Nat → Nat) (o : Nat) (M : ma_H) (hX : ma_X9 G sc N f) (h : LI G R ad xa m mr o M) (hfr : 11 ≤ fr) (hlo : 400 ≤ lo) (hk : k + 9 ≤ mc) (hn : n + 74 ≤ ms) (nx : ∀ (R' : mR) (ad' : mAd) (M' : ma_H) (k' n' : Nat), LI G R' ad' xa m mr o M' → k' ≤ k + 9 → n' ≤ n + 74 → mj G 7 k' n' M' 1237 [some (.ref sc), some (.ref xa), some (.ref m), some (.ref o), some (.int (nI i)), none, none] []) : mj G 7 k n M 172 [some (.ref sc), some (.ref xa), some (.ref m), some (.ref o), some (.int (nI i)), none, none] [] := by
  obtain ⟨hwf, hR, hM, rfl, ⟨ov, ho⟩, hF, hMw, hoW⟩ := id h
  have hof : ¬ foot R ad o := fun z => (hF o z).2.2 rfl
  obtain ⟨s1, hs1⟩ : ∃ z : Int32, z = f (i + 1) := ⟨_, rfl⟩
  obtain ⟨s2, hs2⟩ : ∃ z : Int32, z = f (i + 2) := ⟨_, rfl⟩
  obtain ⟨s3, hs3⟩ : ∃ z : Int32, z = f (i + 3) := ⟨_, rfl⟩
  obtain ⟨s4, hs4⟩ : ∃ z : Int32, z = f (i + 4) := ⟨_, rfl⟩
  obtain ⟨s5, hs5⟩ : ∃ z : Int32, z = f (i + 5) := ⟨_, rfl⟩
  refine m_aload_n C d_La_law_172 rfl rfl ?_
  refine m_aload_n C d_La_law_173 rfl rfl ?_
  refine m_iload C d_La_law_174 rfl ?_
  refine m_iconst (v := 1) C d_La_law_176 (by decide) ?_
  refine m_iadd C d_La_law_177 ?_
  rw [show nI i + 1 = nI (i + 1) from nI_add i 1]
  refine m_xld C d_La_law_178 hX (by omega) hN ?_
  rw [← hs1]
  refine m_aload_n C d_La_law_179 rfl rfl ?_
  refine m_iload C d_La_law_180 rfl ?_
  refine m_iconst (v := 2) C d_La_law_182 (by decide) ?_
  refine m_iadd C d_La_law_183 ?_
  rw [show nI i + 2 = nI (i + 2) from nI_add i 2]
  refine m_xld C d_La_law_184 hX (by omega) hN ?_
  rw [← hs2]
  refine m_i2l C d_La_law_185 ?_
  refine m_bipush (v := 32) C d_La_law_186 (by decide) ?_
  refine m_lshl C d_La_law_188 ?_
  refine m_aload_n C d_La_law_189 rfl rfl ?_
  refine m_iload C d_La_law_190 rfl ?_
  refine m_iconst (v := 3) C d_La_law_192 (by decide) ?_
  refine m_iadd C d_La_law_193 ?_
  rw [show nI i + 3 = nI (i + 3) from nI_add i 3]
  refine m_xld C d_La_law_194 hX (by omega) hN ?_
  rw [← hs3]
  refine m_i2l C d_La_law_195 ?_
  refine m_ldc2 (v := 4294967295) C d_La_law_196 kc_La_82 ?_
  refine m_land C d_La_law_199 ?_
  refine m_lor C d_La_law_200 ?_
  refine m_aload_n C d_La_law_201 rfl rfl ?_
  refine m_iload C d_La_law_202 rfl ?_
  refine m_iconst (v := 4) C d_La_law_204 (by decide) ?_
  refine m_iadd C d_La_law_205 ?_
  rw [show nI i + 4 = nI (i + 4) from nI_add i 4]
  refine m_xld C d_La_law_206 hX (by omega) hN ?_
  rw [← hs4]
  refine m_aload_n C d_La_law_207 rfl rfl ?_
  obtain ⟨L2, hL2⟩ : ∃ z : Int64, z = (((s2.toInt64 <<< ((32 : Int32).toInt64 &&& 63))) ||| ((s3.toInt64 &&& 4294967295))) := ⟨_, rfl⟩
  rw [← hL2]
  refine m_callSW C d_La_law_208 mh_La_84 mst_La_sign (ct_La_sign _ _ _ R ad o ov s1 L2 s4 M hR hwf ho hof) (fun q z => z.elim (fun y => (hF q y).1) (fun y => by rw [y]; exact hoW)) rfl rfl (Nat.le_of_ble_eq_true rfl) ⟨⟨by omega, by omega⟩, by omega, by omega⟩ (fun v9 M1 hp h5 h6 => ?_)
  rcases hp with ⟨hg0, rfl, hMo, ad1, ha1, hc1, hf1⟩ | ⟨hg1, ht1, rfl, hMo, hc1⟩
  · have hk1 : ∀ q : Nat, M q ≠ none → ¬ (foot R ad q ∨ q = o) → M1 q = M q := h5
    obtain ⟨hM1, hF1⟩ := h.cls hk1 h6 hc1 hf1
    have hc0 := (gq_sign hwf (s := s1) (p := L2) (n := s4)).r hg0
    show mj G 7 (k + 3) (n + 18) M1 211 [some (.ref sc), some (.ref (ad 0 0 0)), some (.ref m), some (.ref o), some (.int (nI i)), none, none] [.int 0]
    refine m_istore (L' := [some (.ref sc), some (.ref (ad 0 0 0)), some (.ref m), some (.ref o), some (.int (nI i)), some (.int 0), none]) C d_La_law_211 (by decide) rfl ?_
    refine m_aload_n C d_La_law_213 rfl rfl ?_
    refine m_aload_n C d_La_law_214 rfl rfl ?_
    refine m_iload C d_La_law_215 rfl ?_
    refine m_iconst (v := 1) C d_La_law_217 (by decide) ?_
    refine m_iadd C d_La_law_218 ?_
    rw [show nI i + 1 = nI (i + 1) from nI_add i 1]
    refine m_xld C d_La_law_219 hX (by omega) hN ?_
    rw [← hs1]
    refine m_aload_n C d_La_law_220 rfl rfl ?_
    refine m_iload C d_La_law_221 rfl ?_
    refine m_iconst (v := 2) C d_La_law_223 (by decide) ?_
    refine m_iadd C d_La_law_224 ?_
    rw [show nI i + 2 = nI (i + 2) from nI_add i 2]
    refine m_xld C d_La_law_225 hX (by omega) hN ?_
    rw [← hs2]
    refine m_i2l C d_La_law_226 ?_
    refine m_bipush (v := 32) C d_La_law_227 (by decide) ?_
    refine m_lshl C d_La_law_229 ?_
    refine m_aload_n C d_La_law_230 rfl rfl ?_
    refine m_iload C d_La_law_231 rfl ?_
    refine m_iconst (v := 3) C d_La_law_233 (by decide) ?_
    refine m_iadd C d_La_law_234 ?_
    rw [show nI i + 3 = nI (i + 3) from nI_add i 3]
    refine m_xld C d_La_law_235 hX (by omega) hN ?_
    rw [← hs3]
    refine m_i2l C d_La_law_236 ?_
    refine m_ldc2 (v := 4294967295) C d_La_law_237 kc_La_82 ?_
    refine m_land C d_La_law_240 ?_
    refine m_lor C d_La_law_241 ?_
    refine m_aload_n C d_La_law_242 rfl rfl ?_
    refine m_iload C d_La_law_243 rfl ?_
    refine m_iconst (v := 4) C d_La_law_245 (by decide) ?_
    refine m_iadd C d_La_law_246 ?_
    rw [show nI i + 4 = nI (i + 4) from nI_add i 4]
    refine m_xld C d_La_law_247 hX (by omega) hN ?_
    rw [← hs4]
    rw [← hL2]
    refine m_callV (ci := 10) C d_La_law_248 mw_La_87 mi_Mo_sign se_Mo_sign rfl (ct_Mo_sign _ _ _ R m mr s1 L2 s4 M1 hM1 hwf) (fun q z => (hMw q z).1) rfl rfl (Nat.le_of_ble_eq_true rfl) hM1.1 ⟨⟨by omega, by omega⟩, by omega, by omega⟩ (fun v8 M2 hp2 h25 h26 => ?_)
    obtain ⟨rfl, hM2⟩ := hp2.1 hg0
    obtain ⟨R2, hR2⟩ : ∃ R2 : mR, R2 = uR (uR (setF (uR R 0 0 0) 6 (fa (R 6) (16 * (3 * tn s1 + (tn (R 4 (tn s1)) - 1)) + tn (R 5 (3 * tn s1 + (tn (R 4 (tn s1)) - 1)))) L2 (tn s4) (tn s4))) 5 (3 * tn s1 + (tn (R 4 (tn s1)) - 1)) (nI (tn (R 5 (3 * tn s1 + (tn (R 4 (tn s1)) - 1))) + tn s4))) 28 0 0 := ⟨_, rfl⟩
    rw [← hR2] at hM2
    have hE0 : ∀ f, f ≠ 0 → R2 f = (uR (uR (setF R 6 (fa (R 6) (16 * (3 * tn s1 + (tn (R 4 (tn s1)) - 1)) + tn (R 5 (3 * tn s1 + (tn (R 4 (tn s1)) - 1)))) L2 (tn s4) (tn s4))) 5 (3 * tn s1 + (tn (R 4 (tn s1)) - 1)) (nI (tn (R 5 (3 * tn s1 + (tn (R 4 (tn s1)) - 1))) + tn s4))) 28 0 0 : mR) f := by rw [hR2]; exact eq0_u (eq0_u (eq0_s (eq0_0 R 0) _ _) _ _ _ (by decide)) _ _ _ (by decide)
    have he0 := eq0_4 hE0
    have hw2 : WfS R2 := WfS_cg hE0 (wf_sign hwf hc0.1 hc0.2.1 hc0.2.2.2)
    have hz2 : R2 0 0 = 0 := by rw [hR2]; rfl
    obtain ⟨hLI, ho2⟩ := LI.mod (G := G) hw2 hc1 hM2 ha1 hMo hF1 hMw hoW he0 (fun q a b => h25 q a b)
    show mj G 7 (k + 3) (n + 18) M2 251 [some (.ref sc), some (.ref (ad 0 0 0)), some (.ref m), some (.ref o), some (.int (nI i)), some (.int 0), none] [.int (nI (tn (R 5 (3 * tn s1 + (tn (R 4 (tn s1)) - 1))) + tn s4))]
    refine m_istore (L' := [some (.ref sc), some (.ref (ad 0 0 0)), some (.ref m), some (.ref o), some (.int (nI i)), some (.int 0), some (.int (nI (tn (R 5 (3 * tn s1 + (tn (R 4 (tn s1)) - 1))) + tn s4)))]) C d_La_law_251 (by decide) rfl ?_
    refine m_aload_n C d_La_law_253 rfl rfl ?_
    refine m_callV (ci := 10) C d_La_law_254 mw_La_78 mi_Mo_thrown se_Mo_thrown rfl (ct_Mo_thrown _ _ _ R2 m mr M2 hM2) (fun _ z => z.elim) rfl rfl (Nat.le_of_ble_eq_true rfl) hM2.1 ⟨⟨by omega, by omega⟩, by omega, by omega⟩ (fun v7 M3 hp3 h35 h36 => ?_)
    obtain ⟨rfl, hM3⟩ := hp3; rw [hM3, hz2]
    show mj G 7 (k + 3) (n + 18) M2 257 [some (.ref sc), some (.ref (ad 0 0 0)), some (.ref m), some (.ref o), some (.int (nI i)), some (.int 0), some (.int (nI (tn (R 5 (3 * tn s1 + (tn (R 4 (tn s1)) - 1))) + tn s4)))] [.int 0]
    refine m_iload C d_La_law_257 rfl ?_
    refine m_icmp_eq (tgt := 264) C d_La_law_259 (by decide) (fun hq9 => ?_) (fun hq9 => ?_)
    · refine m_iload C d_La_law_264 rfl ?_
      refine m_if_ne (tgt := 281) C d_La_law_266 (by decide) (fun hq8 => ?_) (fun hq8 => ?_)
      · exact absurd rfl hq8
      · refine m_aload_n C d_La_law_269 rfl rfl ?_
        refine m_iconst (v := 0) C d_La_law_270 (by decide) ?_
        refine m_lald (v := .long (nI (tn (R 5 (3 * tn s1 + (tn (R 4 (tn s1)) - 1))) + tn s4)).toInt64) C d_La_law_271 ho2 kt_long (by decide) rfl ?_
        refine m_iload C d_La_law_272 rfl ?_
        refine m_i2l C d_La_law_274 ?_
        refine m_lcmp C d_La_law_275 ?_
        rw [lgc]
        refine m_if_eq (tgt := 281) C d_La_law_276 (by decide) (fun hq7 => ?_) (fun hq7 => ?_)
        · refine m_goto (tgt := 1237) C d_La_law_281 (by decide) ?_
          exact mj_L (fun q v hv => by rcases q with _ | _ | _ | _ | _ | _ | _ | q <;> first | exact hv | exact absurd (Option.some.inj hv) (by simp)) (nx R2 ad1 M2 (k + 3) (n + 18) hLI (by omega) (by omega))
        · exact absurd rfl hq7
    · exact absurd rfl hq9
  · have hk1 : ∀ q : Nat, M q ≠ none → ¬ (foot R ad q ∨ q = o) → M1 q = M q := h5
    obtain ⟨hM1, hF1⟩ := h.cls hk1 h6 hc1 (fun q z => Or.inl z)
    obtain ⟨kv, hkv⟩ : ∃ z : Int32, z = (nI (thN 11 (gbN (kn R s1) ((inn s4 1 8 && decide (∀ i, i < tn s4 → is_l (sgn L2 (tn s4) i) = true))) (true) (decide (R 5 (if kn R s1 = true then 3 * tn s1 + (tn (R 4 (tn s1)) - 1) else 0) + s4 ≤ 16))))) := ⟨_, rfl⟩
    show mj G 7 (k + 3) (n + 18) M1 211 [some (.ref sc), some (.ref (ad 0 0 0)), some (.ref m), some (.ref o), some (.int (nI i)), none, none] [.int (nI (thN 11 (gbN (kn R s1) ((inn s4 1 8 && decide (∀ i, i < tn s4 → is_l (sgn L2 (tn s4) i) = true))) (true) (decide (R 5 (if kn R s1 = true then 3 * tn s1 + (tn (R 4 (tn s1)) - 1) else 0) + s4 ≤ 16)))))]
    rw [← hkv]
    refine m_istore (L' := [some (.ref sc), some (.ref (ad 0 0 0)), some (.ref m), some (.ref o), some (.int (nI i)), some (.int kv), none]) C d_La_law_211 (by decide) rfl ?_
    refine m_aload_n C d_La_law_213 rfl rfl ?_
    refine m_aload_n C d_La_law_214 rfl rfl ?_
    refine m_iload C d_La_law_215 rfl ?_
    refine m_iconst (v := 1) C d_La_law_217 (by decide) ?_
    refine m_iadd C d_La_law_218 ?_
    rw [show nI i + 1 = nI (i + 1) from nI_add i 1]
    refine m_xld C d_La_law_219 hX (by omega) hN ?_
    rw [← hs1]
    refine m_aload_n C d_La_law_220 rfl rfl ?_
    refine m_iload C d_La_law_221 rfl ?_
    refine m_iconst (v := 2) C d_La_law_223 (by decide) ?_
    refine m_iadd C d_La_law_224 ?_
    rw [show nI i + 2 = nI (i + 2) from nI_add i 2]
    refine m_xld C d_La_law_225 hX (by omega) hN ?_
    rw [← hs2]
    refine m_i2l C d_La_law_226 ?_
    refine m_bipush (v := 32) C d_La_law_227 (by decide) ?_
    refine m_lshl C d_La_law_229 ?_
    refine m_aload_n C d_La_law_230 rfl rfl ?_
    refine m_iload C d_La_law_231 rfl ?_
    refine m_iconst (v := 3) C d_La_law_233 (by decide) ?_
    refine m_iadd C d_La_law_234 ?_
    rw [show nI i + 3 = nI (i + 3) from nI_add i 3]
    refine m_xld C d_La_law_235 hX (by omega) hN ?_
    rw [← hs3]
    refine m_i2l C d_La_law_236 ?_
    refine m_ldc2 (v := 4294967295) C d_La_law_237 kc_La_82 ?_
    refine m_land C d_La_law_240 ?_
    refine m_lor C d_La_law_241 ?_
    refine m_aload_n C d_La_law_242 rfl rfl ?_
    refine m_iload C d_La_law_243 rfl ?_
    refine m_iconst (v := 4) C d_La_law_245 (by decide) ?_
    refine m_iadd C d_La_law_246 ?_
    rw [show nI i + 4 = nI (i + 4) from nI_add i 4]
    refine m_xld C d_La_law_247 hX (by omega) hN ?_
    rw [← hs4]
    rw [← hL2]
    refine m_callV (ci := 10) C d_La_law_248 mw_La_87 mi_Mo_sign se_Mo_sign rfl (ct_Mo_sign _ _ _ R m mr s1 L2 s4 M1 hM1 hwf) (fun q z => (hMw q z).1) rfl rfl (Nat.le_of_ble_eq_true rfl) hM1.1 ⟨⟨by omega, by omega⟩, by omega, by omega⟩ (fun v8 M2 hp2 h25 h26 => ?_)
    obtain ⟨rfl, hM2⟩ := hp2.2 hg1
    obtain ⟨R2, hR2⟩ : ∃ R2 : mR, R2 = uR R 0 0 (nI (thN 11 (gbN (kn R s1) ((inn s4 1 8 && decide (∀ i, i < tn s4 → is_l (sgn L2 (tn s4) i) = true))) (true) (decide (R 5 (if kn R s1 = true then 3 * tn s1 + (tn (R 4 (tn s1)) - 1) else 0) + s4 ≤ 16))))) := ⟨_, rfl⟩
    rw [← hR2] at hM2
    have hE0 : ∀ f, f ≠ 0 → R2 f = R f := by rw [hR2]; exact eq0_0 R _
    have hz2 : R2 0 0 = kv := by rw [hR2, hkv]; rfl
    obtain ⟨hLI, ho2⟩ := LI.mod (G := G) (WfS_cg hE0 hwf) hc1 hM2 rfl hMo hF1 hMw hoW (eq0_4 hE0) (fun q a b => h25 q a b)
    have hkn : ¬ kv = 0 := by rw [hkv]; exact nI_ne0 ht1 (Nat.lt_of_le_of_lt (Nat.le_trans (thN_le _ _) (gbN_le _ _ _ _)) (by decide))
    show mj G 7 (k + 3) (n + 18) M2 251 [some (.ref sc), some (.ref (ad 0 0 0)), some (.ref m), some (.ref o), some (.int (nI i)), some (.int kv), none] [.int (0)]
    refine m_istore (L' := [some (.ref sc), some (.ref (ad 0 0 0)), some (.ref m), some (.ref o), some (.int (nI i)), some (.int kv), some (.int (0))]) C d_La_law_251 (by decide) rfl ?_
    refine m_aload_n C d_La_law_253 rfl rfl ?_
    refine m_callV (ci := 10) C d_La_law_254 mw_La_78 mi_Mo_thrown se_Mo_thrown rfl (ct_Mo_thrown _ _ _ R2 m mr M2 hM2) (fun _ z => z.elim) rfl rfl (Nat.le_of_ble_eq_true rfl) hM2.1 ⟨⟨by omega, by omega⟩, by omega, by omega⟩ (fun v7 M3 hp3 h35 h36 => ?_)
    obtain ⟨rfl, hM3⟩ := hp3; rw [hM3, hz2]
    show mj G 7 (k + 3) (n + 18) M2 257 [some (.ref sc), some (.ref (ad 0 0 0)), some (.ref m), some (.ref o), some (.int (nI i)), some (.int kv), some (.int (0))] [.int kv]
    refine m_iload C d_La_law_257 rfl ?_
    refine m_icmp_eq (tgt := 264) C d_La_law_259 (by decide) (fun hq9 => ?_) (fun hq9 => ?_)
    · refine m_iload C d_La_law_264 rfl ?_
      refine m_if_ne (tgt := 281) C d_La_law_266 (by decide) (fun hq8 => ?_) (fun hq8 => ?_)
      · refine m_goto (tgt := 1237) C d_La_law_281 (by decide) ?_
        exact mj_L (fun q v hv => by rcases q with _ | _ | _ | _ | _ | _ | _ | q <;> first | exact hv | exact absurd (Option.some.inj hv) (by simp)) (nx R2 ad M2 (k + 3) (n + 18) hLI (by omega) (by omega))
      · exact absurd hq8 hkn
    · exact absurd rfl hq9

set_option maxHeartbeats 4000000 in
set_option maxRecDepth 100000 in
theorem la_alias {G : ma_G} {fr mc ms lo k n : Nat} (C : ma_C G c_La_law 7 R_La fr mc ms lo) (sc N : Nat) (f : Nat → Int32) (i : Nat) (hN : N < 2 ^ 31) (hi : i + 6 ≤ N) (R : mR) (ad : mAd) (xa m : Nat) (mr : Nat → Nat) (o : Nat) (M : ma_H) (hX : ma_X9 G sc N f) (h : LI G R ad xa m mr o M) (hfr : 11 ≤ fr) (hlo : 400 ≤ lo) (hk : k + 9 ≤ mc) (hn : n + 74 ≤ ms) (nx : ∀ (R' : mR) (ad' : mAd) (M' : ma_H) (k' n' : Nat), LI G R' ad' xa m mr o M' → k' ≤ k + 9 → n' ≤ n + 74 → mj G 7 k' n' M' 1237 [some (.ref sc), some (.ref xa), some (.ref m), some (.ref o), some (.int (nI i)), none, none] []) : mj G 7 k n M 284 [some (.ref sc), some (.ref xa), some (.ref m), some (.ref o), some (.int (nI i)), none, none] [] := by
  obtain ⟨hwf, hR, hM, rfl, ⟨ov, ho⟩, hF, hMw, hoW⟩ := id h
  have hof : ¬ foot R ad o := fun z => (hF o z).2.2 rfl
  obtain ⟨s1, hs1⟩ : ∃ z : Int32, z = f (i + 1) := ⟨_, rfl⟩
  obtain ⟨s2, hs2⟩ : ∃ z : Int32, z = f (i + 2) := ⟨_, rfl⟩
  obtain ⟨s3, hs3⟩ : ∃ z : Int32, z = f (i + 3) := ⟨_, rfl⟩
  obtain ⟨s4, hs4⟩ : ∃ z : Int32, z = f (i + 4) := ⟨_, rfl⟩
  obtain ⟨s5, hs5⟩ : ∃ z : Int32, z = f (i + 5) := ⟨_, rfl⟩
  refine m_aload_n C d_La_law_284 rfl rfl ?_
  refine m_aload_n C d_La_law_285 rfl rfl ?_
  refine m_iload C d_La_law_286 rfl ?_
  refine m_iconst (v := 1) C d_La_law_288 (by decide) ?_
  refine m_iadd C d_La_law_289 ?_
  rw [show nI i + 1 = nI (i + 1) from nI_add i 1]
  refine m_xld C d_La_law_290 hX (by omega) hN ?_
  rw [← hs1]
  refine m_aload_n C d_La_law_291 rfl rfl ?_
  refine m_callSW C d_La_law_292 mh_La_88 mst_La_alias (ct_La_alias _ _ _ R ad o ov s1 M hR hwf ho hof) (fun q z => z.elim (fun y => (hF q y).1) (fun y => by rw [y]; exact hoW)) rfl rfl (Nat.le_of_ble_eq_true rfl) ⟨⟨by omega, by omega⟩, by omega, by omega⟩ (fun v9 M1 hp h5 h6 => ?_)
  rcases hp with ⟨hg0, rfl, hMo, ad1, ha1, hc1, hf1⟩ | ⟨hg1, ht1, rfl, hMo, hc1⟩
  · have hk1 : ∀ q : Nat, M q ≠ none → ¬ (foot R ad q ∨ q = o) → M1 q = M q := h5
    obtain ⟨hM1, hF1⟩ := h.cls hk1 h6 hc1 hf1
    have hc0 := (gq_alias hwf (s := s1)).r hg0
    show mj G 7 (k + 2) (n + 12) M1 295 [some (.ref sc), some (.ref (ad 0 0 0)), some (.ref m), some (.ref o), some (.int (nI i)), none, none] [.int 0]
    refine m_istore (L' := [some (.ref sc), some (.ref (ad 0 0 0)), some (.ref m), some (.ref o), some (.int (nI i)), some (.int 0), none]) C d_La_law_295 (by decide) rfl ?_
    refine m_aload_n C d_La_law_297 rfl rfl ?_
    refine m_aload_n C d_La_law_298 rfl rfl ?_
    refine m_iload C d_La_law_299 rfl ?_
    refine m_iconst (v := 1) C d_La_law_301 (by decide) ?_
    refine m_iadd C d_La_law_302 ?_
    rw [show nI i + 1 = nI (i + 1) from nI_add i 1]
    refine m_xld C d_La_law_303 hX (by omega) hN ?_
    rw [← hs1]
    refine m_callV (ci := 10) C d_La_law_304 mw_La_90 mi_Mo_alias se_Mo_alias rfl (ct_Mo_alias _ _ _ R m mr s1 M1 hM1 hwf) (fun q z => (hMw q z).1) rfl rfl (Nat.le_of_ble_eq_true rfl) hM1.1 ⟨⟨by omega, by omega⟩, by omega, by omega⟩ (fun v8 M2 hp2 h25 h26 => ?_)
    obtain ⟨rfl, hM2⟩ := hp2.1 hg0
    obtain ⟨R2, hR2⟩ : ∃ R2 : mR, R2 = uR (uR (uR (uR R 0 0 0) 5 (3 * tn s1 + tn (R 4 (tn s1))) 0) 4 (tn s1) (nI (tn (R 4 (tn s1)) + 1))) 28 0 0 := ⟨_, rfl⟩
    rw [← hR2] at hM2
    have hE0 : ∀ f, f ≠ 0 → R2 f = (uR (uR (uR R 5 (3 * tn s1 + tn (R 4 (tn s1))) 0) 4 (tn s1) (nI (tn (R 4 (tn s1)) + 1))) 28 0 0 : mR) f := by rw [hR2]; exact eq0_u (eq0_u (eq0_u (eq0_0 R 0) _ _ _ (by decide)) _ _ _ (by decide)) _ _ _ (by decide)
    have he0 := eq0_4 hE0
    have hw2 : WfS R2 := WfS_cg hE0 (wf_alias hwf hc0.1 hc0.2.2.2)
    have hz2 : R2 0 0 = 0 := by rw [hR2]; rfl
    obtain ⟨hLI, ho2⟩ := LI.mod (G := G) hw2 hc1 hM2 ha1 hMo hF1 hMw hoW he0 (fun q a b => h25 q a b)
    show mj G 7 (k + 2) (n + 12) M2 307 [some (.ref sc), some (.ref (ad 0 0 0)), some (.ref m), some (.ref o), some (.int (nI i)), some (.int 0), none] [.int (nI (tn (R 4 (tn s1)) + 1))]
    refine m_istore (L' := [some (.ref sc), some (.ref (ad 0 0 0)), some (.ref m), some (.ref o), some (.int (nI i)), some (.int 0), some (.int (nI (tn (R 4 (tn s1)) + 1)))]) C d_La_law_307 (by decide) rfl ?_
    refine m_aload_n C d_La_law_309 rfl rfl ?_
    refine m_callV (ci := 10) C d_La_law_310 mw_La_78 mi_Mo_thrown se_Mo_thrown rfl (ct_Mo_thrown _ _ _ R2 m mr M2 hM2) (fun _ z => z.elim) rfl rfl (Nat.le_of_ble_eq_true rfl) hM2.1 ⟨⟨by omega, by omega⟩, by omega, by omega⟩ (fun v7 M3 hp3 h35 h36 => ?_)
    obtain ⟨rfl, hM3⟩ := hp3; rw [hM3, hz2]
    show mj G 7 (k + 2) (n + 12) M2 313 [some (.ref sc), some (.ref (ad 0 0 0)), some (.ref m), some (.ref o), some (.int (nI i)), some (.int 0), some (.int (nI (tn (R 4 (tn s1)) + 1)))] [.int 0]
    refine m_iload C d_La_law_313 rfl ?_
    refine m_icmp_eq (tgt := 320) C d_La_law_315 (by decide) (fun hq9 => ?_) (fun hq9 => ?_)
    · refine m_iload C d_La_law_320 rfl ?_
      refine m_if_ne (tgt := 337) C d_La_law_322 (by decide) (fun hq8 => ?_) (fun hq8 => ?_)
      · exact absurd rfl hq8
      · refine m_aload_n C d_La_law_325 rfl rfl ?_
        refine m_iconst (v := 0) C d_La_law_326 (by decide) ?_
        refine m_lald (v := .long (nI (tn (R 4 (tn s1)) + 1)).toInt64) C d_La_law_327 ho2 kt_long (by decide) rfl ?_
        refine m_iload C d_La_law_328 rfl ?_
        refine m_i2l C d_La_law_330 ?_
        refine m_lcmp C d_La_law_331 ?_
        rw [lgc]
        refine m_if_eq (tgt := 337) C d_La_law_332 (by decide) (fun hq7 => ?_) (fun hq7 => ?_)
        · refine m_goto (tgt := 1237) C d_La_law_337 (by decide) ?_
          exact mj_L (fun q v hv => by rcases q with _ | _ | _ | _ | _ | _ | _ | q <;> first | exact hv | exact absurd (Option.some.inj hv) (by simp)) (nx R2 ad1 M2 (k + 2) (n + 12) hLI (by omega) (by omega))
        · exact absurd rfl hq7
    · exact absurd rfl hq9
  · have hk1 : ∀ q : Nat, M q ≠ none → ¬ (foot R ad q ∨ q = o) → M1 q = M q := h5
    obtain ⟨hM1, hF1⟩ := h.cls hk1 h6 hc1 (fun q z => Or.inl z)
    obtain ⟨kv, hkv⟩ : ∃ z : Int32, z = (nI (thN 13 (gbN (kn R s1) (true) ((kn R s1 && decide (0 < R 5 (3 * tn s1 + (tn (R 4 (tn s1)) - 1))))) ((kn R s1 && decide (tn (R 4 (tn s1)) < 3)))))) := ⟨_, rfl⟩
    show mj G 7 (k + 2) (n + 12) M1 295 [some (.ref sc), some (.ref (ad 0 0 0)), some (.ref m), some (.ref o), some (.int (nI i)), none, none] [.int (nI (thN 13 (gbN (kn R s1) (true) ((kn R s1 && decide (0 < R 5 (3 * tn s1 + (tn (R 4 (tn s1)) - 1))))) ((kn R s1 && decide (tn (R 4 (tn s1)) < 3))))))]
    rw [← hkv]
    refine m_istore (L' := [some (.ref sc), some (.ref (ad 0 0 0)), some (.ref m), some (.ref o), some (.int (nI i)), some (.int kv), none]) C d_La_law_295 (by decide) rfl ?_
    refine m_aload_n C d_La_law_297 rfl rfl ?_
    refine m_aload_n C d_La_law_298 rfl rfl ?_
    refine m_iload C d_La_law_299 rfl ?_
    refine m_iconst (v := 1) C d_La_law_301 (by decide) ?_
    refine m_iadd C d_La_law_302 ?_
    rw [show nI i + 1 = nI (i + 1) from nI_add i 1]
    refine m_xld C d_La_law_303 hX (by omega) hN ?_
    rw [← hs1]
    refine m_callV (ci := 10) C d_La_law_304 mw_La_90 mi_Mo_alias se_Mo_alias rfl (ct_Mo_alias _ _ _ R m mr s1 M1 hM1 hwf) (fun q z => (hMw q z).1) rfl rfl (Nat.le_of_ble_eq_true rfl) hM1.1 ⟨⟨by omega, by omega⟩, by omega, by omega⟩ (fun v8 M2 hp2 h25 h26 => ?_)
    obtain ⟨rfl, hM2⟩ := hp2.2 hg1
    obtain ⟨R2, hR2⟩ : ∃ R2 : mR, R2 = uR R 0 0 (nI (thN 13 (gbN (kn R s1) (true) ((kn R s1 && decide (0 < R 5 (3 * tn s1 + (tn (R 4 (tn s1)) - 1))))) ((kn R s1 && decide (tn (R 4 (tn s1)) < 3)))))) := ⟨_, rfl⟩
    rw [← hR2] at hM2
    have hE0 : ∀ f, f ≠ 0 → R2 f = R f := by rw [hR2]; exact eq0_0 R _
    have hz2 : R2 0 0 = kv := by rw [hR2, hkv]; rfl
    obtain ⟨hLI, ho2⟩ := LI.mod (G := G) (WfS_cg hE0 hwf) hc1 hM2 rfl hMo hF1 hMw hoW (eq0_4 hE0) (fun q a b => h25 q a b)
    have hkn : ¬ kv = 0 := by rw [hkv]; exact nI_ne0 ht1 (Nat.lt_of_le_of_lt (Nat.le_trans (thN_le _ _) (gbN_le _ _ _ _)) (by decide))
    show mj G 7 (k + 2) (n + 12) M2 307 [some (.ref sc), some (.ref (ad 0 0 0)), some (.ref m), some (.ref o), some (.int (nI i)), some (.int kv), none] [.int (0)]
    refine m_istore (L' := [some (.ref sc), some (.ref (ad 0 0 0)), some (.ref m), some (.ref o), some (.int (nI i)), some (.int kv), some (.int (0))]) C d_La_law_307 (by decide) rfl ?_
    refine m_aload_n C d_La_law_309 rfl rfl ?_
    refine m_callV (ci := 10) C d_La_law_310 mw_La_78 mi_Mo_thrown se_Mo_thrown rfl (ct_Mo_thrown _ _ _ R2 m mr M2 hM2) (fun _ z => z.elim) rfl rfl (Nat.le_of_ble_eq_true rfl) hM2.1 ⟨⟨by omega, by omega⟩, by omega, by omega⟩ (fun v7 M3 hp3 h35 h36 => ?_)
    obtain ⟨rfl, hM3⟩ := hp3; rw [hM3, hz2]
    show mj G 7 (k + 2) (n + 12) M2 313 [some (.ref sc), some (.ref (ad 0 0 0)), some (.ref m), some (.ref o), some (.int (nI i)), some (.int kv), some (.int (0))] [.int kv]
    refine m_iload C d_La_law_313 rfl ?_
    refine m_icmp_eq (tgt := 320) C d_La_law_315 (by decide) (fun hq9 => ?_) (fun hq9 => ?_)
    · refine m_iload C d_La_law_320 rfl ?_
      refine m_if_ne (tgt := 337) C d_La_law_322 (by decide) (fun hq8 => ?_) (fun hq8 => ?_)
      · refine m_goto (tgt := 1237) C d_La_law_337 (by decide) ?_
        exact mj_L (fun q v hv => by rcases q with _ | _ | _ | _ | _ | _ | _ | q <;> first | exact hv | exact absurd (Option.some.inj hv) (by simp)) (nx R2 ad M2 (k + 2) (n + 12) hLI (by omega) (by omega))
      · exact absurd hq8 hkn
    · exact absurd rfl hq9

set_option maxHeartbeats 4000000 in
set_option maxRecDepth 100000 in
theorem la_range {G : ma_G} {fr mc ms lo k n : Nat} (C : ma_C G c_La_law 7 R_La fr mc ms lo) (sc N : Nat) (f : Nat → Int32) (i : Nat) (hN : N < 2 ^ 31) (hi : i + 6 ≤ N) (R : mR) (ad : mAd) (xa m : Nat) (mr : Nat → Nat) (o : Nat) (M : ma_H) (hX : ma_X9 G sc N f) (h : LI G R ad xa m mr o M) (hfr : 11 ≤ fr) (hlo : 400 ≤ lo) (hk : k + 9 ≤ mc) (hn : n + 74 ≤ ms) (nx : ∀ (R' : mR) (ad' : mAd) (M' : ma_H) (k' n' : Nat), LI G R' ad' xa m mr o M' → k' ≤ k + 9 → n' ≤ n + 74 → mj G 7 k' n' M' 1237 [some (.ref sc), some (.ref xa), some (.ref m), some (.ref o), some (.int (nI i)), none, none] []) : mj G 7 k n M 340 [some (.ref sc), some (.ref xa), some (.ref m), some (.ref o), some (.int (nI i)), none, none] [] := by
  obtain ⟨hwf, hR, hM, rfl, ⟨ov, ho⟩, hF, hMw, hoW⟩ := id h
  have hof : ¬ foot R ad o := fun z => (hF o z).2.2 rfl
  obtain ⟨s1, hs1⟩ : ∃ z : Int32, z = f (i + 1) := ⟨_, rfl⟩
  obtain ⟨s2, hs2⟩ : ∃ z : Int32, z = f (i + 2) := ⟨_, rfl⟩
  obtain ⟨s3, hs3⟩ : ∃ z : Int32, z = f (i + 3) := ⟨_, rfl⟩
  obtain ⟨s4, hs4⟩ : ∃ z : Int32, z = f (i + 4) := ⟨_, rfl⟩
  obtain ⟨s5, hs5⟩ : ∃ z : Int32, z = f (i + 5) := ⟨_, rfl⟩
  refine m_aload_n C d_La_law_340 rfl rfl ?_
  refine m_aload_n C d_La_law_341 rfl rfl ?_
  refine m_iload C d_La_law_342 rfl ?_
  refine m_iconst (v := 1) C d_La_law_344 (by decide) ?_
  refine m_iadd C d_La_law_345 ?_
  rw [show nI i + 1 = nI (i + 1) from nI_add i 1]
  refine m_xld C d_La_law_346 hX (by omega) hN ?_
  rw [← hs1]
  refine m_aload_n C d_La_law_347 rfl rfl ?_
  refine m_iload C d_La_law_348 rfl ?_
  refine m_iconst (v := 2) C d_La_law_350 (by decide) ?_
  refine m_iadd C d_La_law_351 ?_
  rw [show nI i + 2 = nI (i + 2) from nI_add i 2]
  refine m_xld C d_La_law_352 hX (by omega) hN ?_
  rw [← hs2]
  refine m_aload_n C d_La_law_353 rfl rfl ?_
  refine m_iload C d_La_law_354 rfl ?_
  refine m_iconst (v := 3) C d_La_law_356 (by decide) ?_
  refine m_iadd C d_La_law_357 ?_
  rw [show nI i + 3 = nI (i + 3) from nI_add i 3]
  refine m_xld C d_La_law_358 hX (by omega) hN ?_
  rw [← hs3]
  refine m_aload_n C d_La_law_359 rfl rfl ?_
  refine m_iload C d_La_law_360 rfl ?_
  refine m_iconst (v := 4) C d_La_law_362 (by decide) ?_
  refine m_iadd C d_La_law_363 ?_
  rw [show nI i + 4 = nI (i + 4) from nI_add i 4]
  refine m_xld C d_La_law_364 hX (by omega) hN ?_
  rw [← hs4]
  refine m_aload_n C d_La_law_365 rfl rfl ?_
  refine m_callSW C d_La_law_366 mh_La_91 mst_La_range (ct_La_range _ _ _ R ad o ov s1 s2 s3 s4 M hR hwf ho hof) (fun q z => z.elim (fun y => (hF q y).1) (fun y => by rw [y]; exact hoW)) rfl rfl (Nat.le_of_ble_eq_true rfl) ⟨⟨by omega, by omega⟩, by omega, by omega⟩ (fun v9 M1 hp h5 h6 => ?_)
  rcases hp with ⟨hg0, rfl, hMo, ad1, ha1, hc1, hf1⟩ | ⟨hg1, ht1, rfl, hMo, hc1⟩
  · have hk1 : ∀ q : Nat, M q ≠ none → ¬ (foot R ad q ∨ q = o) → M1 q = M q := h5
    obtain ⟨hM1, hF1⟩ := h.cls hk1 h6 hc1 hf1
    have hc0 := (gq_range (R := R) (s := s1) (sd := s2) (lo := s3) (hi := s4)).r hg0
    show mj G 7 (k + 5) (n + 33) M1 369 [some (.ref sc), some (.ref (ad 0 0 0)), some (.ref m), some (.ref o), some (.int (nI i)), none, none] [.int 0]
    refine m_istore (L' := [some (.ref sc), some (.ref (ad 0 0 0)), some (.ref m), some (.ref o), some (.int (nI i)), some (.int 0), none]) C d_La_law_369 (by decide) rfl ?_
    refine m_aload_n C d_La_law_371 rfl rfl ?_
    refine m_aload_n C d_La_law_372 rfl rfl ?_
    refine m_iload C d_La_law_373 rfl ?_
    refine m_iconst (v := 1) C d_La_law_375 (by decide) ?_
    refine m_iadd C d_La_law_376 ?_
    rw [show nI i + 1 = nI (i + 1) from nI_add i 1]
    refine m_xld C d_La_law_377 hX (by omega) hN ?_
    rw [← hs1]
    refine m_aload_n C d_La_law_378 rfl rfl ?_
    refine m_iload C d_La_law_379 rfl ?_
    refine m_iconst (v := 2) C d_La_law_381 (by decide) ?_
    refine m_iadd C d_La_law_382 ?_
    rw [show nI i + 2 = nI (i + 2) from nI_add i 2]
    refine m_xld C d_La_law_383 hX (by omega) hN ?_
    rw [← hs2]
    refine m_aload_n C d_La_law_384 rfl rfl ?_
    refine m_iload C d_La_law_385 rfl ?_
    refine m_iconst (v := 3) C d_La_law_387 (by decide) ?_
    refine m_iadd C d_La_law_388 ?_
    rw [show nI i + 3 = nI (i + 3) from nI_add i 3]
    refine m_xld C d_La_law_389 hX (by omega) hN ?_
    rw [← hs3]
    refine m_aload_n C d_La_law_390 rfl rfl ?_
    refine m_iload C d_La_law_391 rfl ?_
    refine m_iconst (v := 4) C d_La_law_393 (by decide) ?_
    refine m_iadd C d_La_law_394 ?_
    rw [show nI i + 4 = nI (i + 4) from nI_add i 4]
    refine m_xld C d_La_law_395 hX (by omega) hN ?_
    rw [← hs4]
    refine m_callV (ci := 10) C d_La_law_396 mw_La_94 mi_Mo_range se_Mo_range rfl (ct_Mo_range _ _ _ R m mr s1 s2 s3 s4 M1 hM1 hwf) (fun q z => (hMw q z).1) rfl rfl (Nat.le_of_ble_eq_true rfl) hM1.1 ⟨⟨by omega, by omega⟩, by omega, by omega⟩ (fun v8 M2 hp2 h25 h26 => ?_)
    obtain ⟨rfl, hM2⟩ := hp2.1 hg0
    obtain ⟨R2, hR2⟩ : ∃ R2 : mR, R2 = uR (uR (uR (uR (uR (uR R 0 0 0) 8 (6 * tn s1 + tn (R 7 (tn s1))) s2) 9 (6 * tn s1 + tn (R 7 (tn s1))) s3) 10 (6 * tn s1 + tn (R 7 (tn s1))) s4) 7 (tn s1) (nI (tn (R 7 (tn s1)) + 1))) 28 0 0 := ⟨_, rfl⟩
    rw [← hR2] at hM2
    have hE0 : ∀ f, f ≠ 0 → R2 f = (uR (uR (uR (uR (uR R 8 (6 * tn s1 + tn (R 7 (tn s1))) s2) 9 (6 * tn s1 + tn (R 7 (tn s1))) s3) 10 (6 * tn s1 + tn (R 7 (tn s1))) s4) 7 (tn s1) (nI (tn (R 7 (tn s1)) + 1))) 28 0 0 : mR) f := by rw [hR2]; exact eq0_u (eq0_u (eq0_u (eq0_u (eq0_u (eq0_0 R 0) _ _ _ (by decide)) _ _ _ (by decide)) _ _ _ (by decide)) _ _ _ (by decide)) _ _ _ (by decide)
    have he0 := eq0_4 hE0
    have hw2 : WfS R2 := WfS_cg hE0 (wf_range hwf hc0.1 hc0.2.1 hc0.2.2.2)
    have hz2 : R2 0 0 = 0 := by rw [hR2]; rfl
    obtain ⟨hLI, ho2⟩ := LI.mod (G := G) hw2 hc1 hM2 ha1 hMo hF1 hMw hoW he0 (fun q a b => h25 q a b)
    show mj G 7 (k + 5) (n + 33) M2 399 [some (.ref sc), some (.ref (ad 0 0 0)), some (.ref m), some (.ref o), some (.int (nI i)), some (.int 0), none] [.int (nI (tn (R 7 (tn s1)) + 1))]
    refine m_istore (L' := [some (.ref sc), some (.ref (ad 0 0 0)), some (.ref m), some (.ref o), some (.int (nI i)), some (.int 0), some (.int (nI (tn (R 7 (tn s1)) + 1)))]) C d_La_law_399 (by decide) rfl ?_
    refine m_aload_n C d_La_law_401 rfl rfl ?_
    refine m_callV (ci := 10) C d_La_law_402 mw_La_78 mi_Mo_thrown se_Mo_thrown rfl (ct_Mo_thrown _ _ _ R2 m mr M2 hM2) (fun _ z => z.elim) rfl rfl (Nat.le_of_ble_eq_true rfl) hM2.1 ⟨⟨by omega, by omega⟩, by omega, by omega⟩ (fun v7 M3 hp3 h35 h36 => ?_)
    obtain ⟨rfl, hM3⟩ := hp3; rw [hM3, hz2]
    show mj G 7 (k + 5) (n + 33) M2 405 [some (.ref sc), some (.ref (ad 0 0 0)), some (.ref m), some (.ref o), some (.int (nI i)), some (.int 0), some (.int (nI (tn (R 7 (tn s1)) + 1)))] [.int 0]
    refine m_iload C d_La_law_405 rfl ?_
    refine m_icmp_eq (tgt := 412) C d_La_law_407 (by decide) (fun hq9 => ?_) (fun hq9 => ?_)
    · refine m_iload C d_La_law_412 rfl ?_
      refine m_if_ne (tgt := 429) C d_La_law_414 (by decide) (fun hq8 => ?_) (fun hq8 => ?_)
      · exact absurd rfl hq8
      · refine m_aload_n C d_La_law_417 rfl rfl ?_
        refine m_iconst (v := 0) C d_La_law_418 (by decide) ?_
        refine m_lald (v := .long (nI (tn (R 7 (tn s1)) + 1)).toInt64) C d_La_law_419 ho2 kt_long (by decide) rfl ?_
        refine m_iload C d_La_law_420 rfl ?_
        refine m_i2l C d_La_law_422 ?_
        refine m_lcmp C d_La_law_423 ?_
        rw [lgc]
        refine m_if_eq (tgt := 429) C d_La_law_424 (by decide) (fun hq7 => ?_) (fun hq7 => ?_)
        · refine m_goto (tgt := 1237) C d_La_law_429 (by decide) ?_
          exact mj_L (fun q v hv => by rcases q with _ | _ | _ | _ | _ | _ | _ | q <;> first | exact hv | exact absurd (Option.some.inj hv) (by simp)) (nx R2 ad1 M2 (k + 5) (n + 33) hLI (by omega) (by omega))
        · exact absurd rfl hq7
    · exact absurd rfl hq9
  · have hk1 : ∀ q : Nat, M q ≠ none → ¬ (foot R ad q ∨ q = o) → M1 q = M q := h5
    obtain ⟨hM1, hF1⟩ := h.cls hk1 h6 hc1 (fun q z => Or.inl z)
    obtain ⟨kv, hkv⟩ : ∃ z : Int32, z = (nI (thN 11 (gbN (kn R s1) ((inn s2 0 2 && inn s3 1 9999 && inn s4 s3 9999 && (iOf s2 s3 || decide (s3 < s4)))) (true) ((kn R s1 && decide (tn (R 7 (tn s1)) < 6)))))) := ⟨_, rfl⟩
    show mj G 7 (k + 5) (n + 33) M1 369 [some (.ref sc), some (.ref (ad 0 0 0)), some (.ref m), some (.ref o), some (.int (nI i)), none, none] [.int (nI (thN 11 (gbN (kn R s1) ((inn s2 0 2 && inn s3 1 9999 && inn s4 s3 9999 && (iOf s2 s3 || decide (s3 < s4)))) (true) ((kn R s1 && decide (tn (R 7 (tn s1)) < 6))))))]
    rw [← hkv]
    refine m_istore (L' := [some (.ref sc), some (.ref (ad 0 0 0)), some (.ref m), some (.ref o), some (.int (nI i)), some (.int kv), none]) C d_La_law_369 (by decide) rfl ?_
    refine m_aload_n C d_La_law_371 rfl rfl ?_
    refine m_aload_n C d_La_law_372 rfl rfl ?_
    refine m_iload C d_La_law_373 rfl ?_
    refine m_iconst (v := 1) C d_La_law_375 (by decide) ?_
    refine m_iadd C d_La_law_376 ?_
    rw [show nI i + 1 = nI (i + 1) from nI_add i 1]
    refine m_xld C d_La_law_377 hX (by omega) hN ?_
    rw [← hs1]
    refine m_aload_n C d_La_law_378 rfl rfl ?_
    refine m_iload C d_La_law_379 rfl ?_
    refine m_iconst (v := 2) C d_La_law_381 (by decide) ?_
    refine m_iadd C d_La_law_382 ?_
    rw [show nI i + 2 = nI (i + 2) from nI_add i 2]
    refine m_xld C d_La_law_383 hX (by omega) hN ?_
    rw [← hs2]
    refine m_aload_n C d_La_law_384 rfl rfl ?_
    refine m_iload C d_La_law_385 rfl ?_
    refine m_iconst (v := 3) C d_La_law_387 (by decide) ?_
    refine m_iadd C d_La_law_388 ?_
    rw [show nI i + 3 = nI (i + 3) from nI_add i 3]
    refine m_xld C d_La_law_389 hX (by omega) hN ?_
    rw [← hs3]
    refine m_aload_n C d_La_law_390 rfl rfl ?_
    refine m_iload C d_La_law_391 rfl ?_
    refine m_iconst (v := 4) C d_La_law_393 (by decide) ?_
    refine m_iadd C d_La_law_394 ?_
    rw [show nI i + 4 = nI (i + 4) from nI_add i 4]
    refine m_xld C d_La_law_395 hX (by omega) hN ?_
    rw [← hs4]
    refine m_callV (ci := 10) C d_La_law_396 mw_La_94 mi_Mo_range se_Mo_range rfl (ct_Mo_range _ _ _ R m mr s1 s2 s3 s4 M1 hM1 hwf) (fun q z => (hMw q z).1) rfl rfl (Nat.le_of_ble_eq_true rfl) hM1.1 ⟨⟨by omega, by omega⟩, by omega, by omega⟩ (fun v8 M2 hp2 h25 h26 => ?_)
    obtain ⟨rfl, hM2⟩ := hp2.2 hg1
    obtain ⟨R2, hR2⟩ : ∃ R2 : mR, R2 = uR R 0 0 (nI (thN 11 (gbN (kn R s1) ((inn s2 0 2 && inn s3 1 9999 && inn s4 s3 9999 && (iOf s2 s3 || decide (s3 < s4)))) (true) ((kn R s1 && decide (tn (R 7 (tn s1)) < 6)))))) := ⟨_, rfl⟩
    rw [← hR2] at hM2
    have hE0 : ∀ f, f ≠ 0 → R2 f = R f := by rw [hR2]; exact eq0_0 R _
    have hz2 : R2 0 0 = kv := by rw [hR2, hkv]; rfl
    obtain ⟨hLI, ho2⟩ := LI.mod (G := G) (WfS_cg hE0 hwf) hc1 hM2 rfl hMo hF1 hMw hoW (eq0_4 hE0) (fun q a b => h25 q a b)
    have hkn : ¬ kv = 0 := by rw [hkv]; exact nI_ne0 ht1 (Nat.lt_of_le_of_lt (Nat.le_trans (thN_le _ _) (gbN_le _ _ _ _)) (by decide))
    show mj G 7 (k + 5) (n + 33) M2 399 [some (.ref sc), some (.ref (ad 0 0 0)), some (.ref m), some (.ref o), some (.int (nI i)), some (.int kv), none] [.int (0)]
    refine m_istore (L' := [some (.ref sc), some (.ref (ad 0 0 0)), some (.ref m), some (.ref o), some (.int (nI i)), some (.int kv), some (.int (0))]) C d_La_law_399 (by decide) rfl ?_
    refine m_aload_n C d_La_law_401 rfl rfl ?_
    refine m_callV (ci := 10) C d_La_law_402 mw_La_78 mi_Mo_thrown se_Mo_thrown rfl (ct_Mo_thrown _ _ _ R2 m mr M2 hM2) (fun _ z => z.elim) rfl rfl (Nat.le_of_ble_eq_true rfl) hM2.1 ⟨⟨by omega, by omega⟩, by omega, by omega⟩ (fun v7 M3 hp3 h35 h36 => ?_)
    obtain ⟨rfl, hM3⟩ := hp3; rw [hM3, hz2]
    show mj G 7 (k + 5) (n + 33) M2 405 [some (.ref sc), some (.ref (ad 0 0 0)), some (.ref m), some (.ref o), some (.int (nI i)), some (.int kv), some (.int (0))] [.int kv]
    refine m_iload C d_La_law_405 rfl ?_
    refine m_icmp_eq (tgt := 412) C d_La_law_407 (by decide) (fun hq9 => ?_) (fun hq9 => ?_)
    · refine m_iload C d_La_law_412 rfl ?_
      refine m_if_ne (tgt := 429) C d_La_law_414 (by decide) (fun hq8 => ?_) (fun hq8 => ?_)
      · refine m_goto (tgt := 1237) C d_La_law_429 (by decide) ?_
        exact mj_L (fun q v hv => by rcases q with _ | _ | _ | _ | _ | _ | _ | q <;> first | exact hv | exact absurd (Option.some.inj hv) (by simp)) (nx R2 ad M2 (k + 5) (n + 33) hLI (by omega) (by omega))
      · exact absurd hq8 hkn
    · exact absurd rfl hq9

set_option maxHeartbeats 4000000 in
set_option maxRecDepth 100000 in
theorem la_line {G : ma_G} {fr mc ms lo k n : Nat} (C : ma_C G c_La_law 7 R_La fr mc ms lo) (sc N : Nat) (f : Nat → Int32) (i : Nat) (hN : N < 2 ^ 31) (hi : i + 6 ≤ N) (R : mR) (ad : mAd) (xa m : Nat) (mr : Nat → Nat) (o : Nat) (M : ma_H) (hX : ma_X9 G sc N f) (h : LI G R ad xa m mr o M) (hfr : 11 ≤ fr) (hlo : 400 ≤ lo) (hk : k + 9 ≤ mc) (hn : n + 74 ≤ ms) (nx : ∀ (R' : mR) (ad' : mAd) (M' : ma_H) (k' n' : Nat), LI G R' ad' xa m mr o M' → k' ≤ k + 9 → n' ≤ n + 74 → mj G 7 k' n' M' 1237 [some (.ref sc), some (.ref xa), some (.ref m), some (.ref o), some (.int (nI i)), none, none] []) : mj G 7 k n M 432 [some (.ref sc), some (.ref xa), some (.ref m), some (.ref o), some (.int (nI i)), none, none] [] := by
  obtain ⟨hwf, hR, hM, rfl, ⟨ov, ho⟩, hF, hMw, hoW⟩ := id h
  have hof : ¬ foot R ad o := fun z => (hF o z).2.2 rfl
  obtain ⟨s1, hs1⟩ : ∃ z : Int32, z = f (i + 1) := ⟨_, rfl⟩
  obtain ⟨s2, hs2⟩ : ∃ z : Int32, z = f (i + 2) := ⟨_, rfl⟩
  obtain ⟨s3, hs3⟩ : ∃ z : Int32, z = f (i + 3) := ⟨_, rfl⟩
  obtain ⟨s4, hs4⟩ : ∃ z : Int32, z = f (i + 4) := ⟨_, rfl⟩
  obtain ⟨s5, hs5⟩ : ∃ z : Int32, z = f (i + 5) := ⟨_, rfl⟩
  refine m_aload_n C d_La_law_432 rfl rfl ?_
  refine m_aload_n C d_La_law_433 rfl rfl ?_
  refine m_iload C d_La_law_434 rfl ?_
  refine m_iconst (v := 1) C d_La_law_436 (by decide) ?_
  refine m_iadd C d_La_law_437 ?_
  rw [show nI i + 1 = nI (i + 1) from nI_add i 1]
  refine m_xld C d_La_law_438 hX (by omega) hN ?_
  rw [← hs1]
  refine m_aload_n C d_La_law_439 rfl rfl ?_
  refine m_iload C d_La_law_440 rfl ?_
  refine m_iconst (v := 2) C d_La_law_442 (by decide) ?_
  refine m_iadd C d_La_law_443 ?_
  rw [show nI i + 2 = nI (i + 2) from nI_add i 2]
  refine m_xld C d_La_law_444 hX (by omega) hN ?_
  rw [← hs2]
  refine m_aload_n C d_La_law_445 rfl rfl ?_
  refine m_iload C d_La_law_446 rfl ?_
  refine m_iconst (v := 3) C d_La_law_448 (by decide) ?_
  refine m_iadd C d_La_law_449 ?_
  rw [show nI i + 3 = nI (i + 3) from nI_add i 3]
  refine m_xld C d_La_law_450 hX (by omega) hN ?_
  rw [← hs3]
  refine m_aload_n C d_La_law_451 rfl rfl ?_
  refine m_iload C d_La_law_452 rfl ?_
  refine m_iconst (v := 4) C d_La_law_454 (by decide) ?_
  refine m_iadd C d_La_law_455 ?_
  rw [show nI i + 4 = nI (i + 4) from nI_add i 4]
  refine m_xld C d_La_law_456 hX (by omega) hN ?_
  rw [← hs4]
  refine m_aload_n C d_La_law_457 rfl rfl ?_
  refine m_iload C d_La_law_458 rfl ?_
  refine m_iconst (v := 5) C d_La_law_460 (by decide) ?_
  refine m_iadd C d_La_law_461 ?_
  rw [show nI i + 5 = nI (i + 5) from nI_add i 5]
  refine m_xld C d_La_law_462 hX (by omega) hN ?_
  rw [← hs5]
  refine m_aload_n C d_La_law_463 rfl rfl ?_
  refine m_callSW C d_La_law_464 mh_La_95 mst_La_line (ct_La_line _ _ _ R ad o ov s1 s2 s3 s4 s5 M hR hwf ho hof) (fun q z => z.elim (fun y => (hF q y).1) (fun y => by rw [y]; exact hoW)) rfl rfl (Nat.le_of_ble_eq_true rfl) ⟨⟨by omega, by omega⟩, by omega, by omega⟩ (fun v9 M1 hp h5 h6 => ?_)
  rcases hp with ⟨hg0, rfl, hMo, ad1, ha1, hc1, hf1⟩ | ⟨hg1, ht1, rfl, hMo, hc1⟩
  · have hk1 : ∀ q : Nat, M q ≠ none → ¬ (foot R ad q ∨ q = o) → M1 q = M q := h5
    obtain ⟨hM1, hF1⟩ := h.cls hk1 h6 hc1 hf1
    have hc0 := (gq_line (R := R) (s := s1) (x := s2) (y := s3) (tx := s4) (ty := s5)).r hg0
    show mj G 7 (k + 3) (n + 18) M1 467 [some (.ref sc), some (.ref (ad 0 0 0)), some (.ref m), some (.ref o), some (.int (nI i)), none, none] [.int 0]
    refine m_istore (L' := [some (.ref sc), some (.ref (ad 0 0 0)), some (.ref m), some (.ref o), some (.int (nI i)), some (.int 0), none]) C d_La_law_467 (by decide) rfl ?_
    refine m_aload_n C d_La_law_469 rfl rfl ?_
    refine m_aload_n C d_La_law_470 rfl rfl ?_
    refine m_iload C d_La_law_471 rfl ?_
    refine m_iconst (v := 1) C d_La_law_473 (by decide) ?_
    refine m_iadd C d_La_law_474 ?_
    rw [show nI i + 1 = nI (i + 1) from nI_add i 1]
    refine m_xld C d_La_law_475 hX (by omega) hN ?_
    rw [← hs1]
    refine m_aload_n C d_La_law_476 rfl rfl ?_
    refine m_iload C d_La_law_477 rfl ?_
    refine m_iconst (v := 2) C d_La_law_479 (by decide) ?_
    refine m_iadd C d_La_law_480 ?_
    rw [show nI i + 2 = nI (i + 2) from nI_add i 2]
    refine m_xld C d_La_law_481 hX (by omega) hN ?_
    rw [← hs2]
    refine m_aload_n C d_La_law_482 rfl rfl ?_
    refine m_iload C d_La_law_483 rfl ?_
    refine m_iconst (v := 3) C d_La_law_485 (by decide) ?_
    refine m_iadd C d_La_law_486 ?_
    rw [show nI i + 3 = nI (i + 3) from nI_add i 3]
    refine m_xld C d_La_law_487 hX (by omega) hN ?_
    rw [← hs3]
    refine m_aload_n C d_La_law_488 rfl rfl ?_
    refine m_iload C d_La_law_489 rfl ?_
    refine m_iconst (v := 4) C d_La_law_491 (by decide) ?_
    refine m_iadd C d_La_law_492 ?_
    rw [show nI i + 4 = nI (i + 4) from nI_add i 4]
    refine m_xld C d_La_law_493 hX (by omega) hN ?_
    rw [← hs4]
    refine m_aload_n C d_La_law_494 rfl rfl ?_
    refine m_iload C d_La_law_495 rfl ?_
    refine m_iconst (v := 5) C d_La_law_497 (by decide) ?_
    refine m_iadd C d_La_law_498 ?_
    rw [show nI i + 5 = nI (i + 5) from nI_add i 5]
    refine m_xld C d_La_law_499 hX (by omega) hN ?_
    rw [← hs5]
    refine m_callV (ci := 10) C d_La_law_500 mw_La_98 mi_Mo_line se_Mo_line rfl (ct_Mo_line _ _ _ R m mr s1 s2 s3 s4 s5 M1 hM1 hwf) (fun q z => (hMw q z).1) rfl rfl (Nat.le_of_ble_eq_true rfl) hM1.1 ⟨⟨by omega, by omega⟩, by omega, by omega⟩ (fun v8 M2 hp2 h25 h26 => ?_)
    obtain ⟨rfl, hM2⟩ := hp2.1 hg0
    rw [(root_eq hc0.2.1.1.1 hc0.2.1.1.2 hc0.2.1.2.1 hc0.2.1.2.2).1] at hM2 ⊢
    obtain ⟨R2, hR2⟩ : ∃ R2 : mR, R2 = uR (uR (uR (uR (uR (uR (uR R 0 0 0) 11 (tn s1) s2) 12 (tn s1) s3) 13 (tn s1) (s4 - s2)) 14 (tn s1) (s5 - s3)) 15 (tn s1) (w_root (sq_way s2 s3 s4 s5))) 28 0 0 := ⟨_, rfl⟩
    rw [← hR2] at hM2
    have hE0 : ∀ f, f ≠ 0 → R2 f = (uR (uR (uR (uR (uR (uR R 11 (tn s1) s2) 12 (tn s1) s3) 13 (tn s1) (s4 - s2)) 14 (tn s1) (s5 - s3)) 15 (tn s1) (w_root (sq_way s2 s3 s4 s5))) 28 0 0 : mR) f := by rw [hR2]; exact eq0_u (eq0_u (eq0_u (eq0_u (eq0_u (eq0_u (eq0_0 R 0) _ _ _ (by decide)) _ _ _ (by decide)) _ _ _ (by decide)) _ _ _ (by decide)) _ _ _ (by decide)) _ _ _ (by decide)
    have he0 := eq0_4 hE0
    have hw2 : WfS R2 := WfS_cg hE0 (wf_line hwf hc0.1 hc0.2.1)
    have hz2 : R2 0 0 = 0 := by rw [hR2]; rfl
    obtain ⟨hLI, ho2⟩ := LI.mod (G := G) hw2 hc1 hM2 ha1 hMo hF1 hMw hoW he0 (fun q a b => h25 q a b)
    show mj G 7 (k + 3) (n + 18) M2 503 [some (.ref sc), some (.ref (ad 0 0 0)), some (.ref m), some (.ref o), some (.int (nI i)), some (.int 0), none] [.int (w_root (sq_way s2 s3 s4 s5))]
    refine m_istore (L' := [some (.ref sc), some (.ref (ad 0 0 0)), some (.ref m), some (.ref o), some (.int (nI i)), some (.int 0), some (.int (w_root (sq_way s2 s3 s4 s5)))]) C d_La_law_503 (by decide) rfl ?_
    refine m_aload_n C d_La_law_505 rfl rfl ?_
    refine m_callV (ci := 10) C d_La_law_506 mw_La_78 mi_Mo_thrown se_Mo_thrown rfl (ct_Mo_thrown _ _ _ R2 m mr M2 hM2) (fun _ z => z.elim) rfl rfl (Nat.le_of_ble_eq_true rfl) hM2.1 ⟨⟨by omega, by omega⟩, by omega, by omega⟩ (fun v7 M3 hp3 h35 h36 => ?_)
    obtain ⟨rfl, hM3⟩ := hp3; rw [hM3, hz2]
    show mj G 7 (k + 3) (n + 18) M2 509 [some (.ref sc), some (.ref (ad 0 0 0)), some (.ref m), some (.ref o), some (.int (nI i)), some (.int 0), some (.int (w_root (sq_way s2 s3 s4 s5)))] [.int 0]
    refine m_iload C d_La_law_509 rfl ?_
    refine m_icmp_eq (tgt := 516) C d_La_law_511 (by decide) (fun hq9 => ?_) (fun hq9 => ?_)
    · refine m_iload C d_La_law_516 rfl ?_
      refine m_if_ne (tgt := 533) C d_La_law_518 (by decide) (fun hq8 => ?_) (fun hq8 => ?_)
      · exact absurd rfl hq8
      · refine m_aload_n C d_La_law_521 rfl rfl ?_
        refine m_iconst (v := 0) C d_La_law_522 (by decide) ?_
        refine m_lald (v := .long (w_root (sq_way s2 s3 s4 s5)).toInt64) C d_La_law_523 ho2 kt_long (by decide) rfl ?_
        refine m_iload C d_La_law_524 rfl ?_
        refine m_i2l C d_La_law_526 ?_
        refine m_lcmp C d_La_law_527 ?_
        rw [lgc]
        refine m_if_eq (tgt := 533) C d_La_law_528 (by decide) (fun hq7 => ?_) (fun hq7 => ?_)
        · refine m_goto (tgt := 1237) C d_La_law_533 (by decide) ?_
          exact mj_L (fun q v hv => by rcases q with _ | _ | _ | _ | _ | _ | _ | q <;> first | exact hv | exact absurd (Option.some.inj hv) (by simp)) (nx R2 ad1 M2 (k + 3) (n + 18) hLI (by omega) (by omega))
        · exact absurd rfl hq7
    · exact absurd rfl hq9
  · have hk1 : ∀ q : Nat, M q ≠ none → ¬ (foot R ad q ∨ q = o) → M1 q = M q := h5
    obtain ⟨hM1, hF1⟩ := h.cls hk1 h6 hc1 (fun q z => Or.inl z)
    obtain ⟨kv, hkv⟩ : ∃ z : Int32, z = (nI (thN 3 (gbN (kn R s1) ((inn s2 (-9999) 9999 && inn s3 (-9999) 9999 && inn s4 (-9999) 9999 && inn s5 (-9999) 9999)) (true) (true)))) := ⟨_, rfl⟩
    show mj G 7 (k + 3) (n + 18) M1 467 [some (.ref sc), some (.ref (ad 0 0 0)), some (.ref m), some (.ref o), some (.int (nI i)), none, none] [.int (nI (thN 3 (gbN (kn R s1) ((inn s2 (-9999) 9999 && inn s3 (-9999) 9999 && inn s4 (-9999) 9999 && inn s5 (-9999) 9999)) (true) (true))))]
    rw [← hkv]
    refine m_istore (L' := [some (.ref sc), some (.ref (ad 0 0 0)), some (.ref m), some (.ref o), some (.int (nI i)), some (.int kv), none]) C d_La_law_467 (by decide) rfl ?_
    refine m_aload_n C d_La_law_469 rfl rfl ?_
    refine m_aload_n C d_La_law_470 rfl rfl ?_
    refine m_iload C d_La_law_471 rfl ?_
    refine m_iconst (v := 1) C d_La_law_473 (by decide) ?_
    refine m_iadd C d_La_law_474 ?_
    rw [show nI i + 1 = nI (i + 1) from nI_add i 1]
    refine m_xld C d_La_law_475 hX (by omega) hN ?_
    rw [← hs1]
    refine m_aload_n C d_La_law_476 rfl rfl ?_
    refine m_iload C d_La_law_477 rfl ?_
    refine m_iconst (v := 2) C d_La_law_479 (by decide) ?_
    refine m_iadd C d_La_law_480 ?_
    rw [show nI i + 2 = nI (i + 2) from nI_add i 2]
    refine m_xld C d_La_law_481 hX (by omega) hN ?_
    rw [← hs2]
    refine m_aload_n C d_La_law_482 rfl rfl ?_
    refine m_iload C d_La_law_483 rfl ?_
    refine m_iconst (v := 3) C d_La_law_485 (by decide) ?_
    refine m_iadd C d_La_law_486 ?_
    rw [show nI i + 3 = nI (i + 3) from nI_add i 3]
    refine m_xld C d_La_law_487 hX (by omega) hN ?_
    rw [← hs3]
    refine m_aload_n C d_La_law_488 rfl rfl ?_
    refine m_iload C d_La_law_489 rfl ?_
    refine m_iconst (v := 4) C d_La_law_491 (by decide) ?_
    refine m_iadd C d_La_law_492 ?_
    rw [show nI i + 4 = nI (i + 4) from nI_add i 4]
    refine m_xld C d_La_law_493 hX (by omega) hN ?_
    rw [← hs4]
    refine m_aload_n C d_La_law_494 rfl rfl ?_
    refine m_iload C d_La_law_495 rfl ?_
    refine m_iconst (v := 5) C d_La_law_497 (by decide) ?_
    refine m_iadd C d_La_law_498 ?_
    rw [show nI i + 5 = nI (i + 5) from nI_add i 5]
    refine m_xld C d_La_law_499 hX (by omega) hN ?_
    rw [← hs5]
    refine m_callV (ci := 10) C d_La_law_500 mw_La_98 mi_Mo_line se_Mo_line rfl (ct_Mo_line _ _ _ R m mr s1 s2 s3 s4 s5 M1 hM1 hwf) (fun q z => (hMw q z).1) rfl rfl (Nat.le_of_ble_eq_true rfl) hM1.1 ⟨⟨by omega, by omega⟩, by omega, by omega⟩ (fun v8 M2 hp2 h25 h26 => ?_)
    obtain ⟨rfl, hM2⟩ := hp2.2 hg1
    obtain ⟨R2, hR2⟩ : ∃ R2 : mR, R2 = uR R 0 0 (nI (thN 3 (gbN (kn R s1) ((inn s2 (-9999) 9999 && inn s3 (-9999) 9999 && inn s4 (-9999) 9999 && inn s5 (-9999) 9999)) (true) (true)))) := ⟨_, rfl⟩
    rw [← hR2] at hM2
    have hE0 : ∀ f, f ≠ 0 → R2 f = R f := by rw [hR2]; exact eq0_0 R _
    have hz2 : R2 0 0 = kv := by rw [hR2, hkv]; rfl
    obtain ⟨hLI, ho2⟩ := LI.mod (G := G) (WfS_cg hE0 hwf) hc1 hM2 rfl hMo hF1 hMw hoW (eq0_4 hE0) (fun q a b => h25 q a b)
    have hkn : ¬ kv = 0 := by rw [hkv]; exact nI_ne0 ht1 (Nat.lt_of_le_of_lt (Nat.le_trans (thN_le _ _) (gbN_le _ _ _ _)) (by decide))
    show mj G 7 (k + 3) (n + 18) M2 503 [some (.ref sc), some (.ref (ad 0 0 0)), some (.ref m), some (.ref o), some (.int (nI i)), some (.int kv), none] [.int (0)]
    refine m_istore (L' := [some (.ref sc), some (.ref (ad 0 0 0)), some (.ref m), some (.ref o), some (.int (nI i)), some (.int kv), some (.int (0))]) C d_La_law_503 (by decide) rfl ?_
    refine m_aload_n C d_La_law_505 rfl rfl ?_
    refine m_callV (ci := 10) C d_La_law_506 mw_La_78 mi_Mo_thrown se_Mo_thrown rfl (ct_Mo_thrown _ _ _ R2 m mr M2 hM2) (fun _ z => z.elim) rfl rfl (Nat.le_of_ble_eq_true rfl) hM2.1 ⟨⟨by omega, by omega⟩, by omega, by omega⟩ (fun v7 M3 hp3 h35 h36 => ?_)
    obtain ⟨rfl, hM3⟩ := hp3; rw [hM3, hz2]
    show mj G 7 (k + 3) (n + 18) M2 509 [some (.ref sc), some (.ref (ad 0 0 0)), some (.ref m), some (.ref o), some (.int (nI i)), some (.int kv), some (.int (0))] [.int kv]
    refine m_iload C d_La_law_509 rfl ?_
    refine m_icmp_eq (tgt := 516) C d_La_law_511 (by decide) (fun hq9 => ?_) (fun hq9 => ?_)
    · refine m_iload C d_La_law_516 rfl ?_
      refine m_if_ne (tgt := 533) C d_La_law_518 (by decide) (fun hq8 => ?_) (fun hq8 => ?_)
      · refine m_goto (tgt := 1237) C d_La_law_533 (by decide) ?_
        exact mj_L (fun q v hv => by rcases q with _ | _ | _ | _ | _ | _ | _ | q <;> first | exact hv | exact absurd (Option.some.inj hv) (by simp)) (nx R2 ad M2 (k + 3) (n + 18) hLI (by omega) (by omega))
      · exact absurd hq8 hkn
    · exact absurd rfl hq9

set_option maxHeartbeats 4000000 in
set_option maxRecDepth 100000 in
theorem la_close {G : ma_G} {fr mc ms lo k n : Nat} (C : ma_C G c_La_law 7 R_La fr mc ms lo) (sc N : Nat) (f : Nat → Int32) (i : Nat) (hN : N < 2 ^ 31) (hi : i + 6 ≤ N) (R : mR) (ad : mAd) (xa m : Nat) (mr : Nat → Nat) (o : Nat) (M : ma_H) (hX : ma_X9 G sc N f) (h : LI G R ad xa m mr o M) (hfr : 11 ≤ fr) (hlo : 400 ≤ lo) (hk : k + 9 ≤ mc) (hn : n + 74 ≤ ms) (nx : ∀ (R' : mR) (ad' : mAd) (M' : ma_H) (k' n' : Nat), LI G R' ad' xa m mr o M' → k' ≤ k + 9 → n' ≤ n + 74 → mj G 7 k' n' M' 1237 [some (.ref sc), some (.ref xa), some (.ref m), some (.ref o), some (.int (nI i)), none, none] []) : mj G 7 k n M 536 [some (.ref sc), some (.ref xa), some (.ref m), some (.ref o), some (.int (nI i)), none, none] [] := by
  obtain ⟨hwf, hR, hM, rfl, ⟨ov, ho⟩, hF, hMw, hoW⟩ := id h
  have hof : ¬ foot R ad o := fun z => (hF o z).2.2 rfl
  obtain ⟨s1, hs1⟩ : ∃ z : Int32, z = f (i + 1) := ⟨_, rfl⟩
  obtain ⟨s2, hs2⟩ : ∃ z : Int32, z = f (i + 2) := ⟨_, rfl⟩
  obtain ⟨s3, hs3⟩ : ∃ z : Int32, z = f (i + 3) := ⟨_, rfl⟩
  obtain ⟨s4, hs4⟩ : ∃ z : Int32, z = f (i + 4) := ⟨_, rfl⟩
  obtain ⟨s5, hs5⟩ : ∃ z : Int32, z = f (i + 5) := ⟨_, rfl⟩
  refine m_aload_n C d_La_law_536 rfl rfl ?_
  refine m_aload_n C d_La_law_537 rfl rfl ?_
  refine m_iload C d_La_law_538 rfl ?_
  refine m_iconst (v := 1) C d_La_law_540 (by decide) ?_
  refine m_iadd C d_La_law_541 ?_
  rw [show nI i + 1 = nI (i + 1) from nI_add i 1]
  refine m_xld C d_La_law_542 hX (by omega) hN ?_
  rw [← hs1]
  refine m_aload_n C d_La_law_543 rfl rfl ?_
  refine m_iload C d_La_law_544 rfl ?_
  refine m_iconst (v := 2) C d_La_law_546 (by decide) ?_
  refine m_iadd C d_La_law_547 ?_
  rw [show nI i + 2 = nI (i + 2) from nI_add i 2]
  refine m_xld C d_La_law_548 hX (by omega) hN ?_
  rw [← hs2]
  have jy : ∀ zb : Int32, zb = b2i (!decide (s2 = 0)) → mj G 7 k n M 557 [some (.ref sc), some (.ref (ad 0 0 0)), some (.ref m), some (.ref o), some (.int (nI i)), none, none] [.int zb, .int s1, .ref (ad 0 0 0)] := by
    intro zb hzb
    have hb01 : zb = 0 ∨ zb = 1 := by rw [hzb]; exact b2i_01 _
    refine m_callSW C d_La_law_557 mh_La_99 mst_La_close (ct_La_close _ _ _ R ad s1 zb hb01 M hR hwf ) (fun q z => (hF q z).1) rfl rfl (Nat.le_of_ble_eq_true rfl) ⟨⟨by omega, by omega⟩, by omega, by omega⟩ (fun v9 M1 hp h5 h6 => ?_)
    rcases hp with ⟨hg0, rfl, ad1, ha1, hc1, hf1⟩ | ⟨hg1, ht1, rfl, hc1⟩
    · have hk1 : ∀ q : Nat, M q ≠ none → ¬ (foot R ad q ∨ q = o) → M1 q = M q := (fun q a b => h5 q a (fun z => b (Or.inl z)))
      have hMo : M1 o = some (.inr (.long, [.long ov])) := (h5 o (by rw [ho]; simp) hof).trans ho
      obtain ⟨hM1, hF1⟩ := h.cls hk1 h6 hc1 hf1
      have hc0 := (gq_close (R := R) (s := s1)).r hg0
      show mj G 7 (k + 1) (n + 6) M1 560 [some (.ref sc), some (.ref (ad 0 0 0)), some (.ref m), some (.ref o), some (.int (nI i)), none, none] [.int 0]
      refine m_istore (L' := [some (.ref sc), some (.ref (ad 0 0 0)), some (.ref m), some (.ref o), some (.int (nI i)), some (.int 0), none]) C d_La_law_560 (by decide) rfl ?_
      refine m_aload_n C d_La_law_562 rfl rfl ?_
      refine m_aload_n C d_La_law_563 rfl rfl ?_
      refine m_iload C d_La_law_564 rfl ?_
      refine m_iconst (v := 1) C d_La_law_566 (by decide) ?_
      refine m_iadd C d_La_law_567 ?_
      rw [show nI i + 1 = nI (i + 1) from nI_add i 1]
      refine m_xld C d_La_law_568 hX (by omega) hN ?_
      rw [← hs1]
      refine m_aload_n C d_La_law_569 rfl rfl ?_
      refine m_iload C d_La_law_570 rfl ?_
      refine m_iconst (v := 2) C d_La_law_572 (by decide) ?_
      refine m_iadd C d_La_law_573 ?_
      rw [show nI i + 2 = nI (i + 2) from nI_add i 2]
      refine m_xld C d_La_law_574 hX (by omega) hN ?_
      rw [← hs2]
      have jz : ∀ zb : Int32, zb = b2i (!decide (s2 = 0)) → mj G 7 (k + 1) (n + 6) M1 583 [some (.ref sc), some (.ref (ad 0 0 0)), some (.ref m), some (.ref o), some (.int (nI i)), some (.int 0), none] [.int zb, .int s1, .ref m] := by
        intro z9 hz9
        have hz8 : z9 = zb := hz9.trans hzb.symm
        rw [hz8]
        refine m_callV (ci := 10) C d_La_law_583 mw_La_102 mi_Mo_close se_Mo_close rfl (ct_Mo_close _ _ _ R m mr s1 zb hb01 M1 hM1 hwf) (fun q z => (hMw q z).1) rfl rfl (Nat.le_of_ble_eq_true rfl) hM1.1 ⟨⟨by omega, by omega⟩, by omega, by omega⟩ (fun v8 M2 hp2 h25 h26 => ?_)
        obtain ⟨rfl, hM2⟩ := hp2.1 hg0
        obtain ⟨R2, hR2⟩ : ∃ R2 : mR, R2 = uR (uR (uR R 0 0 0) 3 (tn s1) zb) 28 0 0 := ⟨_, rfl⟩
        rw [← hR2] at hM2
        have hE0 : ∀ f, f ≠ 0 → R2 f = (uR (uR R 3 (tn s1) zb) 28 0 0 : mR) f := by rw [hR2]; exact eq0_u (eq0_u (eq0_0 R 0) _ _ _ (by decide)) _ _ _ (by decide)
        have he0 := eq0_4 hE0
        have hw2 : WfS R2 := WfS_cg hE0 (wf_close hwf hc0.1)
        have hz2 : R2 0 0 = 0 := by rw [hR2]; rfl
        obtain ⟨hLI, ho2⟩ := LI.mod (G := G) hw2 hc1 hM2 ha1 hMo hF1 hMw hoW he0 (fun q a b => h25 q a b)
        show mj G 7 (k + 1) (n + 6) M2 586 [some (.ref sc), some (.ref (ad 0 0 0)), some (.ref m), some (.ref o), some (.int (nI i)), some (.int 0), none] []
        refine m_aload_n C d_La_law_586 rfl rfl ?_
        refine m_callV (ci := 10) C d_La_law_587 mw_La_78 mi_Mo_thrown se_Mo_thrown rfl (ct_Mo_thrown _ _ _ R2 m mr M2 hM2) (fun _ z => z.elim) rfl rfl (Nat.le_of_ble_eq_true rfl) hM2.1 ⟨⟨by omega, by omega⟩, by omega, by omega⟩ (fun v7 M3 hp3 h35 h36 => ?_)
        obtain ⟨rfl, hM3⟩ := hp3; rw [hM3, hz2]
        show mj G 7 (k + 1) (n + 6) M2 590 [some (.ref sc), some (.ref (ad 0 0 0)), some (.ref m), some (.ref o), some (.int (nI i)), some (.int 0), none] [.int 0]
        refine m_iload C d_La_law_590 rfl ?_
        refine m_icmp_eq (tgt := 597) C d_La_law_592 (by decide) (fun hq9 => ?_) (fun hq9 => ?_)
        · refine m_goto (tgt := 1237) C d_La_law_597 (by decide) ?_
          exact mj_L (fun q v hv => by rcases q with _ | _ | _ | _ | _ | _ | _ | q <;> first | exact hv | exact absurd (Option.some.inj hv) (by simp)) (nx R2 ad1 M2 (k + 1) (n + 6) hLI (by omega) (by omega))
        · exact absurd rfl hq9
      refine m_if_eq (tgt := 582) C d_La_law_575 (by decide) (fun hq0 => ?_) (fun hq0 => ?_)
      · refine m_iconst (v := 0) C d_La_law_582 (by decide) ?_
        exact jz _ (by rw [decide_eq_true hq0]; rfl)
      · refine m_iconst (v := 1) C d_La_law_578 (by decide) ?_
        refine m_goto (tgt := 583) C d_La_law_579 (by decide) ?_
        exact jz _ (by rw [decide_eq_false hq0]; rfl)
    · have hk1 : ∀ q : Nat, M q ≠ none → ¬ (foot R ad q ∨ q = o) → M1 q = M q := (fun q a b => h5 q a (fun z => b (Or.inl z)))
      have hMo : M1 o = some (.inr (.long, [.long ov])) := (h5 o (by rw [ho]; simp) hof).trans ho
      obtain ⟨hM1, hF1⟩ := h.cls hk1 h6 hc1 (fun q z => Or.inl z)
      obtain ⟨kv, hkv⟩ : ∃ z : Int32, z = (nI (thN 1 (gbN (kn R s1) (true) (true) (true)))) := ⟨_, rfl⟩
      show mj G 7 (k + 1) (n + 6) M1 560 [some (.ref sc), some (.ref (ad 0 0 0)), some (.ref m), some (.ref o), some (.int (nI i)), none, none] [.int (nI (thN 1 (gbN (kn R s1) (true) (true) (true))))]
      rw [← hkv]
      refine m_istore (L' := [some (.ref sc), some (.ref (ad 0 0 0)), some (.ref m), some (.ref o), some (.int (nI i)), some (.int kv), none]) C d_La_law_560 (by decide) rfl ?_
      refine m_aload_n C d_La_law_562 rfl rfl ?_
      refine m_aload_n C d_La_law_563 rfl rfl ?_
      refine m_iload C d_La_law_564 rfl ?_
      refine m_iconst (v := 1) C d_La_law_566 (by decide) ?_
      refine m_iadd C d_La_law_567 ?_
      rw [show nI i + 1 = nI (i + 1) from nI_add i 1]
      refine m_xld C d_La_law_568 hX (by omega) hN ?_
      rw [← hs1]
      refine m_aload_n C d_La_law_569 rfl rfl ?_
      refine m_iload C d_La_law_570 rfl ?_
      refine m_iconst (v := 2) C d_La_law_572 (by decide) ?_
      refine m_iadd C d_La_law_573 ?_
      rw [show nI i + 2 = nI (i + 2) from nI_add i 2]
      refine m_xld C d_La_law_574 hX (by omega) hN ?_
      rw [← hs2]
      have jz : ∀ zb : Int32, zb = b2i (!decide (s2 = 0)) → mj G 7 (k + 1) (n + 6) M1 583 [some (.ref sc), some (.ref (ad 0 0 0)), some (.ref m), some (.ref o), some (.int (nI i)), some (.int kv), none] [.int zb, .int s1, .ref m] := by
        intro z9 hz9
        have hz8 : z9 = zb := hz9.trans hzb.symm
        rw [hz8]
        refine m_callV (ci := 10) C d_La_law_583 mw_La_102 mi_Mo_close se_Mo_close rfl (ct_Mo_close _ _ _ R m mr s1 zb hb01 M1 hM1 hwf) (fun q z => (hMw q z).1) rfl rfl (Nat.le_of_ble_eq_true rfl) hM1.1 ⟨⟨by omega, by omega⟩, by omega, by omega⟩ (fun v8 M2 hp2 h25 h26 => ?_)
        obtain ⟨rfl, hM2⟩ := hp2.2 hg1
        obtain ⟨R2, hR2⟩ : ∃ R2 : mR, R2 = uR R 0 0 (nI (thN 1 (gbN (kn R s1) (true) (true) (true)))) := ⟨_, rfl⟩
        rw [← hR2] at hM2
        have hE0 : ∀ f, f ≠ 0 → R2 f = R f := by rw [hR2]; exact eq0_0 R _
        have hz2 : R2 0 0 = kv := by rw [hR2, hkv]; rfl
        obtain ⟨hLI, ho2⟩ := LI.mod (G := G) (WfS_cg hE0 hwf) hc1 hM2 rfl hMo hF1 hMw hoW (eq0_4 hE0) (fun q a b => h25 q a b)
        have hkn : ¬ kv = 0 := by rw [hkv]; exact nI_ne0 ht1 (Nat.lt_of_le_of_lt (Nat.le_trans (thN_le _ _) (gbN_le _ _ _ _)) (by decide))
        show mj G 7 (k + 1) (n + 6) M2 586 [some (.ref sc), some (.ref (ad 0 0 0)), some (.ref m), some (.ref o), some (.int (nI i)), some (.int kv), none] []
        refine m_aload_n C d_La_law_586 rfl rfl ?_
        refine m_callV (ci := 10) C d_La_law_587 mw_La_78 mi_Mo_thrown se_Mo_thrown rfl (ct_Mo_thrown _ _ _ R2 m mr M2 hM2) (fun _ z => z.elim) rfl rfl (Nat.le_of_ble_eq_true rfl) hM2.1 ⟨⟨by omega, by omega⟩, by omega, by omega⟩ (fun v7 M3 hp3 h35 h36 => ?_)
        obtain ⟨rfl, hM3⟩ := hp3; rw [hM3, hz2]
        show mj G 7 (k + 1) (n + 6) M2 590 [some (.ref sc), some (.ref (ad 0 0 0)), some (.ref m), some (.ref o), some (.int (nI i)), some (.int kv), none] [.int kv]
        refine m_iload C d_La_law_590 rfl ?_
        refine m_icmp_eq (tgt := 597) C d_La_law_592 (by decide) (fun hq9 => ?_) (fun hq9 => ?_)
        · refine m_goto (tgt := 1237) C d_La_law_597 (by decide) ?_
          exact mj_L (fun q v hv => by rcases q with _ | _ | _ | _ | _ | _ | _ | q <;> first | exact hv | exact absurd (Option.some.inj hv) (by simp)) (nx R2 ad M2 (k + 1) (n + 6) hLI (by omega) (by omega))
        · exact absurd rfl hq9
      refine m_if_eq (tgt := 582) C d_La_law_575 (by decide) (fun hq0 => ?_) (fun hq0 => ?_)
      · refine m_iconst (v := 0) C d_La_law_582 (by decide) ?_
        exact jz _ (by rw [decide_eq_true hq0]; rfl)
      · refine m_iconst (v := 1) C d_La_law_578 (by decide) ?_
        refine m_goto (tgt := 583) C d_La_law_579 (by decide) ?_
        exact jz _ (by rw [decide_eq_false hq0]; rfl)
  refine m_if_eq (tgt := 556) C d_La_law_549 (by decide) (fun hq0 => ?_) (fun hq0 => ?_)
  · refine m_iconst (v := 0) C d_La_law_556 (by decide) ?_
    exact jy _ (by rw [decide_eq_true hq0]; rfl)
  · refine m_iconst (v := 1) C d_La_law_552 (by decide) ?_
    refine m_goto (tgt := 557) C d_La_law_553 (by decide) ?_
    exact jy _ (by rw [decide_eq_false hq0]; rfl)

set_option maxHeartbeats 4000000 in
set_option maxRecDepth 100000 in
theorem la_landmark {G : ma_G} {fr mc ms lo k n : Nat} (C : ma_C G c_La_law 7 R_La fr mc ms lo) (sc N : Nat) (f : Nat → Int32) (i : Nat) (hN : N < 2 ^ 31) (hi : i + 6 ≤ N) (R : mR) (ad : mAd) (xa m : Nat) (mr : Nat → Nat) (o : Nat) (M : ma_H) (hX : ma_X9 G sc N f) (h : LI G R ad xa m mr o M) (hfr : 11 ≤ fr) (hlo : 400 ≤ lo) (hk : k + 9 ≤ mc) (hn : n + 74 ≤ ms) (nx : ∀ (R' : mR) (ad' : mAd) (M' : ma_H) (k' n' : Nat), LI G R' ad' xa m mr o M' → k' ≤ k + 9 → n' ≤ n + 74 → mj G 7 k' n' M' 1237 [some (.ref sc), some (.ref xa), some (.ref m), some (.ref o), some (.int (nI i)), none, none] []) : mj G 7 k n M 600 [some (.ref sc), some (.ref xa), some (.ref m), some (.ref o), some (.int (nI i)), none, none] [] := by
  obtain ⟨hwf, hR, hM, rfl, ⟨ov, ho⟩, hF, hMw, hoW⟩ := id h
  have hof : ¬ foot R ad o := fun z => (hF o z).2.2 rfl
  obtain ⟨s1, hs1⟩ : ∃ z : Int32, z = f (i + 1) := ⟨_, rfl⟩
  obtain ⟨s2, hs2⟩ : ∃ z : Int32, z = f (i + 2) := ⟨_, rfl⟩
  obtain ⟨s3, hs3⟩ : ∃ z : Int32, z = f (i + 3) := ⟨_, rfl⟩
  obtain ⟨s4, hs4⟩ : ∃ z : Int32, z = f (i + 4) := ⟨_, rfl⟩
  obtain ⟨s5, hs5⟩ : ∃ z : Int32, z = f (i + 5) := ⟨_, rfl⟩
  refine m_aload_n C d_La_law_600 rfl rfl ?_
  refine m_aload_n C d_La_law_601 rfl rfl ?_
  refine m_iload C d_La_law_602 rfl ?_
  refine m_iconst (v := 1) C d_La_law_604 (by decide) ?_
  refine m_iadd C d_La_law_605 ?_
  rw [show nI i + 1 = nI (i + 1) from nI_add i 1]
  refine m_xld C d_La_law_606 hX (by omega) hN ?_
  rw [← hs1]
  refine m_aload_n C d_La_law_607 rfl rfl ?_
  refine m_iload C d_La_law_608 rfl ?_
  refine m_iconst (v := 2) C d_La_law_610 (by decide) ?_
  refine m_iadd C d_La_law_611 ?_
  rw [show nI i + 2 = nI (i + 2) from nI_add i 2]
  refine m_xld C d_La_law_612 hX (by omega) hN ?_
  rw [← hs2]
  refine m_aload_n C d_La_law_613 rfl rfl ?_
  refine m_iload C d_La_law_614 rfl ?_
  refine m_iconst (v := 3) C d_La_law_616 (by decide) ?_
  refine m_iadd C d_La_law_617 ?_
  rw [show nI i + 3 = nI (i + 3) from nI_add i 3]
  refine m_xld C d_La_law_618 hX (by omega) hN ?_
  rw [← hs3]
  refine m_i2l C d_La_law_619 ?_
  refine m_bipush (v := 32) C d_La_law_620 (by decide) ?_
  refine m_lshl C d_La_law_622 ?_
  refine m_aload_n C d_La_law_623 rfl rfl ?_
  refine m_iload C d_La_law_624 rfl ?_
  refine m_iconst (v := 4) C d_La_law_626 (by decide) ?_
  refine m_iadd C d_La_law_627 ?_
  rw [show nI i + 4 = nI (i + 4) from nI_add i 4]
  refine m_xld C d_La_law_628 hX (by omega) hN ?_
  rw [← hs4]
  refine m_i2l C d_La_law_629 ?_
  refine m_ldc2 (v := 4294967295) C d_La_law_630 kc_La_82 ?_
  refine m_land C d_La_law_633 ?_
  refine m_lor C d_La_law_634 ?_
  refine m_aload_n C d_La_law_635 rfl rfl ?_
  refine m_iload C d_La_law_636 rfl ?_
  refine m_iconst (v := 5) C d_La_law_638 (by decide) ?_
  refine m_iadd C d_La_law_639 ?_
  rw [show nI i + 5 = nI (i + 5) from nI_add i 5]
  refine m_xld C d_La_law_640 hX (by omega) hN ?_
  rw [← hs5]
  refine m_aload_n C d_La_law_641 rfl rfl ?_
  obtain ⟨L3, hL3⟩ : ∃ z : Int64, z = (((s3.toInt64 <<< ((32 : Int32).toInt64 &&& 63))) ||| ((s4.toInt64 &&& 4294967295))) := ⟨_, rfl⟩
  rw [← hL3]
  refine m_callSW C d_La_law_642 mh_La_103 mst_La_landmark (ct_La_landmark _ _ _ R ad o ov s1 s2 L3 s5 M hR hwf ho hof) (fun q z => z.elim (fun y => (hF q y).1) (fun y => by rw [y]; exact hoW)) rfl rfl (Nat.le_of_ble_eq_true rfl) ⟨⟨by omega, by omega⟩, by omega, by omega⟩ (fun v9 M1 hp h5 h6 => ?_)
  rcases hp with ⟨hg0, rfl, hMo, ad1, ha1, hc1, hf1⟩ | ⟨hg1, ht1, rfl, hMo, hc1⟩
  · have hk1 : ∀ q : Nat, M q ≠ none → ¬ (foot R ad q ∨ q = o) → M1 q = M q := h5
    obtain ⟨hM1, hF1⟩ := h.cls hk1 h6 hc1 hf1
    have hc0 := (gq_landmark (R := R) (s := s1) (h := s2) (p := L3) (n := s5)).r hg0
    show mj G 7 (k + 7) (n + 45) M1 645 [some (.ref sc), some (.ref (ad 0 0 0)), some (.ref m), some (.ref o), some (.int (nI i)), none, none] [.int 0]
    refine m_istore (L' := [some (.ref sc), some (.ref (ad 0 0 0)), some (.ref m), some (.ref o), some (.int (nI i)), some (.int 0), none]) C d_La_law_645 (by decide) rfl ?_
    refine m_aload_n C d_La_law_647 rfl rfl ?_
    refine m_aload_n C d_La_law_648 rfl rfl ?_
    refine m_iload C d_La_law_649 rfl ?_
    refine m_iconst (v := 1) C d_La_law_651 (by decide) ?_
    refine m_iadd C d_La_law_652 ?_
    rw [show nI i + 1 = nI (i + 1) from nI_add i 1]
    refine m_xld C d_La_law_653 hX (by omega) hN ?_
    rw [← hs1]
    refine m_aload_n C d_La_law_654 rfl rfl ?_
    refine m_iload C d_La_law_655 rfl ?_
    refine m_iconst (v := 2) C d_La_law_657 (by decide) ?_
    refine m_iadd C d_La_law_658 ?_
    rw [show nI i + 2 = nI (i + 2) from nI_add i 2]
    refine m_xld C d_La_law_659 hX (by omega) hN ?_
    rw [← hs2]
    refine m_aload_n C d_La_law_660 rfl rfl ?_
    refine m_iload C d_La_law_661 rfl ?_
    refine m_iconst (v := 3) C d_La_law_663 (by decide) ?_
    refine m_iadd C d_La_law_664 ?_
    rw [show nI i + 3 = nI (i + 3) from nI_add i 3]
    refine m_xld C d_La_law_665 hX (by omega) hN ?_
    rw [← hs3]
    refine m_i2l C d_La_law_666 ?_
    refine m_bipush (v := 32) C d_La_law_667 (by decide) ?_
    refine m_lshl C d_La_law_669 ?_
    refine m_aload_n C d_La_law_670 rfl rfl ?_
    refine m_iload C d_La_law_671 rfl ?_
    refine m_iconst (v := 4) C d_La_law_673 (by decide) ?_
    refine m_iadd C d_La_law_674 ?_
    rw [show nI i + 4 = nI (i + 4) from nI_add i 4]
    refine m_xld C d_La_law_675 hX (by omega) hN ?_
    rw [← hs4]
    refine m_i2l C d_La_law_676 ?_
    refine m_ldc2 (v := 4294967295) C d_La_law_677 kc_La_82 ?_
    refine m_land C d_La_law_680 ?_
    refine m_lor C d_La_law_681 ?_
    refine m_aload_n C d_La_law_682 rfl rfl ?_
    refine m_iload C d_La_law_683 rfl ?_
    refine m_iconst (v := 5) C d_La_law_685 (by decide) ?_
    refine m_iadd C d_La_law_686 ?_
    rw [show nI i + 5 = nI (i + 5) from nI_add i 5]
    refine m_xld C d_La_law_687 hX (by omega) hN ?_
    rw [← hs5]
    rw [← hL3]
    refine m_callV (ci := 10) C d_La_law_688 mw_La_106 mi_Mo_landmark se_Mo_landmark rfl (ct_Mo_landmark _ _ _ R m mr s1 s2 L3 s5 M1 hM1 hwf) (fun q z => (hMw q z).1) rfl rfl (Nat.le_of_ble_eq_true rfl) hM1.1 ⟨⟨by omega, by omega⟩, by omega, by omega⟩ (fun v8 M2 hp2 h25 h26 => ?_)
    obtain ⟨rfl, hM2⟩ := hp2.1 hg0
    obtain ⟨R2, hR2⟩ : ∃ R2 : mR, R2 = uR (uR (setF (uR (uR (uR (uR R 0 0 0) 17 (nL R) s1) 18 (nL R) s2) 19 (nL R) (nI (tn s5))) 20 (fa (R 20) (8 * nL R) L3 (tn s5) (tn s5))) 16 0 (nI (nL R + 1))) 28 0 0 := ⟨_, rfl⟩
    rw [← hR2] at hM2
    have hE0 : ∀ f, f ≠ 0 → R2 f = (uR (uR (setF (uR (uR (uR R 17 (nL R) s1) 18 (nL R) s2) 19 (nL R) (nI (tn s5))) 20 (fa (R 20) (8 * nL R) L3 (tn s5) (tn s5))) 16 0 (nI (nL R + 1))) 28 0 0 : mR) f := by rw [hR2]; exact eq0_u (eq0_u (eq0_s (eq0_u (eq0_u (eq0_u (eq0_0 R 0) _ _ _ (by decide)) _ _ _ (by decide)) _ _ _ (by decide)) _ _) _ _ _ (by decide)) _ _ _ (by decide)
    have he0 := eq0_4 hE0
    have hw2 : WfS R2 := WfS_cg hE0 (wf_landmark hwf hc0.1 hc0.2.1.2 hc0.2.2.2)
    have hz2 : R2 0 0 = 0 := by rw [hR2]; rfl
    obtain ⟨hLI, ho2⟩ := LI.mod (G := G) hw2 hc1 hM2 ha1 hMo hF1 hMw hoW he0 (fun q a b => h25 q a b)
    show mj G 7 (k + 7) (n + 45) M2 691 [some (.ref sc), some (.ref (ad 0 0 0)), some (.ref m), some (.ref o), some (.int (nI i)), some (.int 0), none] [.int (nI (nL R))]
    refine m_istore (L' := [some (.ref sc), some (.ref (ad 0 0 0)), some (.ref m), some (.ref o), some (.int (nI i)), some (.int 0), some (.int (nI (nL R)))]) C d_La_law_691 (by decide) rfl ?_
    refine m_aload_n C d_La_law_693 rfl rfl ?_
    refine m_callV (ci := 10) C d_La_law_694 mw_La_78 mi_Mo_thrown se_Mo_thrown rfl (ct_Mo_thrown _ _ _ R2 m mr M2 hM2) (fun _ z => z.elim) rfl rfl (Nat.le_of_ble_eq_true rfl) hM2.1 ⟨⟨by omega, by omega⟩, by omega, by omega⟩ (fun v7 M3 hp3 h35 h36 => ?_)
    obtain ⟨rfl, hM3⟩ := hp3; rw [hM3, hz2]
    show mj G 7 (k + 7) (n + 45) M2 697 [some (.ref sc), some (.ref (ad 0 0 0)), some (.ref m), some (.ref o), some (.int (nI i)), some (.int 0), some (.int (nI (nL R)))] [.int 0]
    refine m_iload C d_La_law_697 rfl ?_
    refine m_icmp_eq (tgt := 704) C d_La_law_699 (by decide) (fun hq9 => ?_) (fun hq9 => ?_)
    · refine m_iload C d_La_law_704 rfl ?_
      refine m_if_ne (tgt := 721) C d_La_law_706 (by decide) (fun hq8 => ?_) (fun hq8 => ?_)
      · exact absurd rfl hq8
      · refine m_aload_n C d_La_law_709 rfl rfl ?_
        refine m_iconst (v := 0) C d_La_law_710 (by decide) ?_
        refine m_lald (v := .long (nI (nL R)).toInt64) C d_La_law_711 ho2 kt_long (by decide) rfl ?_
        refine m_iload C d_La_law_712 rfl ?_
        refine m_i2l C d_La_law_714 ?_
        refine m_lcmp C d_La_law_715 ?_
        rw [lgc]
        refine m_if_eq (tgt := 721) C d_La_law_716 (by decide) (fun hq7 => ?_) (fun hq7 => ?_)
        · refine m_goto (tgt := 1237) C d_La_law_721 (by decide) ?_
          exact mj_L (fun q v hv => by rcases q with _ | _ | _ | _ | _ | _ | _ | q <;> first | exact hv | exact absurd (Option.some.inj hv) (by simp)) (nx R2 ad1 M2 (k + 7) (n + 45) hLI (by omega) (by omega))
        · exact absurd rfl hq7
    · exact absurd rfl hq9
  · have hk1 : ∀ q : Nat, M q ≠ none → ¬ (foot R ad q ∨ q = o) → M1 q = M q := h5
    obtain ⟨hM1, hF1⟩ := h.cls hk1 h6 hc1 (fun q z => Or.inl z)
    obtain ⟨kv, hkv⟩ : ∃ z : Int32, z = (nI (thN 15 (gbN (kn R s1) ((inn s2 1 9999 && inn s5 1 8 && decide (∀ i, i < tn s5 → is_l (sgn L3 (tn s5) i) = true))) (((inn s2 1 9999 && inn s5 1 8 && decide (∀ i, i < tn s5 → is_l (sgn L3 (tn s5) i) = true)) && !decide (∃ k, k < nL R ∧ lmL R k = sgns L3 (tn s5) (tn s5)))) (decide (nL R < 20))))) := ⟨_, rfl⟩
    show mj G 7 (k + 7) (n + 45) M1 645 [some (.ref sc), some (.ref (ad 0 0 0)), some (.ref m), some (.ref o), some (.int (nI i)), none, none] [.int (nI (thN 15 (gbN (kn R s1) ((inn s2 1 9999 && inn s5 1 8 && decide (∀ i, i < tn s5 → is_l (sgn L3 (tn s5) i) = true))) (((inn s2 1 9999 && inn s5 1 8 && decide (∀ i, i < tn s5 → is_l (sgn L3 (tn s5) i) = true)) && !decide (∃ k, k < nL R ∧ lmL R k = sgns L3 (tn s5) (tn s5)))) (decide (nL R < 20)))))]
    rw [← hkv]
    refine m_istore (L' := [some (.ref sc), some (.ref (ad 0 0 0)), some (.ref m), some (.ref o), some (.int (nI i)), some (.int kv), none]) C d_La_law_645 (by decide) rfl ?_
    refine m_aload_n C d_La_law_647 rfl rfl ?_
    refine m_aload_n C d_La_law_648 rfl rfl ?_
    refine m_iload C d_La_law_649 rfl ?_
    refine m_iconst (v := 1) C d_La_law_651 (by decide) ?_
    refine m_iadd C d_La_law_652 ?_
    rw [show nI i + 1 = nI (i + 1) from nI_add i 1]
    refine m_xld C d_La_law_653 hX (by omega) hN ?_
    rw [← hs1]
    refine m_aload_n C d_La_law_654 rfl rfl ?_
    refine m_iload C d_La_law_655 rfl ?_
    refine m_iconst (v := 2) C d_La_law_657 (by decide) ?_
    refine m_iadd C d_La_law_658 ?_
    rw [show nI i + 2 = nI (i + 2) from nI_add i 2]
    refine m_xld C d_La_law_659 hX (by omega) hN ?_
    rw [← hs2]
    refine m_aload_n C d_La_law_660 rfl rfl ?_
    refine m_iload C d_La_law_661 rfl ?_
    refine m_iconst (v := 3) C d_La_law_663 (by decide) ?_
    refine m_iadd C d_La_law_664 ?_
    rw [show nI i + 3 = nI (i + 3) from nI_add i 3]
    refine m_xld C d_La_law_665 hX (by omega) hN ?_
    rw [← hs3]
    refine m_i2l C d_La_law_666 ?_
    refine m_bipush (v := 32) C d_La_law_667 (by decide) ?_
    refine m_lshl C d_La_law_669 ?_
    refine m_aload_n C d_La_law_670 rfl rfl ?_
    refine m_iload C d_La_law_671 rfl ?_
    refine m_iconst (v := 4) C d_La_law_673 (by decide) ?_
    refine m_iadd C d_La_law_674 ?_
    rw [show nI i + 4 = nI (i + 4) from nI_add i 4]
    refine m_xld C d_La_law_675 hX (by omega) hN ?_
    rw [← hs4]
    refine m_i2l C d_La_law_676 ?_
    refine m_ldc2 (v := 4294967295) C d_La_law_677 kc_La_82 ?_
    refine m_land C d_La_law_680 ?_
    refine m_lor C d_La_law_681 ?_
    refine m_aload_n C d_La_law_682 rfl rfl ?_
    refine m_iload C d_La_law_683 rfl ?_
    refine m_iconst (v := 5) C d_La_law_685 (by decide) ?_
    refine m_iadd C d_La_law_686 ?_
    rw [show nI i + 5 = nI (i + 5) from nI_add i 5]
    refine m_xld C d_La_law_687 hX (by omega) hN ?_
    rw [← hs5]
    rw [← hL3]
    refine m_callV (ci := 10) C d_La_law_688 mw_La_106 mi_Mo_landmark se_Mo_landmark rfl (ct_Mo_landmark _ _ _ R m mr s1 s2 L3 s5 M1 hM1 hwf) (fun q z => (hMw q z).1) rfl rfl (Nat.le_of_ble_eq_true rfl) hM1.1 ⟨⟨by omega, by omega⟩, by omega, by omega⟩ (fun v8 M2 hp2 h25 h26 => ?_)
    obtain ⟨rfl, hM2⟩ := hp2.2 hg1
    obtain ⟨R2, hR2⟩ : ∃ R2 : mR, R2 = uR R 0 0 (nI (thN 15 (gbN (kn R s1) ((inn s2 1 9999 && inn s5 1 8 && decide (∀ i, i < tn s5 → is_l (sgn L3 (tn s5) i) = true))) (((inn s2 1 9999 && inn s5 1 8 && decide (∀ i, i < tn s5 → is_l (sgn L3 (tn s5) i) = true)) && !decide (∃ k, k < nL R ∧ lmL R k = sgns L3 (tn s5) (tn s5)))) (decide (nL R < 20))))) := ⟨_, rfl⟩
    rw [← hR2] at hM2
    have hE0 : ∀ f, f ≠ 0 → R2 f = R f := by rw [hR2]; exact eq0_0 R _
    have hz2 : R2 0 0 = kv := by rw [hR2, hkv]; rfl
    obtain ⟨hLI, ho2⟩ := LI.mod (G := G) (WfS_cg hE0 hwf) hc1 hM2 rfl hMo hF1 hMw hoW (eq0_4 hE0) (fun q a b => h25 q a b)
    have hkn : ¬ kv = 0 := by rw [hkv]; exact nI_ne0 ht1 (Nat.lt_of_le_of_lt (Nat.le_trans (thN_le _ _) (gbN_le _ _ _ _)) (by decide))
    show mj G 7 (k + 7) (n + 45) M2 691 [some (.ref sc), some (.ref (ad 0 0 0)), some (.ref m), some (.ref o), some (.int (nI i)), some (.int kv), none] [.int (0)]
    refine m_istore (L' := [some (.ref sc), some (.ref (ad 0 0 0)), some (.ref m), some (.ref o), some (.int (nI i)), some (.int kv), some (.int (0))]) C d_La_law_691 (by decide) rfl ?_
    refine m_aload_n C d_La_law_693 rfl rfl ?_
    refine m_callV (ci := 10) C d_La_law_694 mw_La_78 mi_Mo_thrown se_Mo_thrown rfl (ct_Mo_thrown _ _ _ R2 m mr M2 hM2) (fun _ z => z.elim) rfl rfl (Nat.le_of_ble_eq_true rfl) hM2.1 ⟨⟨by omega, by omega⟩, by omega, by omega⟩ (fun v7 M3 hp3 h35 h36 => ?_)
    obtain ⟨rfl, hM3⟩ := hp3; rw [hM3, hz2]
    show mj G 7 (k + 7) (n + 45) M2 697 [some (.ref sc), some (.ref (ad 0 0 0)), some (.ref m), some (.ref o), some (.int (nI i)), some (.int kv), some (.int (0))] [.int kv]
    refine m_iload C d_La_law_697 rfl ?_
    refine m_icmp_eq (tgt := 704) C d_La_law_699 (by decide) (fun hq9 => ?_) (fun hq9 => ?_)
    · refine m_iload C d_La_law_704 rfl ?_
      refine m_if_ne (tgt := 721) C d_La_law_706 (by decide) (fun hq8 => ?_) (fun hq8 => ?_)
      · refine m_goto (tgt := 1237) C d_La_law_721 (by decide) ?_
        exact mj_L (fun q v hv => by rcases q with _ | _ | _ | _ | _ | _ | _ | q <;> first | exact hv | exact absurd (Option.some.inj hv) (by simp)) (nx R2 ad M2 (k + 7) (n + 45) hLI (by omega) (by omega))
      · exact absurd hq8 hkn
    · exact absurd rfl hq9

set_option maxHeartbeats 4000000 in
set_option maxRecDepth 100000 in
theorem la_meet {G : ma_G} {fr mc ms lo k n : Nat} (C : ma_C G c_La_law 7 R_La fr mc ms lo) (sc N : Nat) (f : Nat → Int32) (i : Nat) (hN : N < 2 ^ 31) (hi : i + 6 ≤ N) (R : mR) (ad : mAd) (xa m : Nat) (mr : Nat → Nat) (o : Nat) (M : ma_H) (hX : ma_X9 G sc N f) (h : LI G R ad xa m mr o M) (hfr : 11 ≤ fr) (hlo : 400 ≤ lo) (hk : k + 9 ≤ mc) (hn : n + 74 ≤ ms) (nx : ∀ (R' : mR) (ad' : mAd) (M' : ma_H) (k' n' : Nat), LI G R' ad' xa m mr o M' → k' ≤ k + 9 → n' ≤ n + 74 → mj G 7 k' n' M' 1237 [some (.ref sc), some (.ref xa), some (.ref m), some (.ref o), some (.int (nI i)), none, none] []) : mj G 7 k n M 724 [some (.ref sc), some (.ref xa), some (.ref m), some (.ref o), some (.int (nI i)), none, none] [] := by
  obtain ⟨hwf, hR, hM, rfl, ⟨ov, ho⟩, hF, hMw, hoW⟩ := id h
  have hof : ¬ foot R ad o := fun z => (hF o z).2.2 rfl
  obtain ⟨s1, hs1⟩ : ∃ z : Int32, z = f (i + 1) := ⟨_, rfl⟩
  obtain ⟨s2, hs2⟩ : ∃ z : Int32, z = f (i + 2) := ⟨_, rfl⟩
  obtain ⟨s3, hs3⟩ : ∃ z : Int32, z = f (i + 3) := ⟨_, rfl⟩
  obtain ⟨s4, hs4⟩ : ∃ z : Int32, z = f (i + 4) := ⟨_, rfl⟩
  obtain ⟨s5, hs5⟩ : ∃ z : Int32, z = f (i + 5) := ⟨_, rfl⟩
  refine m_aload_n C d_La_law_724 rfl rfl ?_
  refine m_aload_n C d_La_law_725 rfl rfl ?_
  refine m_iload C d_La_law_726 rfl ?_
  refine m_iconst (v := 1) C d_La_law_728 (by decide) ?_
  refine m_iadd C d_La_law_729 ?_
  rw [show nI i + 1 = nI (i + 1) from nI_add i 1]
  refine m_xld C d_La_law_730 hX (by omega) hN ?_
  rw [← hs1]
  refine m_aload_n C d_La_law_731 rfl rfl ?_
  refine m_iload C d_La_law_732 rfl ?_
  refine m_iconst (v := 2) C d_La_law_734 (by decide) ?_
  refine m_iadd C d_La_law_735 ?_
  rw [show nI i + 2 = nI (i + 2) from nI_add i 2]
  refine m_xld C d_La_law_736 hX (by omega) hN ?_
  rw [← hs2]
  refine m_aload_n C d_La_law_737 rfl rfl ?_
  refine m_iload C d_La_law_738 rfl ?_
  refine m_iconst (v := 3) C d_La_law_740 (by decide) ?_
  refine m_iadd C d_La_law_741 ?_
  rw [show nI i + 3 = nI (i + 3) from nI_add i 3]
  refine m_xld C d_La_law_742 hX (by omega) hN ?_
  rw [← hs3]
  refine m_aload_n C d_La_law_743 rfl rfl ?_
  refine m_iload C d_La_law_744 rfl ?_
  refine m_iconst (v := 4) C d_La_law_746 (by decide) ?_
  refine m_iadd C d_La_law_747 ?_
  rw [show nI i + 4 = nI (i + 4) from nI_add i 4]
  refine m_xld C d_La_law_748 hX (by omega) hN ?_
  rw [← hs4]
  refine m_callSW C d_La_law_749 mh_La_107 mst_La_meet (ct_La_meet _ _ _ R ad s1 s2 s3 s4 M hR hwf ) (fun q z => (hF q z).1) rfl rfl (Nat.le_of_ble_eq_true rfl) ⟨⟨by omega, by omega⟩, by omega, by omega⟩ (fun v9 M1 hp h5 h6 => ?_)
  rcases hp with ⟨hg0, rfl, ad1, ha1, hc1, hf1⟩ | ⟨hg1, ht1, rfl, hc1⟩
  · have hk1 : ∀ q : Nat, M q ≠ none → ¬ (foot R ad q ∨ q = o) → M1 q = M q := (fun q a b => h5 q a (fun z => b (Or.inl z)))
    have hMo : M1 o = some (.inr (.long, [.long ov])) := (h5 o (by rw [ho]; simp) hof).trans ho
    obtain ⟨hM1, hF1⟩ := h.cls hk1 h6 hc1 hf1
    have hc0 := (gq_meet hwf (s := s1) (o := s2) (a := s3) (b := s4)).r hg0
    show mj G 7 (k + 6) (n + 34) M1 752 [some (.ref sc), some (.ref (ad 0 0 0)), some (.ref m), some (.ref o), some (.int (nI i)), none, none] [.int 0]
    refine m_istore (L' := [some (.ref sc), some (.ref (ad 0 0 0)), some (.ref m), some (.ref o), some (.int (nI i)), some (.int 0), none]) C d_La_law_752 (by decide) rfl ?_
    refine m_aload_n C d_La_law_754 rfl rfl ?_
    refine m_aload_n C d_La_law_755 rfl rfl ?_
    refine m_iload C d_La_law_756 rfl ?_
    refine m_iconst (v := 1) C d_La_law_758 (by decide) ?_
    refine m_iadd C d_La_law_759 ?_
    rw [show nI i + 1 = nI (i + 1) from nI_add i 1]
    refine m_xld C d_La_law_760 hX (by omega) hN ?_
    rw [← hs1]
    refine m_aload_n C d_La_law_761 rfl rfl ?_
    refine m_iload C d_La_law_762 rfl ?_
    refine m_iconst (v := 2) C d_La_law_764 (by decide) ?_
    refine m_iadd C d_La_law_765 ?_
    rw [show nI i + 2 = nI (i + 2) from nI_add i 2]
    refine m_xld C d_La_law_766 hX (by omega) hN ?_
    rw [← hs2]
    refine m_aload_n C d_La_law_767 rfl rfl ?_
    refine m_iload C d_La_law_768 rfl ?_
    refine m_iconst (v := 3) C d_La_law_770 (by decide) ?_
    refine m_iadd C d_La_law_771 ?_
    rw [show nI i + 3 = nI (i + 3) from nI_add i 3]
    refine m_xld C d_La_law_772 hX (by omega) hN ?_
    rw [← hs3]
    refine m_aload_n C d_La_law_773 rfl rfl ?_
    refine m_iload C d_La_law_774 rfl ?_
    refine m_iconst (v := 4) C d_La_law_776 (by decide) ?_
    refine m_iadd C d_La_law_777 ?_
    rw [show nI i + 4 = nI (i + 4) from nI_add i 4]
    refine m_xld C d_La_law_778 hX (by omega) hN ?_
    rw [← hs4]
    refine m_callV (ci := 10) C d_La_law_779 mw_La_110 mi_Mo_meet se_Mo_meet rfl (ct_Mo_meet _ _ _ R m mr s1 s2 s3 s4 M1 hM1 hwf) (fun q z => (hMw q z).1) rfl rfl (Nat.le_of_ble_eq_true rfl) hM1.1 ⟨⟨by omega, by omega⟩, by omega, by omega⟩ (fun v8 M2 hp2 h25 h26 => ?_)
    obtain ⟨rfl, hM2⟩ := hp2.1 hg0
    obtain ⟨R2, hR2⟩ : ∃ R2 : mR, R2 = uR (uR (uR (uR (uR (uR R 0 0 0) 22 (nC R) s1) 23 (nC R) s2) 24 (nC R) s3) 25 (nC R) s4) 21 0 (nI (nC R + 1)) := ⟨_, rfl⟩
    rw [← hR2] at hM2
    have hE0 : ∀ f, f ≠ 0 → R2 f = (uR (uR (uR (uR (uR R 22 (nC R) s1) 23 (nC R) s2) 24 (nC R) s3) 25 (nC R) s4) 21 0 (nI (nC R + 1)) : mR) f := by rw [hR2]; exact eq0_u (eq0_u (eq0_u (eq0_u (eq0_u (eq0_0 R 0) _ _ _ (by decide)) _ _ _ (by decide)) _ _ _ (by decide)) _ _ _ (by decide)) _ _ _ (by decide)
    have he0 := eq0_4 hE0
    have hw2 : WfS R2 := WfS_cg hE0 (wf_meet hwf (inn_lo hc0.2.1.1) (inn_lo hc0.2.1.2) hc0.2.2.2)
    have hz2 : R2 0 0 = 0 := by rw [hR2]; rfl
    obtain ⟨hLI, ho2⟩ := LI.mod (G := G) hw2 hc1 hM2 ha1 hMo hF1 hMw hoW he0 (fun q a b => h25 q a b)
    show mj G 7 (k + 6) (n + 34) M2 782 [some (.ref sc), some (.ref (ad 0 0 0)), some (.ref m), some (.ref o), some (.int (nI i)), some (.int 0), none] []
    refine m_aload_n C d_La_law_782 rfl rfl ?_
    refine m_callV (ci := 10) C d_La_law_783 mw_La_78 mi_Mo_thrown se_Mo_thrown rfl (ct_Mo_thrown _ _ _ R2 m mr M2 hM2) (fun _ z => z.elim) rfl rfl (Nat.le_of_ble_eq_true rfl) hM2.1 ⟨⟨by omega, by omega⟩, by omega, by omega⟩ (fun v7 M3 hp3 h35 h36 => ?_)
    obtain ⟨rfl, hM3⟩ := hp3; rw [hM3, hz2]
    show mj G 7 (k + 6) (n + 34) M2 786 [some (.ref sc), some (.ref (ad 0 0 0)), some (.ref m), some (.ref o), some (.int (nI i)), some (.int 0), none] [.int 0]
    refine m_iload C d_La_law_786 rfl ?_
    refine m_icmp_eq (tgt := 793) C d_La_law_788 (by decide) (fun hq9 => ?_) (fun hq9 => ?_)
    · refine m_goto (tgt := 1237) C d_La_law_793 (by decide) ?_
      exact mj_L (fun q v hv => by rcases q with _ | _ | _ | _ | _ | _ | _ | q <;> first | exact hv | exact absurd (Option.some.inj hv) (by simp)) (nx R2 ad1 M2 (k + 6) (n + 34) hLI (by omega) (by omega))
    · exact absurd rfl hq9
  · have hk1 : ∀ q : Nat, M q ≠ none → ¬ (foot R ad q ∨ q = o) → M1 q = M q := (fun q a b => h5 q a (fun z => b (Or.inl z)))
    have hMo : M1 o = some (.inr (.long, [.long ov])) := (h5 o (by rw [ho]; simp) hof).trans ho
    obtain ⟨hM1, hF1⟩ := h.cls hk1 h6 hc1 (fun q z => Or.inl z)
    obtain ⟨kv, hkv⟩ : ∃ z : Int32, z = (nI (thN 15 (gbN ((kn R s1 && kn R s2)) (((kn R s1 && kn R s2) && inn s3 0 (R 15 (tn s1)) && inn s4 0 (R 15 (tn s2)))) ((!decide (s1 = s2) && decide (coF R s1 s2 (nC R) 0 < 0))) (decide (nC R < 40))))) := ⟨_, rfl⟩
    show mj G 7 (k + 6) (n + 34) M1 752 [some (.ref sc), some (.ref (ad 0 0 0)), some (.ref m), some (.ref o), some (.int (nI i)), none, none] [.int (nI (thN 15 (gbN ((kn R s1 && kn R s2)) (((kn R s1 && kn R s2) && inn s3 0 (R 15 (tn s1)) && inn s4 0 (R 15 (tn s2)))) ((!decide (s1 = s2) && decide (coF R s1 s2 (nC R) 0 < 0))) (decide (nC R < 40)))))]
    rw [← hkv]
    refine m_istore (L' := [some (.ref sc), some (.ref (ad 0 0 0)), some (.ref m), some (.ref o), some (.int (nI i)), some (.int kv), none]) C d_La_law_752 (by decide) rfl ?_
    refine m_aload_n C d_La_law_754 rfl rfl ?_
    refine m_aload_n C d_La_law_755 rfl rfl ?_
    refine m_iload C d_La_law_756 rfl ?_
    refine m_iconst (v := 1) C d_La_law_758 (by decide) ?_
    refine m_iadd C d_La_law_759 ?_
    rw [show nI i + 1 = nI (i + 1) from nI_add i 1]
    refine m_xld C d_La_law_760 hX (by omega) hN ?_
    rw [← hs1]
    refine m_aload_n C d_La_law_761 rfl rfl ?_
    refine m_iload C d_La_law_762 rfl ?_
    refine m_iconst (v := 2) C d_La_law_764 (by decide) ?_
    refine m_iadd C d_La_law_765 ?_
    rw [show nI i + 2 = nI (i + 2) from nI_add i 2]
    refine m_xld C d_La_law_766 hX (by omega) hN ?_
    rw [← hs2]
    refine m_aload_n C d_La_law_767 rfl rfl ?_
    refine m_iload C d_La_law_768 rfl ?_
    refine m_iconst (v := 3) C d_La_law_770 (by decide) ?_
    refine m_iadd C d_La_law_771 ?_
    rw [show nI i + 3 = nI (i + 3) from nI_add i 3]
    refine m_xld C d_La_law_772 hX (by omega) hN ?_
    rw [← hs3]
    refine m_aload_n C d_La_law_773 rfl rfl ?_
    refine m_iload C d_La_law_774 rfl ?_
    refine m_iconst (v := 4) C d_La_law_776 (by decide) ?_
    refine m_iadd C d_La_law_777 ?_
    rw [show nI i + 4 = nI (i + 4) from nI_add i 4]
    refine m_xld C d_La_law_778 hX (by omega) hN ?_
    rw [← hs4]
    refine m_callV (ci := 10) C d_La_law_779 mw_La_110 mi_Mo_meet se_Mo_meet rfl (ct_Mo_meet _ _ _ R m mr s1 s2 s3 s4 M1 hM1 hwf) (fun q z => (hMw q z).1) rfl rfl (Nat.le_of_ble_eq_true rfl) hM1.1 ⟨⟨by omega, by omega⟩, by omega, by omega⟩ (fun v8 M2 hp2 h25 h26 => ?_)
    obtain ⟨rfl, hM2⟩ := hp2.2 hg1
    obtain ⟨R2, hR2⟩ : ∃ R2 : mR, R2 = uR R 0 0 (nI (thN 15 (gbN ((kn R s1 && kn R s2)) (((kn R s1 && kn R s2) && inn s3 0 (R 15 (tn s1)) && inn s4 0 (R 15 (tn s2)))) ((!decide (s1 = s2) && decide (coF R s1 s2 (nC R) 0 < 0))) (decide (nC R < 40))))) := ⟨_, rfl⟩
    rw [← hR2] at hM2
    have hE0 : ∀ f, f ≠ 0 → R2 f = R f := by rw [hR2]; exact eq0_0 R _
    have hz2 : R2 0 0 = kv := by rw [hR2, hkv]; rfl
    obtain ⟨hLI, ho2⟩ := LI.mod (G := G) (WfS_cg hE0 hwf) hc1 hM2 rfl hMo hF1 hMw hoW (eq0_4 hE0) (fun q a b => h25 q a b)
    have hkn : ¬ kv = 0 := by rw [hkv]; exact nI_ne0 ht1 (Nat.lt_of_le_of_lt (Nat.le_trans (thN_le _ _) (gbN_le _ _ _ _)) (by decide))
    show mj G 7 (k + 6) (n + 34) M2 782 [some (.ref sc), some (.ref (ad 0 0 0)), some (.ref m), some (.ref o), some (.int (nI i)), some (.int kv), none] []
    refine m_aload_n C d_La_law_782 rfl rfl ?_
    refine m_callV (ci := 10) C d_La_law_783 mw_La_78 mi_Mo_thrown se_Mo_thrown rfl (ct_Mo_thrown _ _ _ R2 m mr M2 hM2) (fun _ z => z.elim) rfl rfl (Nat.le_of_ble_eq_true rfl) hM2.1 ⟨⟨by omega, by omega⟩, by omega, by omega⟩ (fun v7 M3 hp3 h35 h36 => ?_)
    obtain ⟨rfl, hM3⟩ := hp3; rw [hM3, hz2]
    show mj G 7 (k + 6) (n + 34) M2 786 [some (.ref sc), some (.ref (ad 0 0 0)), some (.ref m), some (.ref o), some (.int (nI i)), some (.int kv), none] [.int kv]
    refine m_iload C d_La_law_786 rfl ?_
    refine m_icmp_eq (tgt := 793) C d_La_law_788 (by decide) (fun hq9 => ?_) (fun hq9 => ?_)
    · refine m_goto (tgt := 1237) C d_La_law_793 (by decide) ?_
      exact mj_L (fun q v hv => by rcases q with _ | _ | _ | _ | _ | _ | _ | q <;> first | exact hv | exact absurd (Option.some.inj hv) (by simp)) (nx R2 ad M2 (k + 6) (n + 34) hLI (by omega) (by omega))
    · exact absurd rfl hq9

set_option maxHeartbeats 4000000 in
set_option maxRecDepth 100000 in
theorem la_corner {G : ma_G} {fr mc ms lo k n : Nat} (C : ma_C G c_La_law 7 R_La fr mc ms lo) (sc N : Nat) (f : Nat → Int32) (i : Nat) (hN : N < 2 ^ 31) (hi : i + 6 ≤ N) (R : mR) (ad : mAd) (xa m : Nat) (mr : Nat → Nat) (o : Nat) (M : ma_H) (hX : ma_X9 G sc N f) (h : LI G R ad xa m mr o M) (hfr : 11 ≤ fr) (hlo : 400 ≤ lo) (hk : k + 9 ≤ mc) (hn : n + 74 ≤ ms) (nx : ∀ (R' : mR) (ad' : mAd) (M' : ma_H) (k' n' : Nat), LI G R' ad' xa m mr o M' → k' ≤ k + 9 → n' ≤ n + 74 → mj G 7 k' n' M' 1237 [some (.ref sc), some (.ref xa), some (.ref m), some (.ref o), some (.int (nI i)), none, none] []) : mj G 7 k n M 796 [some (.ref sc), some (.ref xa), some (.ref m), some (.ref o), some (.int (nI i)), none, none] [] := by
  obtain ⟨hwf, hR, hM, rfl, ⟨ov, ho⟩, hF, hMw, hoW⟩ := id h
  have hof : ¬ foot R ad o := fun z => (hF o z).2.2 rfl
  obtain ⟨s1, hs1⟩ : ∃ z : Int32, z = f (i + 1) := ⟨_, rfl⟩
  obtain ⟨s2, hs2⟩ : ∃ z : Int32, z = f (i + 2) := ⟨_, rfl⟩
  obtain ⟨s3, hs3⟩ : ∃ z : Int32, z = f (i + 3) := ⟨_, rfl⟩
  obtain ⟨s4, hs4⟩ : ∃ z : Int32, z = f (i + 4) := ⟨_, rfl⟩
  obtain ⟨s5, hs5⟩ : ∃ z : Int32, z = f (i + 5) := ⟨_, rfl⟩
  refine m_aload_n C d_La_law_796 rfl rfl ?_
  refine m_aload_n C d_La_law_797 rfl rfl ?_
  refine m_iload C d_La_law_798 rfl ?_
  refine m_iconst (v := 1) C d_La_law_800 (by decide) ?_
  refine m_iadd C d_La_law_801 ?_
  rw [show nI i + 1 = nI (i + 1) from nI_add i 1]
  refine m_xld C d_La_law_802 hX (by omega) hN ?_
  rw [← hs1]
  refine m_aload_n C d_La_law_803 rfl rfl ?_
  refine m_iload C d_La_law_804 rfl ?_
  refine m_iconst (v := 2) C d_La_law_806 (by decide) ?_
  refine m_iadd C d_La_law_807 ?_
  rw [show nI i + 2 = nI (i + 2) from nI_add i 2]
  refine m_xld C d_La_law_808 hX (by omega) hN ?_
  rw [← hs2]
  refine m_aload_n C d_La_law_809 rfl rfl ?_
  refine m_callSW C d_La_law_810 mh_La_111 mst_La_corner (ct_La_corner _ _ _ R ad o ov s1 s2 M hR hwf ho hof) (fun q z => z.elim (fun y => (hF q y).1) (fun y => by rw [y]; exact hoW)) rfl rfl (Nat.le_of_ble_eq_true rfl) ⟨⟨by omega, by omega⟩, by omega, by omega⟩ (fun v9 M1 hp h5 h6 => ?_)
  rcases hp with ⟨hg0, rfl, hMo, ad1, ha1, hc1, hf1⟩ | ⟨hg1, ht1, rfl, hMo, hc1⟩
  · have hk1 : ∀ q : Nat, M q ≠ none → ¬ (foot R ad q ∨ q = o) → M1 q = M q := h5
    obtain ⟨hM1, hF1⟩ := h.cls hk1 h6 hc1 hf1
    have hc0 := (gq_corner (R := R) (s := s1) (o := s2)).r hg0
    show mj G 7 (k + 2) (n + 12) M1 813 [some (.ref sc), some (.ref (ad 0 0 0)), some (.ref m), some (.ref o), some (.int (nI i)), none, none] [.int 0]
    refine m_istore (L' := [some (.ref sc), some (.ref (ad 0 0 0)), some (.ref m), some (.ref o), some (.int (nI i)), some (.int 0), none]) C d_La_law_813 (by decide) rfl ?_
    refine m_aload_n C d_La_law_815 rfl rfl ?_
    refine m_aload_n C d_La_law_816 rfl rfl ?_
    refine m_iload C d_La_law_817 rfl ?_
    refine m_iconst (v := 1) C d_La_law_819 (by decide) ?_
    refine m_iadd C d_La_law_820 ?_
    rw [show nI i + 1 = nI (i + 1) from nI_add i 1]
    refine m_xld C d_La_law_821 hX (by omega) hN ?_
    rw [← hs1]
    refine m_aload_n C d_La_law_822 rfl rfl ?_
    refine m_iload C d_La_law_823 rfl ?_
    refine m_iconst (v := 2) C d_La_law_825 (by decide) ?_
    refine m_iadd C d_La_law_826 ?_
    rw [show nI i + 2 = nI (i + 2) from nI_add i 2]
    refine m_xld C d_La_law_827 hX (by omega) hN ?_
    rw [← hs2]
    refine m_callV (ci := 10) C d_La_law_828 mw_La_114 mi_Mo_corner se_Mo_corner rfl (ct_Mo_corner _ _ _ R m mr s1 s2 M1 hM1 hwf) (fun q z => (hMw q z).1) rfl rfl (Nat.le_of_ble_eq_true rfl) hM1.1 ⟨⟨by omega, by omega⟩, by omega, by omega⟩ (fun v8 M2 hp2 h25 h26 => ?_)
    obtain ⟨rfl, hM2⟩ := hp2.1 hg0
    obtain ⟨R2, hR2⟩ : ∃ R2 : mR, R2 = uR R 0 0 0 := ⟨_, rfl⟩
    rw [← hR2] at hM2
    have hE0 : ∀ f, f ≠ 0 → R2 f = (R : mR) f := by rw [hR2]; exact eq0_0 R 0
    have he0 := eq0_4 hE0
    have hw2 : WfS R2 := WfS_cg hE0 (hwf)
    have hz2 : R2 0 0 = 0 := by rw [hR2]; rfl
    obtain ⟨hLI, ho2⟩ := LI.mod (G := G) hw2 hc1 hM2 ha1 hMo hF1 hMw hoW he0 (fun q a b => h25 q a b)
    show mj G 7 (k + 2) (n + 12) M2 831 [some (.ref sc), some (.ref (ad 0 0 0)), some (.ref m), some (.ref o), some (.int (nI i)), some (.int 0), none] [.int (coF R s1 s2 (nC R) 0)]
    refine m_istore (L' := [some (.ref sc), some (.ref (ad 0 0 0)), some (.ref m), some (.ref o), some (.int (nI i)), some (.int 0), some (.int (coF R s1 s2 (nC R) 0))]) C d_La_law_831 (by decide) rfl ?_
    refine m_aload_n C d_La_law_833 rfl rfl ?_
    refine m_callV (ci := 10) C d_La_law_834 mw_La_78 mi_Mo_thrown se_Mo_thrown rfl (ct_Mo_thrown _ _ _ R2 m mr M2 hM2) (fun _ z => z.elim) rfl rfl (Nat.le_of_ble_eq_true rfl) hM2.1 ⟨⟨by omega, by omega⟩, by omega, by omega⟩ (fun v7 M3 hp3 h35 h36 => ?_)
    obtain ⟨rfl, hM3⟩ := hp3; rw [hM3, hz2]
    show mj G 7 (k + 2) (n + 12) M2 837 [some (.ref sc), some (.ref (ad 0 0 0)), some (.ref m), some (.ref o), some (.int (nI i)), some (.int 0), some (.int (coF R s1 s2 (nC R) 0))] [.int 0]
    refine m_iload C d_La_law_837 rfl ?_
    refine m_icmp_eq (tgt := 844) C d_La_law_839 (by decide) (fun hq9 => ?_) (fun hq9 => ?_)
    · refine m_iload C d_La_law_844 rfl ?_
      refine m_if_ne (tgt := 861) C d_La_law_846 (by decide) (fun hq8 => ?_) (fun hq8 => ?_)
      · exact absurd rfl hq8
      · refine m_aload_n C d_La_law_849 rfl rfl ?_
        refine m_iconst (v := 0) C d_La_law_850 (by decide) ?_
        refine m_lald (v := .long (coF R s1 s2 (nC R) 0).toInt64) C d_La_law_851 ho2 kt_long (by decide) rfl ?_
        refine m_iload C d_La_law_852 rfl ?_
        refine m_i2l C d_La_law_854 ?_
        refine m_lcmp C d_La_law_855 ?_
        rw [lgc]
        refine m_if_eq (tgt := 861) C d_La_law_856 (by decide) (fun hq7 => ?_) (fun hq7 => ?_)
        · refine m_goto (tgt := 1237) C d_La_law_861 (by decide) ?_
          exact mj_L (fun q v hv => by rcases q with _ | _ | _ | _ | _ | _ | _ | q <;> first | exact hv | exact absurd (Option.some.inj hv) (by simp)) (nx R2 ad1 M2 (k + 2) (n + 12) hLI (by omega) (by omega))
        · exact absurd rfl hq7
    · exact absurd rfl hq9
  · have hk1 : ∀ q : Nat, M q ≠ none → ¬ (foot R ad q ∨ q = o) → M1 q = M q := h5
    obtain ⟨hM1, hF1⟩ := h.cls hk1 h6 hc1 (fun q z => Or.inl z)
    obtain ⟨kv, hkv⟩ : ∃ z : Int32, z = (nI (thN 1 (gbN ((kn R s1 && kn R s2)) (true) (true) (true)))) := ⟨_, rfl⟩
    show mj G 7 (k + 2) (n + 12) M1 813 [some (.ref sc), some (.ref (ad 0 0 0)), some (.ref m), some (.ref o), some (.int (nI i)), none, none] [.int (nI (thN 1 (gbN ((kn R s1 && kn R s2)) (true) (true) (true))))]
    rw [← hkv]
    refine m_istore (L' := [some (.ref sc), some (.ref (ad 0 0 0)), some (.ref m), some (.ref o), some (.int (nI i)), some (.int kv), none]) C d_La_law_813 (by decide) rfl ?_
    refine m_aload_n C d_La_law_815 rfl rfl ?_
    refine m_aload_n C d_La_law_816 rfl rfl ?_
    refine m_iload C d_La_law_817 rfl ?_
    refine m_iconst (v := 1) C d_La_law_819 (by decide) ?_
    refine m_iadd C d_La_law_820 ?_
    rw [show nI i + 1 = nI (i + 1) from nI_add i 1]
    refine m_xld C d_La_law_821 hX (by omega) hN ?_
    rw [← hs1]
    refine m_aload_n C d_La_law_822 rfl rfl ?_
    refine m_iload C d_La_law_823 rfl ?_
    refine m_iconst (v := 2) C d_La_law_825 (by decide) ?_
    refine m_iadd C d_La_law_826 ?_
    rw [show nI i + 2 = nI (i + 2) from nI_add i 2]
    refine m_xld C d_La_law_827 hX (by omega) hN ?_
    rw [← hs2]
    refine m_callV (ci := 10) C d_La_law_828 mw_La_114 mi_Mo_corner se_Mo_corner rfl (ct_Mo_corner _ _ _ R m mr s1 s2 M1 hM1 hwf) (fun q z => (hMw q z).1) rfl rfl (Nat.le_of_ble_eq_true rfl) hM1.1 ⟨⟨by omega, by omega⟩, by omega, by omega⟩ (fun v8 M2 hp2 h25 h26 => ?_)
    obtain ⟨rfl, hM2⟩ := hp2.2 hg1
    obtain ⟨R2, hR2⟩ : ∃ R2 : mR, R2 = uR R 0 0 (nI (thN 1 (gbN ((kn R s1 && kn R s2)) (true) (true) (true)))) := ⟨_, rfl⟩
    rw [← hR2] at hM2
    have hE0 : ∀ f, f ≠ 0 → R2 f = R f := by rw [hR2]; exact eq0_0 R _
    have hz2 : R2 0 0 = kv := by rw [hR2, hkv]; rfl
    obtain ⟨hLI, ho2⟩ := LI.mod (G := G) (WfS_cg hE0 hwf) hc1 hM2 rfl hMo hF1 hMw hoW (eq0_4 hE0) (fun q a b => h25 q a b)
    have hkn : ¬ kv = 0 := by rw [hkv]; exact nI_ne0 ht1 (Nat.lt_of_le_of_lt (Nat.le_trans (thN_le _ _) (gbN_le _ _ _ _)) (by decide))
    show mj G 7 (k + 2) (n + 12) M2 831 [some (.ref sc), some (.ref (ad 0 0 0)), some (.ref m), some (.ref o), some (.int (nI i)), some (.int kv), none] [.int (0)]
    refine m_istore (L' := [some (.ref sc), some (.ref (ad 0 0 0)), some (.ref m), some (.ref o), some (.int (nI i)), some (.int kv), some (.int (0))]) C d_La_law_831 (by decide) rfl ?_
    refine m_aload_n C d_La_law_833 rfl rfl ?_
    refine m_callV (ci := 10) C d_La_law_834 mw_La_78 mi_Mo_thrown se_Mo_thrown rfl (ct_Mo_thrown _ _ _ R2 m mr M2 hM2) (fun _ z => z.elim) rfl rfl (Nat.le_of_ble_eq_true rfl) hM2.1 ⟨⟨by omega, by omega⟩, by omega, by omega⟩ (fun v7 M3 hp3 h35 h36 => ?_)
    obtain ⟨rfl, hM3⟩ := hp3; rw [hM3, hz2]
    show mj G 7 (k + 2) (n + 12) M2 837 [some (.ref sc), some (.ref (ad 0 0 0)), some (.ref m), some (.ref o), some (.int (nI i)), some (.int kv), some (.int (0))] [.int kv]
    refine m_iload C d_La_law_837 rfl ?_
    refine m_icmp_eq (tgt := 844) C d_La_law_839 (by decide) (fun hq9 => ?_) (fun hq9 => ?_)
    · refine m_iload C d_La_law_844 rfl ?_
      refine m_if_ne (tgt := 861) C d_La_law_846 (by decide) (fun hq8 => ?_) (fun hq8 => ?_)
      · refine m_goto (tgt := 1237) C d_La_law_861 (by decide) ?_
        exact mj_L (fun q v hv => by rcases q with _ | _ | _ | _ | _ | _ | _ | q <;> first | exact hv | exact absurd (Option.some.inj hv) (by simp)) (nx R2 ad M2 (k + 2) (n + 12) hLI (by omega) (by omega))
      · exact absurd hq8 hkn
    · exact absurd rfl hq9

set_option maxHeartbeats 4000000 in
set_option maxRecDepth 100000 in
theorem la_post {G : ma_G} {fr mc ms lo k n : Nat} (C : ma_C G c_La_law 7 R_La fr mc ms lo) (sc N : Nat) (f : Nat → Int32) (i : Nat) (hN : N < 2 ^ 31) (hi : i + 6 ≤ N) (R : mR) (ad : mAd) (xa m : Nat) (mr : Nat → Nat) (o : Nat) (M : ma_H) (hX : ma_X9 G sc N f) (h : LI G R ad xa m mr o M) (hfr : 11 ≤ fr) (hlo : 400 ≤ lo) (hk : k + 9 ≤ mc) (hn : n + 74 ≤ ms) (nx : ∀ (R' : mR) (ad' : mAd) (M' : ma_H) (k' n' : Nat), LI G R' ad' xa m mr o M' → k' ≤ k + 9 → n' ≤ n + 74 → mj G 7 k' n' M' 1237 [some (.ref sc), some (.ref xa), some (.ref m), some (.ref o), some (.int (nI i)), none, none] []) : mj G 7 k n M 864 [some (.ref sc), some (.ref xa), some (.ref m), some (.ref o), some (.int (nI i)), none, none] [] := by
  obtain ⟨hwf, hR, hM, rfl, ⟨ov, ho⟩, hF, hMw, hoW⟩ := id h
  have hof : ¬ foot R ad o := fun z => (hF o z).2.2 rfl
  obtain ⟨s1, hs1⟩ : ∃ z : Int32, z = f (i + 1) := ⟨_, rfl⟩
  obtain ⟨s2, hs2⟩ : ∃ z : Int32, z = f (i + 2) := ⟨_, rfl⟩
  obtain ⟨s3, hs3⟩ : ∃ z : Int32, z = f (i + 3) := ⟨_, rfl⟩
  obtain ⟨s4, hs4⟩ : ∃ z : Int32, z = f (i + 4) := ⟨_, rfl⟩
  obtain ⟨s5, hs5⟩ : ∃ z : Int32, z = f (i + 5) := ⟨_, rfl⟩
  refine m_aload_n C d_La_law_864 rfl rfl ?_
  refine m_aload_n C d_La_law_865 rfl rfl ?_
  refine m_iload C d_La_law_866 rfl ?_
  refine m_iconst (v := 1) C d_La_law_868 (by decide) ?_
  refine m_iadd C d_La_law_869 ?_
  rw [show nI i + 1 = nI (i + 1) from nI_add i 1]
  refine m_xld C d_La_law_870 hX (by omega) hN ?_
  rw [← hs1]
  refine m_aload_n C d_La_law_871 rfl rfl ?_
  refine m_iload C d_La_law_872 rfl ?_
  refine m_iconst (v := 2) C d_La_law_874 (by decide) ?_
  refine m_iadd C d_La_law_875 ?_
  rw [show nI i + 2 = nI (i + 2) from nI_add i 2]
  refine m_xld C d_La_law_876 hX (by omega) hN ?_
  rw [← hs2]
  refine m_aload_n C d_La_law_877 rfl rfl ?_
  refine m_callSW C d_La_law_878 mh_La_115 mst_La_post (ct_La_post _ _ _ R ad o ov s1 s2 M hR hwf ho hof) (fun q z => z.elim (fun y => (hF q y).1) (fun y => by rw [y]; exact hoW)) rfl rfl (Nat.le_of_ble_eq_true rfl) ⟨⟨by omega, by omega⟩, by omega, by omega⟩ (fun v9 M1 hp h5 h6 => ?_)
  rcases hp with ⟨hg0, rfl, hMo, ad1, ha1, hc1, hf1⟩ | ⟨hg1, ht1, rfl, hMo, hc1⟩
  · have hk1 : ∀ q : Nat, M q ≠ none → ¬ (foot R ad q ∨ q = o) → M1 q = M q := h5
    obtain ⟨hM1, hF1⟩ := h.cls hk1 h6 hc1 hf1
    have hc0 := (gq_post (R := R) (s := s1) (a := s2)).r hg0
    show mj G 7 (k + 2) (n + 12) M1 881 [some (.ref sc), some (.ref (ad 0 0 0)), some (.ref m), some (.ref o), some (.int (nI i)), none, none] [.int 0]
    refine m_istore (L' := [some (.ref sc), some (.ref (ad 0 0 0)), some (.ref m), some (.ref o), some (.int (nI i)), some (.int 0), none]) C d_La_law_881 (by decide) rfl ?_
    refine m_aload_n C d_La_law_883 rfl rfl ?_
    refine m_aload_n C d_La_law_884 rfl rfl ?_
    refine m_iload C d_La_law_885 rfl ?_
    refine m_iconst (v := 1) C d_La_law_887 (by decide) ?_
    refine m_iadd C d_La_law_888 ?_
    rw [show nI i + 1 = nI (i + 1) from nI_add i 1]
    refine m_xld C d_La_law_889 hX (by omega) hN ?_
    rw [← hs1]
    refine m_aload_n C d_La_law_890 rfl rfl ?_
    refine m_iload C d_La_law_891 rfl ?_
    refine m_iconst (v := 2) C d_La_law_893 (by decide) ?_
    refine m_iadd C d_La_law_894 ?_
    rw [show nI i + 2 = nI (i + 2) from nI_add i 2]
    refine m_xld C d_La_law_895 hX (by omega) hN ?_
    rw [← hs2]
    refine m_callV (ci := 10) C d_La_law_896 mw_La_117 mi_Mo_post se_Mo_post rfl (ct_Mo_post _ _ _ R m mr s1 s2 M1 hM1 hwf) (fun q z => (hMw q z).1) rfl rfl (Nat.le_of_ble_eq_true rfl) hM1.1 ⟨⟨by omega, by omega⟩, by omega, by omega⟩ (fun v8 M2 hp2 h25 h26 => ?_)
    obtain ⟨rfl, hM2⟩ := hp2.1 hg0
    rw [← po_eq hwf (show tn s1 < nS R by obtain ⟨i8, hi8, _, e8⟩ := kn_i hwf.1 hc0.1; rw [e8]; exact hi8) hc0.2.1]
    obtain ⟨R2, hR2⟩ : ∃ R2 : mR, R2 = uR R 0 0 0 := ⟨_, rfl⟩
    rw [← hR2] at hM2
    have hE0 : ∀ f, f ≠ 0 → R2 f = (R : mR) f := by rw [hR2]; exact eq0_0 R 0
    have he0 := eq0_4 hE0
    have hw2 : WfS R2 := WfS_cg hE0 (hwf)
    have hz2 : R2 0 0 = 0 := by rw [hR2]; rfl
    obtain ⟨hLI, ho2⟩ := LI.mod (G := G) hw2 hc1 hM2 ha1 hMo hF1 hMw hoW he0 (fun q a b => h25 q a b)
    show mj G 7 (k + 2) (n + 12) M2 899 [some (.ref sc), some (.ref (ad 0 0 0)), some (.ref m), some (.ref o), some (.int (nI i)), some (.int 0), none] [.int (poF R (tn s1) s2)]
    refine m_istore (L' := [some (.ref sc), some (.ref (ad 0 0 0)), some (.ref m), some (.ref o), some (.int (nI i)), some (.int 0), some (.int (poF R (tn s1) s2))]) C d_La_law_899 (by decide) rfl ?_
    refine m_aload_n C d_La_law_901 rfl rfl ?_
    refine m_callV (ci := 10) C d_La_law_902 mw_La_78 mi_Mo_thrown se_Mo_thrown rfl (ct_Mo_thrown _ _ _ R2 m mr M2 hM2) (fun _ z => z.elim) rfl rfl (Nat.le_of_ble_eq_true rfl) hM2.1 ⟨⟨by omega, by omega⟩, by omega, by omega⟩ (fun v7 M3 hp3 h35 h36 => ?_)
    obtain ⟨rfl, hM3⟩ := hp3; rw [hM3, hz2]
    show mj G 7 (k + 2) (n + 12) M2 905 [some (.ref sc), some (.ref (ad 0 0 0)), some (.ref m), some (.ref o), some (.int (nI i)), some (.int 0), some (.int (poF R (tn s1) s2))] [.int 0]
    refine m_iload C d_La_law_905 rfl ?_
    refine m_icmp_eq (tgt := 912) C d_La_law_907 (by decide) (fun hq9 => ?_) (fun hq9 => ?_)
    · refine m_iload C d_La_law_912 rfl ?_
      refine m_if_ne (tgt := 929) C d_La_law_914 (by decide) (fun hq8 => ?_) (fun hq8 => ?_)
      · exact absurd rfl hq8
      · refine m_aload_n C d_La_law_917 rfl rfl ?_
        refine m_iconst (v := 0) C d_La_law_918 (by decide) ?_
        refine m_lald (v := .long (poF R (tn s1) s2).toInt64) C d_La_law_919 ho2 kt_long (by decide) rfl ?_
        refine m_iload C d_La_law_920 rfl ?_
        refine m_i2l C d_La_law_922 ?_
        refine m_lcmp C d_La_law_923 ?_
        rw [lgc]
        refine m_if_eq (tgt := 929) C d_La_law_924 (by decide) (fun hq7 => ?_) (fun hq7 => ?_)
        · refine m_goto (tgt := 1237) C d_La_law_929 (by decide) ?_
          exact mj_L (fun q v hv => by rcases q with _ | _ | _ | _ | _ | _ | _ | q <;> first | exact hv | exact absurd (Option.some.inj hv) (by simp)) (nx R2 ad1 M2 (k + 2) (n + 12) hLI (by omega) (by omega))
        · exact absurd rfl hq7
    · exact absurd rfl hq9
  · have hk1 : ∀ q : Nat, M q ≠ none → ¬ (foot R ad q ∨ q = o) → M1 q = M q := h5
    obtain ⟨hM1, hF1⟩ := h.cls hk1 h6 hc1 (fun q z => Or.inl z)
    obtain ⟨kv, hkv⟩ : ∃ z : Int32, z = (nI (thN 3 (gbN (kn R s1) ((kn R s1 && inn s2 0 (R 15 (tn s1)))) (true) (true)))) := ⟨_, rfl⟩
    show mj G 7 (k + 2) (n + 12) M1 881 [some (.ref sc), some (.ref (ad 0 0 0)), some (.ref m), some (.ref o), some (.int (nI i)), none, none] [.int (nI (thN 3 (gbN (kn R s1) ((kn R s1 && inn s2 0 (R 15 (tn s1)))) (true) (true))))]
    rw [← hkv]
    refine m_istore (L' := [some (.ref sc), some (.ref (ad 0 0 0)), some (.ref m), some (.ref o), some (.int (nI i)), some (.int kv), none]) C d_La_law_881 (by decide) rfl ?_
    refine m_aload_n C d_La_law_883 rfl rfl ?_
    refine m_aload_n C d_La_law_884 rfl rfl ?_
    refine m_iload C d_La_law_885 rfl ?_
    refine m_iconst (v := 1) C d_La_law_887 (by decide) ?_
    refine m_iadd C d_La_law_888 ?_
    rw [show nI i + 1 = nI (i + 1) from nI_add i 1]
    refine m_xld C d_La_law_889 hX (by omega) hN ?_
    rw [← hs1]
    refine m_aload_n C d_La_law_890 rfl rfl ?_
    refine m_iload C d_La_law_891 rfl ?_
    refine m_iconst (v := 2) C d_La_law_893 (by decide) ?_
    refine m_iadd C d_La_law_894 ?_
    rw [show nI i + 2 = nI (i + 2) from nI_add i 2]
    refine m_xld C d_La_law_895 hX (by omega) hN ?_
    rw [← hs2]
    refine m_callV (ci := 10) C d_La_law_896 mw_La_117 mi_Mo_post se_Mo_post rfl (ct_Mo_post _ _ _ R m mr s1 s2 M1 hM1 hwf) (fun q z => (hMw q z).1) rfl rfl (Nat.le_of_ble_eq_true rfl) hM1.1 ⟨⟨by omega, by omega⟩, by omega, by omega⟩ (fun v8 M2 hp2 h25 h26 => ?_)
    obtain ⟨rfl, hM2⟩ := hp2.2 hg1
    obtain ⟨R2, hR2⟩ : ∃ R2 : mR, R2 = uR R 0 0 (nI (thN 3 (gbN (kn R s1) ((kn R s1 && inn s2 0 (R 15 (tn s1)))) (true) (true)))) := ⟨_, rfl⟩
    rw [← hR2] at hM2
    have hE0 : ∀ f, f ≠ 0 → R2 f = R f := by rw [hR2]; exact eq0_0 R _
    have hz2 : R2 0 0 = kv := by rw [hR2, hkv]; rfl
    obtain ⟨hLI, ho2⟩ := LI.mod (G := G) (WfS_cg hE0 hwf) hc1 hM2 rfl hMo hF1 hMw hoW (eq0_4 hE0) (fun q a b => h25 q a b)
    have hkn : ¬ kv = 0 := by rw [hkv]; exact nI_ne0 ht1 (Nat.lt_of_le_of_lt (Nat.le_trans (thN_le _ _) (gbN_le _ _ _ _)) (by decide))
    show mj G 7 (k + 2) (n + 12) M2 899 [some (.ref sc), some (.ref (ad 0 0 0)), some (.ref m), some (.ref o), some (.int (nI i)), some (.int kv), none] [.int (0)]
    refine m_istore (L' := [some (.ref sc), some (.ref (ad 0 0 0)), some (.ref m), some (.ref o), some (.int (nI i)), some (.int kv), some (.int (0))]) C d_La_law_899 (by decide) rfl ?_
    refine m_aload_n C d_La_law_901 rfl rfl ?_
    refine m_callV (ci := 10) C d_La_law_902 mw_La_78 mi_Mo_thrown se_Mo_thrown rfl (ct_Mo_thrown _ _ _ R2 m mr M2 hM2) (fun _ z => z.elim) rfl rfl (Nat.le_of_ble_eq_true rfl) hM2.1 ⟨⟨by omega, by omega⟩, by omega, by omega⟩ (fun v7 M3 hp3 h35 h36 => ?_)
    obtain ⟨rfl, hM3⟩ := hp3; rw [hM3, hz2]
    show mj G 7 (k + 2) (n + 12) M2 905 [some (.ref sc), some (.ref (ad 0 0 0)), some (.ref m), some (.ref o), some (.int (nI i)), some (.int kv), some (.int (0))] [.int kv]
    refine m_iload C d_La_law_905 rfl ?_
    refine m_icmp_eq (tgt := 912) C d_La_law_907 (by decide) (fun hq9 => ?_) (fun hq9 => ?_)
    · refine m_iload C d_La_law_912 rfl ?_
      refine m_if_ne (tgt := 929) C d_La_law_914 (by decide) (fun hq8 => ?_) (fun hq8 => ?_)
      · refine m_goto (tgt := 1237) C d_La_law_929 (by decide) ?_
        exact mj_L (fun q v hv => by rcases q with _ | _ | _ | _ | _ | _ | _ | q <;> first | exact hv | exact absurd (Option.some.inj hv) (by simp)) (nx R2 ad M2 (k + 2) (n + 12) hLI (by omega) (by omega))
      · exact absurd hq8 hkn
    · exact absurd rfl hq9

set_option maxHeartbeats 4000000 in
set_option maxRecDepth 100000 in
theorem la_near {G : ma_G} {fr mc ms lo k n : Nat} (C : ma_C G c_La_law 7 R_La fr mc ms lo) (sc N : Nat) (f : Nat → Int32) (i : Nat) (hN : N < 2 ^ 31) (hi : i + 6 ≤ N) (R : mR) (ad : mAd) (xa m : Nat) (mr : Nat → Nat) (o : Nat) (M : ma_H) (hX : ma_X9 G sc N f) (h : LI G R ad xa m mr o M) (hfr : 11 ≤ fr) (hlo : 400 ≤ lo) (hk : k + 9 ≤ mc) (hn : n + 74 ≤ ms) (nx : ∀ (R' : mR) (ad' : mAd) (M' : ma_H) (k' n' : Nat), LI G R' ad' xa m mr o M' → k' ≤ k + 9 → n' ≤ n + 74 → mj G 7 k' n' M' 1237 [some (.ref sc), some (.ref xa), some (.ref m), some (.ref o), some (.int (nI i)), none, none] []) : mj G 7 k n M 932 [some (.ref sc), some (.ref xa), some (.ref m), some (.ref o), some (.int (nI i)), none, none] [] := by
  obtain ⟨hwf, hR, hM, rfl, ⟨ov, ho⟩, hF, hMw, hoW⟩ := id h
  have hof : ¬ foot R ad o := fun z => (hF o z).2.2 rfl
  obtain ⟨s1, hs1⟩ : ∃ z : Int32, z = f (i + 1) := ⟨_, rfl⟩
  obtain ⟨s2, hs2⟩ : ∃ z : Int32, z = f (i + 2) := ⟨_, rfl⟩
  obtain ⟨s3, hs3⟩ : ∃ z : Int32, z = f (i + 3) := ⟨_, rfl⟩
  obtain ⟨s4, hs4⟩ : ∃ z : Int32, z = f (i + 4) := ⟨_, rfl⟩
  obtain ⟨s5, hs5⟩ : ∃ z : Int32, z = f (i + 5) := ⟨_, rfl⟩
  refine m_aload_n C d_La_law_932 rfl rfl ?_
  refine m_aload_n C d_La_law_933 rfl rfl ?_
  refine m_iload C d_La_law_934 rfl ?_
  refine m_iconst (v := 1) C d_La_law_936 (by decide) ?_
  refine m_iadd C d_La_law_937 ?_
  rw [show nI i + 1 = nI (i + 1) from nI_add i 1]
  refine m_xld C d_La_law_938 hX (by omega) hN ?_
  rw [← hs1]
  refine m_aload_n C d_La_law_939 rfl rfl ?_
  refine m_iload C d_La_law_940 rfl ?_
  refine m_iconst (v := 2) C d_La_law_942 (by decide) ?_
  refine m_iadd C d_La_law_943 ?_
  rw [show nI i + 2 = nI (i + 2) from nI_add i 2]
  refine m_xld C d_La_law_944 hX (by omega) hN ?_
  rw [← hs2]
  refine m_aload_n C d_La_law_945 rfl rfl ?_
  refine m_callSW C d_La_law_946 mh_La_118 mst_La_near (ct_La_near _ _ _ R ad o ov s1 s2 M hR hwf ho hof) (fun q z => z.elim (fun y => (hF q y).1) (fun y => by rw [y]; exact hoW)) rfl rfl (Nat.le_of_ble_eq_true rfl) ⟨⟨by omega, by omega⟩, by omega, by omega⟩ (fun v9 M1 hp h5 h6 => ?_)
  rcases hp with ⟨hg0, rfl, hMo, ad1, ha1, hc1, hf1⟩ | ⟨hg1, ht1, rfl, hMo, hc1⟩
  · have hk1 : ∀ q : Nat, M q ≠ none → ¬ (foot R ad q ∨ q = o) → M1 q = M q := h5
    obtain ⟨hM1, hF1⟩ := h.cls hk1 h6 hc1 hf1
    have hc0 := (gq_near (x := s1) (y := s2)).r hg0
    show mj G 7 (k + 1) (n + 6) M1 949 [some (.ref sc), some (.ref (ad 0 0 0)), some (.ref m), some (.ref o), some (.int (nI i)), none, none] [.int 0]
    refine m_istore (L' := [some (.ref sc), some (.ref (ad 0 0 0)), some (.ref m), some (.ref o), some (.int (nI i)), some (.int 0), none]) C d_La_law_949 (by decide) rfl ?_
    refine m_aload_n C d_La_law_951 rfl rfl ?_
    refine m_aload_n C d_La_law_952 rfl rfl ?_
    refine m_iload C d_La_law_953 rfl ?_
    refine m_iconst (v := 1) C d_La_law_955 (by decide) ?_
    refine m_iadd C d_La_law_956 ?_
    rw [show nI i + 1 = nI (i + 1) from nI_add i 1]
    refine m_xld C d_La_law_957 hX (by omega) hN ?_
    rw [← hs1]
    refine m_aload_n C d_La_law_958 rfl rfl ?_
    refine m_iload C d_La_law_959 rfl ?_
    refine m_iconst (v := 2) C d_La_law_961 (by decide) ?_
    refine m_iadd C d_La_law_962 ?_
    rw [show nI i + 2 = nI (i + 2) from nI_add i 2]
    refine m_xld C d_La_law_963 hX (by omega) hN ?_
    rw [← hs2]
    refine m_callV (ci := 10) C d_La_law_964 mw_La_120 mi_Mo_near se_Mo_near rfl (ct_Mo_near _ _ _ R m mr s1 s2 M1 hM1 hwf) (fun q z => (hMw q z).1) rfl rfl (Nat.le_of_ble_eq_true rfl) hM1.1 ⟨⟨by omega, by omega⟩, by omega, by omega⟩ (fun v8 M2 hp2 h25 h26 => ?_)
    obtain ⟨rfl, hM2⟩ := hp2.1 hg0
    rw [← (nea_eq hwf hc0.2.1.1 hc0.2.1.2 (nS R) (Nat.le_refl _)).1]
    obtain ⟨R2, hR2⟩ : ∃ R2 : mR, R2 = uR R 0 0 0 := ⟨_, rfl⟩
    rw [← hR2] at hM2
    have hE0 : ∀ f, f ≠ 0 → R2 f = (R : mR) f := by rw [hR2]; exact eq0_0 R 0
    have he0 := eq0_4 hE0
    have hw2 : WfS R2 := WfS_cg hE0 (hwf)
    have hz2 : R2 0 0 = 0 := by rw [hR2]; rfl
    obtain ⟨hLI, ho2⟩ := LI.mod (G := G) hw2 hc1 hM2 ha1 hMo hF1 hMw hoW he0 (fun q a b => h25 q a b)
    show mj G 7 (k + 1) (n + 6) M2 967 [some (.ref sc), some (.ref (ad 0 0 0)), some (.ref m), some (.ref o), some (.int (nI i)), some (.int 0), none] [.int ((neF R s1 s2 (nS R)).1)]
    refine m_istore (L' := [some (.ref sc), some (.ref (ad 0 0 0)), some (.ref m), some (.ref o), some (.int (nI i)), some (.int 0), some (.int ((neF R s1 s2 (nS R)).1))]) C d_La_law_967 (by decide) rfl ?_
    refine m_aload_n C d_La_law_969 rfl rfl ?_
    refine m_callV (ci := 10) C d_La_law_970 mw_La_78 mi_Mo_thrown se_Mo_thrown rfl (ct_Mo_thrown _ _ _ R2 m mr M2 hM2) (fun _ z => z.elim) rfl rfl (Nat.le_of_ble_eq_true rfl) hM2.1 ⟨⟨by omega, by omega⟩, by omega, by omega⟩ (fun v7 M3 hp3 h35 h36 => ?_)
    obtain ⟨rfl, hM3⟩ := hp3; rw [hM3, hz2]
    show mj G 7 (k + 1) (n + 6) M2 973 [some (.ref sc), some (.ref (ad 0 0 0)), some (.ref m), some (.ref o), some (.int (nI i)), some (.int 0), some (.int ((neF R s1 s2 (nS R)).1))] [.int 0]
    refine m_iload C d_La_law_973 rfl ?_
    refine m_icmp_eq (tgt := 980) C d_La_law_975 (by decide) (fun hq9 => ?_) (fun hq9 => ?_)
    · refine m_iload C d_La_law_980 rfl ?_
      refine m_if_ne (tgt := 997) C d_La_law_982 (by decide) (fun hq8 => ?_) (fun hq8 => ?_)
      · exact absurd rfl hq8
      · refine m_aload_n C d_La_law_985 rfl rfl ?_
        refine m_iconst (v := 0) C d_La_law_986 (by decide) ?_
        refine m_lald (v := .long ((neF R s1 s2 (nS R)).1).toInt64) C d_La_law_987 ho2 kt_long (by decide) rfl ?_
        refine m_iload C d_La_law_988 rfl ?_
        refine m_i2l C d_La_law_990 ?_
        refine m_lcmp C d_La_law_991 ?_
        rw [lgc]
        refine m_if_eq (tgt := 997) C d_La_law_992 (by decide) (fun hq7 => ?_) (fun hq7 => ?_)
        · refine m_goto (tgt := 1237) C d_La_law_997 (by decide) ?_
          exact mj_L (fun q v hv => by rcases q with _ | _ | _ | _ | _ | _ | _ | q <;> first | exact hv | exact absurd (Option.some.inj hv) (by simp)) (nx R2 ad1 M2 (k + 1) (n + 6) hLI (by omega) (by omega))
        · exact absurd rfl hq7
    · exact absurd rfl hq9
  · have hk1 : ∀ q : Nat, M q ≠ none → ¬ (foot R ad q ∨ q = o) → M1 q = M q := h5
    obtain ⟨hM1, hF1⟩ := h.cls hk1 h6 hc1 (fun q z => Or.inl z)
    obtain ⟨kv, hkv⟩ : ∃ z : Int32, z = (nI (thN 2 (gbN (true) ((inn s1 (-9999) 9999 && inn s2 (-9999) 9999)) (true) (true)))) := ⟨_, rfl⟩
    show mj G 7 (k + 1) (n + 6) M1 949 [some (.ref sc), some (.ref (ad 0 0 0)), some (.ref m), some (.ref o), some (.int (nI i)), none, none] [.int (nI (thN 2 (gbN (true) ((inn s1 (-9999) 9999 && inn s2 (-9999) 9999)) (true) (true))))]
    rw [← hkv]
    refine m_istore (L' := [some (.ref sc), some (.ref (ad 0 0 0)), some (.ref m), some (.ref o), some (.int (nI i)), some (.int kv), none]) C d_La_law_949 (by decide) rfl ?_
    refine m_aload_n C d_La_law_951 rfl rfl ?_
    refine m_aload_n C d_La_law_952 rfl rfl ?_
    refine m_iload C d_La_law_953 rfl ?_
    refine m_iconst (v := 1) C d_La_law_955 (by decide) ?_
    refine m_iadd C d_La_law_956 ?_
    rw [show nI i + 1 = nI (i + 1) from nI_add i 1]
    refine m_xld C d_La_law_957 hX (by omega) hN ?_
    rw [← hs1]
    refine m_aload_n C d_La_law_958 rfl rfl ?_
    refine m_iload C d_La_law_959 rfl ?_
    refine m_iconst (v := 2) C d_La_law_961 (by decide) ?_
    refine m_iadd C d_La_law_962 ?_
    rw [show nI i + 2 = nI (i + 2) from nI_add i 2]
    refine m_xld C d_La_law_963 hX (by omega) hN ?_
    rw [← hs2]
    refine m_callV (ci := 10) C d_La_law_964 mw_La_120 mi_Mo_near se_Mo_near rfl (ct_Mo_near _ _ _ R m mr s1 s2 M1 hM1 hwf) (fun q z => (hMw q z).1) rfl rfl (Nat.le_of_ble_eq_true rfl) hM1.1 ⟨⟨by omega, by omega⟩, by omega, by omega⟩ (fun v8 M2 hp2 h25 h26 => ?_)
    obtain ⟨rfl, hM2⟩ := hp2.2 hg1
    obtain ⟨R2, hR2⟩ : ∃ R2 : mR, R2 = uR R 0 0 (nI (thN 2 (gbN (true) ((inn s1 (-9999) 9999 && inn s2 (-9999) 9999)) (true) (true)))) := ⟨_, rfl⟩
    rw [← hR2] at hM2
    have hE0 : ∀ f, f ≠ 0 → R2 f = R f := by rw [hR2]; exact eq0_0 R _
    have hz2 : R2 0 0 = kv := by rw [hR2, hkv]; rfl
    obtain ⟨hLI, ho2⟩ := LI.mod (G := G) (WfS_cg hE0 hwf) hc1 hM2 rfl hMo hF1 hMw hoW (eq0_4 hE0) (fun q a b => h25 q a b)
    have hkn : ¬ kv = 0 := by rw [hkv]; exact nI_ne0 ht1 (Nat.lt_of_le_of_lt (Nat.le_trans (thN_le _ _) (gbN_le _ _ _ _)) (by decide))
    show mj G 7 (k + 1) (n + 6) M2 967 [some (.ref sc), some (.ref (ad 0 0 0)), some (.ref m), some (.ref o), some (.int (nI i)), some (.int kv), none] [.int (0)]
    refine m_istore (L' := [some (.ref sc), some (.ref (ad 0 0 0)), some (.ref m), some (.ref o), some (.int (nI i)), some (.int kv), some (.int (0))]) C d_La_law_967 (by decide) rfl ?_
    refine m_aload_n C d_La_law_969 rfl rfl ?_
    refine m_callV (ci := 10) C d_La_law_970 mw_La_78 mi_Mo_thrown se_Mo_thrown rfl (ct_Mo_thrown _ _ _ R2 m mr M2 hM2) (fun _ z => z.elim) rfl rfl (Nat.le_of_ble_eq_true rfl) hM2.1 ⟨⟨by omega, by omega⟩, by omega, by omega⟩ (fun v7 M3 hp3 h35 h36 => ?_)
    obtain ⟨rfl, hM3⟩ := hp3; rw [hM3, hz2]
    show mj G 7 (k + 1) (n + 6) M2 973 [some (.ref sc), some (.ref (ad 0 0 0)), some (.ref m), some (.ref o), some (.int (nI i)), some (.int kv), some (.int (0))] [.int kv]
    refine m_iload C d_La_law_973 rfl ?_
    refine m_icmp_eq (tgt := 980) C d_La_law_975 (by decide) (fun hq9 => ?_) (fun hq9 => ?_)
    · refine m_iload C d_La_law_980 rfl ?_
      refine m_if_ne (tgt := 997) C d_La_law_982 (by decide) (fun hq8 => ?_) (fun hq8 => ?_)
      · refine m_goto (tgt := 1237) C d_La_law_997 (by decide) ?_
        exact mj_L (fun q v hv => by rcases q with _ | _ | _ | _ | _ | _ | _ | q <;> first | exact hv | exact absurd (Option.some.inj hv) (by simp)) (nx R2 ad M2 (k + 1) (n + 6) hLI (by omega) (by omega))
      · exact absurd hq8 hkn
    · exact absurd rfl hq9

set_option maxHeartbeats 4000000 in
set_option maxRecDepth 100000 in
theorem la_word {G : ma_G} {fr mc ms lo k n : Nat} (C : ma_C G c_La_law 7 R_La fr mc ms lo) (sc N : Nat) (f : Nat → Int32) (i : Nat) (hN : N < 2 ^ 31) (hi : i + 6 ≤ N) (R : mR) (ad : mAd) (xa m : Nat) (mr : Nat → Nat) (o : Nat) (M : ma_H) (hX : ma_X9 G sc N f) (h : LI G R ad xa m mr o M) (hfr : 11 ≤ fr) (hlo : 400 ≤ lo) (hk : k + 9 ≤ mc) (hn : n + 74 ≤ ms) (nx : ∀ (R' : mR) (ad' : mAd) (M' : ma_H) (k' n' : Nat), LI G R' ad' xa m mr o M' → k' ≤ k + 9 → n' ≤ n + 74 → mj G 7 k' n' M' 1237 [some (.ref sc), some (.ref xa), some (.ref m), some (.ref o), some (.int (nI i)), none, none] []) : mj G 7 k n M 1000 [some (.ref sc), some (.ref xa), some (.ref m), some (.ref o), some (.int (nI i)), none, none] [] := by
  obtain ⟨hwf, hR, hM, rfl, ⟨ov, ho⟩, hF, hMw, hoW⟩ := id h
  have hof : ¬ foot R ad o := fun z => (hF o z).2.2 rfl
  obtain ⟨s1, hs1⟩ : ∃ z : Int32, z = f (i + 1) := ⟨_, rfl⟩
  obtain ⟨s2, hs2⟩ : ∃ z : Int32, z = f (i + 2) := ⟨_, rfl⟩
  obtain ⟨s3, hs3⟩ : ∃ z : Int32, z = f (i + 3) := ⟨_, rfl⟩
  obtain ⟨s4, hs4⟩ : ∃ z : Int32, z = f (i + 4) := ⟨_, rfl⟩
  obtain ⟨s5, hs5⟩ : ∃ z : Int32, z = f (i + 5) := ⟨_, rfl⟩
  refine m_aload_n C d_La_law_1000 rfl rfl ?_
  refine m_aload_n C d_La_law_1001 rfl rfl ?_
  refine m_iload C d_La_law_1002 rfl ?_
  refine m_iconst (v := 1) C d_La_law_1004 (by decide) ?_
  refine m_iadd C d_La_law_1005 ?_
  rw [show nI i + 1 = nI (i + 1) from nI_add i 1]
  refine m_xld C d_La_law_1006 hX (by omega) hN ?_
  rw [← hs1]
  refine m_i2l C d_La_law_1007 ?_
  refine m_bipush (v := 32) C d_La_law_1008 (by decide) ?_
  refine m_lshl C d_La_law_1010 ?_
  refine m_aload_n C d_La_law_1011 rfl rfl ?_
  refine m_iload C d_La_law_1012 rfl ?_
  refine m_iconst (v := 2) C d_La_law_1014 (by decide) ?_
  refine m_iadd C d_La_law_1015 ?_
  rw [show nI i + 2 = nI (i + 2) from nI_add i 2]
  refine m_xld C d_La_law_1016 hX (by omega) hN ?_
  rw [← hs2]
  refine m_i2l C d_La_law_1017 ?_
  refine m_ldc2 (v := 4294967295) C d_La_law_1018 kc_La_82 ?_
  refine m_land C d_La_law_1021 ?_
  refine m_lor C d_La_law_1022 ?_
  refine m_aload_n C d_La_law_1023 rfl rfl ?_
  refine m_iload C d_La_law_1024 rfl ?_
  refine m_iconst (v := 3) C d_La_law_1026 (by decide) ?_
  refine m_iadd C d_La_law_1027 ?_
  rw [show nI i + 3 = nI (i + 3) from nI_add i 3]
  refine m_xld C d_La_law_1028 hX (by omega) hN ?_
  rw [← hs3]
  refine m_aload_n C d_La_law_1029 rfl rfl ?_
  obtain ⟨L1, hL1⟩ : ∃ z : Int64, z = (((s1.toInt64 <<< ((32 : Int32).toInt64 &&& 63))) ||| ((s2.toInt64 &&& 4294967295))) := ⟨_, rfl⟩
  rw [← hL1]
  refine m_callSW C d_La_law_1030 mh_La_121 mst_La_word (ct_La_word _ _ _ R ad o ov L1 s3 M hR hwf ho hof) (fun q z => z.elim (fun y => (hF q y).1) (fun y => by rw [y]; exact hoW)) rfl rfl (Nat.le_of_ble_eq_true rfl) ⟨⟨by omega, by omega⟩, by omega, by omega⟩ (fun v9 M1 hp h5 h6 => ?_)
  rcases hp with ⟨hg0, rfl, hMo, ad1, ha1, hc1, hf1⟩ | ⟨hg1, ht1, rfl, hMo, hc1⟩
  · have hk1 : ∀ q : Nat, M q ≠ none → ¬ (foot R ad q ∨ q = o) → M1 q = M q := h5
    obtain ⟨hM1, hF1⟩ := h.cls hk1 h6 hc1 hf1
    have hc0 := (gq_word hwf (p := L1) (n := s3)).r hg0
    show mj G 7 (k + 2) (n + 12) M1 1033 [some (.ref sc), some (.ref (ad 0 0 0)), some (.ref m), some (.ref o), some (.int (nI i)), none, none] [.int 0]
    refine m_istore (L' := [some (.ref sc), some (.ref (ad 0 0 0)), some (.ref m), some (.ref o), some (.int (nI i)), some (.int 0), none]) C d_La_law_1033 (by decide) rfl ?_
    refine m_aload_n C d_La_law_1035 rfl rfl ?_
    refine m_aload_n C d_La_law_1036 rfl rfl ?_
    refine m_iload C d_La_law_1037 rfl ?_
    refine m_iconst (v := 1) C d_La_law_1039 (by decide) ?_
    refine m_iadd C d_La_law_1040 ?_
    rw [show nI i + 1 = nI (i + 1) from nI_add i 1]
    refine m_xld C d_La_law_1041 hX (by omega) hN ?_
    rw [← hs1]
    refine m_i2l C d_La_law_1042 ?_
    refine m_bipush (v := 32) C d_La_law_1043 (by decide) ?_
    refine m_lshl C d_La_law_1045 ?_
    refine m_aload_n C d_La_law_1046 rfl rfl ?_
    refine m_iload C d_La_law_1047 rfl ?_
    refine m_iconst (v := 2) C d_La_law_1049 (by decide) ?_
    refine m_iadd C d_La_law_1050 ?_
    rw [show nI i + 2 = nI (i + 2) from nI_add i 2]
    refine m_xld C d_La_law_1051 hX (by omega) hN ?_
    rw [← hs2]
    refine m_i2l C d_La_law_1052 ?_
    refine m_ldc2 (v := 4294967295) C d_La_law_1053 kc_La_82 ?_
    refine m_land C d_La_law_1056 ?_
    refine m_lor C d_La_law_1057 ?_
    refine m_aload_n C d_La_law_1058 rfl rfl ?_
    refine m_iload C d_La_law_1059 rfl ?_
    refine m_iconst (v := 3) C d_La_law_1061 (by decide) ?_
    refine m_iadd C d_La_law_1062 ?_
    rw [show nI i + 3 = nI (i + 3) from nI_add i 3]
    refine m_xld C d_La_law_1063 hX (by omega) hN ?_
    rw [← hs3]
    rw [← hL1]
    refine m_callV (ci := 10) C d_La_law_1064 mw_La_124 mi_Mo_word se_Mo_word rfl (ct_Mo_word _ _ _ R m mr L1 s3 M1 hM1 hwf) (fun q z => (hMw q z).1) rfl rfl (Nat.le_of_ble_eq_true rfl) hM1.1 ⟨⟨by omega, by omega⟩, by omega, by omega⟩ (fun v8 M2 hp2 h25 h26 => ?_)
    obtain ⟨rfl, hM2⟩ := hp2.1 hg0
    obtain ⟨R2, hR2⟩ : ∃ R2 : mR, R2 = uR (uR (setF (uR R 0 0 0) 27 (fa (R 27) (if tn s3 = 0 then 0 else nW R) L1 (tn s3) (tn s3))) 26 0 (nI (if tn s3 = 0 then 0 else nW R + tn s3))) 28 0 0 := ⟨_, rfl⟩
    rw [← hR2] at hM2
    have hE0 : ∀ f, f ≠ 0 → R2 f = (uR (uR (setF R 27 (fa (R 27) (if tn s3 = 0 then 0 else nW R) L1 (tn s3) (tn s3))) 26 0 (nI (if tn s3 = 0 then 0 else nW R + tn s3))) 28 0 0 : mR) f := by rw [hR2]; exact eq0_u (eq0_u (eq0_s (eq0_0 R 0) _ _) _ _ _ (by decide)) _ _ _ (by decide)
    have he0 := eq0_4 hE0
    have hw2 : WfS R2 := WfS_cg hE0 (wf_word hwf (wd_le hc0.2.2.2))
    have hz2 : R2 0 0 = 0 := by rw [hR2]; rfl
    obtain ⟨hLI, ho2⟩ := LI.mod (G := G) hw2 hc1 hM2 ha1 hMo hF1 hMw hoW he0 (fun q a b => h25 q a b)
    show mj G 7 (k + 2) (n + 12) M2 1067 [some (.ref sc), some (.ref (ad 0 0 0)), some (.ref m), some (.ref o), some (.int (nI i)), some (.int 0), none] [.int (nI (if tn s3 = 0 then 0 else nW R + tn s3))]
    refine m_istore (L' := [some (.ref sc), some (.ref (ad 0 0 0)), some (.ref m), some (.ref o), some (.int (nI i)), some (.int 0), some (.int (nI (if tn s3 = 0 then 0 else nW R + tn s3)))]) C d_La_law_1067 (by decide) rfl ?_
    refine m_aload_n C d_La_law_1069 rfl rfl ?_
    refine m_callV (ci := 10) C d_La_law_1070 mw_La_78 mi_Mo_thrown se_Mo_thrown rfl (ct_Mo_thrown _ _ _ R2 m mr M2 hM2) (fun _ z => z.elim) rfl rfl (Nat.le_of_ble_eq_true rfl) hM2.1 ⟨⟨by omega, by omega⟩, by omega, by omega⟩ (fun v7 M3 hp3 h35 h36 => ?_)
    obtain ⟨rfl, hM3⟩ := hp3; rw [hM3, hz2]
    show mj G 7 (k + 2) (n + 12) M2 1073 [some (.ref sc), some (.ref (ad 0 0 0)), some (.ref m), some (.ref o), some (.int (nI i)), some (.int 0), some (.int (nI (if tn s3 = 0 then 0 else nW R + tn s3)))] [.int 0]
    refine m_iload C d_La_law_1073 rfl ?_
    refine m_icmp_eq (tgt := 1080) C d_La_law_1075 (by decide) (fun hq9 => ?_) (fun hq9 => ?_)
    · refine m_iload C d_La_law_1080 rfl ?_
      refine m_if_ne (tgt := 1097) C d_La_law_1082 (by decide) (fun hq8 => ?_) (fun hq8 => ?_)
      · exact absurd rfl hq8
      · refine m_aload_n C d_La_law_1085 rfl rfl ?_
        refine m_iconst (v := 0) C d_La_law_1086 (by decide) ?_
        refine m_lald (v := .long (nI (if tn s3 = 0 then 0 else nW R + tn s3)).toInt64) C d_La_law_1087 ho2 kt_long (by decide) rfl ?_
        refine m_iload C d_La_law_1088 rfl ?_
        refine m_i2l C d_La_law_1090 ?_
        refine m_lcmp C d_La_law_1091 ?_
        rw [lgc]
        refine m_if_eq (tgt := 1097) C d_La_law_1092 (by decide) (fun hq7 => ?_) (fun hq7 => ?_)
        · refine m_goto (tgt := 1237) C d_La_law_1097 (by decide) ?_
          exact mj_L (fun q v hv => by rcases q with _ | _ | _ | _ | _ | _ | _ | q <;> first | exact hv | exact absurd (Option.some.inj hv) (by simp)) (nx R2 ad1 M2 (k + 2) (n + 12) hLI (by omega) (by omega))
        · exact absurd rfl hq7
    · exact absurd rfl hq9
  · have hk1 : ∀ q : Nat, M q ≠ none → ¬ (foot R ad q ∨ q = o) → M1 q = M q := h5
    obtain ⟨hM1, hF1⟩ := h.cls hk1 h6 hc1 (fun q z => Or.inl z)
    obtain ⟨kv, hkv⟩ : ∃ z : Int32, z = (nI (thN 10 (gbN (true) ((inn s3 0 8 && decide (∀ i, i < tn s3 → is_s (sgn L1 (tn s3) i) = true))) (true) (decide (R 26 0 + s3 ≤ 40))))) := ⟨_, rfl⟩
    show mj G 7 (k + 2) (n + 12) M1 1033 [some (.ref sc), some (.ref (ad 0 0 0)), some (.ref m), some (.ref o), some (.int (nI i)), none, none] [.int (nI (thN 10 (gbN (true) ((inn s3 0 8 && decide (∀ i, i < tn s3 → is_s (sgn L1 (tn s3) i) = true))) (true) (decide (R 26 0 + s3 ≤ 40)))))]
    rw [← hkv]
    refine m_istore (L' := [some (.ref sc), some (.ref (ad 0 0 0)), some (.ref m), some (.ref o), some (.int (nI i)), some (.int kv), none]) C d_La_law_1033 (by decide) rfl ?_
    refine m_aload_n C d_La_law_1035 rfl rfl ?_
    refine m_aload_n C d_La_law_1036 rfl rfl ?_
    refine m_iload C d_La_law_1037 rfl ?_
    refine m_iconst (v := 1) C d_La_law_1039 (by decide) ?_
    refine m_iadd C d_La_law_1040 ?_
    rw [show nI i + 1 = nI (i + 1) from nI_add i 1]
    refine m_xld C d_La_law_1041 hX (by omega) hN ?_
    rw [← hs1]
    refine m_i2l C d_La_law_1042 ?_
    refine m_bipush (v := 32) C d_La_law_1043 (by decide) ?_
    refine m_lshl C d_La_law_1045 ?_
    refine m_aload_n C d_La_law_1046 rfl rfl ?_
    refine m_iload C d_La_law_1047 rfl ?_
    refine m_iconst (v := 2) C d_La_law_1049 (by decide) ?_
    refine m_iadd C d_La_law_1050 ?_
    rw [show nI i + 2 = nI (i + 2) from nI_add i 2]
    refine m_xld C d_La_law_1051 hX (by omega) hN ?_
    rw [← hs2]
    refine m_i2l C d_La_law_1052 ?_
    refine m_ldc2 (v := 4294967295) C d_La_law_1053 kc_La_82 ?_
    refine m_land C d_La_law_1056 ?_
    refine m_lor C d_La_law_1057 ?_
    refine m_aload_n C d_La_law_1058 rfl rfl ?_
    refine m_iload C d_La_law_1059 rfl ?_
    refine m_iconst (v := 3) C d_La_law_1061 (by decide) ?_
    refine m_iadd C d_La_law_1062 ?_
    rw [show nI i + 3 = nI (i + 3) from nI_add i 3]
    refine m_xld C d_La_law_1063 hX (by omega) hN ?_
    rw [← hs3]
    rw [← hL1]
    refine m_callV (ci := 10) C d_La_law_1064 mw_La_124 mi_Mo_word se_Mo_word rfl (ct_Mo_word _ _ _ R m mr L1 s3 M1 hM1 hwf) (fun q z => (hMw q z).1) rfl rfl (Nat.le_of_ble_eq_true rfl) hM1.1 ⟨⟨by omega, by omega⟩, by omega, by omega⟩ (fun v8 M2 hp2 h25 h26 => ?_)
    obtain ⟨rfl, hM2⟩ := hp2.2 hg1
    obtain ⟨R2, hR2⟩ : ∃ R2 : mR, R2 = uR R 0 0 (nI (thN 10 (gbN (true) ((inn s3 0 8 && decide (∀ i, i < tn s3 → is_s (sgn L1 (tn s3) i) = true))) (true) (decide (R 26 0 + s3 ≤ 40))))) := ⟨_, rfl⟩
    rw [← hR2] at hM2
    have hE0 : ∀ f, f ≠ 0 → R2 f = R f := by rw [hR2]; exact eq0_0 R _
    have hz2 : R2 0 0 = kv := by rw [hR2, hkv]; rfl
    obtain ⟨hLI, ho2⟩ := LI.mod (G := G) (WfS_cg hE0 hwf) hc1 hM2 rfl hMo hF1 hMw hoW (eq0_4 hE0) (fun q a b => h25 q a b)
    have hkn : ¬ kv = 0 := by rw [hkv]; exact nI_ne0 ht1 (Nat.lt_of_le_of_lt (Nat.le_trans (thN_le _ _) (gbN_le _ _ _ _)) (by decide))
    show mj G 7 (k + 2) (n + 12) M2 1067 [some (.ref sc), some (.ref (ad 0 0 0)), some (.ref m), some (.ref o), some (.int (nI i)), some (.int kv), none] [.int (0)]
    refine m_istore (L' := [some (.ref sc), some (.ref (ad 0 0 0)), some (.ref m), some (.ref o), some (.int (nI i)), some (.int kv), some (.int (0))]) C d_La_law_1067 (by decide) rfl ?_
    refine m_aload_n C d_La_law_1069 rfl rfl ?_
    refine m_callV (ci := 10) C d_La_law_1070 mw_La_78 mi_Mo_thrown se_Mo_thrown rfl (ct_Mo_thrown _ _ _ R2 m mr M2 hM2) (fun _ z => z.elim) rfl rfl (Nat.le_of_ble_eq_true rfl) hM2.1 ⟨⟨by omega, by omega⟩, by omega, by omega⟩ (fun v7 M3 hp3 h35 h36 => ?_)
    obtain ⟨rfl, hM3⟩ := hp3; rw [hM3, hz2]
    show mj G 7 (k + 2) (n + 12) M2 1073 [some (.ref sc), some (.ref (ad 0 0 0)), some (.ref m), some (.ref o), some (.int (nI i)), some (.int kv), some (.int (0))] [.int kv]
    refine m_iload C d_La_law_1073 rfl ?_
    refine m_icmp_eq (tgt := 1080) C d_La_law_1075 (by decide) (fun hq9 => ?_) (fun hq9 => ?_)
    · refine m_iload C d_La_law_1080 rfl ?_
      refine m_if_ne (tgt := 1097) C d_La_law_1082 (by decide) (fun hq8 => ?_) (fun hq8 => ?_)
      · refine m_goto (tgt := 1237) C d_La_law_1097 (by decide) ?_
        exact mj_L (fun q v hv => by rcases q with _ | _ | _ | _ | _ | _ | _ | q <;> first | exact hv | exact absurd (Option.some.inj hv) (by simp)) (nx R2 ad M2 (k + 2) (n + 12) hLI (by omega) (by omega))
      · exact absurd hq8 hkn
    · exact absurd rfl hq9

set_option maxHeartbeats 4000000 in
set_option maxRecDepth 100000 in
theorem la_find {G : ma_G} {fr mc ms lo k n : Nat} (C : ma_C G c_La_law 7 R_La fr mc ms lo) (sc N : Nat) (f : Nat → Int32) (i : Nat) (hN : N < 2 ^ 31) (hi : i + 6 ≤ N) (R : mR) (ad : mAd) (xa m : Nat) (mr : Nat → Nat) (o : Nat) (M : ma_H) (hX : ma_X9 G sc N f) (h : LI G R ad xa m mr o M) (hfr : 11 ≤ fr) (hlo : 400 ≤ lo) (hk : k + 9 ≤ mc) (hn : n + 74 ≤ ms) (nx : ∀ (R' : mR) (ad' : mAd) (M' : ma_H) (k' n' : Nat), LI G R' ad' xa m mr o M' → k' ≤ k + 9 → n' ≤ n + 74 → mj G 7 k' n' M' 1237 [some (.ref sc), some (.ref xa), some (.ref m), some (.ref o), some (.int (nI i)), none, none] []) : mj G 7 k n M 1100 [some (.ref sc), some (.ref xa), some (.ref m), some (.ref o), some (.int (nI i)), none, none] [] := by
  obtain ⟨hwf, hR, hM, rfl, ⟨ov, ho⟩, hF, hMw, hoW⟩ := id h
  have hof : ¬ foot R ad o := fun z => (hF o z).2.2 rfl
  obtain ⟨s1, hs1⟩ : ∃ z : Int32, z = f (i + 1) := ⟨_, rfl⟩
  obtain ⟨s2, hs2⟩ : ∃ z : Int32, z = f (i + 2) := ⟨_, rfl⟩
  obtain ⟨s3, hs3⟩ : ∃ z : Int32, z = f (i + 3) := ⟨_, rfl⟩
  obtain ⟨s4, hs4⟩ : ∃ z : Int32, z = f (i + 4) := ⟨_, rfl⟩
  obtain ⟨s5, hs5⟩ : ∃ z : Int32, z = f (i + 5) := ⟨_, rfl⟩
  refine m_aload_n C d_La_law_1100 rfl rfl ?_
  refine m_aload_n C d_La_law_1101 rfl rfl ?_
  refine m_iload C d_La_law_1102 rfl ?_
  refine m_iconst (v := 1) C d_La_law_1104 (by decide) ?_
  refine m_iadd C d_La_law_1105 ?_
  rw [show nI i + 1 = nI (i + 1) from nI_add i 1]
  refine m_xld C d_La_law_1106 hX (by omega) hN ?_
  rw [← hs1]
  refine m_aload_n C d_La_law_1107 rfl rfl ?_
  refine m_callSW C d_La_law_1108 mh_La_125 mst_La_find (ct_La_find _ _ _ R ad o ov s1 M hR hwf ho hof) (fun q z => z.elim (fun y => (hF q y).1) (fun y => by rw [y]; exact hoW)) rfl rfl (Nat.le_of_ble_eq_true rfl) ⟨⟨by omega, by omega⟩, by omega, by omega⟩ (fun v9 M1 hp h5 h6 => ?_)
  rcases hp with ⟨hg0, rfl, hMo, ad1, ha1, hc1, hf1⟩ | ⟨hg1, ht1, rfl, hMo, hc1⟩
  · have hk1 : ∀ q : Nat, M q ≠ none → ¬ (foot R ad q ∨ q = o) → M1 q = M q := h5
    obtain ⟨hM1, hF1⟩ := h.cls hk1 h6 hc1 hf1
    have hc0 := (gq_find (R := R) (k := s1)).r hg0
    show mj G 7 (k + 1) (n + 6) M1 1111 [some (.ref sc), some (.ref (ad 0 0 0)), some (.ref m), some (.ref o), some (.int (nI i)), none, none] [.int 0]
    refine m_istore (L' := [some (.ref sc), some (.ref (ad 0 0 0)), some (.ref m), some (.ref o), some (.int (nI i)), some (.int 0), none]) C d_La_law_1111 (by decide) rfl ?_
    refine m_aload_n C d_La_law_1113 rfl rfl ?_
    refine m_aload_n C d_La_law_1114 rfl rfl ?_
    refine m_iload C d_La_law_1115 rfl ?_
    refine m_iconst (v := 1) C d_La_law_1117 (by decide) ?_
    refine m_iadd C d_La_law_1118 ?_
    rw [show nI i + 1 = nI (i + 1) from nI_add i 1]
    refine m_xld C d_La_law_1119 hX (by omega) hN ?_
    rw [← hs1]
    refine m_callV (ci := 10) C d_La_law_1120 mw_La_127 mi_Mo_find se_Mo_find rfl (ct_Mo_find _ _ _ R m mr s1 M1 hM1 hwf) (fun q z => (hMw q z).1) rfl rfl (Nat.le_of_ble_eq_true rfl) hM1.1 ⟨⟨by omega, by omega⟩, by omega, by omega⟩ (fun v8 M2 hp2 h25 h26 => ?_)
    obtain ⟨rfl, R2, hsR, hM2⟩ := hp2.1 hg0
    have he0 : ∀ f, f ∉ [0, 32, 33, 34] → R2 f = fdR R (tn s1) f := fun f hf => by rw [hsR f (fun z => hf (List.mem_cons_of_mem _ z)), uR_n (fun z => hf (by rw [z]; decide))]
    have hw1 : WfS (fdR R (tn s1)) := wf_find hwf (in10 hc0.2.1)
    have hw2 : WfS R2 := WfS_sc (fun f hf => he0 f (fun z => hf (by simp only [List.mem_cons, List.not_mem_nil, or_false] at z ⊢; omega))) (by rw [he0 31 (by decide)]; exact hw1.2.2.2.2.2.2.2.2.2.2.1) hw1
    have hz2 : R2 0 0 = 0 := by rw [hsR 0 (by decide)]; rfl
    obtain ⟨hLI, ho2⟩ := LI.mod (G := G) hw2 hc1 hM2 ha1 hMo hF1 hMw hoW he0 (fun q a b => h25 q a b)
    show mj G 7 (k + 1) (n + 6) M2 1123 [some (.ref sc), some (.ref (ad 0 0 0)), some (.ref m), some (.ref o), some (.int (nI i)), some (.int 0), none] [.int (nI (min (tn s1) (nS R + nL R)))]
    refine m_istore (L' := [some (.ref sc), some (.ref (ad 0 0 0)), some (.ref m), some (.ref o), some (.int (nI i)), some (.int 0), some (.int (nI (min (tn s1) (nS R + nL R))))]) C d_La_law_1123 (by decide) rfl ?_
    refine m_aload_n C d_La_law_1125 rfl rfl ?_
    refine m_callV (ci := 10) C d_La_law_1126 mw_La_78 mi_Mo_thrown se_Mo_thrown rfl (ct_Mo_thrown _ _ _ R2 m mr M2 hM2) (fun _ z => z.elim) rfl rfl (Nat.le_of_ble_eq_true rfl) hM2.1 ⟨⟨by omega, by omega⟩, by omega, by omega⟩ (fun v7 M3 hp3 h35 h36 => ?_)
    obtain ⟨rfl, hM3⟩ := hp3; rw [hM3, hz2]
    show mj G 7 (k + 1) (n + 6) M2 1129 [some (.ref sc), some (.ref (ad 0 0 0)), some (.ref m), some (.ref o), some (.int (nI i)), some (.int 0), some (.int (nI (min (tn s1) (nS R + nL R))))] [.int 0]
    refine m_iload C d_La_law_1129 rfl ?_
    refine m_icmp_eq (tgt := 1136) C d_La_law_1131 (by decide) (fun hq9 => ?_) (fun hq9 => ?_)
    · refine m_iload C d_La_law_1136 rfl ?_
      refine m_if_ne (tgt := 1153) C d_La_law_1138 (by decide) (fun hq8 => ?_) (fun hq8 => ?_)
      · exact absurd rfl hq8
      · refine m_aload_n C d_La_law_1141 rfl rfl ?_
        refine m_iconst (v := 0) C d_La_law_1142 (by decide) ?_
        refine m_lald (v := .long (nI (min (tn s1) (nS R + nL R))).toInt64) C d_La_law_1143 ho2 kt_long (by decide) rfl ?_
        refine m_iload C d_La_law_1144 rfl ?_
        refine m_i2l C d_La_law_1146 ?_
        refine m_lcmp C d_La_law_1147 ?_
        rw [lgc]
        refine m_if_eq (tgt := 1153) C d_La_law_1148 (by decide) (fun hq7 => ?_) (fun hq7 => ?_)
        · refine m_goto (tgt := 1237) C d_La_law_1153 (by decide) ?_
          exact mj_L (fun q v hv => by rcases q with _ | _ | _ | _ | _ | _ | _ | q <;> first | exact hv | exact absurd (Option.some.inj hv) (by simp)) (nx R2 ad1 M2 (k + 1) (n + 6) hLI (by omega) (by omega))
        · exact absurd rfl hq7
    · exact absurd rfl hq9
  · have hk1 : ∀ q : Nat, M q ≠ none → ¬ (foot R ad q ∨ q = o) → M1 q = M q := h5
    obtain ⟨hM1, hF1⟩ := h.cls hk1 h6 hc1 (fun q z => Or.inl z)
    obtain ⟨kv, hkv⟩ : ∃ z : Int32, z = (nI (thN 6 (gbN (true) (inn s1 1 10) (decide (nW R ≠ 0)) (true)))) := ⟨_, rfl⟩
    show mj G 7 (k + 1) (n + 6) M1 1111 [some (.ref sc), some (.ref (ad 0 0 0)), some (.ref m), some (.ref o), some (.int (nI i)), none, none] [.int (nI (thN 6 (gbN (true) (inn s1 1 10) (decide (nW R ≠ 0)) (true))))]
    rw [← hkv]
    refine m_istore (L' := [some (.ref sc), some (.ref (ad 0 0 0)), some (.ref m), some (.ref o), some (.int (nI i)), some (.int kv), none]) C d_La_law_1111 (by decide) rfl ?_
    refine m_aload_n C d_La_law_1113 rfl rfl ?_
    refine m_aload_n C d_La_law_1114 rfl rfl ?_
    refine m_iload C d_La_law_1115 rfl ?_
    refine m_iconst (v := 1) C d_La_law_1117 (by decide) ?_
    refine m_iadd C d_La_law_1118 ?_
    rw [show nI i + 1 = nI (i + 1) from nI_add i 1]
    refine m_xld C d_La_law_1119 hX (by omega) hN ?_
    rw [← hs1]
    refine m_callV (ci := 10) C d_La_law_1120 mw_La_127 mi_Mo_find se_Mo_find rfl (ct_Mo_find _ _ _ R m mr s1 M1 hM1 hwf) (fun q z => (hMw q z).1) rfl rfl (Nat.le_of_ble_eq_true rfl) hM1.1 ⟨⟨by omega, by omega⟩, by omega, by omega⟩ (fun v8 M2 hp2 h25 h26 => ?_)
    obtain ⟨rfl, hM2⟩ := hp2.2 hg1
    obtain ⟨R2, hR2⟩ : ∃ R2 : mR, R2 = uR R 0 0 (nI (thN 6 (gbN (true) (inn s1 1 10) (decide (nW R ≠ 0)) (true)))) := ⟨_, rfl⟩
    rw [← hR2] at hM2
    have hE0 : ∀ f, f ≠ 0 → R2 f = R f := by rw [hR2]; exact eq0_0 R _
    have hz2 : R2 0 0 = kv := by rw [hR2, hkv]; rfl
    obtain ⟨hLI, ho2⟩ := LI.mod (G := G) (WfS_cg hE0 hwf) hc1 hM2 rfl hMo hF1 hMw hoW (eq0_4 hE0) (fun q a b => h25 q a b)
    have hkn : ¬ kv = 0 := by rw [hkv]; exact nI_ne0 ht1 (Nat.lt_of_le_of_lt (Nat.le_trans (thN_le _ _) (gbN_le _ _ _ _)) (by decide))
    show mj G 7 (k + 1) (n + 6) M2 1123 [some (.ref sc), some (.ref (ad 0 0 0)), some (.ref m), some (.ref o), some (.int (nI i)), some (.int kv), none] [.int (0)]
    refine m_istore (L' := [some (.ref sc), some (.ref (ad 0 0 0)), some (.ref m), some (.ref o), some (.int (nI i)), some (.int kv), some (.int (0))]) C d_La_law_1123 (by decide) rfl ?_
    refine m_aload_n C d_La_law_1125 rfl rfl ?_
    refine m_callV (ci := 10) C d_La_law_1126 mw_La_78 mi_Mo_thrown se_Mo_thrown rfl (ct_Mo_thrown _ _ _ R2 m mr M2 hM2) (fun _ z => z.elim) rfl rfl (Nat.le_of_ble_eq_true rfl) hM2.1 ⟨⟨by omega, by omega⟩, by omega, by omega⟩ (fun v7 M3 hp3 h35 h36 => ?_)
    obtain ⟨rfl, hM3⟩ := hp3; rw [hM3, hz2]
    show mj G 7 (k + 1) (n + 6) M2 1129 [some (.ref sc), some (.ref (ad 0 0 0)), some (.ref m), some (.ref o), some (.int (nI i)), some (.int kv), some (.int (0))] [.int kv]
    refine m_iload C d_La_law_1129 rfl ?_
    refine m_icmp_eq (tgt := 1136) C d_La_law_1131 (by decide) (fun hq9 => ?_) (fun hq9 => ?_)
    · refine m_iload C d_La_law_1136 rfl ?_
      refine m_if_ne (tgt := 1153) C d_La_law_1138 (by decide) (fun hq8 => ?_) (fun hq8 => ?_)
      · refine m_goto (tgt := 1237) C d_La_law_1153 (by decide) ?_
        exact mj_L (fun q v hv => by rcases q with _ | _ | _ | _ | _ | _ | _ | q <;> first | exact hv | exact absurd (Option.some.inj hv) (by simp)) (nx R2 ad M2 (k + 1) (n + 6) hLI (by omega) (by omega))
      · exact absurd hq8 hkn
    · exact absurd rfl hq9

set_option maxHeartbeats 4000000 in
set_option maxRecDepth 100000 in
theorem la_place {G : ma_G} {fr mc ms lo k n : Nat} (C : ma_C G c_La_law 7 R_La fr mc ms lo) (sc N : Nat) (f : Nat → Int32) (i : Nat) (hN : N < 2 ^ 31) (hi : i + 6 ≤ N) (R : mR) (ad : mAd) (xa m : Nat) (mr : Nat → Nat) (o : Nat) (M : ma_H) (hX : ma_X9 G sc N f) (h : LI G R ad xa m mr o M) (hfr : 11 ≤ fr) (hlo : 400 ≤ lo) (hk : k + 9 ≤ mc) (hn : n + 74 ≤ ms) (nx : ∀ (R' : mR) (ad' : mAd) (M' : ma_H) (k' n' : Nat), LI G R' ad' xa m mr o M' → k' ≤ k + 9 → n' ≤ n + 74 → mj G 7 k' n' M' 1237 [some (.ref sc), some (.ref xa), some (.ref m), some (.ref o), some (.int (nI i)), none, none] []) : mj G 7 k n M 1156 [some (.ref sc), some (.ref xa), some (.ref m), some (.ref o), some (.int (nI i)), none, none] [] := by
  obtain ⟨hwf, hR, hM, rfl, ⟨ov, ho⟩, hF, hMw, hoW⟩ := id h
  have hof : ¬ foot R ad o := fun z => (hF o z).2.2 rfl
  obtain ⟨s1, hs1⟩ : ∃ z : Int32, z = f (i + 1) := ⟨_, rfl⟩
  obtain ⟨s2, hs2⟩ : ∃ z : Int32, z = f (i + 2) := ⟨_, rfl⟩
  obtain ⟨s3, hs3⟩ : ∃ z : Int32, z = f (i + 3) := ⟨_, rfl⟩
  obtain ⟨s4, hs4⟩ : ∃ z : Int32, z = f (i + 4) := ⟨_, rfl⟩
  obtain ⟨s5, hs5⟩ : ∃ z : Int32, z = f (i + 5) := ⟨_, rfl⟩
  refine m_aload_n C d_La_law_1156 rfl rfl ?_
  refine m_aload_n C d_La_law_1157 rfl rfl ?_
  refine m_iload C d_La_law_1158 rfl ?_
  refine m_iconst (v := 1) C d_La_law_1160 (by decide) ?_
  refine m_iadd C d_La_law_1161 ?_
  rw [show nI i + 1 = nI (i + 1) from nI_add i 1]
  refine m_xld C d_La_law_1162 hX (by omega) hN ?_
  rw [← hs1]
  refine m_aload_n C d_La_law_1163 rfl rfl ?_
  refine m_iload C d_La_law_1164 rfl ?_
  refine m_iconst (v := 2) C d_La_law_1166 (by decide) ?_
  refine m_iadd C d_La_law_1167 ?_
  rw [show nI i + 2 = nI (i + 2) from nI_add i 2]
  refine m_xld C d_La_law_1168 hX (by omega) hN ?_
  rw [← hs2]
  refine m_aload_n C d_La_law_1169 rfl rfl ?_
  refine m_callSW C d_La_law_1170 mh_La_128 mst_La_place (ct_La_place _ _ _ R ad o ov s1 s2 M hR hwf ho hof) (fun q z => z.elim (fun y => (hF q y).1) (fun y => by rw [y]; exact hoW)) rfl rfl (Nat.le_of_ble_eq_true rfl) ⟨⟨by omega, by omega⟩, by omega, by omega⟩ (fun v9 M1 hp h5 h6 => ?_)
  rcases hp with ⟨hg0, rfl, hMo, ad1, ha1, hc1, hf1⟩ | ⟨hg1, ht1, rfl, hMo, hc1⟩
  · have hk1 : ∀ q : Nat, M q ≠ none → ¬ (foot R ad q ∨ q = o) → M1 q = M q := h5
    obtain ⟨hM1, hF1⟩ := h.cls hk1 h6 hc1 hf1
    have hc0 := (gq_place hwf (i := s1) (w := s2)).r hg0
    show mj G 7 (k + 1) (n + 6) M1 1173 [some (.ref sc), some (.ref (ad 0 0 0)), some (.ref m), some (.ref o), some (.int (nI i)), none, none] [.int 0]
    refine m_istore (L' := [some (.ref sc), some (.ref (ad 0 0 0)), some (.ref m), some (.ref o), some (.int (nI i)), some (.int 0), none]) C d_La_law_1173 (by decide) rfl ?_
    refine m_aload_n C d_La_law_1175 rfl rfl ?_
    refine m_aload_n C d_La_law_1176 rfl rfl ?_
    refine m_iload C d_La_law_1177 rfl ?_
    refine m_iconst (v := 1) C d_La_law_1179 (by decide) ?_
    refine m_iadd C d_La_law_1180 ?_
    rw [show nI i + 1 = nI (i + 1) from nI_add i 1]
    refine m_xld C d_La_law_1181 hX (by omega) hN ?_
    rw [← hs1]
    refine m_aload_n C d_La_law_1182 rfl rfl ?_
    refine m_iload C d_La_law_1183 rfl ?_
    refine m_iconst (v := 2) C d_La_law_1185 (by decide) ?_
    refine m_iadd C d_La_law_1186 ?_
    rw [show nI i + 2 = nI (i + 2) from nI_add i 2]
    refine m_xld C d_La_law_1187 hX (by omega) hN ?_
    rw [← hs2]
    refine m_callV (ci := 10) C d_La_law_1188 mw_La_130 mi_Mo_place se_Mo_place rfl (ct_Mo_place _ _ _ R m mr s1 s2 M1 hM1 hwf) (fun q z => (hMw q z).1) rfl rfl (Nat.le_of_ble_eq_true rfl) hM1.1 ⟨⟨by omega, by omega⟩, by omega, by omega⟩ (fun v8 M2 hp2 h25 h26 => ?_)
    obtain ⟨rfl, hM2⟩ := hp2.1 hg0
    rw [pl_T hwf]
    obtain ⟨R2, hR2⟩ : ∃ R2 : mR, R2 = uR R 0 0 0 := ⟨_, rfl⟩
    rw [← hR2] at hM2
    have hE0 : ∀ f, f ≠ 0 → R2 f = (R : mR) f := by rw [hR2]; exact eq0_0 R 0
    have he0 := eq0_4 hE0
    have hw2 : WfS R2 := WfS_cg hE0 (hwf)
    have hz2 : R2 0 0 = 0 := by rw [hR2]; rfl
    obtain ⟨hLI, ho2⟩ := LI.mod (G := G) hw2 hc1 hM2 ha1 hMo hF1 hMw hoW he0 (fun q a b => h25 q a b)
    show mj G 7 (k + 1) (n + 6) M2 1191 [some (.ref sc), some (.ref (ad 0 0 0)), some (.ref m), some (.ref o), some (.int (nI i)), some (.int 0), none] [.int (tell R (tn (R 29 (tn s1))) (tn s2))]
    refine m_istore (L' := [some (.ref sc), some (.ref (ad 0 0 0)), some (.ref m), some (.ref o), some (.int (nI i)), some (.int 0), some (.int (tell R (tn (R 29 (tn s1))) (tn s2)))]) C d_La_law_1191 (by decide) rfl ?_
    refine m_aload_n C d_La_law_1193 rfl rfl ?_
    refine m_callV (ci := 10) C d_La_law_1194 mw_La_78 mi_Mo_thrown se_Mo_thrown rfl (ct_Mo_thrown _ _ _ R2 m mr M2 hM2) (fun _ z => z.elim) rfl rfl (Nat.le_of_ble_eq_true rfl) hM2.1 ⟨⟨by omega, by omega⟩, by omega, by omega⟩ (fun v7 M3 hp3 h35 h36 => ?_)
    obtain ⟨rfl, hM3⟩ := hp3; rw [hM3, hz2]
    show mj G 7 (k + 1) (n + 6) M2 1197 [some (.ref sc), some (.ref (ad 0 0 0)), some (.ref m), some (.ref o), some (.int (nI i)), some (.int 0), some (.int (tell R (tn (R 29 (tn s1))) (tn s2)))] [.int 0]
    refine m_iload C d_La_law_1197 rfl ?_
    refine m_icmp_eq (tgt := 1204) C d_La_law_1199 (by decide) (fun hq9 => ?_) (fun hq9 => ?_)
    · refine m_iload C d_La_law_1204 rfl ?_
      refine m_if_ne (tgt := 1221) C d_La_law_1206 (by decide) (fun hq8 => ?_) (fun hq8 => ?_)
      · exact absurd rfl hq8
      · refine m_aload_n C d_La_law_1209 rfl rfl ?_
        refine m_iconst (v := 0) C d_La_law_1210 (by decide) ?_
        refine m_lald (v := .long (tell R (tn (R 29 (tn s1))) (tn s2)).toInt64) C d_La_law_1211 ho2 kt_long (by decide) rfl ?_
        refine m_iload C d_La_law_1212 rfl ?_
        refine m_i2l C d_La_law_1214 ?_
        refine m_lcmp C d_La_law_1215 ?_
        rw [lgc]
        refine m_if_eq (tgt := 1221) C d_La_law_1216 (by decide) (fun hq7 => ?_) (fun hq7 => ?_)
        · refine m_goto (tgt := 1237) C d_La_law_1221 (by decide) ?_
          exact mj_L (fun q v hv => by rcases q with _ | _ | _ | _ | _ | _ | _ | q <;> first | exact hv | exact absurd (Option.some.inj hv) (by simp)) (nx R2 ad1 M2 (k + 1) (n + 6) hLI (by omega) (by omega))
        · exact absurd rfl hq7
    · exact absurd rfl hq9
  · have hk1 : ∀ q : Nat, M q ≠ none → ¬ (foot R ad q ∨ q = o) → M1 q = M q := h5
    obtain ⟨hM1, hF1⟩ := h.cls hk1 h6 hc1 (fun q z => Or.inl z)
    obtain ⟨kv, hkv⟩ : ∃ z : Int32, z = (nI (thN 3 (gbN (inn s1 0 (R 28 0 - 1)) (inn s2 0 5) (true) (true)))) := ⟨_, rfl⟩
    show mj G 7 (k + 1) (n + 6) M1 1173 [some (.ref sc), some (.ref (ad 0 0 0)), some (.ref m), some (.ref o), some (.int (nI i)), none, none] [.int (nI (thN 3 (gbN (inn s1 0 (R 28 0 - 1)) (inn s2 0 5) (true) (true))))]
    rw [← hkv]
    refine m_istore (L' := [some (.ref sc), some (.ref (ad 0 0 0)), some (.ref m), some (.ref o), some (.int (nI i)), some (.int kv), none]) C d_La_law_1173 (by decide) rfl ?_
    refine m_aload_n C d_La_law_1175 rfl rfl ?_
    refine m_aload_n C d_La_law_1176 rfl rfl ?_
    refine m_iload C d_La_law_1177 rfl ?_
    refine m_iconst (v := 1) C d_La_law_1179 (by decide) ?_
    refine m_iadd C d_La_law_1180 ?_
    rw [show nI i + 1 = nI (i + 1) from nI_add i 1]
    refine m_xld C d_La_law_1181 hX (by omega) hN ?_
    rw [← hs1]
    refine m_aload_n C d_La_law_1182 rfl rfl ?_
    refine m_iload C d_La_law_1183 rfl ?_
    refine m_iconst (v := 2) C d_La_law_1185 (by decide) ?_
    refine m_iadd C d_La_law_1186 ?_
    rw [show nI i + 2 = nI (i + 2) from nI_add i 2]
    refine m_xld C d_La_law_1187 hX (by omega) hN ?_
    rw [← hs2]
    refine m_callV (ci := 10) C d_La_law_1188 mw_La_130 mi_Mo_place se_Mo_place rfl (ct_Mo_place _ _ _ R m mr s1 s2 M1 hM1 hwf) (fun q z => (hMw q z).1) rfl rfl (Nat.le_of_ble_eq_true rfl) hM1.1 ⟨⟨by omega, by omega⟩, by omega, by omega⟩ (fun v8 M2 hp2 h25 h26 => ?_)
    obtain ⟨rfl, hM2⟩ := hp2.2 hg1
    obtain ⟨R2, hR2⟩ : ∃ R2 : mR, R2 = uR R 0 0 (nI (thN 3 (gbN (inn s1 0 (R 28 0 - 1)) (inn s2 0 5) (true) (true)))) := ⟨_, rfl⟩
    rw [← hR2] at hM2
    have hE0 : ∀ f, f ≠ 0 → R2 f = R f := by rw [hR2]; exact eq0_0 R _
    have hz2 : R2 0 0 = kv := by rw [hR2, hkv]; rfl
    obtain ⟨hLI, ho2⟩ := LI.mod (G := G) (WfS_cg hE0 hwf) hc1 hM2 rfl hMo hF1 hMw hoW (eq0_4 hE0) (fun q a b => h25 q a b)
    have hkn : ¬ kv = 0 := by rw [hkv]; exact nI_ne0 ht1 (Nat.lt_of_le_of_lt (Nat.le_trans (thN_le _ _) (gbN_le _ _ _ _)) (by decide))
    show mj G 7 (k + 1) (n + 6) M2 1191 [some (.ref sc), some (.ref (ad 0 0 0)), some (.ref m), some (.ref o), some (.int (nI i)), some (.int kv), none] [.int (0)]
    refine m_istore (L' := [some (.ref sc), some (.ref (ad 0 0 0)), some (.ref m), some (.ref o), some (.int (nI i)), some (.int kv), some (.int (0))]) C d_La_law_1191 (by decide) rfl ?_
    refine m_aload_n C d_La_law_1193 rfl rfl ?_
    refine m_callV (ci := 10) C d_La_law_1194 mw_La_78 mi_Mo_thrown se_Mo_thrown rfl (ct_Mo_thrown _ _ _ R2 m mr M2 hM2) (fun _ z => z.elim) rfl rfl (Nat.le_of_ble_eq_true rfl) hM2.1 ⟨⟨by omega, by omega⟩, by omega, by omega⟩ (fun v7 M3 hp3 h35 h36 => ?_)
    obtain ⟨rfl, hM3⟩ := hp3; rw [hM3, hz2]
    show mj G 7 (k + 1) (n + 6) M2 1197 [some (.ref sc), some (.ref (ad 0 0 0)), some (.ref m), some (.ref o), some (.int (nI i)), some (.int kv), some (.int (0))] [.int kv]
    refine m_iload C d_La_law_1197 rfl ?_
    refine m_icmp_eq (tgt := 1204) C d_La_law_1199 (by decide) (fun hq9 => ?_) (fun hq9 => ?_)
    · refine m_iload C d_La_law_1204 rfl ?_
      refine m_if_ne (tgt := 1221) C d_La_law_1206 (by decide) (fun hq8 => ?_) (fun hq8 => ?_)
      · refine m_goto (tgt := 1237) C d_La_law_1221 (by decide) ?_
        exact mj_L (fun q v hv => by rcases q with _ | _ | _ | _ | _ | _ | _ | q <;> first | exact hv | exact absurd (Option.some.inj hv) (by simp)) (nx R2 ad M2 (k + 1) (n + 6) hLI (by omega) (by omega))
      · exact absurd hq8 hkn
    · exact absurd rfl hq9

set_option maxHeartbeats 4000000 in
set_option maxRecDepth 100000 in
theorem la_twice {G : ma_G} {fr mc ms lo k n : Nat} (C : ma_C G c_La_law 7 R_La fr mc ms lo) (sc N : Nat) (f : Nat → Int32) (i : Nat) (hN : N < 2 ^ 31) (hi : i + 6 ≤ N) (R : mR) (ad : mAd) (xa m : Nat) (mr : Nat → Nat) (o : Nat) (M : ma_H) (hX : ma_X9 G sc N f) (h : LI G R ad xa m mr o M) (hfr : 11 ≤ fr) (hlo : 400 ≤ lo) (hk : k + 9 ≤ mc) (hn : n + 74 ≤ ms) (nx : ∀ (R' : mR) (ad' : mAd) (M' : ma_H) (k' n' : Nat), LI G R' ad' xa m mr o M' → k' ≤ k + 9 → n' ≤ n + 74 → mj G 7 k' n' M' 1237 [some (.ref sc), some (.ref xa), some (.ref m), some (.ref o), some (.int (nI i)), none, none] []) : mj G 7 k n M 1224 [some (.ref sc), some (.ref xa), some (.ref m), some (.ref o), some (.int (nI i)), none, none] [] := by
  obtain ⟨hwf, hR, hM, rfl, ⟨ov, ho⟩, hF, hMw, hoW⟩ := id h
  refine m_aload_n C d_La_law_1224 rfl rfl ?_
  refine m_callV (ci := 0) C d_La_law_1225 mw_La_131 mi_AW_twice se_AW_twice rfl (ct_AW_twice _ _ _ R ad M hR hwf.1) (fun _ z => z.elim) rfl rfl (Nat.le_of_ble_eq_true rfl) hR.root ⟨⟨by omega, by omega⟩, by omega, by omega⟩ (fun v9 M1 hp h5 h6 => ?_)
  obtain ⟨rfl, hM9⟩ := hp; rw [hM9]
  show mj G 7 k n M 1228 [some (.ref sc), some (.ref (ad 0 0 0)), some (.ref m), some (.ref o), some (.int (nI i)), none, none] [.int (nI (twC R (nS R)))]
  refine m_aload_n C d_La_law_1228 rfl rfl ?_
  refine m_callV (ci := 10) C d_La_law_1229 mw_La_134 mi_Mo_twice se_Mo_twice rfl (ct_Mo_twice _ _ _ R m mr M hM hwf) (fun q z => (hMw q z).1) rfl rfl (Nat.le_of_ble_eq_true rfl) hM.1 ⟨⟨by omega, by omega⟩, by omega, by omega⟩ (fun v8 M2 hp2 h25 h26 => ?_)
  obtain ⟨rfl, hM2⟩ := hp2
  obtain ⟨hLI, ho2⟩ := LI.mod (G := G) (WfS_cg (eq0_0 R 0) hwf) hR hM2 rfl ho hF hMw hoW (eq0_4 (eq0_0 R 0)) (fun q a b => h25 q a b)
  show mj G 7 k n M2 1232 [some (.ref sc), some (.ref (ad 0 0 0)), some (.ref m), some (.ref o), some (.int (nI i)), none, none] [.int (nI (twC R (nS R))), .int (nI (twC R (nS R)))]
  refine m_icmp_eq (tgt := 1237) C d_La_law_1232 (by decide) (fun hq9 => ?_) (fun hq9 => ?_)
  · exact nx (uR R 0 0 0) ad M2 k n hLI (by omega) (by omega)
  · exact absurd rfl hq9
