/-! ===== the model's calls that need no looping ===== -/
theorem gbN_0 {p q r s : Bool} (h : gbN p q r s = 0) : p = true ∧ q = true ∧ r = true ∧ s = true := by
  revert h; cases p <;> cases q <;> cases r <;> cases s <;> decide
/-- what every state reached keeps -/
def WfS (R : mR) : Prop := Bd R ∧ (R 1 0 = nI (nS R) ∧ R 16 0 = nI (nL R) ∧ R 21 0 = nI (nC R) ∧ R 26 0 = nI (nW R) ∧ R 28 0 = nI (nF R)) ∧ (∀ i, i < nS R → R 4 i = nI (tn (R 4 i)) ∧ R 7 i = nI (tn (R 7 i))) ∧ (∀ k, k < 90 → R 5 k = nI (tn (R 5 k)) ∧ tn (R 5 k) ≤ 16) ∧ (∀ m, m < nL R → (R 19 m = nI (tn (R 19 m)) ∧ 0 < tn (R 19 m) ∧ tn (R 19 m) ≤ 8) ∧ ∃ g, g < nS R ∧ R 17 m = nI g) ∧ Wz R ∧ ((∀ k c, k < 90 → c < tn (R 5 k) → is_l (R 6 (16 * k + c)) = true) ∧ ∀ m c, m < nL R → c < tn (R 19 m) → is_l (R 20 (8 * m + c)) = true) ∧ (∀ i, i < nS R → (inn (R 11 i) (-9999) 9999 = true ∧ inn (R 12 i) (-9999) 9999 = true ∧ inn (R 11 i + R 13 i) (-9999) 9999 = true ∧ inn (R 12 i + R 14 i) (-9999) 9999 = true) ∧ R 15 i = w_root (sq_way (R 11 i) (R 12 i) (R 11 i + R 13 i) (R 12 i + R 14 i))) ∧ (∀ i j, i < nS R → j < tn (R 7 i) → gdH (R 8 (6 * i + j)) (R 9 (6 * i + j)) (R 10 (6 * i + j))) ∧ (∀ i, i < nF R → R 29 i = nI (tn (R 29 i)) ∧ tn (R 29 i) < nS R + nL R) ∧ inn (R 31 0) 0 9999 = true ∧ ∀ k, k < nC R → 0 ≤ R 24 k ∧ 0 ≤ R 25 k
theorem nI_mul (a b : Nat) : nI a * nI b = nI (a * b) := by
  apply Int32.toBitVec_inj.mp
  show BitVec.ofNat 32 a * BitVec.ofNat 32 b = BitVec.ofNat 32 (a * b)
  apply BitVec.eq_of_toNat_eq
  simp [BitVec.toNat_mul, BitVec.toNat_ofNat]
theorem coF_cg {R R' : mR} {s o : Int32} (h : ∀ f, 22 ≤ f → R' f = R f) : ∀ n k, coF R' s o n k = coF R s o n k := by
  intro n
  induction n with
  | zero => intro k; rfl
  | succ n ih => intro k; rw [coF, coF, h 22 (by decide), h 23 (by decide), h 24 (by decide), h 25 (by decide), ih]

set_option maxHeartbeats 4000000 in
set_option maxRecDepth 100000 in
theorem ct_Mo_close (l : Launch) (D : ma_D) (s0 : State) (R : mR) (m : Nat) (mr : Nat → Nat) (s b : Int32) (hb01 : b = 0 ∨ b = 1) (M : ma_H) (hM : RepM R m mr M) (hwf : WfS R) : Ct l D s0 y_Mo_close c_Mo_close 3 none 2 0 0 43 [.ref m, .int s, .int b] M (fun q => q = m ∨ ∃ k, mln k ≠ 0 ∧ q = mr k) (fun v M' => ((gbN (kn R s) (true) (true) (true)) = 0 → v = none ∧ RepM (uR (uR (uR R 0 0 0) 3 (tn s) b) 28 0 0) m mr M') ∧ (¬ (gbN (kn R s) (true) (true) (true)) = 0 → v = none ∧ RepM (uR R 0 0 (nI (thN 1 (gbN (kn R s) (true) (true) (true))))) m mr M')) := by
  refine Ct_v 0 [some (.ref m), some (.int s), some (.int b)] (by decide +kernel) (Nat.le_of_ble_eq_true rfl) rfl ?_
  intro G e1 e2 e3 C hw hI Rt
  subst e1; subst e2; subst e3
  obtain ⟨⟨⟨hbS, hbL, hbC, hbW, hbF⟩, hbi⟩, ⟨hS, hLm, hCo, hWd, hFn⟩, hst, hln, hmk, hz, hlt, hxy, hrg, hpl, hak, hcn⟩ := id hwf
  refine m_aload_n C d_Mo_close_0 rfl rfl ?_
  refine m_iconst (v := 1) C d_Mo_close_1 (by decide) ?_
  refine m_aload_n C d_Mo_close_2 rfl rfl ?_
  refine m_iload_n C d_Mo_close_3 rfl rfl ?_
  refine m_callV (ci := 10) C d_Mo_close_4 mw_Mo_117 mi_Mo_isStreet se_Mo_isStreet rfl (ct_Mo_isStreet _ _ _ R m mr s M hM hS hbS) (fun _ h => h.elim) rfl rfl (Nat.le_of_ble_eq_true rfl) hM.1 (by decide) (fun v9 M9 hp h5 h6 => ?_)
  obtain ⟨rfl, hM9⟩ := hp; rw [hM9]
  show mj G 3 0 0 M 7 [some (.ref m), some (.int s), some (.int b)] [.int (b2i (kn R s)), .int 1, .ref m]
  refine m_iconst (v := 1) C d_Mo_close_7 (by decide) ?_
  refine m_iconst (v := 1) C d_Mo_close_8 (by decide) ?_
  refine m_iconst (v := 1) C d_Mo_close_9 (by decide) ?_
  refine m_callV (ci := 10) C d_Mo_close_10 mw_Mo_110 mi_Mo_goes se_Mo_goes rfl (ct_Mo_goes _ _ _ R m mr 1 (kn R s) (true) (true) (true) M hM) (fun q h => hw q h) rfl rfl (Nat.le_of_ble_eq_true rfl) hM.1 (by decide) (fun v9 Mg hp g5 g6 => ?_)
  obtain ⟨rfl, hMg⟩ := hp
  show mj G 3 0 0 Mg 13 [some (.ref m), some (.int s), some (.int b)] [.int (b2i (decide ((gbN (kn R s) (true) (true) (true)) = 0)))]
  refine m_if_ne (tgt := 17) C d_Mo_close_13 (by decide) (fun hgo => ?_) (fun hgo => ?_)
  · rw [b2i_ne0, decide_eq_true_eq] at hgo
    have hMg0 : RepM (uR R 0 0 0) m mr Mg := by rw [hgo] at hMg; exact hMg
    obtain ⟨hp9, hq9, hr9, hs9⟩ := gbN_0 hgo
    obtain ⟨Rg, hRg⟩ : ∃ Rg, Rg = uR R 0 0 0 := ⟨_, rfl⟩
    have hg : ∀ f, f ≠ 0 → Rg f = R f := fun f hf => by rw [hRg, uR_n hf]
    have hMr : RepM Rg m mr Mg := by rw [hRg]; exact hMg0
    obtain ⟨i0, hi, rfl, ht⟩ := kn_i hwf.1 hp9
    refine m_aload_n C d_Mo_close_17 rfl rfl ?_
    refine m_get C fg_Mo_13 d_Mo_close_18 hMr.1 rfl ?_
    refine m_iload_n C d_Mo_close_21 rfl rfl ?_
    refine m_iload_n C d_Mo_close_22 rfl rfl ?_
    refine m_zastE C d_Mo_close_23 (hw _ (Or.inr ⟨3, by decide, rfl⟩)) (hMr.a3) kt_bool (nI_pos (by omega)) (by rw [nI_clamp (by omega), arrL_len]; omega) (by rcases hb01 with rfl | rfl <;> rfl) (fun M1 M1a9 M1o => ?_)
    rw [nI_clamp (by omega), arrL_set] at M1a9
    obtain ⟨R1, hR1⟩ : ∃ R1, R1 = uR Rg 3 i0 b := ⟨_, rfl⟩
    have hM1 : RepM R1 m mr M1 := by rw [hR1]; exact hMr.set (k := 3) (by decide) (by decide) M1a9 M1o
    refine m_aload_n C d_Mo_close_24 rfl rfl ?_
    refine m_iconst (v := 0) C d_Mo_close_25 (by decide) ?_
    refine m_putE C fp_Mo_114 d_Mo_close_26 (hw _ (Or.inl rfl)) hM1.1 rfl rfl (fun M2 M2a9 M2o => ?_)
    obtain ⟨R2, hR2⟩ : ∃ R2, R2 = uR R1 28 0 0 := ⟨_, rfl⟩
    have hM2 : RepM R2 m mr M2 := by rw [hR2]; exact hM1.put28 M2a9 M2o
    exact Rt _ _ _ _ _ (by decide) (by decide) d_Mo_close_29 (⟨fun _ => ⟨rfl, by rw [ht, ← hRg, ← hR1, ← hR2]; exact hM2⟩, fun z => absurd hgo z⟩)
  · rw [b2i_eq0, decide_eq_false_iff_not] at hgo
    exact Rt _ _ _ _ _ (by decide) (by decide) d_Mo_close_16 (⟨fun z => absurd z hgo, fun _ => ⟨rfl, hMg⟩⟩)

set_option maxHeartbeats 4000000 in
set_option maxRecDepth 100000 in
theorem ct_Mo_street (l : Launch) (D : ma_D) (s0 : State) (R : mR) (m : Nat) (mr : Nat → Nat) (ar : Int32) (M : ma_H) (hM : RepM R m mr M) (hwf : WfS R) : Ct l D s0 y_Mo_street c_Mo_street 2 (some .int) 1 0 0 27 [.ref m, .int ar] M (fun q => q = m ∨ ∃ k, mln k ≠ 0 ∧ q = mr k) (fun v M' => ((gbN (true) (inn ar 0 9) (true) (decide (nS R < 30))) = 0 → v = some (.int (nI (nS R))) ∧ RepM (uR (uR (uR (uR (uR (uR R 0 0 0) 2 (nS R) ar) 4 (nS R) 1) 5 (3 * nS R) 0) 1 0 (nI (nS R + 1))) 28 0 0) m mr M') ∧ (¬ (gbN (true) (inn ar 0 9) (true) (decide (nS R < 30))) = 0 → v = some (.int 0) ∧ RepM (uR R 0 0 (nI (thN 10 (gbN (true) (inn ar 0 9) (true) (decide (nS R < 30)))))) m mr M')) := by
  refine Ct_i 0 [some (.ref m), some (.int ar)] (by decide +kernel) (Nat.le_of_ble_eq_true rfl) rfl ?_
  intro G e1 e2 e3 C hw Rt
  subst e1; subst e2; subst e3
  obtain ⟨⟨⟨hbS, hbL, hbC, hbW, hbF⟩, hbi⟩, ⟨hS, hLm, hCo, hWd, hFn⟩, hst, hln, hmk, hz, hlt, hxy, hrg, hpl, hak, hcn⟩ := id hwf
  refine m_aload_n C d_Mo_street_0 rfl rfl ?_
  refine m_bipush (v := 10) C d_Mo_street_1 (by decide) ?_
  refine m_iconst (v := 1) C d_Mo_street_3 (by decide) ?_
  refine m_iload_n C d_Mo_street_4 rfl rfl ?_
  refine m_iconst (v := 0) C d_Mo_street_5 (by decide) ?_
  refine m_bipush (v := 9) C d_Mo_street_6 (by decide) ?_
  refine m_callS C d_Mo_street_8 mw_Mo_102 mst_Mo_in (ct_Mo_in _ _ _ ar 0 9 M) (fun _ h => h.elim) rfl rfl (Nat.le_of_ble_eq_true rfl) (by decide) (fun v9 M9 hp h5 h6 => ?_)
  obtain ⟨rfl, hM9⟩ := hp; rw [hM9]
  show mj G 2 0 0 M 11 [some (.ref m), some (.int ar)] [.int (b2i (inn ar 0 9)), .int 1, .int 10, .ref m]
  refine m_iconst (v := 1) C d_Mo_street_11 (by decide) ?_
  refine m_aload_n C d_Mo_street_12 rfl rfl ?_
  refine m_get C fg_Mo_99 d_Mo_street_13 hM.1 rfl ?_
  have jn : ∀ x1 : Int32, x1 = b2i (decide (nS R < 30)) → mj G 2 0 0 M 26 [some (.ref m), some (.int ar)] [.int x1, .int 1, .int (b2i (inn ar 0 9)), .int 1, .int 10, .ref m] := by
    intro x1 hx1
    subst hx1
    refine m_callV (ci := 10) C d_Mo_street_26 mw_Mo_110 mi_Mo_goes se_Mo_goes rfl (ct_Mo_goes _ _ _ R m mr 10 (true) (inn ar 0 9) (true) (decide (nS R < 30)) M hM) (fun q h => hw q h) rfl rfl (Nat.le_of_ble_eq_true rfl) hM.1 (by decide) (fun v9 Mg hp g5 g6 => ?_)
    obtain ⟨rfl, hMg⟩ := hp
    show mj G 2 0 0 Mg 29 [some (.ref m), some (.int ar)] [.int (b2i (decide ((gbN (true) (inn ar 0 9) (true) (decide (nS R < 30))) = 0)))]
    refine m_if_ne (tgt := 34) C d_Mo_street_29 (by decide) (fun hgo => ?_) (fun hgo => ?_)
    · rw [b2i_ne0, decide_eq_true_eq] at hgo
      have hMg0 : RepM (uR R 0 0 0) m mr Mg := by rw [hgo] at hMg; exact hMg
      obtain ⟨hp9, hq9, hr9, hs9⟩ := gbN_0 hgo
      obtain ⟨Rg, hRg⟩ : ∃ Rg, Rg = uR R 0 0 0 := ⟨_, rfl⟩
      have hg : ∀ f, f ≠ 0 → Rg f = R f := fun f hf => by rw [hRg, uR_n hf]
      have hMr : RepM Rg m mr Mg := by rw [hRg]; exact hMg0
      rw [decide_eq_true_eq] at hs9
      refine m_aload_n C d_Mo_street_34 rfl rfl ?_
      refine m_get C fg_Mo_7 d_Mo_street_35 hMr.1 rfl ?_
      refine m_aload_n C d_Mo_street_38 rfl rfl ?_
      refine m_get C fg_Mo_99 d_Mo_street_39 hMr.1 rfl ?_
      have q9_1 : Rg 1 = R 1 := by rw [hg 1 (by decide)]
      rw [q9_1, hS]
      refine m_iload_n C d_Mo_street_42 rfl rfl ?_
      refine m_iastE C d_Mo_street_43 (hw _ (Or.inr ⟨2, by decide, rfl⟩)) (hMr.a2) kt_int (nI_pos (by omega)) (by rw [nI_clamp (by omega), arrL_len]; omega) (fun M1 M1a9 M1o => ?_)
      rw [nI_clamp (by omega), arrL_set] at M1a9
      obtain ⟨R1, hR1⟩ : ∃ R1, R1 = uR Rg 2 (nS R) ar := ⟨_, rfl⟩
      have hM1 : RepM R1 m mr M1 := by rw [hR1]; exact hMr.set (k := 2) (by decide) (by decide) M1a9 M1o
      refine m_aload_n C d_Mo_street_44 rfl rfl ?_
      refine m_get C fg_Mo_17 d_Mo_street_45 hM1.1 rfl ?_
      refine m_aload_n C d_Mo_street_48 rfl rfl ?_
      refine m_get C fg_Mo_99 d_Mo_street_49 hM1.1 rfl ?_
      have q9_2 : R1 1 = R 1 := by rw [hR1, uR_n (by decide), hg 1 (by decide)]
      rw [q9_2, hS]
      refine m_iconst (v := 1) C d_Mo_street_52 (by decide) ?_
      refine m_iastE C d_Mo_street_53 (hw _ (Or.inr ⟨4, by decide, rfl⟩)) (hM1.a4) kt_int (nI_pos (by omega)) (by rw [nI_clamp (by omega), arrL_len]; omega) (fun M2 M2a9 M2o => ?_)
      rw [nI_clamp (by omega), arrL_set] at M2a9
      obtain ⟨R2, hR2⟩ : ∃ R2, R2 = uR R1 4 (nS R) 1 := ⟨_, rfl⟩
      have hM2 : RepM R2 m mr M2 := by rw [hR2]; exact hM1.set (k := 4) (by decide) (by decide) M2a9 M2o
      refine m_aload_n C d_Mo_street_54 rfl rfl ?_
      refine m_get C fg_Mo_20 d_Mo_street_55 hM2.1 rfl ?_
      refine m_aload_n C d_Mo_street_58 rfl rfl ?_
      refine m_get C fg_Mo_99 d_Mo_street_59 hM2.1 rfl ?_
      have q9_3 : R2 1 = R 1 := by rw [hR2, uR_n (by decide), hR1, uR_n (by decide), hg 1 (by decide)]
      rw [q9_3, hS]
      refine m_iconst (v := 3) C d_Mo_street_62 (by decide) ?_
      refine m_imul C d_Mo_street_63 ?_
      rw [show nI (nS R) * 3 = nI (3 * nS R) by rw [show (3 : Int32) = nI 3 from rfl, nI_mul, Nat.mul_comm]]
      refine m_iconst (v := 0) C d_Mo_street_64 (by decide) ?_
      refine m_iastE C d_Mo_street_65 (hw _ (Or.inr ⟨5, by decide, rfl⟩)) (hM2.a5) kt_int (nI_pos (by omega)) (by rw [nI_clamp (by omega), arrL_len]; omega) (fun M3 M3a9 M3o => ?_)
      rw [nI_clamp (by omega), arrL_set] at M3a9
      obtain ⟨R3, hR3⟩ : ∃ R3, R3 = uR R2 5 (3 * nS R) 0 := ⟨_, rfl⟩
      have hM3 : RepM R3 m mr M3 := by rw [hR3]; exact hM2.set (k := 5) (by decide) (by decide) M3a9 M3o
      refine m_aload_n C d_Mo_street_66 rfl rfl ?_
      refine m_dup C d_Mo_street_67 rfl ?_
      refine m_get C fg_Mo_99 d_Mo_street_68 hM3.1 rfl ?_
      have q9_4 : R3 1 = R 1 := by rw [hR3, uR_n (by decide), hR2, uR_n (by decide), hR1, uR_n (by decide), hg 1 (by decide)]
      rw [q9_4, hS]
      refine m_iconst (v := 1) C d_Mo_street_71 (by decide) ?_
      refine m_iadd C d_Mo_street_72 ?_
      rw [nI_1]
      refine m_putE C fp_Mo_99 d_Mo_street_73 (hw _ (Or.inl rfl)) hM3.1 rfl rfl (fun M4 M4a9 M4o => ?_)
      obtain ⟨R4, hR4⟩ : ∃ R4, R4 = uR R3 1 0 ((nI (nS R + 1))) := ⟨_, rfl⟩
      have hM4 : RepM R4 m mr M4 := by rw [hR4]; exact hM3.put1 M4a9 M4o
      refine m_aload_n C d_Mo_street_76 rfl rfl ?_
      refine m_iconst (v := 0) C d_Mo_street_77 (by decide) ?_
      refine m_putE C fp_Mo_114 d_Mo_street_78 (hw _ (Or.inl rfl)) hM4.1 rfl rfl (fun M5 M5a9 M5o => ?_)
      obtain ⟨R5, hR5⟩ : ∃ R5, R5 = uR R4 28 0 0 := ⟨_, rfl⟩
      have hM5 : RepM R5 m mr M5 := by rw [hR5]; exact hM4.put28 M5a9 M5o
      refine m_aload_n C d_Mo_street_81 rfl rfl ?_
      refine m_get C fg_Mo_99 d_Mo_street_82 hM5.1 rfl ?_
      rw [show R5 1 0 = nI (nS R + 1) by rw [hR5, uR_n (by decide), hR4, uR_s, fu_s]]
      refine m_iconst (v := 1) C d_Mo_street_85 (by decide) ?_
      refine m_isub C d_Mo_street_86 ?_
      rw [nI_sub1 (by omega)]
      exact Rt _ _ _ _ _ _ (by decide) (by decide) d_Mo_street_87 (⟨fun _ => ⟨rfl, by rw [← hRg, ← hR1, ← hR2, ← hR3, ← hR4, ← hR5]; exact hM5⟩, fun z => absurd hgo z⟩)
    · rw [b2i_eq0, decide_eq_false_iff_not] at hgo
      refine m_iconst (v := 0) C d_Mo_street_32 (by decide) ?_
      exact Rt _ _ _ _ _ _ (by decide) (by decide) d_Mo_street_33 (⟨fun z => absurd z hgo, fun _ => ⟨rfl, hMg⟩⟩)
  rw [hS]
  refine m_bipush (v := 30) C d_Mo_street_16 (by decide) ?_
  have e1 : (30 : Int32) ≤ nI (nS R) ↔ ¬ nS R < 30 := by rw [show (30 : Int32) = nI 30 from rfl, nI_leI (by decide) (by omega)]; omega
  refine m_icmp_ge (tgt := 25) C d_Mo_street_18 (by decide) (fun h9 => ?_) (fun h9 => ?_)
  · refine m_iconst (v := 0) C d_Mo_street_25 (by decide) ?_
    exact jn _ (by rw [decide_eq_false (e1.mp h9)]; rfl)
  · refine m_iconst (v := 1) C d_Mo_street_21 (by decide) ?_
    refine m_goto (tgt := 26) C d_Mo_street_22 (by decide) ?_
    exact jn _ (by rw [decide_eq_true (Classical.not_not.mp (fun q => h9 (e1.mpr q)))]; rfl)

set_option maxHeartbeats 4000000 in
set_option maxRecDepth 100000 in
theorem ct_Mo_cornerOf (l : Launch) (D : ma_D) (s0 : State) (R : mR) (m : Nat) (mr : Nat → Nat) (s o : Int32) (M : ma_H) (hM : RepM R m mr M) (hCo : R 21 0 = nI (nC R)) (hbC : nC R ≤ 40) : Ct l D s0 y_Mo_cornerOf c_Mo_cornerOf 4 (some .int) 0 0 0 0 [.ref m, .int s, .int o] M (fun _ => False) (pI (coF R s o (nC R) 0) M) := by
  refine Ct_i 1 [some (.ref m), some (.int s), some (.int o), none] (by decide +kernel) (Nat.le_of_ble_eq_true rfl) rfl ?_
  intro G e1 e2 e3 C hw Rt
  subst e1; subst e2; subst e3
  refine m_iconst (v := 0) C d_Mo_cornerOf_0 (by decide) ?_
  refine m_istore_n (L' := [some (.ref m), some (.int s), some (.int o), some (.int 0)]) C d_Mo_cornerOf_1 rfl (by decide) rfl ?_
  have loop : ∀ (lq9 : Nat) (i : Nat), nC R - i = lq9 → i ≤ nC R → coF R s o (nC R - i) i = coF R s o (nC R) 0 → mj G 4 0 0 M 2 [some (.ref m), some (.int s), some (.int o), some (.int (nI i))] [] := by
    intro lq9
    induction lq9 using Nat.strongRecOn with
    | ind lq9 ih =>
      intro i hr hi he
      refine m_iload_n C d_Mo_cornerOf_2 rfl rfl ?_
      refine m_aload_n C d_Mo_cornerOf_3 rfl rfl ?_
      refine m_get C fg_Mo_139 d_Mo_cornerOf_4 hM.1 rfl ?_
      rw [hCo]
      have e1 : nI (nC R) ≤ nI i ↔ nC R ≤ i := nI_leI (by omega) (by omega)
      refine m_icmp_ge (tgt := 70) C d_Mo_cornerOf_7 (by decide) (fun h9 => ?_) (fun h9 => ?_)
      · refine m_iconst (v := (-1)) C d_Mo_cornerOf_70 (by decide) ?_
        exact Rt _ _ _ _ _ _ (by decide) (by decide) d_Mo_cornerOf_71 (⟨by rw [e1] at h9; rw [← he, show nC R - i = 0 by omega]; rfl, rfl⟩)
      · rw [e1] at h9
        obtain ⟨f, hf⟩ : ∃ f, nC R - i = f + 1 := ⟨nC R - i - 1, by omega⟩
        rw [hf, coF] at he
        have nxt : ¬ (R 22 i = s ∧ R 23 i = o) → ¬ (R 22 i = o ∧ R 23 i = s) → mj G 4 0 0 M 64 [some (.ref m), some (.int s), some (.int o), some (.int (nI i))] [] := by
          intro a1 a2
          rw [if_neg a1, if_neg a2] at he
          refine m_iinc (v := (nI (i + 1))) (L' := [some (.ref m), some (.int s), some (.int o), some (.int (nI (i + 1)))]) C d_Mo_cornerOf_64 rfl (nI_1 i) (by decide) rfl ?_
          refine m_goto (tgt := 2) C d_Mo_cornerOf_67 (by decide) ?_
          exact ih (nC R - (i + 1)) (by omega) (i + 1) rfl (by omega) (by rw [← he, show nC R - (i + 1) = f by omega])
        have sec : ¬ (R 22 i = s ∧ R 23 i = o) → mj G 4 0 0 M 37 [some (.ref m), some (.int s), some (.int o), some (.int (nI i))] [] := by
          intro a1
          refine m_aload_n C d_Mo_cornerOf_37 rfl rfl ?_
          refine m_get C fg_Mo_65 d_Mo_cornerOf_38 hM.1 rfl ?_
          refine m_iload_n C d_Mo_cornerOf_41 rfl rfl ?_
          refine m_iald (v := .int ((R 22) i)) C d_Mo_cornerOf_42 (hM.a22) kt_int (nI_pos (by omega)) (by rw [nI_clamp (by omega)]; exact arrL_get (by omega)) ?_
          refine m_iload_n C d_Mo_cornerOf_43 rfl rfl ?_
          refine m_icmp_ne (tgt := 64) C d_Mo_cornerOf_44 (by decide) (fun h8 => ?_) (fun h8 => ?_)
          · exact nxt a1 (fun z => h8 z.1)
          · refine m_aload_n C d_Mo_cornerOf_47 rfl rfl ?_
            refine m_get C fg_Mo_68 d_Mo_cornerOf_48 hM.1 rfl ?_
            refine m_iload_n C d_Mo_cornerOf_51 rfl rfl ?_
            refine m_iald (v := .int ((R 23) i)) C d_Mo_cornerOf_52 (hM.a23) kt_int (nI_pos (by omega)) (by rw [nI_clamp (by omega)]; exact arrL_get (by omega)) ?_
            refine m_iload_n C d_Mo_cornerOf_53 rfl rfl ?_
            refine m_icmp_ne (tgt := 64) C d_Mo_cornerOf_54 (by decide) (fun h7 => ?_) (fun h7 => ?_)
            · exact nxt a1 (fun z => h7 z.2)
            · refine m_aload_n C d_Mo_cornerOf_57 rfl rfl ?_
              refine m_get C fg_Mo_74 d_Mo_cornerOf_58 hM.1 rfl ?_
              refine m_iload_n C d_Mo_cornerOf_61 rfl rfl ?_
              refine m_iald (v := .int ((R 25) i)) C d_Mo_cornerOf_62 (hM.a25) kt_int (nI_pos (by omega)) (by rw [nI_clamp (by omega)]; exact arrL_get (by omega)) ?_
              exact Rt _ _ _ _ _ _ (by decide) (by decide) d_Mo_cornerOf_63 (⟨by rw [← he, if_neg a1, if_pos ⟨h8, h7⟩], rfl⟩)
        refine m_aload_n C d_Mo_cornerOf_10 rfl rfl ?_
        refine m_get C fg_Mo_65 d_Mo_cornerOf_11 hM.1 rfl ?_
        refine m_iload_n C d_Mo_cornerOf_14 rfl rfl ?_
        refine m_iald (v := .int ((R 22) i)) C d_Mo_cornerOf_15 (hM.a22) kt_int (nI_pos (by omega)) (by rw [nI_clamp (by omega)]; exact arrL_get (by omega)) ?_
        refine m_iload_n C d_Mo_cornerOf_16 rfl rfl ?_
        refine m_icmp_ne (tgt := 37) C d_Mo_cornerOf_17 (by decide) (fun h8 => ?_) (fun h8 => ?_)
        · exact sec (fun z => h8 z.1)
        · refine m_aload_n C d_Mo_cornerOf_20 rfl rfl ?_
          refine m_get C fg_Mo_68 d_Mo_cornerOf_21 hM.1 rfl ?_
          refine m_iload_n C d_Mo_cornerOf_24 rfl rfl ?_
          refine m_iald (v := .int ((R 23) i)) C d_Mo_cornerOf_25 (hM.a23) kt_int (nI_pos (by omega)) (by rw [nI_clamp (by omega)]; exact arrL_get (by omega)) ?_
          refine m_iload_n C d_Mo_cornerOf_26 rfl rfl ?_
          refine m_icmp_ne (tgt := 37) C d_Mo_cornerOf_27 (by decide) (fun h7 => ?_) (fun h7 => ?_)
          · exact sec (fun z => h7 z.2)
          · refine m_aload_n C d_Mo_cornerOf_30 rfl rfl ?_
            refine m_get C fg_Mo_71 d_Mo_cornerOf_31 hM.1 rfl ?_
            refine m_iload_n C d_Mo_cornerOf_34 rfl rfl ?_
            refine m_iald (v := .int ((R 24) i)) C d_Mo_cornerOf_35 (hM.a24) kt_int (nI_pos (by omega)) (by rw [nI_clamp (by omega)]; exact arrL_get (by omega)) ?_
            exact Rt _ _ _ _ _ _ (by decide) (by decide) d_Mo_cornerOf_36 (⟨by rw [← he, if_pos ⟨h8, h7⟩], rfl⟩)
  exact loop _ 0 rfl (Nat.zero_le _) rfl

set_option maxHeartbeats 4000000 in
set_option maxRecDepth 100000 in
theorem ct_Mo_corner (l : Launch) (D : ma_D) (s0 : State) (R : mR) (m : Nat) (mr : Nat → Nat) (s o : Int32) (M : ma_H) (hM : RepM R m mr M) (hwf : WfS R) : Ct l D s0 y_Mo_corner c_Mo_corner 3 (some .int) 2 0 0 43 [.ref m, .int s, .int o] M (fun q => q = m ∨ ∃ k, mln k ≠ 0 ∧ q = mr k) (fun v M' => ((gbN ((kn R s && kn R o)) (true) (true) (true)) = 0 → v = some (.int (coF R s o (nC R) 0)) ∧ RepM (uR R 0 0 0) m mr M') ∧ (¬ (gbN ((kn R s && kn R o)) (true) (true) (true)) = 0 → v = some (.int 0) ∧ RepM (uR R 0 0 (nI (thN 1 (gbN ((kn R s && kn R o)) (true) (true) (true))))) m mr M')) := by
  refine Ct_i 0 [some (.ref m), some (.int s), some (.int o)] (by decide +kernel) (Nat.le_of_ble_eq_true rfl) rfl ?_
  intro G e1 e2 e3 C hw Rt
  subst e1; subst e2; subst e3
  obtain ⟨⟨⟨hbS, hbL, hbC, hbW, hbF⟩, hbi⟩, ⟨hS, hLm, hCo, hWd, hFn⟩, hst, hln, hmk, hz, hlt, hxy, hrg, hpl, hak, hcn⟩ := id hwf
  refine m_aload_n C d_Mo_corner_0 rfl rfl ?_
  refine m_iconst (v := 1) C d_Mo_corner_1 (by decide) ?_
  refine m_aload_n C d_Mo_corner_2 rfl rfl ?_
  refine m_iload_n C d_Mo_corner_3 rfl rfl ?_
  refine m_callV (ci := 10) C d_Mo_corner_4 mw_Mo_117 mi_Mo_isStreet se_Mo_isStreet rfl (ct_Mo_isStreet _ _ _ R m mr s M hM hS hbS) (fun _ h => h.elim) rfl rfl (Nat.le_of_ble_eq_true rfl) hM.1 (by decide) (fun v9 M9 hp h5 h6 => ?_)
  obtain ⟨rfl, hM9⟩ := hp; rw [hM9]
  show mj G 3 0 0 M 7 [some (.ref m), some (.int s), some (.int o)] [.int (b2i (kn R s)), .int 1, .ref m]
  have jn : ∀ x1 : Int32, x1 = b2i (kn R s && kn R o) → mj G 3 0 0 M 23 [some (.ref m), some (.int s), some (.int o)] [.int x1, .int 1, .ref m] := by
    intro x1 hx1
    subst hx1
    refine m_iconst (v := 1) C d_Mo_corner_23 (by decide) ?_
    refine m_iconst (v := 1) C d_Mo_corner_24 (by decide) ?_
    refine m_iconst (v := 1) C d_Mo_corner_25 (by decide) ?_
    refine m_callV (ci := 10) C d_Mo_corner_26 mw_Mo_110 mi_Mo_goes se_Mo_goes rfl (ct_Mo_goes _ _ _ R m mr 1 ((kn R s && kn R o)) (true) (true) (true) M hM) (fun q h => hw q h) rfl rfl (Nat.le_of_ble_eq_true rfl) hM.1 (by decide) (fun v9 Mg hp g5 g6 => ?_)
    obtain ⟨rfl, hMg⟩ := hp
    show mj G 3 0 0 Mg 29 [some (.ref m), some (.int s), some (.int o)] [.int (b2i (decide ((gbN ((kn R s && kn R o)) (true) (true) (true)) = 0)))]
    refine m_if_ne (tgt := 34) C d_Mo_corner_29 (by decide) (fun hgo => ?_) (fun hgo => ?_)
    · rw [b2i_ne0, decide_eq_true_eq] at hgo
      have hMg0 : RepM (uR R 0 0 0) m mr Mg := by rw [hgo] at hMg; exact hMg
      obtain ⟨hp9, hq9, hr9, hs9⟩ := gbN_0 hgo
      obtain ⟨Rg, hRg⟩ : ∃ Rg, Rg = uR R 0 0 0 := ⟨_, rfl⟩
      have hg : ∀ f, f ≠ 0 → Rg f = R f := fun f hf => by rw [hRg, uR_n hf]
      have hMr : RepM Rg m mr Mg := by rw [hRg]; exact hMg0
      refine m_aload_n C d_Mo_corner_34 rfl rfl ?_
      refine m_iload_n C d_Mo_corner_35 rfl rfl ?_
      refine m_iload_n C d_Mo_corner_36 rfl rfl ?_
      refine m_callV (ci := 10) C d_Mo_corner_37 mw_Mo_142 mi_Mo_cornerOf se_Mo_cornerOf rfl (ct_Mo_cornerOf _ _ _ Rg m mr s o Mg hMr (by show Rg 21 0 = nI (tn (Rg 21 0)); rw [hg 21 (by decide)]; exact hCo) (by rw [nC, hg 21 (by decide)]; exact hbC)) (fun _ h => h.elim) rfl rfl (Nat.le_of_ble_eq_true rfl) hMr.1 (by decide) (fun v8 M8 hp h85 h86 => ?_)
      obtain ⟨rfl, hM8⟩ := hp; rw [hM8]
      show mj G 3 0 0 Mg 40 [some (.ref m), some (.int s), some (.int o)] [.int (coF Rg s o (nC Rg) 0)]
      exact Rt _ _ _ _ _ _ (by decide) (by decide) d_Mo_corner_40 (⟨fun _ => ⟨by rw [coF_cg (fun f hf => hg f (by omega)), nC, hg 21 (by decide)], by rw [← hRg]; exact hMr⟩, fun z => absurd hgo z⟩)
    · rw [b2i_eq0, decide_eq_false_iff_not] at hgo
      refine m_iconst (v := 0) C d_Mo_corner_32 (by decide) ?_
      exact Rt _ _ _ _ _ _ (by decide) (by decide) d_Mo_corner_33 (⟨fun z => absurd z hgo, fun _ => ⟨rfl, hMg⟩⟩)
  refine m_if_eq (tgt := 22) C d_Mo_corner_7 (by decide) (fun h9 => ?_) (fun h9 => ?_)
  · refine m_iconst (v := 0) C d_Mo_corner_22 (by decide) ?_
    rw [b2i_eq0] at h9
    exact jn _ (by rw [h9]; rfl)
  · rw [b2i_eq0, Bool.not_eq_false] at h9
    refine m_aload_n C d_Mo_corner_10 rfl rfl ?_
    refine m_iload_n C d_Mo_corner_11 rfl rfl ?_
    refine m_callV (ci := 10) C d_Mo_corner_12 mw_Mo_117 mi_Mo_isStreet se_Mo_isStreet rfl (ct_Mo_isStreet _ _ _ R m mr o M hM hS hbS) (fun _ h => h.elim) rfl rfl (Nat.le_of_ble_eq_true rfl) hM.1 (by decide) (fun v9 M9 hp h5 h6 => ?_)
    obtain ⟨rfl, hM9⟩ := hp; rw [hM9]
    show mj G 3 0 0 M 15 [some (.ref m), some (.int s), some (.int o)] [.int (b2i (kn R o)), .int 1, .ref m]
    refine m_if_eq (tgt := 22) C d_Mo_corner_15 (by decide) (fun h8 => ?_) (fun h8 => ?_)
    · refine m_iconst (v := 0) C d_Mo_corner_22 (by decide) ?_
      rw [b2i_eq0] at h8
      exact jn _ (by rw [h9, h8]; rfl)
    · refine m_iconst (v := 1) C d_Mo_corner_18 (by decide) ?_
      refine m_goto (tgt := 23) C d_Mo_corner_19 (by decide) ?_
      rw [b2i_eq0, Bool.not_eq_false] at h8
      exact jn _ (by rw [h9, h8]; rfl)
