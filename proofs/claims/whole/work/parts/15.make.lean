/-! ===== constructors; wholeRoot; Name.append ===== -/
theorem ma_ne1 {M : ma_H} {a b i j : Nat} {x y : List Value} (h : M a = some (.inl (i, x))) (h2 : M b = some (.inl (j, y))) (hij : i ≠ j) : a ≠ b := by
  rintro rfl
  have h3 := h.symm.trans h2
  simp only [Option.some.injEq, Sum.inl.injEq, Prod.mk.injEq] at h3
  exact hij h3.1
theorem ma_ne2 {M : ma_H} {a b i : Nat} {x y : List Value} {t : FieldType} (h : M a = some (.inl (i, x))) (h2 : M b = some (.inr (t, y))) : a ≠ b := by
  rintro rfl
  have h3 := h.symm.trans h2
  simp at h3
theorem ma_ne3 {M : ma_H} {a b : Nat} {x y : List Value} {t u : FieldType} (h : M a = some (.inr (t, x))) (h2 : M b = some (.inr (u, y))) (htu : t ≠ u) : a ≠ b := by
  rintro rfl
  have h3 := h.symm.trans h2
  simp only [Option.some.injEq, Sum.inr.injEq, Prod.mk.injEq] at h3
  exact htu h3.1
def wr_k (sq : Int32) : Nat → Int32 → Int32
  | 0, r => r
  | k + 1, r => wr_k sq k (if (r + nI (2 ^ k)) * (r + nI (2 ^ k)) ≤ sq then r + nI (2 ^ k) else r)
def w_root (sq : Int32) : Int32 := wr_k sq 15 0

set_option maxHeartbeats 4000000 in
set_option maxRecDepth 100000 in
theorem ct_AW_wholeRoot (l : Launch) (D : ma_D) (s0 : State) (sq : Int32) (M : ma_H) : Ct l D s0 y_AW_wholeRoot c_AW_wholeRoot 4 (some .int) 0 0 0 0 [.int sq] M (fun _ => False) (pI (w_root sq) M) := by
  refine Ct_i 3 [some (.int sq), none, none, none] (by decide +kernel) (Nat.le_of_ble_eq_true rfl) rfl ?_
  intro G e1 e2 e3 C hw Rt
  subst e1; subst e2; subst e3
  refine m_iconst (v := 0) C d_AW_wholeRoot_0 (by decide) ?_
  refine m_istore_n (L' := [some (.int sq), some (.int 0), none, none]) C d_AW_wholeRoot_1 rfl (by decide) rfl ?_
  refine m_sipush (v := 16384) C d_AW_wholeRoot_2 (by decide) ?_
  refine m_istore_n (L' := [some (.int sq), some (.int 0), some (.int 16384), none]) C d_AW_wholeRoot_5 rfl (by decide) rfl ?_
  have loop : ∀ (r : Nat) (j : Nat) (root : Int32), j = r → j ≤ 15 → wr_k sq j root = w_root sq → mj G 4 0 0 M 6 [some (.int sq), some (.int root), some (.int (nI (2 ^ j / 2))), none] [] := by
    intro r
    induction r using Nat.strongRecOn with
    | ind r ih =>
      intro j root hr hj he
      have hp : 2 ^ j ≤ 2 ^ 15 := Nat.pow_le_pow_right (by decide) hj
      have e0 : nI (2 ^ j / 2) ≤ 0 ↔ j = 0 := by
        rw [show (0 : Int32) = nI 0 from rfl, nI_leI (by omega) (by decide)]
        constructor
        · intro h; cases j with
          | zero => rfl
          | succ q => rw [Nat.pow_succ] at h; have := Nat.pow_pos (n := q) (show 0 < 2 by decide); omega
        · intro h; subst h; decide
      refine m_iload_n C d_AW_wholeRoot_6 rfl rfl ?_
      refine m_if_le (tgt := 30) C d_AW_wholeRoot_7 (by decide) (fun h1 => ?_) (fun h1 => ?_)
      · refine m_iload_n C d_AW_wholeRoot_30 rfl rfl ?_
        rw [e0] at h1
        subst h1
        exact Rt _ _ _ _ _ _ (by decide) (by decide) d_AW_wholeRoot_31 (⟨by rw [← he]; rfl, rfl⟩)
      · rw [e0] at h1
        obtain ⟨q, rfl⟩ : ∃ q, j = q + 1 := ⟨j - 1, by omega⟩
        have e2 : 2 ^ (q + 1) / 2 = 2 ^ q := by rw [Nat.pow_succ]; omega
        rw [e2]
        refine m_iload_n C d_AW_wholeRoot_10 rfl rfl ?_
        refine m_iload_n C d_AW_wholeRoot_11 rfl rfl ?_
        refine m_iadd C d_AW_wholeRoot_12 ?_
        refine m_istore_n (L' := [some (.int sq), some (.int root), some (.int (nI (2 ^ q))), some (.int (root + ((nI (2 ^ q)))))]) C d_AW_wholeRoot_13 rfl (by decide) rfl ?_
        refine m_iload_n C d_AW_wholeRoot_14 rfl rfl ?_
        refine m_iload_n C d_AW_wholeRoot_15 rfl rfl ?_
        refine m_imul C d_AW_wholeRoot_16 ?_
        refine m_iload_n C d_AW_wholeRoot_17 rfl rfl ?_
        refine m_icmp_gt (tgt := 23) C d_AW_wholeRoot_18 (by decide) (fun h2 => ?_) (fun h2 => ?_)
        · refine m_iload_n C d_AW_wholeRoot_23 rfl rfl ?_
          refine m_iconst (v := 1) C d_AW_wholeRoot_24 (by decide) ?_
          refine m_ishr C d_AW_wholeRoot_25 ?_
          rw [show nI (2 ^ q) >>> ((1 : Int32) &&& 31) = nI (2 ^ q / 2) from pk_shrN (by rw [Nat.pow_succ] at hp; omega) _ 1 (by decide)]
          refine m_istore_n (L' := [some (.int sq), some (.int root), some (.int (nI (2 ^ q / 2))), some (.int (root + ((nI (2 ^ q)))))]) C d_AW_wholeRoot_26 rfl (by decide) rfl ?_
          refine m_goto (tgt := 6) C d_AW_wholeRoot_27 (by decide) ?_
          refine mj_L (L' := [some (.int sq), some (.int root), some (.int (nI (2 ^ q / 2))), none]) ?_ ?_
          · intro i v hv; rcases i with _ | _ | _ | _ | i <;> simp_all
          · exact ih q (by omega) q _ rfl (by omega) (by rw [← he, wr_k, if_neg (Int32.not_le.mpr h2)])
        · refine m_iload_n C d_AW_wholeRoot_21 rfl rfl ?_
          refine m_istore_n (L' := [some (.int sq), some (.int (root + ((nI (2 ^ q))))), some (.int (nI (2 ^ q))), some (.int (root + ((nI (2 ^ q)))))]) C d_AW_wholeRoot_22 rfl (by decide) rfl ?_
          refine m_iload_n C d_AW_wholeRoot_23 rfl rfl ?_
          refine m_iconst (v := 1) C d_AW_wholeRoot_24 (by decide) ?_
          refine m_ishr C d_AW_wholeRoot_25 ?_
          rw [show nI (2 ^ q) >>> ((1 : Int32) &&& 31) = nI (2 ^ q / 2) from pk_shrN (by rw [Nat.pow_succ] at hp; omega) _ 1 (by decide)]
          refine m_istore_n (L' := [some (.int sq), some (.int (root + ((nI (2 ^ q))))), some (.int (nI (2 ^ q / 2))), some (.int (root + ((nI (2 ^ q)))))]) C d_AW_wholeRoot_26 rfl (by decide) rfl ?_
          refine m_goto (tgt := 6) C d_AW_wholeRoot_27 (by decide) ?_
          refine mj_L (L' := [some (.int sq), some (.int (root + nI (2 ^ q))), some (.int (nI (2 ^ q / 2))), none]) ?_ ?_
          · intro i v hv; rcases i with _ | _ | _ | _ | i <;> simp_all
          · exact ih q (by omega) q _ rfl (by omega) (by rw [← he, wr_k, if_pos (Int32.not_lt.mp h2)])
  exact loop _ 15 0 rfl (Nat.le_refl _) rfl

set_option maxHeartbeats 4000000 in
set_option maxRecDepth 100000 in
theorem ct_Na_init (l : Launch) (D : ma_D) (s0 : State) (a : Nat) (M : ma_H) (ha : M a = some (.inl (5, [.null, .int 0]))) : Ct l D s0 y_Na_init c_Na_init 1 none 1 1 16 20 [.ref a] M (fun q => q = a) (fun r M' => r = none ∧ ∃ ch, M ch = none ∧ rNa M' a ch (List.replicate 16 (.int 0)) []) := by
  refine Ct_v 0 [some (.ref a)] (by decide +kernel) (Nat.le_of_ble_eq_true rfl) rfl ?_
  intro G e1 e2 e3 C hw hI Rt
  subst e1; subst e2; subst e3
  refine m_aload_n C d_Na_init_0 rfl rfl ?_
  refine m_obj C d_Na_init_1 ml_Na_3 mi_obj mc_obj (by decide) (Nat.le_of_ble_eq_true rfl) ?_
  refine m_aload_n C d_Na_init_4 rfl rfl ?_
  refine m_bipush (v := 16) C d_Na_init_5 (by decide) ?_
  refine m_newaE (N := 16) C d_Na_init_7 rfl kt_char ac_char (fun _ h => by cases h) (by decide) (by decide) (by decide) (by decide) (by decide) (fun ch M1 M1n M1w M1a0 M1o => ?_)
  have M1_a : M1 a = some (.inl (5, [.null, .int 0])) := (M1o a (ma_nef ha M1n)).trans ha
  have M1_ch : M1 ch = some (.inr (.char, List.replicate 16 (.int 0))) := M1a0
  refine m_putFE C (hI rfl) fp_Na_9 d_Na_init_9 (hw _ rfl) M1_a rfl rfl (fun M2 M2a0 M2o => ?_)
  have M2_ch : M2 ch = some (.inr (.char, List.replicate 16 (.int 0))) := (M2o ch (Ne.symm (ma_ne2 M1_a M1_ch))).trans M1_ch
  have M2_a : M2 a = some (.inl (5, [.ref ch, .int 0])) := M2a0
  exact Rt _ _ _ _ _ (by decide) (by decide) d_Na_init_12 (⟨rfl, ch, M1n, M2_a, M2_ch, rfl, by decide, fun i x h => by simp at h⟩)

set_option maxHeartbeats 4000000 in
set_option maxRecDepth 100000 in
theorem ct_Co_init (l : Launch) (D : ma_D) (s0 : State) (a : Nat) (s o m n : Int32) (M : ma_H) (ha : M a = some (.inl (1, [.int 0, .int 0, .int 0, .int 0]))) : Ct l D s0 y_Co_init c_Co_init 5 none 1 0 0 20 [.ref a, .int s, .int o, .int m, .int n] M (fun q => q = a) (fun r M' => r = none ∧ M' a = some (.inl (1, [.int s, .int o, .int m, .int n]))) := by
  refine Ct_v 0 [some (.ref a), some (.int s), some (.int o), some (.int m), some (.int n)] (by decide +kernel) (Nat.le_of_ble_eq_true rfl) rfl ?_
  intro G e1 e2 e3 C hw hI Rt
  subst e1; subst e2; subst e3
  refine m_aload_n C d_Co_init_0 rfl rfl ?_
  refine m_obj C d_Co_init_1 ml_Co_1 mi_obj mc_obj (by decide) (Nat.le_of_ble_eq_true rfl) ?_
  refine m_aload_n C d_Co_init_4 rfl rfl ?_
  refine m_iload_n C d_Co_init_5 rfl rfl ?_
  refine m_putFE C (hI rfl) fp_Co_7 d_Co_init_6 (hw _ rfl) ha rfl rfl (fun M1 M1a0 M1o => ?_)
  have M1_a : M1 a = some (.inl (1, [.int s, .int 0, .int 0, .int 0])) := M1a0
  refine m_aload_n C d_Co_init_9 rfl rfl ?_
  refine m_iload_n C d_Co_init_10 rfl rfl ?_
  refine m_putFE C (hI rfl) fp_Co_13 d_Co_init_11 (hw _ rfl) M1_a rfl rfl (fun M2 M2a0 M2o => ?_)
  have M2_a : M2 a = some (.inl (1, [.int s, .int o, .int 0, .int 0])) := M2a0
  refine m_aload_n C d_Co_init_14 rfl rfl ?_
  refine m_iload_n C d_Co_init_15 rfl rfl ?_
  refine m_putFE C (hI rfl) fp_Co_16 d_Co_init_16 (hw _ rfl) M2_a rfl rfl (fun M3 M3a0 M3o => ?_)
  have M3_a : M3 a = some (.inl (1, [.int s, .int o, .int m, .int 0])) := M3a0
  refine m_aload_n C d_Co_init_19 rfl rfl ?_
  refine m_iload C d_Co_init_20 rfl ?_
  refine m_putFE C (hI rfl) fp_Co_19 d_Co_init_22 (hw _ rfl) M3_a rfl rfl (fun M4 M4a0 M4o => ?_)
  have M4_a : M4 a = some (.inl (1, [.int s, .int o, .int m, .int n])) := M4a0
  exact Rt _ _ _ _ _ (by decide) (by decide) d_Co_init_25 (⟨rfl, M4_a⟩)

set_option maxHeartbeats 4000000 in
set_option maxRecDepth 100000 in
theorem ct_Pl_init (l : Launch) (D : ma_D) (s0 : State) (a : Nat) (M : ma_H) : Ct l D s0 y_Pl_init c_Pl_init 1 none 1 0 0 20 [.ref a] M (fun _ => False) (fun r M' => r = none ∧ M' = M) := by
  refine Ct_v 0 [some (.ref a)] (by decide +kernel) (Nat.le_of_ble_eq_true rfl) rfl ?_
  intro G e1 e2 e3 C hw hI Rt
  subst e1; subst e2; subst e3
  refine m_aload_n C d_Pl_init_0 rfl rfl ?_
  refine m_obj C d_Pl_init_1 ml_Pl_1 mi_obj mc_obj (by decide) (Nat.le_of_ble_eq_true rfl) ?_
  exact Rt _ _ _ _ _ (by decide) (by decide) d_Pl_init_4 (⟨rfl, rfl⟩)

set_option maxHeartbeats 4000000 in
set_option maxRecDepth 100000 in
theorem ct_LM_init (l : Launch) (D : ma_D) (s0 : State) (a : Nat) (s h : Int32) (M : ma_H) (ha : M a = some (.inl (4, [.int 0, .int 0, .null]))) : Ct l D s0 y_LM_init c_LM_init 3 none 2 2 18 40 [.ref a, .int s, .int h] M (fun q => q = a) (fun r M' => r = none ∧ ∃ nm ch, M nm = none ∧ M ch = none ∧ nm ≠ ch ∧ M' a = some (.inl (4, [.int s, .int h, .ref nm])) ∧ rNa M' nm ch (List.replicate 16 (.int 0)) []) := by
  refine Ct_v 0 [some (.ref a), some (.int s), some (.int h)] (by decide +kernel) (Nat.le_of_ble_eq_true rfl) rfl ?_
  intro G e1 e2 e3 C hw hI Rt
  subst e1; subst e2; subst e3
  refine m_aload_n C d_LM_init_0 rfl rfl ?_
  refine m_obj C d_LM_init_1 ml_LM_1 mi_obj mc_obj (by decide) (Nat.le_of_ble_eq_true rfl) ?_
  refine m_aload_n C d_LM_init_4 rfl rfl ?_
  refine m_newE (ci := 5) [.null, .int 0] C d_LM_init_5 rfl in_Na tyok_Na cl_LM_7 ins_Na ini_Na rfl df_Na (by decide) (by decide) (fun nm M1 M1n M1w M1a0 M1o => ?_)
  have M1_a : M1 a = some (.inl (4, [.int 0, .int 0, .null])) := (M1o a (ma_nef ha M1n)).trans ha
  have M1_nm : M1 nm = some (.inl (5, [.null, .int 0])) := M1a0
  refine m_dup C d_LM_init_8 rfl ?_
  refine m_callI C d_LM_init_9 mw_LM_9 mi_Na_init rfl (ct_Na_init _ _ _ nm M1 M1_nm) (fun q h => by rw [h]; exact M1w) rfl rfl (Nat.le_of_ble_eq_true rfl) (by decide) (fun v9 M9 hp h5 h6 => ?_)
  obtain ⟨rfl, ch, hch, hN⟩ := hp
  show mj G 3 (0 + 1 + 1) (0 + 2 + 16) M9 12 [some (.ref a), some (.int s), some (.int h)] [.ref nm, .ref a]
  have na : a ≠ nm := ma_nef ha M1n
  have M9_a : M9 a = some (.inl (4, [.int 0, .int 0, .null])) := (h5 a (by rw [M1_a]; simp) na).trans M1_a
  have nch : M ch = none := by rw [← M1o ch (fun z => by rw [z, M1_nm] at hch; cases hch)]; exact hch
  refine m_putFE C (hI rfl) fp_LM_10 d_LM_init_12 (hw _ rfl) M9_a rfl rfl (fun M2 M2a0 M2o => ?_)
  have M2_nm : M2 nm = some (.inl (5, [.ref ch, .int (nI 0)])) := (M2o nm (ma_ne1 hN.1 M9_a (by decide))).trans hN.1
  have M2_ch : M2 ch = some (.inr (.char, List.replicate 16 (.int 0))) := (M2o ch (Ne.symm (ma_ne2 M9_a hN.2.1))).trans hN.2.1
  have M2_a : M2 a = some (.inl (4, [.int 0, .int 0, .ref nm])) := M2a0
  refine m_aload_n C d_LM_init_15 rfl rfl ?_
  refine m_iload_n C d_LM_init_16 rfl rfl ?_
  refine m_putFE C (hI rfl) fp_LM_16 d_LM_init_17 (hw _ rfl) M2_a rfl rfl (fun M3 M3a0 M3o => ?_)
  have M3_nm : M3 nm = some (.inl (5, [.ref ch, .int (nI 0)])) := (M3o nm (ma_ne1 M2_nm M2_a (by decide))).trans M2_nm
  have M3_ch : M3 ch = some (.inr (.char, List.replicate 16 (.int 0))) := (M3o ch (Ne.symm (ma_ne2 M2_a M2_ch))).trans M2_ch
  have M3_a : M3 a = some (.inl (4, [.int s, .int 0, .ref nm])) := M3a0
  refine m_aload_n C d_LM_init_20 rfl rfl ?_
  refine m_iload_n C d_LM_init_21 rfl rfl ?_
  refine m_putFE C (hI rfl) fp_LM_20 d_LM_init_22 (hw _ rfl) M3_a rfl rfl (fun M4 M4a0 M4o => ?_)
  have M4_nm : M4 nm = some (.inl (5, [.ref ch, .int (nI 0)])) := (M4o nm (ma_ne1 M3_nm M3_a (by decide))).trans M3_nm
  have M4_ch : M4 ch = some (.inr (.char, List.replicate 16 (.int 0))) := (M4o ch (Ne.symm (ma_ne2 M3_a M3_ch))).trans M3_ch
  have M4_a : M4 a = some (.inl (4, [.int s, .int h, .ref nm])) := M4a0
  exact Rt _ _ _ _ _ (by decide) (by decide) d_LM_init_25 (⟨rfl, nm, ch, M1n, nch, hN.ne, M4_a, M4_nm, M4_ch, rfl, by decide, fun i x h => by simp at h⟩)
