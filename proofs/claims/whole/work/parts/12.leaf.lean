set_option maxHeartbeats 4000000 in
set_option maxRecDepth 100000 in
theorem ct_AW_isLetter (l : Launch) (D : ma_D) (s0 : State) (c : Int32) (M : ma_H) : Ct l D s0 y_AW_isLetter c_AW_isLetter 1 (some .boolean) 0 0 0 0 [.int c] M (fun _ => False) (pI (b2i (is_l c)) M) := by
  refine Ct_z 0 [some (.int c)] (by decide +kernel) (Nat.le_of_ble_eq_true rfl) rfl ?_
  intro G e1 e2 e3 C hw Rt
  subst e1; subst e2; subst e3
  refine m_iload_n C d_AW_isLetter_0 rfl rfl ?_
  refine m_bipush (v := 97) C d_AW_isLetter_1 (by decide) ?_
  refine m_icmp_lt (tgt := 16) C d_AW_isLetter_3 (by decide) (fun h1 => ?_) (fun h1 => ?_)
  · refine m_iconst (v := 0) C d_AW_isLetter_16 (by decide) ?_
    exact Rt _ _ _ _ _ _ (Nat.le_refl _) (Nat.le_refl _) (by decide) d_AW_isLetter_17 ⟨by simp [b2i, is_l, h1], rfl⟩
  · refine m_iload_n C d_AW_isLetter_6 rfl rfl ?_
    refine m_bipush (v := 122) C d_AW_isLetter_7 (by decide) ?_
    refine m_icmp_gt (tgt := 16) C d_AW_isLetter_9 (by decide) (fun h2 => ?_) (fun h2 => ?_)
    · refine m_iconst (v := 0) C d_AW_isLetter_16 (by decide) ?_
      exact Rt _ _ _ _ _ _ (Nat.le_refl _) (Nat.le_refl _) (by decide) d_AW_isLetter_17 ⟨by simp [b2i, is_l, h2], rfl⟩
    · refine m_iconst (v := 1) C d_AW_isLetter_12 (by decide) ?_
      refine m_goto (tgt := 17) C d_AW_isLetter_13 (by decide) ?_
      exact Rt _ _ _ _ _ _ (Nat.le_refl _) (Nat.le_refl _) (by decide) d_AW_isLetter_17 ⟨by simp [b2i, is_l, h1, h2], rfl⟩

set_option maxHeartbeats 4000000 in
set_option maxRecDepth 100000 in
theorem ct_AW_isDigit (l : Launch) (D : ma_D) (s0 : State) (c : Int32) (M : ma_H) : Ct l D s0 y_AW_isDigit c_AW_isDigit 1 (some .boolean) 0 0 0 0 [.int c] M (fun _ => False) (pI (b2i (is_d c)) M) := by
  refine Ct_z 0 [some (.int c)] (by decide +kernel) (Nat.le_of_ble_eq_true rfl) rfl ?_
  intro G e1 e2 e3 C hw Rt
  subst e1; subst e2; subst e3
  refine m_iload_n C d_AW_isDigit_0 rfl rfl ?_
  refine m_bipush (v := 48) C d_AW_isDigit_1 (by decide) ?_
  refine m_icmp_lt (tgt := 16) C d_AW_isDigit_3 (by decide) (fun h1 => ?_) (fun h1 => ?_)
  · refine m_iconst (v := 0) C d_AW_isDigit_16 (by decide) ?_
    exact Rt _ _ _ _ _ _ (Nat.le_refl _) (Nat.le_refl _) (by decide) d_AW_isDigit_17 ⟨by simp [b2i, is_d, h1], rfl⟩
  · refine m_iload_n C d_AW_isDigit_6 rfl rfl ?_
    refine m_bipush (v := 57) C d_AW_isDigit_7 (by decide) ?_
    refine m_icmp_gt (tgt := 16) C d_AW_isDigit_9 (by decide) (fun h2 => ?_) (fun h2 => ?_)
    · refine m_iconst (v := 0) C d_AW_isDigit_16 (by decide) ?_
      exact Rt _ _ _ _ _ _ (Nat.le_refl _) (Nat.le_refl _) (by decide) d_AW_isDigit_17 ⟨by simp [b2i, is_d, h2], rfl⟩
    · refine m_iconst (v := 1) C d_AW_isDigit_12 (by decide) ?_
      refine m_goto (tgt := 17) C d_AW_isDigit_13 (by decide) ?_
      exact Rt _ _ _ _ _ _ (Nat.le_refl _) (Nat.le_refl _) (by decide) d_AW_isDigit_17 ⟨by simp [b2i, is_d, h1, h2], rfl⟩

set_option maxHeartbeats 4000000 in
set_option maxRecDepth 100000 in
theorem ct_AW_signAt (l : Launch) (D : ma_D) (s0 : State) (p : Int64) (n i : Nat) (hn : n ≤ 8) (hi : i < n) (M : ma_H) : Ct l D s0 y_AW_signAt c_AW_signAt 4 (some .char) 0 0 0 0 [.long p, .int (nI n), .int (nI i)] M (fun _ => False) (pI (sgn p n i) M) := by
  refine Ct_c 0 [some (.long p), none, some (.int (nI n)), some (.int (nI i))] (by decide +kernel) (Nat.le_of_ble_eq_true rfl) rfl ?_
  intro G e1 e2 e3 C hw Rt
  subst e1; subst e2; subst e3
  refine m_lload_n C d_AW_signAt_0 rfl rfl ?_
  refine m_bipush (v := 8) C d_AW_signAt_1 (by decide) ?_
  refine m_iload_n C d_AW_signAt_3 rfl rfl ?_
  refine m_iconst (v := 1) C d_AW_signAt_4 (by decide) ?_
  refine m_isub C d_AW_signAt_5 ?_
  refine m_iload_n C d_AW_signAt_6 rfl rfl ?_
  refine m_isub C d_AW_signAt_7 ?_
  refine m_imul C d_AW_signAt_8 ?_
  refine m_lushr C d_AW_signAt_9 ?_
  refine m_ldc2 (v := 255) C d_AW_signAt_10 kc_AW_390 ?_
  refine m_land C d_AW_signAt_13 ?_
  refine m_l2i C d_AW_signAt_14 ?_
  refine m_i2c C d_AW_signAt_15 ?_
  have e9 := sgn_val p (k := 8 * (n - 1 - i)) (by omega)
  rw [← sgn_arg hn hi] at e9
  rw [e9]
  exact Rt _ _ _ _ _ _ (Nat.le_refl _) (Nat.le_refl _) (nar_c (Nat.lt_of_lt_of_le (Nat.mod_lt _ (by decide)) (by decide))) d_AW_signAt_16 ⟨rfl, rfl⟩
