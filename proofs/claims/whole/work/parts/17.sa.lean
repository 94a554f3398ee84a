/-! ===== Said ===== -/
/-- words, numbers, digits, the house, the words' starts and lengths -/
abbrev saT : Type := Nat × Nat × Nat × Int32 × (Nat → Int32) × (Nat → Int32)
abbrev saF (sg n ws wl : Nat) (s : saT) : List Value := [.ref sg, .int (nI n), .ref ws, .ref wl, .int (nI s.1), .int (nI s.2.1), .int (nI s.2.2.1), .int s.2.2.2.1]
def rSa (M : ma_H) (a sg ws wl n : Nat) (fs : Nat → Int32) (s : saT) : Prop := M a = some (.inl (8, saF sg n ws wl s)) ∧ M sg = some (.inr (.char, arrL 40 fs)) ∧ M ws = some (.inr (.int, arrL 20 s.2.2.2.2.1)) ∧ M wl = some (.inr (.int, arrL 20 s.2.2.2.2.2)) ∧ ws ≠ wl
def sa_st (p : Int32 → Bool) (fs : Nat → Int32) (i : Nat) : Bool := decide (i = 0) || !p (fs (i - 1))
def sa_L1 (fs : Nat → Int32) (i : Nat) (s : saT) : saT := if sa_st is_l fs i = true ∧ s.1 < 20 then (s.1 + 1, s.2.1, s.2.2.1, s.2.2.2.1, fu s.2.2.2.2.1 s.1 (nI i), fu s.2.2.2.2.2 s.1 0) else s
def sa_L2 (s : saT) : saT := if 0 < s.1 then (s.1, s.2.1, s.2.2.1, s.2.2.2.1, s.2.2.2.2.1, fu s.2.2.2.2.2 (s.1 - 1) (s.2.2.2.2.2 (s.1 - 1) + 1)) else s
def sa_D1 (fs : Nat → Int32) (i : Nat) (s : saT) : saT := if sa_st is_d fs i = true then (s.1, s.2.1 + 1, s.2.2.1, s.2.2.2.1, s.2.2.2.2.1, s.2.2.2.2.2) else s
def sa_D2 (c : Int32) (s : saT) : saT := if s.2.1 = 1 then (s.1, s.2.1, s.2.2.1 + 1, if 4 < s.2.2.1 + 1 then 9999 else 10 * s.2.2.2.1 + (c - 48), s.2.2.2.2.1, s.2.2.2.2.2) else s
def sa_k (fs : Nat → Int32) (f g : Nat → Int32) : Nat → saT
  | 0 => (0, 0, 0, 0, f, g)
  | i + 1 => if is_l (fs i) = true then sa_L2 (sa_L1 fs i (sa_k fs f g i)) else if is_d (fs i) = true then sa_D2 (fs i) (sa_D1 fs i (sa_k fs f g i)) else sa_k fs f g i
theorem sa_b (fs f g : Nat → Int32) : ∀ i, (sa_k fs f g i).1 ≤ 20 ∧ (sa_k fs f g i).2.1 ≤ i ∧ (sa_k fs f g i).2.2.1 ≤ i := by
  intro i
  induction i with
  | zero => exact ⟨Nat.zero_le _, Nat.le_refl _, Nat.le_refl _⟩
  | succ i ih =>
    rw [sa_k]
    split
    · rw [sa_L2, sa_L1]
      split <;> split <;> simp_all <;> omega
    · split
      · rw [sa_D2, sa_D1]
        split <;> split <;> simp_all <;> omega
      · omega
def fa (fs : Nat → Int32) (L : Nat) (p : Int64) (n i : Nat) : Nat → Int32 := fun j => if L ≤ j ∧ j < L + i then sgn p n (j - L) else fs j
theorem fa_0 (fs : Nat → Int32) (L : Nat) (p : Int64) (n : Nat) : fa fs L p n 0 = fs := by
  funext j; rw [fa, if_neg (by omega)]
theorem fa_s (fs : Nat → Int32) (L : Nat) (p : Int64) (n i : Nat) : fu (fa fs L p n i) (L + i) (sgn p n i) = fa fs L p n (i + 1) := by
  funext j
  show (if j = L + i then sgn p n i else if L ≤ j ∧ j < L + i then sgn p n (j - L) else fs j) = if L ≤ j ∧ j < L + (i + 1) then sgn p n (j - L) else fs j
  by_cases h : j = L + i
  · subst h; rw [if_pos rfl, if_pos (by omega), Nat.add_sub_cancel_left]
  · rw [if_neg h]
    by_cases h2 : L ≤ j ∧ j < L + i
    · rw [if_pos h2, if_pos (by omega)]
    · rw [if_neg h2, if_neg (by omega)]

set_option maxHeartbeats 4000000 in
set_option maxRecDepth 100000 in
theorem ct_Sa_init (l : Launch) (D : ma_D) (s0 : State) (a : Nat) (M : ma_H) (ha : M a = some (.inl (8, [.null, .int 0, .null, .null, .int 0, .int 0, .int 0, .int 0]))) : Ct l D s0 y_Sa_init c_Sa_init 1 none 1 3 80 20 [.ref a] M (fun q => q = a) (fun r M' => r = none ∧ ∃ sg ws wl, M sg = none ∧ M ws = none ∧ M wl = none ∧ rSa M' a sg ws wl 0 (fun _ => 0) (0, 0, 0, 0, fun _ => 0, fun _ => 0)) := by
  refine Ct_v 0 [some (.ref a)] (by decide +kernel) (Nat.le_of_ble_eq_true rfl) rfl ?_
  intro G e1 e2 e3 C hw hI Rt
  subst e1; subst e2; subst e3
  refine m_aload_n C d_Sa_init_0 rfl rfl ?_
  refine m_obj C d_Sa_init_1 ml_Sa_3 mi_obj mc_obj (by decide) (Nat.le_of_ble_eq_true rfl) ?_
  refine m_aload_n C d_Sa_init_4 rfl rfl ?_
  refine m_bipush (v := 40) C d_Sa_init_5 (by decide) ?_
  refine m_newaE (N := 40) C d_Sa_init_7 rfl kt_char ac_char (fun _ h => by cases h) (by decide) (by decide) (by decide) (by decide) (by decide) (fun sg M1 M1n M1w M1a0 M1o => ?_)
  have M1_a : M1 a = some (.inl (8, [.null, .int 0, .null, .null, .int 0, .int 0, .int 0, .int 0])) := (M1o a (ma_nef ha M1n)).trans ha
  have M1_sg : M1 sg = some (.inr (.char, List.replicate 40 (.int 0))) := M1a0
  refine m_putFE C (hI rfl) fp_Sa_9 d_Sa_init_9 (hw _ rfl) M1_a rfl rfl (fun M2 M2a0 M2o => ?_)
  have M2_sg : M2 sg = some (.inr (.char, List.replicate 40 (.int 0))) := (M2o sg (Ne.symm (ma_ne2 M1_a M1_sg))).trans M1_sg
  have M2_a : M2 a = some (.inl (8, [.ref sg, .int 0, .null, .null, .int 0, .int 0, .int 0, .int 0])) := M2a0
  refine m_aload_n C d_Sa_init_12 rfl rfl ?_
  refine m_bipush (v := 20) C d_Sa_init_13 (by decide) ?_
  refine m_newaE (N := 20) C d_Sa_init_15 rfl kt_int ac_int (fun _ h => by cases h) (by decide) (by decide) (by decide) (by decide) (by decide) (fun ws M3 M3n M3w M3a0 M3o => ?_)
  have M3_sg : M3 sg = some (.inr (.char, List.replicate 40 (.int 0))) := (M3o sg (ma_nef M2_sg M3n)).trans M2_sg
  have M3_a : M3 a = some (.inl (8, [.ref sg, .int 0, .null, .null, .int 0, .int 0, .int 0, .int 0])) := (M3o a (ma_nef M2_a M3n)).trans M2_a
  have M3_ws : M3 ws = some (.inr (.int, List.replicate 20 (.int 0))) := M3a0
  refine m_putFE C (hI rfl) fp_Sa_15 d_Sa_init_17 (hw _ rfl) M3_a rfl rfl (fun M4 M4a0 M4o => ?_)
  have M4_sg : M4 sg = some (.inr (.char, List.replicate 40 (.int 0))) := (M4o sg (Ne.symm (ma_ne2 M3_a M3_sg))).trans M3_sg
  have M4_ws : M4 ws = some (.inr (.int, List.replicate 20 (.int 0))) := (M4o ws (Ne.symm (ma_ne2 M3_a M3_ws))).trans M3_ws
  have M4_a : M4 a = some (.inl (8, [.ref sg, .int 0, .ref ws, .null, .int 0, .int 0, .int 0, .int 0])) := M4a0
  refine m_aload_n C d_Sa_init_20 rfl rfl ?_
  refine m_bipush (v := 20) C d_Sa_init_21 (by decide) ?_
  refine m_newaE (N := 20) C d_Sa_init_23 rfl kt_int ac_int (fun _ h => by cases h) (by decide) (by decide) (by decide) (by decide) (by decide) (fun wl M5 M5n M5w M5a0 M5o => ?_)
  have M5_sg : M5 sg = some (.inr (.char, List.replicate 40 (.int 0))) := (M5o sg (ma_nef M4_sg M5n)).trans M4_sg
  have M5_ws : M5 ws = some (.inr (.int, List.replicate 20 (.int 0))) := (M5o ws (ma_nef M4_ws M5n)).trans M4_ws
  have M5_a : M5 a = some (.inl (8, [.ref sg, .int 0, .ref ws, .null, .int 0, .int 0, .int 0, .int 0])) := (M5o a (ma_nef M4_a M5n)).trans M4_a
  have M5_wl : M5 wl = some (.inr (.int, List.replicate 20 (.int 0))) := M5a0
  have hne : ws ≠ wl := ma_nef M4_ws M5n
  refine m_putFE C (hI rfl) fp_Sa_19 d_Sa_init_25 (hw _ rfl) M5_a rfl rfl (fun M6 M6a0 M6o => ?_)
  have M6_sg : M6 sg = some (.inr (.char, List.replicate 40 (.int 0))) := (M6o sg (Ne.symm (ma_ne2 M5_a M5_sg))).trans M5_sg
  have M6_ws : M6 ws = some (.inr (.int, List.replicate 20 (.int 0))) := (M6o ws (Ne.symm (ma_ne2 M5_a M5_ws))).trans M5_ws
  have M6_wl : M6 wl = some (.inr (.int, List.replicate 20 (.int 0))) := (M6o wl (Ne.symm (ma_ne2 M5_a M5_wl))).trans M5_wl
  have M6_a : M6 a = some (.inl (8, [.ref sg, .int 0, .ref ws, .ref wl, .int 0, .int 0, .int 0, .int 0])) := M6a0
  have m1 : M ws = none := by rw [← M1o ws (Ne.symm (ma_nef M2_sg (by simpa using M3n))), ← M2o ws (Ne.symm (ma_nef M2_a M3n))]; exact M3n
  have q1 : M4 wl = none := M5n
  have q2 : M2 wl = none := by rw [← M3o wl (Ne.symm hne), ← M4o wl (Ne.symm (ma_nef M4_a q1))]; exact q1
  have m2 : M wl = none := by rw [← M1o wl (Ne.symm (ma_nef M2_sg q2)), ← M2o wl (Ne.symm (ma_nef M2_a q2))]; exact q2
  exact Rt _ _ _ _ _ (by decide) (by decide) d_Sa_init_28 (⟨rfl, sg, ws, wl, M1n, m1, m2, M6_a, by rw [← arrL_rep]; exact M6_sg, by rw [← arrL_rep]; exact M6_ws, by rw [← arrL_rep]; exact M6_wl, hne⟩)

set_option maxHeartbeats 4000000 in
set_option maxRecDepth 100000 in
theorem ct_Sa_hasRoomFor (l : Launch) (D : ma_D) (s0 : State) (a sg ws wl n : Nat) (fs : Nat → Int32) (s : saT) (m : Nat) (hm : m ≤ 8) (hn : n ≤ 40) (M : ma_H) (ha : M a = some (.inl (8, saF sg n ws wl s))) : Ct l D s0 y_Sa_hasRoomFor c_Sa_hasRoomFor 2 (some .boolean) 0 0 0 0 [.ref a, .int (nI m)] M (fun _ => False) (pI (b2i (decide (n + m ≤ 40))) M) := by
  refine Ct_z 0 [some (.ref a), some (.int (nI m))] (by decide +kernel) (Nat.le_of_ble_eq_true rfl) rfl ?_
  intro G e1 e2 e3 C hw Rt
  subst e1; subst e2; subst e3
  refine m_aload_n C d_Sa_hasRoomFor_0 rfl rfl ?_
  refine m_get C fg_Sa_22 d_Sa_hasRoomFor_1 ha rfl ?_
  refine m_iload_n C d_Sa_hasRoomFor_4 rfl rfl ?_
  refine m_iadd C d_Sa_hasRoomFor_5 ?_
  refine m_bipush (v := 40) C d_Sa_hasRoomFor_6 (by decide) ?_
  have e0 : 40 < nI n + nI m ↔ ¬ n + m ≤ 40 := by rw [nI_add, show (40 : Int32) = nI 40 from rfl, nI_ltI (by decide) (by omega)]; omega
  refine m_icmp_gt (tgt := 15) C d_Sa_hasRoomFor_8 (by decide) (fun h9 => ?_) (fun h9 => ?_)
  · refine m_iconst (v := 0) C d_Sa_hasRoomFor_15 (by decide) ?_
    exact Rt _ _ _ _ _ _ (by decide) (by decide) (by decide) d_Sa_hasRoomFor_16 (⟨by rw [e0] at h9; simp [b2i, h9], rfl⟩)
  · refine m_iconst (v := 1) C d_Sa_hasRoomFor_11 (by decide) ?_
    refine m_goto (tgt := 16) C d_Sa_hasRoomFor_12 (by decide) ?_
    exact Rt _ _ _ _ _ _ (by decide) (by decide) (by decide) d_Sa_hasRoomFor_16 (⟨by rw [e0] at h9; simp [b2i, Classical.not_not.mp h9], rfl⟩)

set_option maxHeartbeats 4000000 in
set_option maxRecDepth 100000 in
theorem ct_Sa_clear (l : Launch) (D : ma_D) (s0 : State) (a sg ws wl n : Nat) (fs : Nat → Int32) (s : saT) (M : ma_H) (ha : M a = some (.inl (8, saF sg n ws wl s))) : Ct l D s0 y_Sa_clear c_Sa_clear 1 none 0 0 0 0 [.ref a] M (fun q => q = a) (fun r M' => r = none ∧ M' a = some (.inl (8, saF sg 0 ws wl s)) ∧ ∀ q, q ≠ a → M' q = M q) := by
  refine Ct_v 0 [some (.ref a)] (by decide +kernel) (Nat.le_of_ble_eq_true rfl) rfl ?_
  intro G e1 e2 e3 C hw hI Rt
  subst e1; subst e2; subst e3
  refine m_aload_n C d_Sa_clear_0 rfl rfl ?_
  refine m_iconst (v := 0) C d_Sa_clear_1 (by decide) ?_
  refine m_putE C fp_Sa_22 d_Sa_clear_2 (hw _ rfl) ha rfl rfl (fun M1 M1a0 M1o => ?_)
  have M1_a : M1 a = some (.inl (8, [.ref sg, .int 0, .ref ws, .ref wl, .int (nI s.1), .int (nI s.2.1), .int (nI s.2.2.1), .int s.2.2.2.1])) := M1a0
  exact Rt _ _ _ _ _ (by decide) (by decide) d_Sa_clear_5 (⟨rfl, M1_a, M1o⟩)

set_option maxHeartbeats 4000000 in
set_option maxRecDepth 100000 in
theorem ct_Sa_append (l : Launch) (D : ma_D) (s0 : State) (a sg ws wl n : Nat) (fs : Nat → Int32) (s : saT) (p : Int64) (m : Nat) (hm : m ≤ 8) (M : ma_H) (h1 : M a = some (.inl (8, saF sg n ws wl s))) (h2 : M sg = some (.inr (.char, arrL 40 fs))) (hl : n + m ≤ 40) : Ct l D s0 y_Sa_append c_Sa_append 5 none 1 0 0 23 [.ref a, .long p, .int (nI m)] M (fun q => q = a ∨ q = sg) (fun r M' => r = none ∧ M' a = some (.inl (8, saF sg (n + m) ws wl s)) ∧ M' sg = some (.inr (.char, arrL 40 (fa fs n p m m)))) := by
  refine Ct_v 1 [some (.ref a), some (.long p), none, some (.int (nI m)), none] (by decide +kernel) (Nat.le_of_ble_eq_true rfl) rfl ?_
  intro G e1 e2 e3 C hw hI Rt
  subst e1; subst e2; subst e3
  refine m_iconst (v := 0) C d_Sa_append_0 (by decide) ?_
  refine m_istore (L' := [some (.ref a), some (.long p), none, some (.int (nI m)), some (.int 0)]) C d_Sa_append_1 (by decide) rfl ?_
  have loop : ∀ (r : Nat) (M2 : ma_H) (i : Nat), m - i = r → i ≤ m → M2 a = some (.inl (8, saF sg (n + i) ws wl s)) → M2 sg = some (.inr (.char, arrL 40 (fa fs n p m i))) → mj G 5 0 0 M2 3 [some (.ref a), some (.long p), none, some (.int (nI m)), some (.int (nI i))] [] := by
    intro r
    induction r using Nat.strongRecOn with
    | ind r ih =>
      intro M2 i hr hi k1 k2
      refine m_iload C d_Sa_append_3 rfl ?_
      refine m_iload_n C d_Sa_append_5 rfl rfl ?_
      have e1 : nI m ≤ nI i ↔ m ≤ i := nI_leI (by omega) (by omega)
      refine m_icmp_ge (tgt := 50) C d_Sa_append_6 (by decide) (fun h9 => ?_) (fun h9 => ?_)
      · rw [e1] at h9
        obtain rfl : i = m := by omega
        exact Rt _ _ _ _ _ (by decide) (by decide) d_Sa_append_50 (⟨rfl, k1, k2⟩)
      · rw [e1] at h9
        refine m_aload_n C d_Sa_append_9 rfl rfl ?_
        refine m_get C fg_Sa_22 d_Sa_append_10 k1 rfl ?_
        refine m_bipush (v := 40) C d_Sa_append_13 (by decide) ?_
        have e2 : ¬ (40 : Int32) ≤ nI (n + i) := by rw [show (40 : Int32) = nI 40 from rfl, nI_leI (by decide) (by omega)]; omega
        refine m_icmp_ge (tgt := 50) C d_Sa_append_15 (by decide) (fun h8 => ?_) (fun h8 => ?_)
        · exact absurd h8 e2
        · refine m_aload_n C d_Sa_append_18 rfl rfl ?_
          refine m_get C fg_Sa_9 d_Sa_append_19 k1 rfl ?_
          refine m_aload_n C d_Sa_append_22 rfl rfl ?_
          refine m_get C fg_Sa_22 d_Sa_append_23 k1 rfl ?_
          refine m_lload_n C d_Sa_append_26 rfl rfl ?_
          refine m_iload_n C d_Sa_append_27 rfl rfl ?_
          refine m_iload C d_Sa_append_28 rfl ?_
          refine m_callS C d_Sa_append_30 mw_Sa_26 mst_AW_signAt (ct_AW_signAt _ _ _ p m i hm (by omega) M2) (fun _ h => h.elim) rfl rfl (Nat.le_of_ble_eq_true rfl) (by decide) (fun v9 M9 hp h5 h6 => ?_)
          obtain ⟨rfl, hM9⟩ := hp; rw [hM9]
          show mj G 5 0 0 M2 33 [some (.ref a), some (.long p), none, some (.int (nI m)), some (.int (nI i))] [.int (sgn p m i), .int (nI (n + i)), .ref sg]
          obtain ⟨c, hc, hs⟩ := sgn_lt p m i
          refine m_castE C d_Sa_append_33 (hw _ (Or.inr rfl)) k2 kt_char (nI_pos (by omega)) (by rw [nI_clamp (by omega), arrL_len]; omega) (by rw [hs]; exact nar_c (by omega)) (fun M3 M3a9 M3o => ?_)
          have M3a0 : M3 sg = some (.inr (.char, arrL 40 (fu (fa fs n p m i) (n + i) ((sgn p m i))))) := by rw [M3a9, nI_clamp (by omega), arrL_set]
          have M3_a : M3 a = some (.inl (8, [.ref sg, .int (nI (n + i)), .ref ws, .ref wl, .int (nI s.1), .int (nI s.2.1), .int (nI s.2.2.1), .int s.2.2.2.1])) := (M3o a (ma_ne2 k1 k2)).trans k1
          have M3_sg : M3 sg = some (.inr (.char, arrL 40 (fu (fa fs n p m i) (n + i) ((sgn p m i))))) := M3a0
          refine m_aload_n C d_Sa_append_34 rfl rfl ?_
          refine m_dup C d_Sa_append_35 rfl ?_
          refine m_get C fg_Sa_22 d_Sa_append_36 M3_a rfl ?_
          refine m_iconst (v := 1) C d_Sa_append_39 (by decide) ?_
          refine m_iadd C d_Sa_append_40 ?_
          rw [nI_1]
          refine m_putE C fp_Sa_22 d_Sa_append_41 (hw _ (Or.inl rfl)) M3_a rfl rfl (fun M4 M4a0 M4o => ?_)
          have M4_sg : M4 sg = some (.inr (.char, arrL 40 (fu (fa fs n p m i) (n + i) ((sgn p m i))))) := (M4o sg (Ne.symm (ma_ne2 M3_a M3_sg))).trans M3_sg
          have M4_a : M4 a = some (.inl (8, [.ref sg, .int (nI (n + i + 1)), .ref ws, .ref wl, .int (nI s.1), .int (nI s.2.1), .int (nI s.2.2.1), .int s.2.2.2.1])) := M4a0
          refine m_iinc (v := (nI (i + 1))) (L' := [some (.ref a), some (.long p), none, some (.int (nI m)), some (.int (nI (i + 1)))]) C d_Sa_append_44 rfl (nI_1 i) (by decide) rfl ?_
          refine m_goto (tgt := 3) C d_Sa_append_47 (by decide) ?_
          exact ih (m - (i + 1)) (by omega) M4 (i + 1) rfl (by omega) M4_a (by rw [← fa_s]; exact M4_sg)
  exact loop _ M 0 rfl (Nat.zero_le _) h1 (by rw [fa_0]; exact h2)

set_option maxHeartbeats 4000000 in
set_option maxRecDepth 100000 in
theorem ct_Sa_takeLetter (l : Launch) (D : ma_D) (s0 : State) (a sg ws wl n : Nat) (fs : Nat → Int32) (s : saT) (i : Nat) (hi : i < 40) (M : ma_H) (ha : rSa M a sg ws wl n fs s) (hwc : s.1 ≤ 20) : Ct l D s0 y_Sa_takeLetter c_Sa_takeLetter 3 none 1 0 0 20 [.ref a, .int (nI i)] M (fun q => q = a ∨ q = ws ∨ q = wl) (fun r M' => r = none ∧ rSa M' a sg ws wl n fs (sa_L2 (sa_L1 fs i s))) := by
  refine Ct_v 1 [some (.ref a), some (.int (nI i)), none] (by decide +kernel) (Nat.le_of_ble_eq_true rfl) rfl ?_
  intro G e1 e2 e3 C hw hI Rt
  subst e1; subst e2; subst e3
  obtain ⟨h1, h2, h3, h4, hne⟩ := ha
  have tail : ∀ (M2 : ma_H) (s2 : saT), s2.1 ≤ 20 → rSa M2 a sg ws wl n fs s2 → s2 = sa_L1 fs i s → mj G 3 0 0 M2 67 [some (.ref a), some (.int (nI i)), none] [] := by
    rintro M2 s2 hw2 ⟨g1, g2, g3, g4, -⟩ hs2
    refine m_aload_n C d_Sa_takeLetter_67 rfl rfl ?_
    refine m_get C fg_Sa_30 d_Sa_takeLetter_68 g1 rfl ?_
    have e0 : nI s2.1 ≤ 0 ↔ ¬ 0 < s2.1 := by rw [show (0 : Int32) = nI 0 from rfl, nI_leI (by omega) (by decide)]; omega
    refine m_if_le (tgt := 89) C d_Sa_takeLetter_71 (by decide) (fun h9 => ?_) (fun h9 => ?_)
    · exact Rt _ _ _ _ _ (by decide) (by decide) d_Sa_takeLetter_89 (⟨rfl, by rw [← hs2, sa_L2, if_neg (e0.mp h9)]; exact ⟨g1, g2, g3, g4, hne⟩⟩)
    · rw [e0, Classical.not_not] at h9
      refine m_aload_n C d_Sa_takeLetter_74 rfl rfl ?_
      refine m_get C fg_Sa_19 d_Sa_takeLetter_75 g1 rfl ?_
      refine m_aload_n C d_Sa_takeLetter_78 rfl rfl ?_
      refine m_get C fg_Sa_30 d_Sa_takeLetter_79 g1 rfl ?_
      refine m_iconst (v := 1) C d_Sa_takeLetter_82 (by decide) ?_
      refine m_isub C d_Sa_takeLetter_83 ?_
      rw [nI_sub1 h9]
      refine m_dup2 C d_Sa_takeLetter_84 rfl rfl ?_
      refine m_iald (v := .int (s2.2.2.2.2.2 (s2.1 - 1))) C d_Sa_takeLetter_85 g4 kt_int (nI_pos (by omega)) (by rw [nI_clamp (by omega)]; exact arrL_get (by omega)) ?_
      refine m_iconst (v := 1) C d_Sa_takeLetter_86 (by decide) ?_
      refine m_iadd C d_Sa_takeLetter_87 ?_
      refine m_iastE C d_Sa_takeLetter_88 (hw _ (Or.inr (Or.inr rfl))) g4 kt_int (nI_pos (by omega)) (by rw [nI_clamp (by omega), arrL_len]; omega) (fun M3 M3a9 M3o => ?_)
      have M3a0 : M3 wl = some (.inr (.int, arrL 20 (fu s2.2.2.2.2.2 (s2.1 - 1) ((((s2.2.2.2.2.2 (s2.1 - 1))) + 1))))) := by rw [M3a9, nI_clamp (by omega), arrL_set]
      have M3_a : M3 a = some (.inl (8, [.ref sg, .int (nI n), .ref ws, .ref wl, .int (nI s2.1), .int (nI s2.2.1), .int (nI s2.2.2.1), .int s2.2.2.2.1])) := (M3o a (ma_ne2 g1 g4)).trans g1
      have M3_sg : M3 sg = some (.inr (.char, arrL 40 fs)) := (M3o sg (ma_ne3 g2 g4 (by decide +kernel))).trans g2
      have M3_ws : M3 ws = some (.inr (.int, arrL 20 s2.2.2.2.2.1)) := (M3o ws hne).trans g3
      have M3_wl : M3 wl = some (.inr (.int, arrL 20 (fu s2.2.2.2.2.2 (s2.1 - 1) ((((s2.2.2.2.2.2 (s2.1 - 1))) + 1))))) := M3a0
      exact Rt _ _ _ _ _ (by decide) (by decide) d_Sa_takeLetter_89 (⟨rfl, by rw [← hs2, sa_L2, if_pos h9]; exact ⟨M3_a, M3_sg, M3_ws, M3_wl, hne⟩⟩)
  have mid : ∀ x : Int32, x = b2i (sa_st is_l fs i) → mj G 3 0 0 M 24 [some (.ref a), some (.int (nI i)), some (.int x)] [] := by
    intro x hx
    refine m_iload_n C d_Sa_takeLetter_24 rfl rfl ?_
    refine m_if_eq (tgt := 67) C d_Sa_takeLetter_25 (by decide) (fun h9 => ?_) (fun h9 => ?_)
    · refine mj_L (L' := [some (.ref a), some (.int (nI i)), none]) (fun q v hv => by rcases q with _ | _ | _ | q <;> simp_all) (tail M s hwc ⟨h1, h2, h3, h4, hne⟩ ?_)
      rw [hx, b2i_eq0] at h9; rw [sa_L1, if_neg (by rw [h9]; simp)]
    · rw [hx, b2i_eq0, Bool.not_eq_false] at h9
      refine m_aload_n C d_Sa_takeLetter_28 rfl rfl ?_
      refine m_get C fg_Sa_30 d_Sa_takeLetter_29 h1 rfl ?_
      refine m_bipush (v := 20) C d_Sa_takeLetter_32 (by decide) ?_
      have e0 : (20 : Int32) ≤ nI s.1 ↔ ¬ s.1 < 20 := by rw [show (20 : Int32) = nI 20 from rfl, nI_leI (by decide) (by omega)]; omega
      refine m_icmp_ge (tgt := 67) C d_Sa_takeLetter_34 (by decide) (fun h8 => ?_) (fun h8 => ?_)
      · refine mj_L (L' := [some (.ref a), some (.int (nI i)), none]) (fun q v hv => by rcases q with _ | _ | _ | q <;> simp_all) (tail M s hwc ⟨h1, h2, h3, h4, hne⟩ ?_)
        rw [sa_L1, if_neg (fun z => e0.mp h8 z.2)]
      · rw [e0, Classical.not_not] at h8
        refine m_aload_n C d_Sa_takeLetter_37 rfl rfl ?_
        refine m_get C fg_Sa_15 d_Sa_takeLetter_38 h1 rfl ?_
        refine m_aload_n C d_Sa_takeLetter_41 rfl rfl ?_
        refine m_get C fg_Sa_30 d_Sa_takeLetter_42 h1 rfl ?_
        refine m_iload_n C d_Sa_takeLetter_45 rfl rfl ?_
        refine m_iastE C d_Sa_takeLetter_46 (hw _ (Or.inr (Or.inl rfl))) h3 kt_int (nI_pos (by omega)) (by rw [nI_clamp (by omega), arrL_len]; omega) (fun M1 M1a9 M1o => ?_)
        have M1a0 : M1 ws = some (.inr (.int, arrL 20 (fu s.2.2.2.2.1 s.1 ((nI i))))) := by rw [M1a9, nI_clamp (by omega), arrL_set]
        have M1_a : M1 a = some (.inl (8, [.ref sg, .int (nI n), .ref ws, .ref wl, .int (nI s.1), .int (nI s.2.1), .int (nI s.2.2.1), .int s.2.2.2.1])) := (M1o a (ma_ne2 h1 h3)).trans h1
        have M1_sg : M1 sg = some (.inr (.char, arrL 40 fs)) := (M1o sg (ma_ne3 h2 h3 (by decide +kernel))).trans h2
        have M1_wl : M1 wl = some (.inr (.int, arrL 20 s.2.2.2.2.2)) := (M1o wl (Ne.symm (hne))).trans h4
        have M1_ws : M1 ws = some (.inr (.int, arrL 20 (fu s.2.2.2.2.1 s.1 ((nI i))))) := M1a0
        refine m_aload_n C d_Sa_takeLetter_47 rfl rfl ?_
        refine m_get C fg_Sa_19 d_Sa_takeLetter_48 M1_a rfl ?_
        refine m_aload_n C d_Sa_takeLetter_51 rfl rfl ?_
        refine m_get C fg_Sa_30 d_Sa_takeLetter_52 M1_a rfl ?_
        refine m_iconst (v := 0) C d_Sa_takeLetter_55 (by decide) ?_
        refine m_iastE C d_Sa_takeLetter_56 (hw _ (Or.inr (Or.inr rfl))) M1_wl kt_int (nI_pos (by omega)) (by rw [nI_clamp (by omega), arrL_len]; omega) (fun M2 M2a9 M2o => ?_)
        have M2a0 : M2 wl = some (.inr (.int, arrL 20 (fu s.2.2.2.2.2 s.1 (0)))) := by rw [M2a9, nI_clamp (by omega), arrL_set]
        have M2_a : M2 a = some (.inl (8, [.ref sg, .int (nI n), .ref ws, .ref wl, .int (nI s.1), .int (nI s.2.1), .int (nI s.2.2.1), .int s.2.2.2.1])) := (M2o a (ma_ne2 M1_a M1_wl)).trans M1_a
        have M2_sg : M2 sg = some (.inr (.char, arrL 40 fs)) := (M2o sg (ma_ne3 M1_sg M1_wl (by decide +kernel))).trans M1_sg
        have M2_ws : M2 ws = some (.inr (.int, arrL 20 (fu s.2.2.2.2.1 s.1 ((nI i))))) := (M2o ws hne).trans M1_ws
        have M2_wl : M2 wl = some (.inr (.int, arrL 20 (fu s.2.2.2.2.2 s.1 (0)))) := M2a0
        refine m_aload_n C d_Sa_takeLetter_57 rfl rfl ?_
        refine m_dup C d_Sa_takeLetter_58 rfl ?_
        refine m_get C fg_Sa_30 d_Sa_takeLetter_59 M2_a rfl ?_
        refine m_iconst (v := 1) C d_Sa_takeLetter_62 (by decide) ?_
        refine m_iadd C d_Sa_takeLetter_63 ?_
        rw [nI_1]
        refine m_putE C fp_Sa_30 d_Sa_takeLetter_64 (hw _ (Or.inl rfl)) M2_a rfl rfl (fun M3 M3a0 M3o => ?_)
        have M3_sg : M3 sg = some (.inr (.char, arrL 40 fs)) := (M3o sg (Ne.symm (ma_ne2 M2_a M2_sg))).trans M2_sg
        have M3_ws : M3 ws = some (.inr (.int, arrL 20 (fu s.2.2.2.2.1 s.1 ((nI i))))) := (M3o ws (Ne.symm (ma_ne2 M2_a M2_ws))).trans M2_ws
        have M3_wl : M3 wl = some (.inr (.int, arrL 20 (fu s.2.2.2.2.2 s.1 (0)))) := (M3o wl (Ne.symm (ma_ne2 M2_a M2_wl))).trans M2_wl
        have M3_a : M3 a = some (.inl (8, [.ref sg, .int (nI n), .ref ws, .ref wl, .int (nI (s.1 + 1)), .int (nI s.2.1), .int (nI s.2.2.1), .int s.2.2.2.1])) := M3a0
        refine mj_L (L' := [some (.ref a), some (.int (nI i)), none]) (fun q v hv => by rcases q with _ | _ | _ | q <;> simp_all) (tail M3 (s.1 + 1, s.2.1, s.2.2.1, s.2.2.2.1, fu s.2.2.2.2.1 s.1 (nI i), fu s.2.2.2.2.2 s.1 0) h8 ⟨M3_a, M3_sg, M3_ws, M3_wl, hne⟩ ?_)
        rw [sa_L1, if_pos ⟨h9, h8⟩]
  refine m_iload_n C d_Sa_takeLetter_0 rfl rfl ?_
  have ei : nI i = 0 ↔ i = 0 := nI_eq (a := i) (b := 0) (by omega) (by decide)
  refine m_if_eq (tgt := 18) C d_Sa_takeLetter_1 (by decide) (fun h9 => ?_) (fun h9 => ?_)
  · refine m_iconst (v := 1) C d_Sa_takeLetter_18 (by decide) ?_
    refine m_goto (tgt := 23) C d_Sa_takeLetter_19 (by decide) ?_
    refine m_istore_n (L' := [some (.ref a), some (.int (nI i)), some (.int 1)]) C d_Sa_takeLetter_23 rfl (by decide) rfl ?_
    exact mid 1 (by rw [ei] at h9; simp [sa_st, h9, b2i])
  · rw [ei] at h9
    refine m_aload_n C d_Sa_takeLetter_4 rfl rfl ?_
    refine m_get C fg_Sa_9 d_Sa_takeLetter_5 h1 rfl ?_
    refine m_iload_n C d_Sa_takeLetter_8 rfl rfl ?_
    refine m_iconst (v := 1) C d_Sa_takeLetter_9 (by decide) ?_
    refine m_isub C d_Sa_takeLetter_10 ?_
    rw [nI_sub1 (by omega)]
    refine m_cald (v := .int (fs (i - 1))) C d_Sa_takeLetter_11 h2 kt_char (nI_pos (by omega)) (by rw [nI_clamp (by omega)]; exact arrL_get (by omega)) ?_
    refine m_callS C d_Sa_takeLetter_12 mw_Sa_42 mst_AW_isLetter (ct_AW_isLetter _ _ _ (fs (i - 1)) M) (fun _ h => h.elim) rfl rfl (Nat.le_of_ble_eq_true rfl) (by decide) (fun v9 M9 hp h5 h6 => ?_)
    obtain ⟨rfl, hM9⟩ := hp; rw [hM9]
    show mj G 3 0 0 M 15 [some (.ref a), some (.int (nI i)), none] [.int (b2i (is_l (fs (i - 1))))]
    refine m_if_ne (tgt := 22) C d_Sa_takeLetter_15 (by decide) (fun h8 => ?_) (fun h8 => ?_)
    · refine m_iconst (v := 0) C d_Sa_takeLetter_22 (by decide) ?_
      refine m_istore_n (L' := [some (.ref a), some (.int (nI i)), some (.int 0)]) C d_Sa_takeLetter_23 rfl (by decide) rfl ?_
      exact mid 0 (by rw [b2i_eq0, Bool.not_eq_false] at h8; simp [sa_st, h9, h8, b2i])
    · refine m_iconst (v := 1) C d_Sa_takeLetter_18 (by decide) ?_
      refine m_goto (tgt := 23) C d_Sa_takeLetter_19 (by decide) ?_
      refine m_istore_n (L' := [some (.ref a), some (.int (nI i)), some (.int 1)]) C d_Sa_takeLetter_23 rfl (by decide) rfl ?_
      exact mid 1 (by rw [b2i_eq0] at h8; simp [sa_st, h9, h8, b2i])

set_option maxHeartbeats 4000000 in
set_option maxRecDepth 100000 in
theorem ct_Sa_takeDigit (l : Launch) (D : ma_D) (s0 : State) (a sg ws wl n : Nat) (fs : Nat → Int32) (s : saT) (i : Nat) (hi : i < 40) (M : ma_H) (ha : rSa M a sg ws wl n fs s) (hnc : s.2.1 ≤ 40) (hdc : s.2.2.1 ≤ 40) : Ct l D s0 y_Sa_takeDigit c_Sa_takeDigit 2 none 1 0 0 20 [.ref a, .int (nI i)] M (fun q => q = a) (fun r M' => r = none ∧ rSa M' a sg ws wl n fs (sa_D2 (fs i) (sa_D1 fs i s))) := by
  refine Ct_v 0 [some (.ref a), some (.int (nI i))] (by decide +kernel) (Nat.le_of_ble_eq_true rfl) rfl ?_
  intro G e1 e2 e3 C hw hI Rt
  subst e1; subst e2; subst e3
  obtain ⟨h1, h2, h3, h4, hne⟩ := ha
  have tail : ∀ (M2 : ma_H) (s2 : saT), s2.2.1 ≤ 41 → s2.2.2.1 ≤ 40 → rSa M2 a sg ws wl n fs s2 → s2 = sa_D1 fs i s → mj G 2 0 0 M2 28 [some (.ref a), some (.int (nI i))] [] := by
    rintro M2 s2 hw2 hw3 ⟨g1, g2, g3, g4, -⟩ hs2
    refine m_aload_n C d_Sa_takeDigit_28 rfl rfl ?_
    refine m_get C fg_Sa_33 d_Sa_takeDigit_29 g1 rfl ?_
    refine m_iconst (v := 1) C d_Sa_takeDigit_32 (by decide) ?_
    have e0 : nI s2.2.1 = 1 ↔ s2.2.1 = 1 := nI_eq (b := 1) (by omega) (by decide)
    refine m_icmp_ne (tgt := 81) C d_Sa_takeDigit_33 (by decide) (fun h9 => ?_) (fun h9 => ?_)
    · exact Rt _ _ _ _ _ (by decide) (by decide) d_Sa_takeDigit_81 (⟨rfl, by rw [← hs2, sa_D2, if_neg (fun z => h9 (e0.mpr z))]; exact ⟨g1, g2, g3, g4, hne⟩⟩)
    · rw [e0] at h9
      refine m_aload_n C d_Sa_takeDigit_36 rfl rfl ?_
      refine m_dup C d_Sa_takeDigit_37 rfl ?_
      refine m_get C fg_Sa_36 d_Sa_takeDigit_38 g1 rfl ?_
      refine m_iconst (v := 1) C d_Sa_takeDigit_41 (by decide) ?_
      refine m_iadd C d_Sa_takeDigit_42 ?_
      rw [nI_1]
      refine m_putE C fp_Sa_36 d_Sa_takeDigit_43 (hw _ rfl) g1 rfl rfl (fun M3 M3a0 M3o => ?_)
      have M3_sg : M3 sg = some (.inr (.char, arrL 40 fs)) := (M3o sg (Ne.symm (ma_ne2 g1 g2))).trans g2
      have M3_ws : M3 ws = some (.inr (.int, arrL 20 s2.2.2.2.2.1)) := (M3o ws (Ne.symm (ma_ne2 g1 g3))).trans g3
      have M3_wl : M3 wl = some (.inr (.int, arrL 20 s2.2.2.2.2.2)) := (M3o wl (Ne.symm (ma_ne2 g1 g4))).trans g4
      have M3_a : M3 a = some (.inl (8, [.ref sg, .int (nI n), .ref ws, .ref wl, .int (nI s2.1), .int (nI s2.2.1), .int (nI (s2.2.2.1 + 1)), .int s2.2.2.2.1])) := M3a0
      refine m_aload_n C d_Sa_takeDigit_46 rfl rfl ?_
      refine m_aload_n C d_Sa_takeDigit_47 rfl rfl ?_
      refine m_get C fg_Sa_36 d_Sa_takeDigit_48 M3_a rfl ?_
      refine m_iconst (v := 4) C d_Sa_takeDigit_51 (by decide) ?_
      have e1 : nI (s2.2.2.1 + 1) ≤ 4 ↔ ¬ 4 < s2.2.2.1 + 1 := by rw [show (4 : Int32) = nI 4 from rfl, nI_leI (by omega) (by decide)]; omega
      refine m_icmp_le (tgt := 61) C d_Sa_takeDigit_52 (by decide) (fun h8 => ?_) (fun h8 => ?_)
      · refine m_bipush (v := 10) C d_Sa_takeDigit_61 (by decide) ?_
        refine m_aload_n C d_Sa_takeDigit_63 rfl rfl ?_
        refine m_get C fg_Sa_39 d_Sa_takeDigit_64 M3_a rfl ?_
        refine m_imul C d_Sa_takeDigit_67 ?_
        refine m_aload_n C d_Sa_takeDigit_68 rfl rfl ?_
        refine m_get C fg_Sa_9 d_Sa_takeDigit_69 M3_a rfl ?_
        refine m_iload_n C d_Sa_takeDigit_72 rfl rfl ?_
        refine m_cald (v := .int (fs i)) C d_Sa_takeDigit_73 M3_sg kt_char (nI_pos (by omega)) (by rw [nI_clamp (by omega)]; exact arrL_get (by omega)) ?_
        refine m_bipush (v := 48) C d_Sa_takeDigit_74 (by decide) ?_
        refine m_isub C d_Sa_takeDigit_76 ?_
        refine m_iadd C d_Sa_takeDigit_77 ?_
        refine m_putE C fp_Sa_39 d_Sa_takeDigit_78 (hw _ rfl) M3_a rfl rfl (fun M4 M4a0 M4o => ?_)
        have M4_sg : M4 sg = some (.inr (.char, arrL 40 fs)) := (M4o sg (Ne.symm (ma_ne2 M3_a M3_sg))).trans M3_sg
        have M4_ws : M4 ws = some (.inr (.int, arrL 20 s2.2.2.2.2.1)) := (M4o ws (Ne.symm (ma_ne2 M3_a M3_ws))).trans M3_ws
        have M4_wl : M4 wl = some (.inr (.int, arrL 20 s2.2.2.2.2.2)) := (M4o wl (Ne.symm (ma_ne2 M3_a M3_wl))).trans M3_wl
        have M4_a : M4 a = some (.inl (8, [.ref sg, .int (nI n), .ref ws, .ref wl, .int (nI s2.1), .int (nI s2.2.1), .int (nI (s2.2.2.1 + 1)), .int (((10 * s2.2.2.2.1)) + ((((fs i)) - 48)))])) := M4a0
        exact Rt _ _ _ _ _ (by decide) (by decide) d_Sa_takeDigit_81 (⟨rfl, by rw [← hs2, sa_D2, if_pos h9, if_neg (e1.mp h8)]; exact ⟨M4_a, M4_sg, M4_ws, M4_wl, hne⟩⟩)
      · refine m_sipush (v := 9999) C d_Sa_takeDigit_55 (by decide) ?_
        refine m_goto (tgt := 78) C d_Sa_takeDigit_58 (by decide) ?_
        refine m_putE C fp_Sa_39 d_Sa_takeDigit_78 (hw _ rfl) M3_a rfl rfl (fun M4 M4a0 M4o => ?_)
        have M4_sg : M4 sg = some (.inr (.char, arrL 40 fs)) := (M4o sg (Ne.symm (ma_ne2 M3_a M3_sg))).trans M3_sg
        have M4_ws : M4 ws = some (.inr (.int, arrL 20 s2.2.2.2.2.1)) := (M4o ws (Ne.symm (ma_ne2 M3_a M3_ws))).trans M3_ws
        have M4_wl : M4 wl = some (.inr (.int, arrL 20 s2.2.2.2.2.2)) := (M4o wl (Ne.symm (ma_ne2 M3_a M3_wl))).trans M3_wl
        have M4_a : M4 a = some (.inl (8, [.ref sg, .int (nI n), .ref ws, .ref wl, .int (nI s2.1), .int (nI s2.2.1), .int (nI (s2.2.2.1 + 1)), .int 9999])) := M4a0
        exact Rt _ _ _ _ _ (by decide) (by decide) d_Sa_takeDigit_81 (⟨rfl, by rw [e1, Classical.not_not] at h8; rw [← hs2, sa_D2, if_pos h9, if_pos h8]; exact ⟨M4_a, M4_sg, M4_ws, M4_wl, hne⟩⟩)
  refine m_iload_n C d_Sa_takeDigit_0 rfl rfl ?_
  have ei : nI i = 0 ↔ i = 0 := nI_eq (a := i) (b := 0) (by omega) (by decide)
  refine m_if_eq (tgt := 18) C d_Sa_takeDigit_1 (by decide) (fun h9 => ?_) (fun h9 => ?_)
  · refine m_aload_n C d_Sa_takeDigit_18 rfl rfl ?_
    refine m_dup C d_Sa_takeDigit_19 rfl ?_
    refine m_get C fg_Sa_33 d_Sa_takeDigit_20 h1 rfl ?_
    refine m_iconst (v := 1) C d_Sa_takeDigit_23 (by decide) ?_
    refine m_iadd C d_Sa_takeDigit_24 ?_
    rw [nI_1]
    refine m_putE C fp_Sa_33 d_Sa_takeDigit_25 (hw _ rfl) h1 rfl rfl (fun M1 M1a0 M1o => ?_)
    have M1_sg : M1 sg = some (.inr (.char, arrL 40 fs)) := (M1o sg (Ne.symm (ma_ne2 h1 h2))).trans h2
    have M1_ws : M1 ws = some (.inr (.int, arrL 20 s.2.2.2.2.1)) := (M1o ws (Ne.symm (ma_ne2 h1 h3))).trans h3
    have M1_wl : M1 wl = some (.inr (.int, arrL 20 s.2.2.2.2.2)) := (M1o wl (Ne.symm (ma_ne2 h1 h4))).trans h4
    have M1_a : M1 a = some (.inl (8, [.ref sg, .int (nI n), .ref ws, .ref wl, .int (nI s.1), .int (nI (s.2.1 + 1)), .int (nI s.2.2.1), .int s.2.2.2.1])) := M1a0
    exact tail M1 (s.1, s.2.1 + 1, s.2.2.1, s.2.2.2.1, s.2.2.2.2.1, s.2.2.2.2.2) (Nat.succ_le_succ hnc) hdc ⟨M1_a, M1_sg, M1_ws, M1_wl, hne⟩ (by rw [sa_D1, if_pos (by rw [ei] at h9; simp [sa_st, h9])])
  · rw [ei] at h9
    refine m_aload_n C d_Sa_takeDigit_4 rfl rfl ?_
    refine m_get C fg_Sa_9 d_Sa_takeDigit_5 h1 rfl ?_
    refine m_iload_n C d_Sa_takeDigit_8 rfl rfl ?_
    refine m_iconst (v := 1) C d_Sa_takeDigit_9 (by decide) ?_
    refine m_isub C d_Sa_takeDigit_10 ?_
    rw [nI_sub1 (by omega)]
    refine m_cald (v := .int (fs (i - 1))) C d_Sa_takeDigit_11 h2 kt_char (nI_pos (by omega)) (by rw [nI_clamp (by omega)]; exact arrL_get (by omega)) ?_
    refine m_callS C d_Sa_takeDigit_12 mw_Sa_50 mst_AW_isDigit (ct_AW_isDigit _ _ _ (fs (i - 1)) M) (fun _ h => h.elim) rfl rfl (Nat.le_of_ble_eq_true rfl) (by decide) (fun v9 M9 hp h5 h6 => ?_)
    obtain ⟨rfl, hM9⟩ := hp; rw [hM9]
    show mj G 2 0 0 M 15 [some (.ref a), some (.int (nI i))] [.int (b2i (is_d (fs (i - 1))))]
    refine m_if_ne (tgt := 28) C d_Sa_takeDigit_15 (by decide) (fun h8 => ?_) (fun h8 => ?_)
    · exact tail M s (by omega) hdc ⟨h1, h2, h3, h4, hne⟩ (by rw [b2i_eq0, Bool.not_eq_false] at h8; rw [sa_D1, if_neg (by simp [sa_st, h9, h8])])
    · refine m_aload_n C d_Sa_takeDigit_18 rfl rfl ?_
      refine m_dup C d_Sa_takeDigit_19 rfl ?_
      refine m_get C fg_Sa_33 d_Sa_takeDigit_20 h1 rfl ?_
      refine m_iconst (v := 1) C d_Sa_takeDigit_23 (by decide) ?_
      refine m_iadd C d_Sa_takeDigit_24 ?_
      rw [nI_1]
      refine m_putE C fp_Sa_33 d_Sa_takeDigit_25 (hw _ rfl) h1 rfl rfl (fun M1 M1a0 M1o => ?_)
      have M1_sg : M1 sg = some (.inr (.char, arrL 40 fs)) := (M1o sg (Ne.symm (ma_ne2 h1 h2))).trans h2
      have M1_ws : M1 ws = some (.inr (.int, arrL 20 s.2.2.2.2.1)) := (M1o ws (Ne.symm (ma_ne2 h1 h3))).trans h3
      have M1_wl : M1 wl = some (.inr (.int, arrL 20 s.2.2.2.2.2)) := (M1o wl (Ne.symm (ma_ne2 h1 h4))).trans h4
      have M1_a : M1 a = some (.inl (8, [.ref sg, .int (nI n), .ref ws, .ref wl, .int (nI s.1), .int (nI (s.2.1 + 1)), .int (nI s.2.2.1), .int s.2.2.2.1])) := M1a0
      exact tail M1 (s.1, s.2.1 + 1, s.2.2.1, s.2.2.2.1, s.2.2.2.2.1, s.2.2.2.2.2) (Nat.succ_le_succ hnc) hdc ⟨M1_a, M1_sg, M1_ws, M1_wl, hne⟩ (by rw [sa_D1, if_pos (by rw [b2i_eq0] at h8; simp [sa_st, h9, h8])])

set_option maxHeartbeats 4000000 in
set_option maxRecDepth 100000 in
theorem ct_Sa_lookThrough (l : Launch) (D : ma_D) (s0 : State) (a sg ws wl n : Nat) (fs : Nat → Int32) (s : saT) (M : ma_H) (ha : rSa M a sg ws wl n fs s) (hn : n ≤ 40) : Ct l D s0 y_Sa_lookThrough c_Sa_lookThrough 2 none 2 0 0 42 [.ref a] M (fun q => q = a ∨ q = ws ∨ q = wl) (fun r M' => r = none ∧ rSa M' a sg ws wl n fs (sa_k fs s.2.2.2.2.1 s.2.2.2.2.2 n)) := by
  refine Ct_v 1 [some (.ref a), none] (by decide +kernel) (Nat.le_of_ble_eq_true rfl) rfl ?_
  intro G e1 e2 e3 C hw hI Rt
  subst e1; subst e2; subst e3
  obtain ⟨h1, h2, h3, h4, hne⟩ := ha
  refine m_aload_n C d_Sa_lookThrough_0 rfl rfl ?_
  refine m_iconst (v := 0) C d_Sa_lookThrough_1 (by decide) ?_
  refine m_putE C fp_Sa_30 d_Sa_lookThrough_2 (hw _ (Or.inl rfl)) h1 rfl rfl (fun M1 M1a0 M1o => ?_)
  have M1_sg : M1 sg = some (.inr (.char, arrL 40 fs)) := (M1o sg (Ne.symm (ma_ne2 h1 h2))).trans h2
  have M1_ws : M1 ws = some (.inr (.int, arrL 20 s.2.2.2.2.1)) := (M1o ws (Ne.symm (ma_ne2 h1 h3))).trans h3
  have M1_wl : M1 wl = some (.inr (.int, arrL 20 s.2.2.2.2.2)) := (M1o wl (Ne.symm (ma_ne2 h1 h4))).trans h4
  have M1_a : M1 a = some (.inl (8, [.ref sg, .int (nI n), .ref ws, .ref wl, .int 0, .int (nI s.2.1), .int (nI s.2.2.1), .int s.2.2.2.1])) := M1a0
  refine m_aload_n C d_Sa_lookThrough_5 rfl rfl ?_
  refine m_iconst (v := 0) C d_Sa_lookThrough_6 (by decide) ?_
  refine m_putE C fp_Sa_33 d_Sa_lookThrough_7 (hw _ (Or.inl rfl)) M1_a rfl rfl (fun M2 M2a0 M2o => ?_)
  have M2_sg : M2 sg = some (.inr (.char, arrL 40 fs)) := (M2o sg (Ne.symm (ma_ne2 M1_a M1_sg))).trans M1_sg
  have M2_ws : M2 ws = some (.inr (.int, arrL 20 s.2.2.2.2.1)) := (M2o ws (Ne.symm (ma_ne2 M1_a M1_ws))).trans M1_ws
  have M2_wl : M2 wl = some (.inr (.int, arrL 20 s.2.2.2.2.2)) := (M2o wl (Ne.symm (ma_ne2 M1_a M1_wl))).trans M1_wl
  have M2_a : M2 a = some (.inl (8, [.ref sg, .int (nI n), .ref ws, .ref wl, .int 0, .int 0, .int (nI s.2.2.1), .int s.2.2.2.1])) := M2a0
  refine m_aload_n C d_Sa_lookThrough_10 rfl rfl ?_
  refine m_iconst (v := 0) C d_Sa_lookThrough_11 (by decide) ?_
  refine m_putE C fp_Sa_36 d_Sa_lookThrough_12 (hw _ (Or.inl rfl)) M2_a rfl rfl (fun M3 M3a0 M3o => ?_)
  have M3_sg : M3 sg = some (.inr (.char, arrL 40 fs)) := (M3o sg (Ne.symm (ma_ne2 M2_a M2_sg))).trans M2_sg
  have M3_ws : M3 ws = some (.inr (.int, arrL 20 s.2.2.2.2.1)) := (M3o ws (Ne.symm (ma_ne2 M2_a M2_ws))).trans M2_ws
  have M3_wl : M3 wl = some (.inr (.int, arrL 20 s.2.2.2.2.2)) := (M3o wl (Ne.symm (ma_ne2 M2_a M2_wl))).trans M2_wl
  have M3_a : M3 a = some (.inl (8, [.ref sg, .int (nI n), .ref ws, .ref wl, .int 0, .int 0, .int 0, .int s.2.2.2.1])) := M3a0
  refine m_aload_n C d_Sa_lookThrough_15 rfl rfl ?_
  refine m_iconst (v := 0) C d_Sa_lookThrough_16 (by decide) ?_
  refine m_putE C fp_Sa_39 d_Sa_lookThrough_17 (hw _ (Or.inl rfl)) M3_a rfl rfl (fun M4 M4a0 M4o => ?_)
  have M4_sg : M4 sg = some (.inr (.char, arrL 40 fs)) := (M4o sg (Ne.symm (ma_ne2 M3_a M3_sg))).trans M3_sg
  have M4_ws : M4 ws = some (.inr (.int, arrL 20 s.2.2.2.2.1)) := (M4o ws (Ne.symm (ma_ne2 M3_a M3_ws))).trans M3_ws
  have M4_wl : M4 wl = some (.inr (.int, arrL 20 s.2.2.2.2.2)) := (M4o wl (Ne.symm (ma_ne2 M3_a M3_wl))).trans M3_wl
  have M4_a : M4 a = some (.inl (8, [.ref sg, .int (nI n), .ref ws, .ref wl, .int 0, .int 0, .int 0, .int 0])) := M4a0
  refine m_iconst (v := 0) C d_Sa_lookThrough_20 (by decide) ?_
  refine m_istore_n (L' := [some (.ref a), some (.int 0)]) C d_Sa_lookThrough_21 rfl (by decide) rfl ?_
  have loop : ∀ (r : Nat) (M5 : ma_H) (i : Nat), n - i = r → i ≤ n → rSa M5 a sg ws wl n fs (sa_k fs s.2.2.2.2.1 s.2.2.2.2.2 i) → mj G 2 0 0 M5 22 [some (.ref a), some (.int (nI i))] [] := by
    intro r
    induction r using Nat.strongRecOn with
    | ind r ih =>
      intro M5 i hr hi hS
      have hS9 := hS
      obtain ⟨g1, g2, g3, g4, -⟩ := hS9
      obtain ⟨b1, b2, b3⟩ := sa_b fs s.2.2.2.2.1 s.2.2.2.2.2 i
      refine m_iload_n C d_Sa_lookThrough_22 rfl rfl ?_
      refine m_aload_n C d_Sa_lookThrough_23 rfl rfl ?_
      refine m_get C fg_Sa_22 d_Sa_lookThrough_24 g1 rfl ?_
      have e1 : nI n ≤ nI i ↔ n ≤ i := nI_leI (by omega) (by omega)
      refine m_icmp_ge (tgt := 73) C d_Sa_lookThrough_27 (by decide) (fun h9 => ?_) (fun h9 => ?_)
      · rw [e1] at h9
        obtain rfl : i = n := by omega
        exact Rt _ _ _ _ _ (by decide) (by decide) d_Sa_lookThrough_73 (⟨rfl, hS⟩)
      · rw [e1] at h9
        refine m_aload_n C d_Sa_lookThrough_30 rfl rfl ?_
        refine m_get C fg_Sa_9 d_Sa_lookThrough_31 g1 rfl ?_
        refine m_iload_n C d_Sa_lookThrough_34 rfl rfl ?_
        refine m_cald (v := .int (fs i)) C d_Sa_lookThrough_35 g2 kt_char (nI_pos (by omega)) (by rw [nI_clamp (by omega)]; exact arrL_get (by omega)) ?_
        refine m_callS C d_Sa_lookThrough_36 mw_Sa_42 mst_AW_isLetter (ct_AW_isLetter _ _ _ (fs i) M5) (fun _ h => h.elim) rfl rfl (Nat.le_of_ble_eq_true rfl) (by decide) (fun v9 M9 hp h5 h6 => ?_)
        obtain ⟨rfl, hM9⟩ := hp; rw [hM9]
        show mj G 2 0 0 M5 39 [some (.ref a), some (.int (nI i))] [.int (b2i (is_l (fs i)))]
        refine m_if_eq (tgt := 50) C d_Sa_lookThrough_39 (by decide) (fun h8 => ?_) (fun h8 => ?_)
        · rw [b2i_eq0] at h8
          refine m_aload_n C d_Sa_lookThrough_50 rfl rfl ?_
          refine m_get C fg_Sa_9 d_Sa_lookThrough_51 g1 rfl ?_
          refine m_iload_n C d_Sa_lookThrough_54 rfl rfl ?_
          refine m_cald (v := .int (fs i)) C d_Sa_lookThrough_55 g2 kt_char (nI_pos (by omega)) (by rw [nI_clamp (by omega)]; exact arrL_get (by omega)) ?_
          refine m_callS C d_Sa_lookThrough_56 mw_Sa_50 mst_AW_isDigit (ct_AW_isDigit _ _ _ (fs i) M5) (fun _ h => h.elim) rfl rfl (Nat.le_of_ble_eq_true rfl) (by decide) (fun v9 M9 hp h5 h6 => ?_)
          obtain ⟨rfl, hM9⟩ := hp; rw [hM9]
          show mj G 2 0 0 M5 59 [some (.ref a), some (.int (nI i))] [.int (b2i (is_d (fs i)))]
          refine m_if_eq (tgt := 67) C d_Sa_lookThrough_59 (by decide) (fun h7 => ?_) (fun h7 => ?_)
          · rw [b2i_eq0] at h7
            refine m_iinc (v := (nI (i + 1))) (L' := [some (.ref a), some (.int (nI (i + 1)))]) C d_Sa_lookThrough_67 rfl (nI_1 i) (by decide) rfl ?_
            refine m_goto (tgt := 22) C d_Sa_lookThrough_70 (by decide) ?_
            exact ih (n - (i + 1)) (by omega) M5 (i + 1) rfl (by omega) (by rw [sa_k, if_neg (by rw [h8]; simp), if_neg (by rw [h7]; simp)]; exact hS)
          · rw [b2i_eq0, Bool.not_eq_false] at h7
            refine m_aload_n C d_Sa_lookThrough_62 rfl rfl ?_
            refine m_iload_n C d_Sa_lookThrough_63 rfl rfl ?_
            refine m_callV (ci := 8) C d_Sa_lookThrough_64 mw_Sa_53 mi_Sa_takeDigit se_Sa_takeDigit rfl (ct_Sa_takeDigit _ _ _ a sg ws wl n fs (sa_k fs s.2.2.2.2.1 s.2.2.2.2.2 i) i (by omega) M5 hS (by omega) (by omega)) (fun q h => hw q (Or.inl h)) rfl rfl (Nat.le_of_ble_eq_true rfl) g1 (by decide) (fun v9 M9 hp h5 h6 => ?_)
            obtain ⟨rfl, hT⟩ := hp
            show mj G 2 0 0 M9 67 [some (.ref a), some (.int (nI i))] []
            refine m_iinc (v := (nI (i + 1))) (L' := [some (.ref a), some (.int (nI (i + 1)))]) C d_Sa_lookThrough_67 rfl (nI_1 i) (by decide) rfl ?_
            refine m_goto (tgt := 22) C d_Sa_lookThrough_70 (by decide) ?_
            exact ih (n - (i + 1)) (by omega) M9 (i + 1) rfl (by omega) (by rw [sa_k, if_neg (by rw [h8]; simp), if_pos h7]; exact hT)
        · rw [b2i_eq0, Bool.not_eq_false] at h8
          refine m_aload_n C d_Sa_lookThrough_42 rfl rfl ?_
          refine m_iload_n C d_Sa_lookThrough_43 rfl rfl ?_
          refine m_callV (ci := 8) C d_Sa_lookThrough_44 mw_Sa_46 mi_Sa_takeLetter se_Sa_takeLetter rfl (ct_Sa_takeLetter _ _ _ a sg ws wl n fs (sa_k fs s.2.2.2.2.1 s.2.2.2.2.2 i) i (by omega) M5 hS b1) (fun q h => hw q h) rfl rfl (Nat.le_of_ble_eq_true rfl) g1 (by decide) (fun v9 M9 hp h5 h6 => ?_)
          obtain ⟨rfl, hT⟩ := hp
          show mj G 2 0 0 M9 47 [some (.ref a), some (.int (nI i))] []
          refine m_goto (tgt := 67) C d_Sa_lookThrough_47 (by decide) ?_
          refine m_iinc (v := (nI (i + 1))) (L' := [some (.ref a), some (.int (nI (i + 1)))]) C d_Sa_lookThrough_67 rfl (nI_1 i) (by decide) rfl ?_
          refine m_goto (tgt := 22) C d_Sa_lookThrough_70 (by decide) ?_
          exact ih (n - (i + 1)) (by omega) M9 (i + 1) rfl (by omega) (by rw [sa_k, if_pos h8]; exact hT)
  exact loop _ M4 0 rfl (Nat.zero_le _) ⟨M4_a, M4_sg, M4_ws, M4_wl, hne⟩
