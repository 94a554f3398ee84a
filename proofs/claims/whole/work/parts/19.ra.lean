/-! ===== Ranking ===== -/
def rRa (M : ma_H) (a cd ds k sz : Nat) (fc fd : Nat → Int32) : Prop := M a = some (.inl (7, [.ref cd, .ref ds, .int (nI k), .int (nI sz)])) ∧ M cd = some (.inr (.int, arrL 10 fc)) ∧ M ds = some (.inr (.int, arrL 10 fd)) ∧ cd ≠ ds
def ra_at (d : Int32) (fd : Nat → Int32) : Nat → Nat
  | 0 => 0
  | j + 1 => if d < fd j then ra_at d fd j else j + 1
theorem ra_at_le (d : Int32) (fd : Nat → Int32) : ∀ j, ra_at d fd j ≤ j := by
  intro j
  induction j with
  | zero => exact Nat.le_refl _
  | succ j ih => rw [ra_at]; split <;> omega
/-- f with v put in at the place at, of sz then -/
def ra_in (f : Nat → Int32) (at9 sz : Nat) (v : Int32) : Nat → Int32 := fun j => if j = at9 then v else if at9 < j ∧ j < sz then f (j - 1) else f j
def ra_sh (f : Nat → Int32) (i sz : Nat) : Nat → Int32 := fun j => if i < j ∧ j < sz then f (j - 1) else f j
theorem ra_sh_s (f : Nat → Int32) (i sz : Nat) (h : i + 1 < sz) : fu (ra_sh f (i + 1) sz) (i + 1) (ra_sh f (i + 1) sz i) = ra_sh f i sz := by
  funext j
  show (if j = i + 1 then (if i + 1 < i ∧ i < sz then f (i - 1) else f i) else if i + 1 < j ∧ j < sz then f (j - 1) else f j) = if i < j ∧ j < sz then f (j - 1) else f j
  rw [if_neg (by omega : ¬ (i + 1 < i ∧ i < sz))]
  by_cases h1 : j = i + 1
  · subst h1; rw [if_pos rfl, if_pos ⟨by omega, h⟩]; rfl
  · rw [if_neg h1]
    by_cases h2 : i < j ∧ j < sz
    · rw [if_pos h2, if_pos ⟨by omega, h2.2⟩]
    · rw [if_neg h2, if_neg (by omega)]
theorem ra_sh_t (f : Nat → Int32) (sz : Nat) : ra_sh f (sz - 1) sz = f := by
  funext j; rw [ra_sh, if_neg (by omega)]
theorem ra_sh_in (f : Nat → Int32) (i sz : Nat) (v : Int32) : fu (ra_sh f i sz) i v = ra_in f i sz v := rfl
/-- size, candidates and distances after an offer -/
def ra_of (k : Nat) (c d : Int32) (s : Nat × (Nat → Int32) × (Nat → Int32)) : Nat × (Nat → Int32) × (Nat → Int32) :=
  if k ≤ ra_at d s.2.2 s.1 then s else (if s.1 < k then s.1 + 1 else s.1, ra_in s.2.1 (ra_at d s.2.2 s.1) (if s.1 < k then s.1 + 1 else s.1) c, ra_in s.2.2 (ra_at d s.2.2 s.1) (if s.1 < k then s.1 + 1 else s.1) d)
theorem nI_m1 (j : Nat) : nI (j + 1) + (-1) = nI j := by
  rw [show nI (j + 1) = nI j + 1 from (nI_1 j).symm]; grind

set_option maxHeartbeats 4000000 in
set_option maxRecDepth 100000 in
theorem ct_Ra_init (l : Launch) (D : ma_D) (s0 : State) (a : Nat) (M : ma_H) (ha : M a = some (.inl (7, [.null, .null, .int 0, .int 0]))) : Ct l D s0 y_Ra_init c_Ra_init 1 none 1 2 20 20 [.ref a] M (fun q => q = a) (fun r M' => r = none ∧ ∃ cd ds, M cd = none ∧ M ds = none ∧ rRa M' a cd ds 0 0 (fun _ => 0) (fun _ => 0)) := by
  refine Ct_v 0 [some (.ref a)] (by decide +kernel) (Nat.le_of_ble_eq_true rfl) rfl ?_
  intro G e1 e2 e3 C hw hI Rt
  subst e1; subst e2; subst e3
  refine m_aload_n C d_Ra_init_0 rfl rfl ?_
  refine m_obj C d_Ra_init_1 ml_Ra_3 mi_obj mc_obj (by decide) (Nat.le_of_ble_eq_true rfl) ?_
  refine m_aload_n C d_Ra_init_4 rfl rfl ?_
  refine m_bipush (v := 10) C d_Ra_init_5 (by decide) ?_
  refine m_newaE (N := 10) C d_Ra_init_7 rfl kt_int ac_int (fun _ h => by cases h) (by decide) (by decide) (by decide) (by decide) (by decide) (fun cd M1 M1n M1w M1a0 M1o => ?_)
  have M1_a : M1 a = some (.inl (7, [.null, .null, .int 0, .int 0])) := (M1o a (ma_nef ha M1n)).trans ha
  have M1_cd : M1 cd = some (.inr (.int, List.replicate 10 (.int 0))) := M1a0
  refine m_putFE C (hI rfl) fp_Ra_9 d_Ra_init_9 (hw _ rfl) M1_a rfl rfl (fun M2 M2a0 M2o => ?_)
  have M2_cd : M2 cd = some (.inr (.int, List.replicate 10 (.int 0))) := (M2o cd (Ne.symm (ma_ne2 M1_a M1_cd))).trans M1_cd
  have M2_a : M2 a = some (.inl (7, [.ref cd, .null, .int 0, .int 0])) := M2a0
  refine m_aload_n C d_Ra_init_12 rfl rfl ?_
  refine m_bipush (v := 10) C d_Ra_init_13 (by decide) ?_
  refine m_newaE (N := 10) C d_Ra_init_15 rfl kt_int ac_int (fun _ h => by cases h) (by decide) (by decide) (by decide) (by decide) (by decide) (fun ds M3 M3n M3w M3a0 M3o => ?_)
  have M3_cd : M3 cd = some (.inr (.int, List.replicate 10 (.int 0))) := (M3o cd (ma_nef M2_cd M3n)).trans M2_cd
  have M3_a : M3 a = some (.inl (7, [.ref cd, .null, .int 0, .int 0])) := (M3o a (ma_nef M2_a M3n)).trans M2_a
  have M3_ds : M3 ds = some (.inr (.int, List.replicate 10 (.int 0))) := M3a0
  have hne : cd ≠ ds := ma_nef M2_cd M3n
  refine m_putFE C (hI rfl) fp_Ra_15 d_Ra_init_17 (hw _ rfl) M3_a rfl rfl (fun M4 M4a0 M4o => ?_)
  have M4_cd : M4 cd = some (.inr (.int, List.replicate 10 (.int 0))) := (M4o cd (Ne.symm (ma_ne2 M3_a M3_cd))).trans M3_cd
  have M4_ds : M4 ds = some (.inr (.int, List.replicate 10 (.int 0))) := (M4o ds (Ne.symm (ma_ne2 M3_a M3_ds))).trans M3_ds
  have M4_a : M4 a = some (.inl (7, [.ref cd, .ref ds, .int 0, .int 0])) := M4a0
  have m1 : M ds = none := by rw [← M1o ds (Ne.symm hne), ← M2o ds (Ne.symm (ma_nef M2_a M3n))]; exact M3n
  exact Rt _ _ _ _ _ (by decide) (by decide) d_Ra_init_20 (⟨rfl, cd, ds, M1n, m1, M4_a, by rw [← arrL_rep]; exact M4_cd, by rw [← arrL_rep]; exact M4_ds, hne⟩)

set_option maxHeartbeats 4000000 in
set_option maxRecDepth 100000 in
theorem ct_Ra_begin (l : Launch) (D : ma_D) (s0 : State) (a cd ds k sz : Nat) (fc fd : Nat → Int32) (m : Nat) (M : ma_H) (ha : rRa M a cd ds k sz fc fd) : Ct l D s0 y_Ra_begin c_Ra_begin 2 none 0 0 0 0 [.ref a, .int (nI m)] M (fun q => q = a) (fun r M' => r = none ∧ rRa M' a cd ds m 0 fc fd) := by
  refine Ct_v 0 [some (.ref a), some (.int (nI m))] (by decide +kernel) (Nat.le_of_ble_eq_true rfl) rfl ?_
  intro G e1 e2 e3 C hw hI Rt
  subst e1; subst e2; subst e3
  obtain ⟨h1, h2, h3, hne⟩ := ha
  refine m_aload_n C d_Ra_begin_0 rfl rfl ?_
  refine m_iload_n C d_Ra_begin_1 rfl rfl ?_
  refine m_putE C fp_Ra_18 d_Ra_begin_2 (hw _ rfl) h1 rfl rfl (fun M1 M1a0 M1o => ?_)
  have M1_cd : M1 cd = some (.inr (.int, arrL 10 fc)) := (M1o cd (Ne.symm (ma_ne2 h1 h2))).trans h2
  have M1_ds : M1 ds = some (.inr (.int, arrL 10 fd)) := (M1o ds (Ne.symm (ma_ne2 h1 h3))).trans h3
  have M1_a : M1 a = some (.inl (7, [.ref cd, .ref ds, .int (nI m), .int (nI sz)])) := M1a0
  refine m_aload_n C d_Ra_begin_5 rfl rfl ?_
  refine m_iconst (v := 0) C d_Ra_begin_6 (by decide) ?_
  refine m_putE C fp_Ra_22 d_Ra_begin_7 (hw _ rfl) M1_a rfl rfl (fun M2 M2a0 M2o => ?_)
  have M2_cd : M2 cd = some (.inr (.int, arrL 10 fc)) := (M2o cd (Ne.symm (ma_ne2 M1_a M1_cd))).trans M1_cd
  have M2_ds : M2 ds = some (.inr (.int, arrL 10 fd)) := (M2o ds (Ne.symm (ma_ne2 M1_a M1_ds))).trans M1_ds
  have M2_a : M2 a = some (.inl (7, [.ref cd, .ref ds, .int (nI m), .int 0])) := M2a0
  exact Rt _ _ _ _ _ (by decide) (by decide) d_Ra_begin_10 (⟨rfl, M2_a, M2_cd, M2_ds, hne⟩)

set_option maxHeartbeats 4000000 in
set_option maxRecDepth 100000 in
theorem ct_Ra_offer (l : Launch) (D : ma_D) (s0 : State) (a cd ds k sz : Nat) (fc fd : Nat → Int32) (c d : Int32) (M : ma_H) (ha : rRa M a cd ds k sz fc fd) (hk : k ≤ 10) (hz : sz ≤ k) : Ct l D s0 y_Ra_offer c_Ra_offer 5 none 0 0 0 0 [.ref a, .int c, .int d] M (fun q => q = a ∨ q = cd ∨ q = ds) (fun r M' => r = none ∧ rRa M' a cd ds k (ra_of k c d (sz, fc, fd)).1 (ra_of k c d (sz, fc, fd)).2.1 (ra_of k c d (sz, fc, fd)).2.2) := by
  refine Ct_v 2 [some (.ref a), some (.int c), some (.int d), none, none] (by decide +kernel) (Nat.le_of_ble_eq_true rfl) rfl ?_
  intro G e1 e2 e3 C hw hI Rt
  subst e1; subst e2; subst e3
  obtain ⟨h1, h2, h3, hne⟩ := ha
  have hle := ra_at_le d fd sz
  have loop2 : ∀ (rk : Nat) (M2 : ma_H) (s2 : Nat) (i : Nat), i = rk → s2 = (if sz < k then sz + 1 else sz) → ra_at d fd sz < k → ra_at d fd sz ≤ i → i < s2 → M2 a = some (.inl (7, [.ref cd, .ref ds, .int (nI k), .int (nI s2)])) → M2 cd = some (.inr (.int, arrL 10 (ra_sh fc i s2))) → M2 ds = some (.inr (.int, arrL 10 (ra_sh fd i s2))) → mj G 5 0 0 M2 65 [some (.ref a), some (.int c), some (.int d), some (.int (nI (ra_at d fd sz))), some (.int (nI i))] [] := by
    intro rk
    induction rk using Nat.strongRecOn with
    | ind rk ih =>
      intro M2 s2 i hr hs2 hat h0 hi g1 g2 g3
      have hs10 : s2 ≤ 10 := by rw [hs2]; split <;> omega
      refine m_iload C d_Ra_offer_65 rfl ?_
      refine m_iload_n C d_Ra_offer_67 rfl rfl ?_
      have e1 : nI i ≤ nI (ra_at d fd sz) ↔ i ≤ (ra_at d fd sz) := nI_leI (by omega) (by omega)
      refine m_icmp_le (tgt := 109) C d_Ra_offer_68 (by decide) (fun h9 => ?_) (fun h9 => ?_)
      · rw [e1] at h9
        have hia : i = (ra_at d fd sz) := by omega
        refine m_aload_n C d_Ra_offer_109 rfl rfl ?_
        refine m_get C fg_Ra_9 d_Ra_offer_110 g1 rfl ?_
        refine m_iload_n C d_Ra_offer_113 rfl rfl ?_
        refine m_iload_n C d_Ra_offer_114 rfl rfl ?_
        refine m_iastE C d_Ra_offer_115 (hw _ (Or.inr (Or.inl rfl))) g2 kt_int (nI_pos (by omega)) (by rw [nI_clamp (by omega), arrL_len]; omega) (fun M3 M3a9 M3o => ?_)
        have M3a0 : M3 cd = some (.inr (.int, arrL 10 (fu (ra_sh fc i s2) ((ra_at d fd sz)) (c)))) := by rw [M3a9, nI_clamp (by omega), arrL_set]
        have M3_a : M3 a = some (.inl (7, [.ref cd, .ref ds, .int (nI k), .int (nI s2)])) := (M3o a (ma_ne2 g1 g2)).trans g1
        have M3_ds : M3 ds = some (.inr (.int, arrL 10 (ra_sh fd i s2))) := (M3o ds (Ne.symm (hne))).trans g3
        have M3_cd : M3 cd = some (.inr (.int, arrL 10 (fu (ra_sh fc i s2) ((ra_at d fd sz)) (c)))) := M3a0
        refine m_aload_n C d_Ra_offer_116 rfl rfl ?_
        refine m_get C fg_Ra_15 d_Ra_offer_117 M3_a rfl ?_
        refine m_iload_n C d_Ra_offer_120 rfl rfl ?_
        refine m_iload_n C d_Ra_offer_121 rfl rfl ?_
        refine m_iastE C d_Ra_offer_122 (hw _ (Or.inr (Or.inr rfl))) M3_ds kt_int (nI_pos (by omega)) (by rw [nI_clamp (by omega), arrL_len]; omega) (fun M4 M4a9 M4o => ?_)
        have M4a0 : M4 ds = some (.inr (.int, arrL 10 (fu (ra_sh fd i s2) ((ra_at d fd sz)) (d)))) := by rw [M4a9, nI_clamp (by omega), arrL_set]
        have M4_a : M4 a = some (.inl (7, [.ref cd, .ref ds, .int (nI k), .int (nI s2)])) := (M4o a (ma_ne2 M3_a M3_ds)).trans M3_a
        have M4_cd : M4 cd = some (.inr (.int, arrL 10 (fu (ra_sh fc i s2) ((ra_at d fd sz)) (c)))) := (M4o cd hne).trans M3_cd
        have M4_ds : M4 ds = some (.inr (.int, arrL 10 (fu (ra_sh fd i s2) ((ra_at d fd sz)) (d)))) := M4a0
        exact Rt _ _ _ _ _ (by decide) (by decide) d_Ra_offer_123 (⟨rfl, by rw [hia, ra_sh_in] at M4_cd M4_ds; rw [ra_of, if_neg (by show ¬ k ≤ (ra_at d fd sz); omega)]; exact ⟨by rw [← hs2]; exact M4_a, by rw [← hs2]; exact M4_cd, by rw [← hs2]; exact M4_ds, hne⟩⟩)
      · rw [e1] at h9
        obtain ⟨q, rfl⟩ : ∃ q, i = q + 1 := ⟨i - 1, by omega⟩
        have sk1 : nI (q + 1) - 1 = nI q := by rw [nI_sub1 (by omega)]; rfl
        refine m_aload_n C d_Ra_offer_71 rfl rfl ?_
        refine m_get C fg_Ra_9 d_Ra_offer_72 g1 rfl ?_
        refine m_iload C d_Ra_offer_75 rfl ?_
        refine m_aload_n C d_Ra_offer_77 rfl rfl ?_
        refine m_get C fg_Ra_9 d_Ra_offer_78 g1 rfl ?_
        refine m_iload C d_Ra_offer_81 rfl ?_
        refine m_iconst (v := 1) C d_Ra_offer_83 (by decide) ?_
        refine m_isub C d_Ra_offer_84 ?_
        rw [sk1]
        refine m_iald (v := .int ((ra_sh fc (q + 1) s2) q)) C d_Ra_offer_85 g2 kt_int (nI_pos (by omega)) (by rw [nI_clamp (by omega)]; exact arrL_get (by omega)) ?_
        refine m_iastE C d_Ra_offer_86 (hw _ (Or.inr (Or.inl rfl))) g2 kt_int (nI_pos (by omega)) (by rw [nI_clamp (by omega), arrL_len]; omega) (fun M3 M3a9 M3o => ?_)
        have M3a0 : M3 cd = some (.inr (.int, arrL 10 (fu (ra_sh fc (q + 1) s2) (q + 1) (((ra_sh fc (q + 1) s2) q))))) := by rw [M3a9, nI_clamp (by omega), arrL_set]
        have M3_a : M3 a = some (.inl (7, [.ref cd, .ref ds, .int (nI k), .int (nI s2)])) := (M3o a (ma_ne2 g1 g2)).trans g1
        have M3_ds : M3 ds = some (.inr (.int, arrL 10 (ra_sh fd (q + 1) s2))) := (M3o ds (Ne.symm (hne))).trans g3
        have M3_cd : M3 cd = some (.inr (.int, arrL 10 (fu (ra_sh fc (q + 1) s2) (q + 1) (((ra_sh fc (q + 1) s2) q))))) := M3a0
        refine m_aload_n C d_Ra_offer_87 rfl rfl ?_
        refine m_get C fg_Ra_15 d_Ra_offer_88 M3_a rfl ?_
        refine m_iload C d_Ra_offer_91 rfl ?_
        refine m_aload_n C d_Ra_offer_93 rfl rfl ?_
        refine m_get C fg_Ra_15 d_Ra_offer_94 M3_a rfl ?_
        refine m_iload C d_Ra_offer_97 rfl ?_
        refine m_iconst (v := 1) C d_Ra_offer_99 (by decide) ?_
        refine m_isub C d_Ra_offer_100 ?_
        rw [sk1]
        refine m_iald (v := .int ((ra_sh fd (q + 1) s2) q)) C d_Ra_offer_101 M3_ds kt_int (nI_pos (by omega)) (by rw [nI_clamp (by omega)]; exact arrL_get (by omega)) ?_
        refine m_iastE C d_Ra_offer_102 (hw _ (Or.inr (Or.inr rfl))) M3_ds kt_int (nI_pos (by omega)) (by rw [nI_clamp (by omega), arrL_len]; omega) (fun M4 M4a9 M4o => ?_)
        have M4a0 : M4 ds = some (.inr (.int, arrL 10 (fu (ra_sh fd (q + 1) s2) (q + 1) (((ra_sh fd (q + 1) s2) q))))) := by rw [M4a9, nI_clamp (by omega), arrL_set]
        have M4_a : M4 a = some (.inl (7, [.ref cd, .ref ds, .int (nI k), .int (nI s2)])) := (M4o a (ma_ne2 M3_a M3_ds)).trans M3_a
        have M4_cd : M4 cd = some (.inr (.int, arrL 10 (fu (ra_sh fc (q + 1) s2) (q + 1) (((ra_sh fc (q + 1) s2) q))))) := (M4o cd hne).trans M3_cd
        have M4_ds : M4 ds = some (.inr (.int, arrL 10 (fu (ra_sh fd (q + 1) s2) (q + 1) (((ra_sh fd (q + 1) s2) q))))) := M4a0
        refine m_iinc (v := (nI q)) (L' := [some (.ref a), some (.int c), some (.int d), some (.int (nI (ra_at d fd sz))), some (.int (nI q))]) C d_Ra_offer_103 rfl (nI_m1 q) (by decide) rfl ?_
        refine m_goto (tgt := 65) C d_Ra_offer_106 (by decide) ?_
        exact ih q (by omega) M4 s2 q rfl hs2 hat (by omega) (by omega) M4_a (by rw [← ra_sh_s fc q s2 hi]; exact M4_cd) (by rw [← ra_sh_s fd q s2 hi]; exact M4_ds)
  refine m_aload_n C d_Ra_offer_0 rfl rfl ?_
  refine m_get C fg_Ra_22 d_Ra_offer_1 h1 rfl ?_
  refine m_istore_n (L' := [some (.ref a), some (.int c), some (.int d), some (.int (nI sz)), none]) C d_Ra_offer_4 rfl (by decide) rfl ?_
  have loop : ∀ (rk : Nat) (j : Nat), j = rk → j ≤ sz → ra_at d fd j = ra_at d fd sz → mj G 5 0 0 M 5 [some (.ref a), some (.int c), some (.int d), some (.int (nI j)), none] [] := by
    intro rk
    induction rk using Nat.strongRecOn with
    | ind rk ih =>
      intro j hr hj he
      have mid : mj G 5 0 0 M 27 [some (.ref a), some (.int c), some (.int d), some (.int (nI (ra_at d fd sz))), none] [] := by
        refine m_iload_n C d_Ra_offer_27 rfl rfl ?_
        refine m_aload_n C d_Ra_offer_28 rfl rfl ?_
        refine m_get C fg_Ra_18 d_Ra_offer_29 h1 rfl ?_
        have e2 : nI (ra_at d fd sz) < nI k ↔ (ra_at d fd sz) < k := nI_ltI (by omega) (by omega)
        refine m_icmp_lt (tgt := 36) C d_Ra_offer_32 (by decide) (fun h9 => ?_) (fun h9 => ?_)
        · rw [e2] at h9
          refine m_aload_n C d_Ra_offer_36 rfl rfl ?_
          refine m_get C fg_Ra_22 d_Ra_offer_37 h1 rfl ?_
          refine m_aload_n C d_Ra_offer_40 rfl rfl ?_
          refine m_get C fg_Ra_18 d_Ra_offer_41 h1 rfl ?_
          have e3 : nI k ≤ nI sz ↔ k ≤ sz := nI_leI (by omega) (by omega)
          refine m_icmp_ge (tgt := 57) C d_Ra_offer_44 (by decide) (fun h8 => ?_) (fun h8 => ?_)
          · rw [e3] at h8
            refine m_aload_n C d_Ra_offer_57 rfl rfl ?_
            refine m_get C fg_Ra_22 d_Ra_offer_58 h1 rfl ?_
            refine m_iconst (v := 1) C d_Ra_offer_61 (by decide) ?_
            refine m_isub C d_Ra_offer_62 ?_
            rw [nI_sub1 (by omega)]
            refine m_istore (L' := [some (.ref a), some (.int c), some (.int d), some (.int (nI (ra_at d fd sz))), some (.int (nI (sz - 1)))]) C d_Ra_offer_63 (by decide) rfl ?_
            exact loop2 _ M sz (sz - 1) rfl (by rw [if_neg (by omega)]) h9 (by omega) (by omega) h1 (by rw [ra_sh_t]; exact h2) (by rw [ra_sh_t]; exact h3)
          · rw [e3] at h8
            refine m_aload_n C d_Ra_offer_47 rfl rfl ?_
            refine m_dup C d_Ra_offer_48 rfl ?_
            refine m_get C fg_Ra_22 d_Ra_offer_49 h1 rfl ?_
            refine m_iconst (v := 1) C d_Ra_offer_52 (by decide) ?_
            refine m_iadd C d_Ra_offer_53 ?_
            rw [nI_1]
            refine m_putE C fp_Ra_22 d_Ra_offer_54 (hw _ (Or.inl rfl)) h1 rfl rfl (fun M1 M1a0 M1o => ?_)
            have M1_cd : M1 cd = some (.inr (.int, arrL 10 fc)) := (M1o cd (Ne.symm (ma_ne2 h1 h2))).trans h2
            have M1_ds : M1 ds = some (.inr (.int, arrL 10 fd)) := (M1o ds (Ne.symm (ma_ne2 h1 h3))).trans h3
            have M1_a : M1 a = some (.inl (7, [.ref cd, .ref ds, .int (nI k), .int (nI (sz + 1))])) := M1a0
            refine m_aload_n C d_Ra_offer_57 rfl rfl ?_
            refine m_get C fg_Ra_22 d_Ra_offer_58 M1_a rfl ?_
            refine m_iconst (v := 1) C d_Ra_offer_61 (by decide) ?_
            refine m_isub C d_Ra_offer_62 ?_
            rw [nI_sub1 (by omega)]
            refine m_istore (L' := [some (.ref a), some (.int c), some (.int d), some (.int (nI (ra_at d fd sz))), some (.int (nI (sz + 1 - 1)))]) C d_Ra_offer_63 (by decide) rfl ?_
            exact loop2 _ M1 (sz + 1) (sz + 1 - 1) rfl (by rw [if_pos (by omega)]) h9 (by omega) (by omega) M1_a (by rw [ra_sh_t]; exact M1_cd) (by rw [ra_sh_t]; exact M1_ds)
        · exact Rt _ _ _ _ _ (by decide) (by decide) d_Ra_offer_35 (⟨rfl, by rw [e2] at h9; rw [ra_of, if_pos (by show k ≤ (ra_at d fd sz); omega)]; exact ⟨h1, h2, h3, hne⟩⟩)
      refine m_iload_n C d_Ra_offer_5 rfl rfl ?_
      have e0 : nI j ≤ 0 ↔ j = 0 := by rw [show (0 : Int32) = nI 0 from rfl, nI_leI (by omega) (by decide)]; omega
      refine m_if_le (tgt := 27) C d_Ra_offer_6 (by decide) (fun h9 => ?_) (fun h9 => ?_)
      · rw [e0] at h9
        subst h9
        rw [← he] at mid
        exact mid
      · rw [e0] at h9
        obtain ⟨q, rfl⟩ : ∃ q, j = q + 1 := ⟨j - 1, by omega⟩
        refine m_iload_n C d_Ra_offer_9 rfl rfl ?_
        refine m_aload_n C d_Ra_offer_10 rfl rfl ?_
        refine m_get C fg_Ra_15 d_Ra_offer_11 h1 rfl ?_
        refine m_iload_n C d_Ra_offer_14 rfl rfl ?_
        refine m_iconst (v := 1) C d_Ra_offer_15 (by decide) ?_
        refine m_isub C d_Ra_offer_16 ?_
        rw [show nI (q + 1) - 1 = nI q by rw [nI_sub1 (by omega)]; rfl]
        refine m_iald (v := .int (fd q)) C d_Ra_offer_17 h3 kt_int (nI_pos (by omega)) (by rw [nI_clamp (by omega)]; exact arrL_get (by omega)) ?_
        refine m_icmp_ge (tgt := 27) C d_Ra_offer_18 (by decide) (fun h8 => ?_) (fun h8 => ?_)
        · rw [show q + 1 = ra_at d fd sz by rw [← he, ra_at, if_neg (Int32.not_lt.mpr h8)]]
          exact mid
        · refine m_iinc (v := (nI q)) (L' := [some (.ref a), some (.int c), some (.int d), some (.int (nI q)), none]) C d_Ra_offer_21 rfl (nI_m1 q) (by decide) rfl ?_
          refine m_goto (tgt := 5) C d_Ra_offer_24 (by decide) ?_
          exact ih q (by omega) q rfl (by omega) (by rw [← he, ra_at, if_pos (Int32.not_le.mp h8)])
  exact loop _ sz rfl (Nat.le_refl _) rfl
