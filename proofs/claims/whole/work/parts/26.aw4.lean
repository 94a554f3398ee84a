/-! ===== range, meet, street, landmark, word ===== -/
def mkA (ad : mAd) (N : Nat → Nat → Nat → Bool) (nw : Nat → Nat → Nat) : mAd := fun k i j => if N k i j = true then nw k j else ad k i j
theorem mkA_o {ad : mAd} {N : Nat → Nat → Nat → Bool} {nw : Nat → Nat → Nat} {k i j : Nat} (h : ¬ N k i j = true) : mkA ad N nw k i j = ad k i j := if_neg h
theorem mkA_n {ad : mAd} {N : Nat → Nat → Nat → Bool} {nw : Nat → Nat → Nat} {k i j : Nat} (h : N k i j = true) : mkA ad N nw k i j = nw k j := if_pos h
theorem lv_k {R : mR} {k i j : Nat} (h : lv R k i j) : (k < 16 → i = 0) ∧ (k = 16 → i < 10) ∧ (17 ≤ k → k ≤ 22 → i < nS R) ∧ (23 ≤ k → k ≤ 25 → i < nL R) ∧ (k = 26 → i < nC R) ∧ (k ≠ 20 → k ≠ 21 → k ≠ 22 → j = 0) ∧ (k = 20 ∨ k = 21 → j < 3) ∧ (k = 22 → j < tn (R 7 i)) := by
  obtain ⟨h1, h2⟩ := h
  refine ⟨fun a => ?_, fun a => ?_, fun a b => ?_, fun a b => ?_, fun a => ?_, fun a b c => ?_, fun a => ?_, fun a => ?_⟩
  · rw [lvB, if_pos a] at h1; omega
  · subst a; exact h1
  · by_cases q : k < 23
    · rw [lvB, if_neg (by omega), if_neg (by omega), if_pos q] at h1; exact h1
    · omega
  · rw [lvB, if_neg (by omega), if_neg (by omega), if_neg (by omega), if_pos (by omega)] at h1; exact h1
  · subst a; exact h1
  · rw [lvJ, if_neg (by omega), if_neg (by omega)] at h2; omega
  · rw [lvJ, if_pos a] at h2; exact h2
  · subst a; exact h2
theorem lv_mk {R : mR} {k i j : Nat} (h26 : k ≤ 26) (h : (k < 16 → i = 0) ∧ (k = 16 → i < 10) ∧ (17 ≤ k → k ≤ 22 → i < nS R) ∧ (23 ≤ k → k ≤ 25 → i < nL R) ∧ (k = 26 → i < nC R) ∧ (k ≠ 20 → k ≠ 21 → k ≠ 22 → j = 0) ∧ (k = 20 ∨ k = 21 → j < 3) ∧ (k = 22 → j < tn (R 7 i))) : lv R k i j := by
  obtain ⟨a1, a2, a3, a4, a5, a6, a7, a8⟩ := h
  constructor
  · rw [lvB]
    by_cases q : k < 16
    · rw [if_pos q, a1 q]; decide
    rw [if_neg q]
    by_cases q : k = 16
    · rw [if_pos q]; exact a2 q
    rw [if_neg q]
    by_cases q : k < 23
    · rw [if_pos q]; exact a3 (by omega) (by omega)
    rw [if_neg q]
    by_cases q : k < 26
    · rw [if_pos q]; exact a4 (by omega) (by omega)
    rw [if_neg q, if_pos (by omega)]; exact a5 (by omega)
  · rw [lvJ]
    by_cases q : k = 20 ∨ k = 21
    · rw [if_pos q]; exact a7 q
    rw [if_neg q]
    by_cases q2 : k = 22
    · rw [if_pos q2]; exact a8 q2
    rw [if_neg q2, a6 (by omega) (by omega) q2]; decide

set_option maxHeartbeats 4000000 in
set_option maxRecDepth 100000 in
theorem ct_AW_meet (l : Launch) (D : ma_D) (s0 : State) (R : mR) (ad : mAd) (s o m n : Int32) (M : ma_H) (hR : RepC R ad M) (hb : Bd R) : Cx l D s0 y_AW_meet c_AW_meet 7 none 7 6 34 103 [.ref (ad 0 0 0), .int s, .int o, .int m, .int n] M (foot R ad) (fun v M' => ((kn R s = true ∧ kn R o = true) ∧ (inn m 0 (R 15 (tn s)) = true ∧ inn n 0 (R 15 (tn o)) = true) ∧ (s ≠ o ∧ coF R s o (nC R) 0 = -1) ∧ (nC R < 40)) ∧ v = none ∧ ∃ ad', ad' 0 0 0 = ad 0 0 0 ∧ RepC (uR (uR (uR (uR (uR (R) 22 (nC R) (s)) 23 (nC R) (o)) 24 (nC R) (m)) 25 (nC R) (n)) 21 (0) (nI (nC R + 1))) ad' M' ∧ ∀ q, foot (uR (uR (uR (uR (uR (R) 22 (nC R) (s)) 23 (nC R) (o)) 24 (nC R) (m)) 25 (nC R) (n)) 21 (0) (nI (nC R + 1))) ad' q → foot R ad q ∨ M q = none) (fun E M' => gbx (kn R s = true ∧ kn R o = true) (inn m 0 (R 15 (tn s)) = true ∧ inn n 0 (R 15 (tn o)) = true) (s ≠ o ∧ coF R s o (nC R) 0 = -1) (nC R < 40) E ∧ RepC R ad M') := by
  refine Cx_gen 2 [some (.ref (ad 0 0 0)), some (.int s), some (.int o), some (.int m), some (.int n), none, none] (by decide +kernel) (Nat.le_of_ble_eq_true rfl) rfl ?_
  intro G e1 e2 e3 C hw Rt Th Up
  subst e1; subst e2; subst e3
  obtain ⟨lc, hc1, hc2, hc3⟩ := hR.cos
  have hbC := hb.1.2.2.1
  refine m_aload_n C d_AW_meet_0 rfl rfl ?_
  refine m_iload_n C d_AW_meet_1 rfl rfl ?_
  refine m_callVX (ci := 0) C d_AW_meet_2 ml_AW_77 mw_AW_77 mi_AW_knownStreet se_AW_knownStreet rfl (ct_AW_knownStreet _ _ _ R ad s M hR hb) (fun _ h => h.elim) rfl rfl (Nat.le_of_ble_eq_true rfl) hR.root (by decide) (fun v9 M9 hp h5 h6 => ?_) (fun E9 M9 hp h5 h6 => ?_)
  · obtain ⟨rfl, hM9, hk⟩ := hp; rw [hM9]
    show mj G 7 (0 + 1) (0 + 6) M 5 [some (.ref (ad 0 0 0)), some (.int s), some (.int o), some (.int m), some (.int n), none, none] [.ref (ad 17 (tn s) 0)]
    obtain ⟨i0, hi, hsi, ht⟩ := kn_i hb hk
    rw [ht]
    refine m_astore (L' := [some (.ref (ad 0 0 0)), some (.int s), some (.int o), some (.int m), some (.int n), some (.ref (ad 17 i0 0)), none]) C d_AW_meet_5 (by decide) rfl ?_
    refine m_aload_n C d_AW_meet_7 rfl rfl ?_
    refine m_iload_n C d_AW_meet_8 rfl rfl ?_
    refine m_callVX (ci := 0) C d_AW_meet_9 ml_AW_77 mw_AW_77 mi_AW_knownStreet se_AW_knownStreet rfl (ct_AW_knownStreet _ _ _ R ad o M hR hb) (fun _ h => h.elim) rfl rfl (Nat.le_of_ble_eq_true rfl) hR.root (by decide) (fun v8 M8 hp h5 h6 => ?_) (fun E8 M8 hp h5 h6 => ?_)
    · obtain ⟨rfl, hM8, hk2⟩ := hp; rw [hM8]
      show mj G 7 (0 + 1 + 1) (0 + 6 + 6) M 12 [some (.ref (ad 0 0 0)), some (.int s), some (.int o), some (.int m), some (.int n), some (.ref (ad 17 i0 0)), none] [.ref (ad 17 (tn o) 0)]
      obtain ⟨i1, hi1, hsi1, ht1⟩ := kn_i hb hk2
      rw [ht1]
      refine m_astore (L' := [some (.ref (ad 0 0 0)), some (.int s), some (.int o), some (.int m), some (.int n), some (.ref (ad 17 i0 0)), some (.ref (ad 17 i1 0))]) C d_AW_meet_12 (by decide) rfl ?_
      refine m_aload C d_AW_meet_14 rfl ?_
      refine m_iload_n C d_AW_meet_16 rfl rfl ?_
      refine m_callSX C d_AW_meet_17 ml_AW_167 mw_AW_167 mst_AW_requireMetres (ct_AW_requireMetres _ _ _ (ad 17 i0 0) (ad 18 i0 0) (tn (R 4 i0)) (ad 19 i0 0) (tn (R 7 i0)) (R 2 i0) (R 11 i0) (R 12 i0) (R 11 i0 + R 13 i0) (R 12 i0 + R 14 i0) (R 15 i0) (R 3 i0) m M (hR.st hi)) (fun _ h => h.elim) rfl rfl (Nat.le_of_ble_eq_true rfl) (by decide) (fun v7 M7 hp h5 h6 => ?_) (fun E7 M7 hp h5 h6 => ?_)
      · obtain ⟨rfl, hM7, hm1⟩ := hp; rw [hM7]
        show mj G 7 (0 + 1 + 1 + 1) (0 + 6 + 6 + 6) M 20 [some (.ref (ad 0 0 0)), some (.int s), some (.int o), some (.int m), some (.int n), some (.ref (ad 17 i0 0)), some (.ref (ad 17 i1 0))] []
        refine m_aload C d_AW_meet_20 rfl ?_
        refine m_iload C d_AW_meet_22 rfl ?_
        refine m_callSX C d_AW_meet_24 ml_AW_167 mw_AW_167 mst_AW_requireMetres (ct_AW_requireMetres _ _ _ (ad 17 i1 0) (ad 18 i1 0) (tn (R 4 i1)) (ad 19 i1 0) (tn (R 7 i1)) (R 2 i1) (R 11 i1) (R 12 i1) (R 11 i1 + R 13 i1) (R 12 i1 + R 14 i1) (R 15 i1) (R 3 i1) n M (hR.st hi1)) (fun _ h => h.elim) rfl rfl (Nat.le_of_ble_eq_true rfl) (by decide) (fun v6 M6 hp h5 h6 => ?_) (fun E6 M6 hp h5 h6 => ?_)
        · obtain ⟨rfl, hM6, hm2⟩ := hp; rw [hM6]
          show mj G 7 (0 + 1 + 1 + 1 + 1) (0 + 6 + 6 + 6 + 6) M 27 [some (.ref (ad 0 0 0)), some (.int s), some (.int o), some (.int m), some (.int n), some (.ref (ad 17 i0 0)), some (.ref (ad 17 i1 0))] []
          refine m_iload_n C d_AW_meet_27 rfl rfl ?_
          refine m_iload_n C d_AW_meet_28 rfl rfl ?_
          refine m_icmp_ne (tgt := 42) C d_AW_meet_29 (by decide) (fun h1 => ?_) (fun h1 => ?_)
          · refine m_aload_n C d_AW_meet_42 rfl rfl ?_
            refine m_iload_n C d_AW_meet_43 rfl rfl ?_
            refine m_iload_n C d_AW_meet_44 rfl rfl ?_
            refine m_callV (ci := 0) C d_AW_meet_45 mw_AW_173 mi_AW_metresOfCorner se_AW_metresOfCorner rfl (ct_AW_metresOfCorner _ _ _ R ad s o M hR hb) (fun _ h => h.elim) rfl rfl (Nat.le_of_ble_eq_true rfl) hR.root (by decide) (fun v5 M5 hp h5 h6 => ?_)
            obtain ⟨rfl, hM5⟩ := hp; rw [hM5]
            show mj G 7 (0 + 1 + 1 + 1 + 1 + 0) (0 + 6 + 6 + 6 + 6 + 0) M 48 [some (.ref (ad 0 0 0)), some (.int s), some (.int o), some (.int m), some (.int n), some (.ref (ad 17 i0 0)), some (.ref (ad 17 i1 0))] [.int (coF R s o (nC R) 0)]
            refine m_iconst (v := (-1)) C d_AW_meet_48 (by decide) ?_
            refine m_icmp_eq (tgt := 62) C d_AW_meet_49 (by decide) (fun h2 => ?_) (fun h2 => ?_)
            · refine m_aload_n C d_AW_meet_62 rfl rfl ?_
              refine m_get C fg_AW_179 d_AW_meet_63 hR.root rfl ?_
              refine m_bipush (v := 40) C d_AW_meet_66 (by decide) ?_
              have e3 : nI (nC R) < 40 ↔ nC R < 40 := by rw [show (40 : Int32) = nI 40 from rfl, nI_ltI (by omega) (by decide)]
              refine m_icmp_lt (tgt := 81) C d_AW_meet_68 (by decide) (fun h3 => ?_) (fun h3 => ?_)
              · rw [e3] at h3
                refine m_aload_n C d_AW_meet_81 rfl rfl ?_
                refine m_get C fg_AW_23 d_AW_meet_82 hR.root rfl ?_
                refine m_aload_n C d_AW_meet_85 rfl rfl ?_
                refine m_get C fg_AW_179 d_AW_meet_86 hR.root rfl ?_
                refine m_newE (ci := 1) [.int 0, .int 0, .int 0, .int 0] C d_AW_meet_89 rfl in_Co tyok_Co cl_AW_21 ins_Co ini_Co rfl df_Co (by decide) (by decide) (fun a M1 M1n M1w M1a0 M1o => ?_)
                have M1_a : M1 a = some (.inl (1, [.int 0, .int 0, .int 0, .int 0])) := M1a0
                refine m_dup C d_AW_meet_92 rfl ?_
                refine m_iload_n C d_AW_meet_93 rfl rfl ?_
                refine m_iload_n C d_AW_meet_94 rfl rfl ?_
                refine m_iload_n C d_AW_meet_95 rfl rfl ?_
                refine m_iload C d_AW_meet_96 rfl ?_
                refine m_callI C d_AW_meet_98 mw_AW_184 mi_Co_init rfl (ct_Co_init _ _ _ a s o m n M1 M1_a) (fun q h => by rw [h]; exact M1w) rfl rfl (Nat.le_of_ble_eq_true rfl) (by decide) (fun v4 M2 hp h5 h6 => ?_)
                obtain ⟨rfl, h2a⟩ := hp
                show mj G 7 (0 + 1 + 1 + 1 + 1 + 0 + 1 + 0) (0 + 6 + 6 + 6 + 6 + 0 + 4 + 0) M2 101 [some (.ref (ad 0 0 0)), some (.int s), some (.int o), some (.int m), some (.int n), some (.ref (ad 17 i0 0)), some (.ref (ad 17 i1 0))] [.ref a, .int (nI (nC R)), .ref (ad 3 0 0)]
                have h2o : ∀ q, M q ≠ none → M2 q = M q := fun q hq => by
                  have n0 : q ≠ a := fun z => hq (by rw [z]; exact M1n)
                  rw [h5 q (by rw [M1o q n0]; exact hq) n0, M1o q n0]
                have k3 := (h2o _ (hR.ne0 (lv_o (k := 3) (by decide)))).trans hc1
                have k0 := (h2o _ (hR.ne0 (lv_o (k := 0) (by decide)))).trans hR.root
                refine m_aastE C d_AW_meet_101 (r := (R_Co, T_Co, 4)) (hw _ ⟨3, 0, 0, lv_o (by decide), rfl⟩) k3 kt_Co h2a rfl (nI_pos (by omega)) (by rw [nI_clamp (by omega)]; omega) (fun M3 M3a0 M3o => ?_)
                rw [nI_clamp (by omega)] at M3a0
                have n03 : ad 0 0 0 ≠ ad 3 0 0 := hR.ne (lv_o (by decide)) (lv_o (by decide)) (by omega)
                have j0 := (M3o _ n03).trans k0
                refine m_aload_n C d_AW_meet_102 rfl rfl ?_
                refine m_dup C d_AW_meet_103 rfl ?_
                refine m_get C fg_AW_179 d_AW_meet_104 j0 rfl ?_
                refine m_iconst (v := 1) C d_AW_meet_107 (by decide) ?_
                refine m_iadd C d_AW_meet_108 ?_
                rw [nI_1]
                refine m_putE C fp_AW_179 d_AW_meet_109 (hw _ ⟨0, 0, 0, lv_o (by decide), rfl⟩) j0 rfl rfl (fun M4 hF M4o => ?_)
                have na : ∀ k i j, lv R k i j → ad k i j ≠ a := fun k i j hv z => hR.ne0 hv (by rw [z]; exact M1n)
                have h4a : M4 a = some (.inl (1, [.int s, .int o, .int m, .int n])) := (M4o a (Ne.symm (na _ _ _ (lv_o (by decide))))).trans ((M3o a (Ne.symm (na _ _ _ (lv_o (by decide))))).trans h2a)
                have h43 : M4 (ad 3 0 0) = some (.inr (.object R_Co, lc.set (nC R) (.ref a))) := (M4o _ (Ne.symm n03)).trans M3a0
                have tC : tn (nI (tn (R 21 0) + 1)) = tn (R 21 0) + 1 := tn_nI (n := nC R + 1) (by omega)
                obtain ⟨N, hN⟩ : ∃ N : Nat → Nat → Nat → Bool, N = fun k i j => decide (k = 26) && decide (i = nC R) && decide (j = 0) := ⟨_, rfl⟩
                have hNi : ∀ k i j, N k i j = true ↔ (k = 26 ∧ i = nC R) ∧ j = 0 := fun k i j => by rw [hN]; simp
                obtain ⟨ad1, had1⟩ : ∃ ad1 : mAd, ad1 = mkA ad N (fun _ _ => a) := ⟨_, rfl⟩
                have hadn : ∀ k i j, N k i j = true → ad1 k i j = (fun _ _ => a) k j := fun k i j h => by rw [had1, mkA_n h]
                have hado : ∀ k i j, ¬ N k i j = true → ad1 k i j = ad k i j := fun k i j h => by rw [had1, mkA_o h]
                obtain ⟨R1, hR1⟩ : ∃ R1, R1 = uR (uR (uR (uR (uR (R) 22 (nC R) (s)) 23 (nC R) (o)) 24 (nC R) (m)) 25 (nC R) (n)) 21 (0) (nI (nC R + 1)) := ⟨_, rfl⟩
                have hag : ∀ f, f ∉ [22, 23, 24, 25, 21] → R1 f = R f := fun f hf => by rw [hR1, uR_n (fun z => hf (by rw [z]; decide)), uR_n (fun z => hf (by rw [z]; decide)), uR_n (fun z => hf (by rw [z]; decide)), uR_n (fun z => hf (by rw [z]; decide)), uR_n (fun z => hf (by rw [z]; decide))]
                have e21 : R1 21 = fu (R 21) (0) (nI (nC R + 1)) := by rw [hR1, uR_s, uR_n (by decide), uR_n (by decide), uR_n (by decide), uR_n (by decide)]
                have e25 : R1 25 = fu (R 25) (nC R) (n) := by rw [hR1, uR_n (by decide), uR_s, uR_n (by decide), uR_n (by decide), uR_n (by decide)]
                have e24 : R1 24 = fu (R 24) (nC R) (m) := by rw [hR1, uR_n (by decide), uR_n (by decide), uR_s, uR_n (by decide), uR_n (by decide)]
                have e23 : R1 23 = fu (R 23) (nC R) (o) := by rw [hR1, uR_n (by decide), uR_n (by decide), uR_n (by decide), uR_s, uR_n (by decide)]
                have e22 : R1 22 = fu (R 22) (nC R) (s) := by rw [hR1, uR_n (by decide), uR_n (by decide), uR_n (by decide), uR_n (by decide), uR_s]
                have hlo : ∀ k i j, lv R k i j → ¬ N k i j = true := by
                  intro k i j hv h2
                  rw [hNi] at h2
                  have h3 := lv_k hv
                  omega
                have hln : ∀ k i j, lv R1 k i j → ¬ N k i j = true → lv R k i j := by
                  intro k i j hv h2
                  rw [hNi] at h2
                  have h3 := lv_k hv
                  have h4 := lv_le hv
                  have h5 : nC R1 = nC R + 1 := by rw [nC, e21, fu_s, tC]
                  simp only [nS, nL, hag 1 (by decide), hag 16 (by decide), hag 7 (by decide)] at h3
                  exact lv_mk h4 ⟨h3.1, h3.2.1, h3.2.2.1, h3.2.2.2.1, fun z => by have := h3.2.2.2.2.1 z; have := h3.2.2.2.2.2.1 (by omega) (by omega) (by omega); omega, h3.2.2.2.2.2⟩
                have hfr : ∀ k i j, lv R1 k i j → N k i j = true → M (ad1 k i j) = none := by
                  intro k i j h1 h2
                  rw [hadn k i j h2]; exact M1n
                have hin : ∀ k i j k' i' j', lv R1 k i j → lv R1 k' i' j' → N k i j = true → N k' i' j' = true → ad1 k i j = ad1 k' i' j' → k = k' ∧ i = i' ∧ j = j' := by
                  intro k i j k' i' j' h1 h2 h3 h4 h5
                  rw [hNi] at h3 h4; omega
                have hRa : RepC R ad1 M := hR.ad (fun k i j h => hado k i j (hlo k i j h))
                have hI1 : adI R1 ad1 := adI_new hR (fun k i j => N k i j = true) (fun k i j h1 h2 => ⟨hln k i j h1 h2, hado k i j h2⟩) hfr hin
                have hft : ∀ q, foot R1 ad1 q → foot R ad q ∨ M q = none := foot_new (fun k i j => N k i j = true) (fun k i j h1 h2 => ⟨hln k i j h1 h2, hado k i j h2⟩) hfr
                have hRep : RepC R1 ad1 M4 := by
                  refine hRa.updN (fun k i j => (k = 0 ∧ i = 0 ∧ j = 0) ∨ (k = 3 ∧ i = 0 ∧ j = 0) ∨ N k i j = true) (fun k i j h1 h2 => hln k i j h1 (fun z => h2 (Or.inr (Or.inr (z))))) hI1 ?_ ?_ ?_
                  · intro k i j hv hn
                    have hNn : ¬ N k i j = true := hlo k i j hv
                    rw [hado k i j hNn]
                    rw [M4o _ (hR.ne hv (lv_o (by decide)) (fun z => hn (Or.inl z))), M3o _ (hR.ne hv (lv_o (by decide)) (fun z => hn (Or.inr (Or.inl z)))), h2o _ (hR.ne0 hv)]
                  · intro k i j hv9 hn c hc
                    have hNn : ¬ N k i j = true := fun z => hn (Or.inr (Or.inr (z)))
                    have hv := hln k i j hv9 hNn
                    by_cases k0 : k = 0
                    · subst k0
                      have h1 : i < 1 := hv.1
                      have h2 : j < 1 := hv.2
                      exact absurd (show (0 = 0 ∧ i = 0 ∧ j = 0) ∨ (0 = 3 ∧ i = 0 ∧ j = 0) ∨ N 0 i j = true by left; omega) hn
                    by_cases k3 : k = 3
                    · subst k3
                      have h1 : i < 1 := hv.1
                      have h2 : j < 1 := hv.2
                      exact absurd (show (3 = 0 ∧ i = 0 ∧ j = 0) ∨ (3 = 3 ∧ i = 0 ∧ j = 0) ∨ N 3 i j = true by right; left; omega) hn
                    by_cases k16 : k = 16
                    · subst k16
                      obtain ⟨f, h1, h2⟩ := hc
                      refine ⟨f, h1, ?_⟩
                      simp only [nF, tell, tlS, tlM, hoT, hoI, rgF, rgL, nS, hag 28 (by decide), hag 29 (by decide), hag 1 (by decide), hag 31 (by decide), hag 7 (by decide), hag 8 (by decide), hag 9 (by decide), hag 10 (by decide), hag 3 (by decide), hag 30 (by decide), hag 2 (by decide), hag 17 (by decide), hag 18 (by decide)]
                      exact h2
                    by_cases k26 : k = 26
                    · subst k26
                      have hv8 : i < nC R := (lv_k hv).2.2.2.2.1 rfl
                      simp only [okC, e22, e23, e24, e25, fu_n (Nat.ne_of_lt hv8)]
                      exact hc
                    exact okC_cg k16 (lv_le hv) (fun f hf => hag f ((by decide : ∀ k, k < 27 → k ∉ [0, 3, 16, 26] → ∀ f ∈ okD k, f ∉ [22, 23, 24, 25, 21]) k (by have := lv_le hv; omega) (by simp only [List.mem_cons, List.not_mem_nil, or_false, not_or]; exact ⟨k0, k3, k16, k26⟩) f hf)) hc
                  · rintro k i j hv (⟨rfl, rfl, rfl⟩ | ⟨rfl, rfl, rfl⟩ | hNt)
                    · rw [hado _ _ _ (by rw [hNi]; omega)]
                      simp only [okC, nS, nL, nC, nF, hag 1 (by decide), hag 16 (by decide), e21, hag 28 (by decide), fu_s, tC]
                      rw [hado 1 0 0 (by rw [hNi]; omega), hado 2 0 0 (by rw [hNi]; omega), hado 3 0 0 (by rw [hNi]; omega), hado 5 0 0 (by rw [hNi]; omega), hado 9 0 0 (by rw [hNi]; omega), hado 13 0 0 (by rw [hNi]; omega), hado 4 0 0 (by rw [hNi]; omega)]
                      exact hF
                    · rw [hado _ _ _ (by rw [hNi]; omega)]
                      simp only [okC, nC, e21, fu_s, tC]
                      refine ⟨_, h43, by rw [List.length_set]; exact hc2, fun q hq => ?_⟩
                      have hq : q < nC R + 1 := hq
                      rw [List.getElem?_set]
                      by_cases hq2 : nC R = q
                      · rw [if_pos hq2, if_pos (by omega), hadn 26 q 0 (by rw [hNi]; omega)]
                      · rw [if_neg hq2, hado 26 q 0 (by rw [hNi]; omega)]; exact hc3 q (by omega)
                    · rw [hadn _ _ _ hNt]
                      rw [hNi] at hNt
                      obtain ⟨⟨rfl, rfl⟩, rfl⟩ := hNt
                      simp only [okC, e22, e23, e24, e25, fu_s]
                      exact h4a
                exact Rt _ _ _ _ _ _ _ (by decide) (by decide) (⟨⟨⟨hk, hk2⟩, ⟨by rw [ht]; exact hm1, by rw [ht1]; exact hm2⟩, ⟨h1, h2⟩, h3⟩, rfl, ad1, hado 0 0 0 (by rw [hNi]; omega), by rw [← hR1]; exact hRep, by rw [← hR1]; exact hft⟩) (Or.inr (Or.inl ⟨rfl, rfl, rfl, d_AW_meet_112⟩))
              · exact Th _ _ _ _ _ _ _ _ _ _ xw_AW_66 sr_AW_182 d_AW_meet_71 d_AW_meet_74 (Or.inl ⟨d_AW_meet_75, d_AW_meet_77, d_AW_meet_80⟩) (by decide) (by decide) (by decide) (by decide) (⟨Or.inr (Or.inr (Or.inr ⟨⟨hk, hk2⟩, ⟨by rw [ht]; exact hm1, by rw [ht1]; exact hm2⟩, ⟨h1, h2⟩, fun z => h3 (e3.mpr z), rfl⟩)), hR⟩)
            · exact Th _ _ _ _ _ _ _ _ _ _ xw_AW_107 sr_AW_177 d_AW_meet_52 d_AW_meet_55 (Or.inl ⟨d_AW_meet_56, d_AW_meet_58, d_AW_meet_61⟩) (by decide) (by decide) (by decide) (by decide) (⟨Or.inr (Or.inr (Or.inl ⟨⟨hk, hk2⟩, ⟨by rw [ht]; exact hm1, by rw [ht1]; exact hm2⟩, fun z => h2 z.2, rfl⟩)), hR⟩)
          · exact Th _ _ _ _ _ _ _ _ _ _ xw_AW_107 sr_AW_171 d_AW_meet_32 d_AW_meet_35 (Or.inl ⟨d_AW_meet_36, d_AW_meet_38, d_AW_meet_41⟩) (by decide) (by decide) (by decide) (by decide) (⟨Or.inr (Or.inr (Or.inl ⟨⟨hk, hk2⟩, ⟨by rw [ht]; exact hm1, by rw [ht1]; exact hm2⟩, fun z => z.1 h1, rfl⟩)), hR⟩)
        · obtain ⟨rfl, hM6, hm2⟩ := hp; rw [hM6]
          exact Up _ _ _ _ _ _ (by decide) (by decide) (⟨Or.inr (Or.inl ⟨⟨hk, hk2⟩, fun z => hm2 (by rw [← ht1]; exact z.2), rfl⟩), hR⟩)
      · obtain ⟨rfl, hM7, hm1⟩ := hp; rw [hM7]
        exact Up _ _ _ _ _ _ (by decide) (by decide) (⟨Or.inr (Or.inl ⟨⟨hk, hk2⟩, fun z => hm1 (by rw [← ht]; exact z.1), rfl⟩), hR⟩)
    · obtain ⟨rfl, hM8, hk2⟩ := hp; rw [hM8]
      exact Up _ _ _ _ _ _ (by decide) (by decide) (⟨Or.inl ⟨fun z => hk2 z.2, rfl⟩, hR⟩)
  · obtain ⟨rfl, hM9, hk⟩ := hp; rw [hM9]
    exact Up _ _ _ _ _ _ (by decide) (by decide) (⟨Or.inl ⟨fun z => hk z.1, rfl⟩, hR⟩)
