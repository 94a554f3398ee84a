/-! ===== the model's post, near, and the reads behind place ===== -/
/-- the house h lies in a range of the street s -/
def isH (R : mR) (s : Nat) (h : Int32) : Bool := decide (∃ j, j < tn (R 7 s) ∧ (inn h (R 9 (6 * s + j)) (R 10 (6 * s + j)) && iOf (R 8 (6 * s + j)) h) = true)
def nhM (R : mR) (s : Nat) (h : Int32) : Nat → Nat → Int32
  | 0, _ => h
  | f + 1, d => if isH R s (h - nI d) = true then h - nI d else if isH R s (h + nI d) = true then h + nI d else nhM R s h f (d + 1)
def nhR (R : mR) (s : Nat) (h : Int32) : Int32 := if R 7 s = 0 then h else nhM R s h 10000 0
theorem mulN {a b : Nat} (c : Int32) (h : c = nI b) : nI a * c = nI (b * a) := by rw [h, nI_mul, Nat.mul_comm]

set_option maxHeartbeats 4000000 in
set_option maxRecDepth 100000 in
theorem ct_Mo_post (l : Launch) (D : ma_D) (s0 : State) (R : mR) (m : Nat) (mr : Nat → Nat) (s a : Int32) (M : ma_H) (hM : RepM R m mr M) (hwf : WfS R) : Ct l D s0 y_Mo_post c_Mo_post 6 (some .int) 2 0 0 43 [.ref m, .int s, .int a] M (fun q => q = m ∨ ∃ k, mln k ≠ 0 ∧ q = mr k) (fun v M' => ((gbN (kn R s) ((kn R s && inn a 0 (R 15 (tn s)))) (true) (true)) = 0 → v = some (.int (20000 * ((btM (R 15 (tn s)) (R 11 (tn s)) (R 13 (tn s)) a) + 10000) + (btM (R 15 (tn s)) (R 12 (tn s)) (R 14 (tn s)) a) + 10000)) ∧ RepM (uR R 0 0 0) m mr M') ∧ (¬ (gbN (kn R s) ((kn R s && inn a 0 (R 15 (tn s)))) (true) (true)) = 0 → v = some (.int 0) ∧ RepM (uR R 0 0 (nI (thN 3 (gbN (kn R s) ((kn R s && inn a 0 (R 15 (tn s)))) (true) (true))))) m mr M')) := by
  refine Ct_i 3 [some (.ref m), some (.int s), some (.int a), none, none, none] (by decide +kernel) (Nat.le_of_ble_eq_true rfl) rfl ?_
  intro G e1 e2 e3 C hw Rt
  subst e1; subst e2; subst e3
  obtain ⟨⟨⟨hbS, hbL, hbC, hbW, hbF⟩, hbi⟩, ⟨hS, hLm, hCo, hWd, hFn⟩, hst, hln, hmk, hz, hlt, hxy, hrg, hpl, hak, hcn⟩ := id hwf
  refine m_aload_n C d_Mo_post_0 rfl rfl ?_
  refine m_iload_n C d_Mo_post_1 rfl rfl ?_
  refine m_callV (ci := 10) C d_Mo_post_2 mw_Mo_117 mi_Mo_isStreet se_Mo_isStreet rfl (ct_Mo_isStreet _ _ _ R m mr s M hM hS hbS) (fun _ h => h.elim) rfl rfl (Nat.le_of_ble_eq_true rfl) hM.1 (by decide) (fun v9 M9 hp h5 h6 => ?_)
  obtain ⟨rfl, hM9⟩ := hp; rw [hM9]
  show mj G 6 0 0 M 5 [some (.ref m), some (.int s), some (.int a), none, none, none] [.int (b2i (kn R s))]
  refine m_istore_n (L' := [some (.ref m), some (.int s), some (.int a), some (.int (b2i (kn R s))), none, none]) C d_Mo_post_5 rfl (by decide) rfl ?_
  refine m_aload_n C d_Mo_post_6 rfl rfl ?_
  refine m_iconst (v := 3) C d_Mo_post_7 (by decide) ?_
  refine m_iload_n C d_Mo_post_8 rfl rfl ?_
  refine m_iload_n C d_Mo_post_9 rfl rfl ?_
  have jnq : ∀ xq : Int32, xq = b2i (kn R s && inn a 0 (R 15 (tn s))) → mj G 6 0 0 M 32 [some (.ref m), some (.int s), some (.int a), some (.int (b2i (kn R s))), none, none] [.int xq, .int (b2i (kn R s)), .int 3, .ref m] := by
    intro xq hxq
    subst hxq
    refine m_iconst (v := 1) C d_Mo_post_32 (by decide) ?_
    refine m_iconst (v := 1) C d_Mo_post_33 (by decide) ?_
    refine m_callV (ci := 10) C d_Mo_post_34 mw_Mo_110 mi_Mo_goes se_Mo_goes rfl (ct_Mo_goes _ _ _ R m mr 3 (kn R s) ((kn R s && inn a 0 (R 15 (tn s)))) (true) (true) M hM) (fun q h => hw q h) rfl rfl (Nat.le_of_ble_eq_true rfl) hM.1 (by decide) (fun v9 Mg hp g5 g6 => ?_)
    obtain ⟨rfl, hMg⟩ := hp
    show mj G 6 0 0 Mg 37 [some (.ref m), some (.int s), some (.int a), some (.int (b2i (kn R s))), none, none] [.int (b2i (decide ((gbN (kn R s) ((kn R s && inn a 0 (R 15 (tn s)))) (true) (true)) = 0)))]
    refine m_if_ne (tgt := 42) C d_Mo_post_37 (by decide) (fun hgo => ?_) (fun hgo => ?_)
    · rw [b2i_ne0, decide_eq_true_eq] at hgo
      have hMg0 : RepM (uR R 0 0 0) m mr Mg := by rw [hgo] at hMg; exact hMg
      obtain ⟨hp9, hq9, hr9, hs9⟩ := gbN_0 hgo
      obtain ⟨Rg, hRg⟩ : ∃ Rg, Rg = uR R 0 0 0 := ⟨_, rfl⟩
      have hg : ∀ f, f ≠ 0 → Rg f = R f := fun f hf => by rw [hRg, uR_n hf]
      have hMr : RepM Rg m mr Mg := by rw [hRg]; exact hMg0
      obtain ⟨i0, hi, rfl, ht⟩ := kn_i hwf.1 hp9
      have h15 := (hbi i0 hi).2.2
      have q9_1 : Rg 11 = R 11 := by rw [hg 11 (by decide)]
      have q9_2 : Rg 12 = R 12 := by rw [hg 12 (by decide)]
      have q9_3 : Rg 13 = R 13 := by rw [hg 13 (by decide)]
      have q9_4 : Rg 14 = R 14 := by rw [hg 14 (by decide)]
      have q9_5 : Rg 15 = R 15 := by rw [hg 15 (by decide)]
      have jnx : ∀ xx : Int32, xx = btM (R 15 i0) (R 11 i0) (R 13 i0) a → mj G 6 0 0 Mg 83 [some (.ref m), some (.int (nI i0)), some (.int a), some (.int (b2i (kn R (nI i0)))), none, none] [.int xx] := by
        intro xx hxx
        subst hxx
        refine m_istore (L' := [some (.ref m), some (.int (nI i0)), some (.int a), some (.int (b2i (kn R (nI i0)))), some (.int (btM (R 15 i0) (R 11 i0) (R 13 i0) a)), none]) C d_Mo_post_83 (by decide) rfl ?_
        have jny : ∀ xy9 : Int32, xy9 = btM (R 15 i0) (R 12 i0) (R 14 i0) a → mj G 6 0 0 Mg 126 [some (.ref m), some (.int (nI i0)), some (.int a), some (.int (b2i (kn R (nI i0)))), some (.int (btM (R 15 i0) (R 11 i0) (R 13 i0) a)), none] [.int xy9] := by
          intro xy9 hxy9
          subst hxy9
          refine m_istore (L' := [some (.ref m), some (.int (nI i0)), some (.int a), some (.int (b2i (kn R (nI i0)))), some (.int (btM (R 15 i0) (R 11 i0) (R 13 i0) a)), some (.int (btM (R 15 i0) (R 12 i0) (R 14 i0) a))]) C d_Mo_post_126 (by decide) rfl ?_
          refine m_sipush (v := 20000) C d_Mo_post_128 (by decide) ?_
          refine m_iload C d_Mo_post_131 rfl ?_
          refine m_sipush (v := 10000) C d_Mo_post_133 (by decide) ?_
          refine m_iadd C d_Mo_post_136 ?_
          refine m_imul C d_Mo_post_137 ?_
          refine m_iload C d_Mo_post_138 rfl ?_
          refine m_iadd C d_Mo_post_140 ?_
          refine m_sipush (v := 10000) C d_Mo_post_141 (by decide) ?_
          refine m_iadd C d_Mo_post_144 ?_
          exact Rt _ _ _ _ _ _ (by decide) (by decide) d_Mo_post_145 (⟨fun _ => ⟨by rw [ht], by rw [← hRg]; exact hMr⟩, fun z => absurd hgo z⟩)
        refine m_aload_n C d_Mo_post_85 rfl rfl ?_
        refine m_get C fg_Mo_50 d_Mo_post_86 hMr.1 rfl ?_
        refine m_iload_n C d_Mo_post_89 rfl rfl ?_
        refine m_iald (v := .int ((Rg 15) i0)) C d_Mo_post_90 (hMr.a15) kt_int (nI_pos (by omega)) (by rw [nI_clamp (by omega)]; exact arrL_get (by omega)) ?_
        rw [q9_5]
        refine m_if_ne (tgt := 103) C d_Mo_post_91 (by decide) (fun h9 => ?_) (fun h9 => ?_)
        · refine m_aload_n C d_Mo_post_103 rfl rfl ?_
          refine m_get C fg_Mo_41 d_Mo_post_104 hMr.1 rfl ?_
          refine m_iload_n C d_Mo_post_107 rfl rfl ?_
          refine m_iald (v := .int ((Rg 12) i0)) C d_Mo_post_108 (hMr.a12) kt_int (nI_pos (by omega)) (by rw [nI_clamp (by omega)]; exact arrL_get (by omega)) ?_
          rw [q9_2]
          refine m_aload_n C d_Mo_post_109 rfl rfl ?_
          refine m_get C fg_Mo_47 d_Mo_post_110 hMr.1 rfl ?_
          refine m_iload_n C d_Mo_post_113 rfl rfl ?_
          refine m_iald (v := .int ((Rg 14) i0)) C d_Mo_post_114 (hMr.a14) kt_int (nI_pos (by omega)) (by rw [nI_clamp (by omega)]; exact arrL_get (by omega)) ?_
          rw [q9_4]
          refine m_iload_n C d_Mo_post_115 rfl rfl ?_
          refine m_aload_n C d_Mo_post_116 rfl rfl ?_
          refine m_get C fg_Mo_50 d_Mo_post_117 hMr.1 rfl ?_
          refine m_iload_n C d_Mo_post_120 rfl rfl ?_
          refine m_iald (v := .int ((Rg 15) i0)) C d_Mo_post_121 (hMr.a15) kt_int (nI_pos (by omega)) (by rw [nI_clamp (by omega)]; exact arrL_get (by omega)) ?_
          rw [q9_5]
          refine m_callS C d_Mo_post_122 mw_Mo_148 mst_Mo_part (ct_Mo_part _ _ _ (R 14 i0) a (R 15 i0) (tw64 h15.1 h9) Mg) (fun _ h => h.elim) rfl rfl (Nat.le_of_ble_eq_true rfl) (by decide) (fun v8 M8 hp h85 h86 => ?_)
          obtain ⟨rfl, hM8⟩ := hp; rw [hM8]
          show mj G 6 0 0 Mg 125 [some (.ref m), some (.int (nI i0)), some (.int a), some (.int (b2i (kn R (nI i0)))), some (.int (btM (R 15 i0) (R 11 i0) (R 13 i0) a)), none] [.int (ptF (R 14 i0) a (R 15 i0)), .int ((R 12) i0)]
          refine m_iadd C d_Mo_post_125 ?_
          exact jny _ (by rw [btM, if_neg h9])
        · refine m_aload_n C d_Mo_post_94 rfl rfl ?_
          refine m_get C fg_Mo_41 d_Mo_post_95 hMr.1 rfl ?_
          refine m_iload_n C d_Mo_post_98 rfl rfl ?_
          refine m_iald (v := .int ((Rg 12) i0)) C d_Mo_post_99 (hMr.a12) kt_int (nI_pos (by omega)) (by rw [nI_clamp (by omega)]; exact arrL_get (by omega)) ?_
          rw [q9_2]
          refine m_goto (tgt := 126) C d_Mo_post_100 (by decide) ?_
          exact jny _ (by rw [btM, if_pos h9])
      refine m_aload_n C d_Mo_post_42 rfl rfl ?_
      refine m_get C fg_Mo_50 d_Mo_post_43 hMr.1 rfl ?_
      refine m_iload_n C d_Mo_post_46 rfl rfl ?_
      refine m_iald (v := .int ((Rg 15) i0)) C d_Mo_post_47 (hMr.a15) kt_int (nI_pos (by omega)) (by rw [nI_clamp (by omega)]; exact arrL_get (by omega)) ?_
      rw [q9_5]
      refine m_if_ne (tgt := 60) C d_Mo_post_48 (by decide) (fun h9 => ?_) (fun h9 => ?_)
      · refine m_aload_n C d_Mo_post_60 rfl rfl ?_
        refine m_get C fg_Mo_38 d_Mo_post_61 hMr.1 rfl ?_
        refine m_iload_n C d_Mo_post_64 rfl rfl ?_
        refine m_iald (v := .int ((Rg 11) i0)) C d_Mo_post_65 (hMr.a11) kt_int (nI_pos (by omega)) (by rw [nI_clamp (by omega)]; exact arrL_get (by omega)) ?_
        rw [q9_1]
        refine m_aload_n C d_Mo_post_66 rfl rfl ?_
        refine m_get C fg_Mo_44 d_Mo_post_67 hMr.1 rfl ?_
        refine m_iload_n C d_Mo_post_70 rfl rfl ?_
        refine m_iald (v := .int ((Rg 13) i0)) C d_Mo_post_71 (hMr.a13) kt_int (nI_pos (by omega)) (by rw [nI_clamp (by omega)]; exact arrL_get (by omega)) ?_
        rw [q9_3]
        refine m_iload_n C d_Mo_post_72 rfl rfl ?_
        refine m_aload_n C d_Mo_post_73 rfl rfl ?_
        refine m_get C fg_Mo_50 d_Mo_post_74 hMr.1 rfl ?_
        refine m_iload_n C d_Mo_post_77 rfl rfl ?_
        refine m_iald (v := .int ((Rg 15) i0)) C d_Mo_post_78 (hMr.a15) kt_int (nI_pos (by omega)) (by rw [nI_clamp (by omega)]; exact arrL_get (by omega)) ?_
        rw [q9_5]
        refine m_callS C d_Mo_post_79 mw_Mo_148 mst_Mo_part (ct_Mo_part _ _ _ (R 13 i0) a (R 15 i0) (tw64 h15.1 h9) Mg) (fun _ h => h.elim) rfl rfl (Nat.le_of_ble_eq_true rfl) (by decide) (fun v8 M8 hp h85 h86 => ?_)
        obtain ⟨rfl, hM8⟩ := hp; rw [hM8]
        show mj G 6 0 0 Mg 82 [some (.ref m), some (.int (nI i0)), some (.int a), some (.int (b2i (kn R (nI i0)))), none, none] [.int (ptF (R 13 i0) a (R 15 i0)), .int ((R 11) i0)]
        refine m_iadd C d_Mo_post_82 ?_
        exact jnx _ (by rw [btM, if_neg h9])
      · refine m_aload_n C d_Mo_post_51 rfl rfl ?_
        refine m_get C fg_Mo_38 d_Mo_post_52 hMr.1 rfl ?_
        refine m_iload_n C d_Mo_post_55 rfl rfl ?_
        refine m_iald (v := .int ((Rg 11) i0)) C d_Mo_post_56 (hMr.a11) kt_int (nI_pos (by omega)) (by rw [nI_clamp (by omega)]; exact arrL_get (by omega)) ?_
        rw [q9_1]
        refine m_goto (tgt := 83) C d_Mo_post_57 (by decide) ?_
        exact jnx _ (by rw [btM, if_pos h9])
    · rw [b2i_eq0, decide_eq_false_iff_not] at hgo
      refine m_iconst (v := 0) C d_Mo_post_40 (by decide) ?_
      exact Rt _ _ _ _ _ _ (by decide) (by decide) d_Mo_post_41 (⟨fun z => absurd z hgo, fun _ => ⟨rfl, hMg⟩⟩)
  refine m_if_eq (tgt := 31) C d_Mo_post_10 (by decide) (fun h9 => ?_) (fun h9 => ?_)
  · refine m_iconst (v := 0) C d_Mo_post_31 (by decide) ?_
    exact jnq _ (by rw [b2i_eq0] at h9; rw [h9]; rfl)
  · rw [b2i_eq0, Bool.not_eq_false] at h9
    obtain ⟨i0, hi, hsi, ht⟩ := kn_i hwf.1 h9
    refine m_iload_n C d_Mo_post_13 rfl rfl ?_
    refine m_iconst (v := 0) C d_Mo_post_14 (by decide) ?_
    refine m_aload_n C d_Mo_post_15 rfl rfl ?_
    refine m_get C fg_Mo_50 d_Mo_post_16 hM.1 rfl ?_
    refine m_iload_n C d_Mo_post_19 rfl rfl ?_
    rw [hsi]
    refine m_iald (v := .int ((R 15) i0)) C d_Mo_post_20 (hM.a15) kt_int (nI_pos (by omega)) (by rw [nI_clamp (by omega)]; exact arrL_get (by omega)) ?_
    refine m_callS C d_Mo_post_21 mw_Mo_102 mst_Mo_in (ct_Mo_in _ _ _ a 0 (R 15 i0) M) (fun _ h => h.elim) rfl rfl (Nat.le_of_ble_eq_true rfl) (by decide) (fun v9 M9 hp h5 h6 => ?_)
    obtain ⟨rfl, hM9⟩ := hp; rw [hM9]
    show mj G 6 0 0 M 24 [some (.ref m), some (.int (nI i0)), some (.int a), some (.int (b2i (kn R (nI i0)))), none, none] [.int (b2i (inn a 0 (R 15 i0))), .int (b2i (kn R (nI i0))), .int 3, .ref m]
    rw [hsi] at jnq h9 ht
    refine m_if_eq (tgt := 31) C d_Mo_post_24 (by decide) (fun h8 => ?_) (fun h8 => ?_)
    · refine m_iconst (v := 0) C d_Mo_post_31 (by decide) ?_
      exact jnq _ (by rw [b2i_eq0] at h8; rw [h9, ht, h8]; rfl)
    · refine m_iconst (v := 1) C d_Mo_post_27 (by decide) ?_
      refine m_goto (tgt := 32) C d_Mo_post_28 (by decide) ?_
      exact jnq _ (by rw [b2i_eq0, Bool.not_eq_false] at h8; rw [h9, ht, h8]; rfl)

set_option maxHeartbeats 4000000 in
set_option maxRecDepth 100000 in
theorem ct_Mo_isHouse (l : Launch) (D : ma_D) (s0 : State) (R : mR) (m : Nat) (mr : Nat → Nat) (g : Nat) (hg : g < nS R) (h : Int32) (M : ma_H) (hM : RepM R m mr M) (hwf : WfS R) : Ct l D s0 y_Mo_isHouse c_Mo_isHouse 4 (some .boolean) 1 0 0 22 [.ref m, .int (nI g), .int h] M (fun _ => False) (pI (b2i (isH R g h)) M) := by
  refine Ct_z 1 [some (.ref m), some (.int (nI g)), some (.int h), none] (by decide +kernel) (Nat.le_of_ble_eq_true rfl) rfl ?_
  intro G e1 e2 e3 C hw Rt
  subst e1; subst e2; subst e3
  obtain ⟨⟨⟨hbS, hbL, hbC, hbW, hbF⟩, hbi⟩, ⟨hS, hLm, hCo, hWd, hFn⟩, hst, hln, hmk, hz, hlt, hxy, hrg, hpl, hak, hcn⟩ := id hwf
  have h7 := (hst g hg).2
  have hb7 := (hbi g hg).2.1
  refine m_iload_n C d_Mo_isHouse_0 rfl rfl ?_
  refine m_bipush (v := 6) C d_Mo_isHouse_1 (by decide) ?_
  refine m_imul C d_Mo_isHouse_3 ?_
  rw [mulN 6 (b := 6) rfl]
  refine m_istore_n (L' := [some (.ref m), some (.int (nI g)), some (.int h), some (.int (nI (6 * g)))]) C d_Mo_isHouse_4 rfl (by decide) rfl ?_
  have loop : ∀ (lq9 : Nat) (j : Nat), tn (R 7 g) - j = lq9 → j ≤ tn (R 7 g) → (∀ i, i < j → ¬ (inn h (R 9 (6 * g + i)) (R 10 (6 * g + i)) && iOf (R 8 (6 * g + i)) h) = true) → mj G 4 0 0 M 5 [some (.ref m), some (.int (nI g)), some (.int h), some (.int (nI (6 * g + j)))] [] := by
    intro lq9
    induction lq9 using Nat.strongRecOn with
    | ind lq9 ih =>
      intro j hr hj hq
      refine m_iload_n C d_Mo_isHouse_5 rfl rfl ?_
      refine m_iload_n C d_Mo_isHouse_6 rfl rfl ?_
      refine m_bipush (v := 6) C d_Mo_isHouse_7 (by decide) ?_
      refine m_imul C d_Mo_isHouse_9 ?_
      rw [mulN 6 (b := 6) rfl]
      refine m_aload_n C d_Mo_isHouse_10 rfl rfl ?_
      refine m_get C fg_Mo_26 d_Mo_isHouse_11 hM.1 rfl ?_
      refine m_iload_n C d_Mo_isHouse_14 rfl rfl ?_
      refine m_iald (v := .int ((R 7) g)) C d_Mo_isHouse_15 (hM.a7) kt_int (nI_pos (by omega)) (by rw [nI_clamp (by omega)]; exact arrL_get (by omega)) ?_
      rw [h7]
      refine m_iadd C d_Mo_isHouse_16 ?_
      rw [nI_add]
      have e1 : nI (6 * g + tn (R 7 g)) ≤ nI (6 * g + j) ↔ tn (R 7 g) ≤ j := by rw [nI_leI (by omega) (by omega)]; omega
      refine m_icmp_ge (tgt := 60) C d_Mo_isHouse_17 (by decide) (fun h9 => ?_) (fun h9 => ?_)
      · refine m_iconst (v := 0) C d_Mo_isHouse_60 (by decide) ?_
        exact Rt _ _ _ _ _ _ (by decide) (by decide) (by decide) d_Mo_isHouse_61 (⟨by rw [e1] at h9; have : ¬ ∃ j, j < tn (R 7 g) ∧ (inn h (R 9 (6 * g + j)) (R 10 (6 * g + j)) && iOf (R 8 (6 * g + j)) h) = true := fun ⟨i, q1, q2⟩ => hq i (by omega) q2; rw [isH, decide_eq_false this]; rfl, rfl⟩)
      · rw [e1] at h9
        have nxt : ¬ (inn h (R 9 (6 * g + j)) (R 10 (6 * g + j)) && iOf (R 8 (6 * g + j)) h) = true → mj G 4 0 0 M 54 [some (.ref m), some (.int (nI g)), some (.int h), some (.int (nI (6 * g + j)))] [] := by
          intro a1
          refine m_iinc (v := (nI (6 * g + (j + 1)))) (L' := [some (.ref m), some (.int (nI g)), some (.int h), some (.int (nI (6 * g + (j + 1))))]) C d_Mo_isHouse_54 rfl (nI_1 (6 * g + j)) (by decide) rfl ?_
          refine m_goto (tgt := 5) C d_Mo_isHouse_57 (by decide) ?_
          exact ih (tn (R 7 g) - (j + 1)) (by omega) (j + 1) rfl (by omega) (fun i hi => by by_cases q : i = j; rw [q]; exact a1; exact hq i (by omega))
        refine m_iload_n C d_Mo_isHouse_20 rfl rfl ?_
        refine m_aload_n C d_Mo_isHouse_21 rfl rfl ?_
        refine m_get C fg_Mo_32 d_Mo_isHouse_22 hM.1 rfl ?_
        refine m_iload_n C d_Mo_isHouse_25 rfl rfl ?_
        refine m_iald (v := .int ((R 9) (6 * g + j))) C d_Mo_isHouse_26 (hM.a9) kt_int (nI_pos (by omega)) (by rw [nI_clamp (by omega)]; exact arrL_get (by omega)) ?_
        refine m_aload_n C d_Mo_isHouse_27 rfl rfl ?_
        refine m_get C fg_Mo_35 d_Mo_isHouse_28 hM.1 rfl ?_
        refine m_iload_n C d_Mo_isHouse_31 rfl rfl ?_
        refine m_iald (v := .int ((R 10) (6 * g + j))) C d_Mo_isHouse_32 (hM.a10) kt_int (nI_pos (by omega)) (by rw [nI_clamp (by omega)]; exact arrL_get (by omega)) ?_
        refine m_callS C d_Mo_isHouse_33 mw_Mo_102 mst_Mo_in (ct_Mo_in _ _ _ h (R 9 (6 * g + j)) (R 10 (6 * g + j)) M) (fun _ h => h.elim) rfl rfl (Nat.le_of_ble_eq_true rfl) (by decide) (fun v9 M9 hp h5 h6 => ?_)
        obtain ⟨rfl, hM9⟩ := hp; rw [hM9]
        show mj G 4 0 0 M 36 [some (.ref m), some (.int (nI g)), some (.int h), some (.int (nI (6 * g + j)))] [.int (b2i (inn h (R 9 (6 * g + j)) (R 10 (6 * g + j))))]
        refine m_if_eq (tgt := 54) C d_Mo_isHouse_36 (by decide) (fun h8 => ?_) (fun h8 => ?_)
        · exact nxt (by rw [b2i_eq0] at h8; rw [h8]; simp)
        · rw [b2i_eq0, Bool.not_eq_false] at h8
          refine m_aload_n C d_Mo_isHouse_39 rfl rfl ?_
          refine m_get C fg_Mo_29 d_Mo_isHouse_40 hM.1 rfl ?_
          refine m_iload_n C d_Mo_isHouse_43 rfl rfl ?_
          refine m_iald (v := .int ((R 8) (6 * g + j))) C d_Mo_isHouse_44 (hM.a8) kt_int (nI_pos (by omega)) (by rw [nI_clamp (by omega)]; exact arrL_get (by omega)) ?_
          refine m_iload_n C d_Mo_isHouse_45 rfl rfl ?_
          refine m_callS C d_Mo_isHouse_46 mw_Mo_125 mst_Mo_isOf (ct_Mo_isOf _ _ _ (R 8 (6 * g + j)) h M) (fun _ h => h.elim) rfl rfl (Nat.le_of_ble_eq_true rfl) (by decide) (fun v9 M9 hp h5 h6 => ?_)
          obtain ⟨rfl, hM9⟩ := hp; rw [hM9]
          show mj G 4 0 0 M 49 [some (.ref m), some (.int (nI g)), some (.int h), some (.int (nI (6 * g + j)))] [.int (b2i (iOf (R 8 (6 * g + j)) h))]
          refine m_if_eq (tgt := 54) C d_Mo_isHouse_49 (by decide) (fun c7 => ?_) (fun c7 => ?_)
          · exact nxt (by rw [b2i_eq0] at c7; rw [h8, c7]; simp)
          · refine m_iconst (v := 1) C d_Mo_isHouse_52 (by decide) ?_
            exact Rt _ _ _ _ _ _ (by decide) (by decide) (by decide) d_Mo_isHouse_53 (⟨by rw [b2i_eq0, Bool.not_eq_false] at c7; have : ∃ j, j < tn (R 7 g) ∧ (inn h (R 9 (6 * g + j)) (R 10 (6 * g + j)) && iOf (R 8 (6 * g + j)) h) = true := ⟨j, by omega, by rw [h8, c7]; rfl⟩; rw [isH, decide_eq_true this]; rfl, rfl⟩)
  exact loop _ 0 rfl (Nat.zero_le _) (fun i h => absurd h (by omega))

set_option maxHeartbeats 4000000 in
set_option maxRecDepth 100000 in
theorem ct_Mo_nearestHouse (l : Launch) (D : ma_D) (s0 : State) (R : mR) (m : Nat) (mr : Nat → Nat) (g : Nat) (hg : g < nS R) (h : Int32) (M : ma_H) (hM : RepM R m mr M) (hwf : WfS R) : Ct l D s0 y_Mo_nearestHouse c_Mo_nearestHouse 4 (some .int) 2 0 0 45 [.ref m, .int (nI g), .int h] M (fun _ => False) (pI (nhR R g h) M) := by
  refine Ct_i 1 [some (.ref m), some (.int (nI g)), some (.int h), none] (by decide +kernel) (Nat.le_of_ble_eq_true rfl) rfl ?_
  intro G e1 e2 e3 C hw Rt
  subst e1; subst e2; subst e3
  obtain ⟨⟨⟨hbS, hbL, hbC, hbW, hbF⟩, hbi⟩, ⟨hS, hLm, hCo, hWd, hFn⟩, hst, hln, hmk, hz, hlt, hxy, hrg, hpl, hak, hcn⟩ := id hwf
  refine m_aload_n C d_Mo_nearestHouse_0 rfl rfl ?_
  refine m_get C fg_Mo_26 d_Mo_nearestHouse_1 hM.1 rfl ?_
  refine m_iload_n C d_Mo_nearestHouse_4 rfl rfl ?_
  refine m_iald (v := .int ((R 7) g)) C d_Mo_nearestHouse_5 (hM.a7) kt_int (nI_pos (by omega)) (by rw [nI_clamp (by omega)]; exact arrL_get (by omega)) ?_
  refine m_if_ne (tgt := 11) C d_Mo_nearestHouse_6 (by decide) (fun h9 => ?_) (fun h9 => ?_)
  · refine m_iconst (v := 0) C d_Mo_nearestHouse_11 (by decide) ?_
    refine m_istore_n (L' := [some (.ref m), some (.int (nI g)), some (.int h), some (.int 0)]) C d_Mo_nearestHouse_12 rfl (by decide) rfl ?_
    have loop : ∀ (lq9 : Nat) (d : Nat), 10000 - d = lq9 → d ≤ 10000 → nhM R g h (10000 - d) d = nhR R g h → mj G 4 0 0 M 13 [some (.ref m), some (.int (nI g)), some (.int h), some (.int (nI d))] [] := by
      intro lq9
      induction lq9 using Nat.strongRecOn with
      | ind lq9 ih =>
        intro d hr hd he
        refine m_iload_n C d_Mo_nearestHouse_13 rfl rfl ?_
        refine m_sipush (v := 9999) C d_Mo_nearestHouse_14 (by decide) ?_
        have e1 : (9999 : Int32) < nI d ↔ d = 10000 := by rw [show (9999 : Int32) = nI 9999 from rfl, nI_ltI (by decide) (by omega)]; omega
        refine m_icmp_gt (tgt := 56) C d_Mo_nearestHouse_17 (by decide) (fun h8 => ?_) (fun h8 => ?_)
        · refine m_iload_n C d_Mo_nearestHouse_56 rfl rfl ?_
          exact Rt _ _ _ _ _ _ (by decide) (by decide) d_Mo_nearestHouse_57 (⟨by rw [e1] at h8; rw [← he, h8]; rfl, rfl⟩)
        · rw [e1] at h8
          obtain ⟨f, hf⟩ : ∃ f, 10000 - d = f + 1 := ⟨10000 - d - 1, by omega⟩
          rw [hf, nhM] at he
          refine m_aload_n C d_Mo_nearestHouse_20 rfl rfl ?_
          refine m_iload_n C d_Mo_nearestHouse_21 rfl rfl ?_
          refine m_iload_n C d_Mo_nearestHouse_22 rfl rfl ?_
          refine m_iload_n C d_Mo_nearestHouse_23 rfl rfl ?_
          refine m_isub C d_Mo_nearestHouse_24 ?_
          refine m_callV (ci := 10) C d_Mo_nearestHouse_25 mw_Mo_184 mi_Mo_isHouse se_Mo_isHouse rfl (ct_Mo_isHouse _ _ _ R m mr g hg (h - nI d) M hM hwf) (fun _ h => h.elim) rfl rfl (Nat.le_of_ble_eq_true rfl) hM.1 (by decide) (fun v9 M9 hp h5 h6 => ?_)
          obtain ⟨rfl, hM9⟩ := hp; rw [hM9]
          show mj G 4 0 0 M 28 [some (.ref m), some (.int (nI g)), some (.int h), some (.int (nI d))] [.int (b2i (isH R g (h - nI d)))]
          refine m_if_eq (tgt := 35) C d_Mo_nearestHouse_28 (by decide) (fun h7 => ?_) (fun h7 => ?_)
          · rw [b2i_eq0] at h7
            rw [if_neg (by rw [h7]; simp : ¬ isH R g (h - nI d) = true)] at he
            refine m_aload_n C d_Mo_nearestHouse_35 rfl rfl ?_
            refine m_iload_n C d_Mo_nearestHouse_36 rfl rfl ?_
            refine m_iload_n C d_Mo_nearestHouse_37 rfl rfl ?_
            refine m_iload_n C d_Mo_nearestHouse_38 rfl rfl ?_
            refine m_iadd C d_Mo_nearestHouse_39 ?_
            refine m_callV (ci := 10) C d_Mo_nearestHouse_40 mw_Mo_184 mi_Mo_isHouse se_Mo_isHouse rfl (ct_Mo_isHouse _ _ _ R m mr g hg (h + nI d) M hM hwf) (fun _ h => h.elim) rfl rfl (Nat.le_of_ble_eq_true rfl) hM.1 (by decide) (fun v9 M9 hp h5 h6 => ?_)
            obtain ⟨rfl, hM9⟩ := hp; rw [hM9]
            show mj G 4 0 0 M 43 [some (.ref m), some (.int (nI g)), some (.int h), some (.int (nI d))] [.int (b2i (isH R g (h + nI d)))]
            refine m_if_eq (tgt := 50) C d_Mo_nearestHouse_43 (by decide) (fun h6 => ?_) (fun h6 => ?_)
            · rw [b2i_eq0] at h6
              rw [if_neg (by rw [h6]; simp : ¬ isH R g (h + nI d) = true)] at he
              refine m_iinc (v := (nI (d + 1))) (L' := [some (.ref m), some (.int (nI g)), some (.int h), some (.int (nI (d + 1)))]) C d_Mo_nearestHouse_50 rfl (nI_1 d) (by decide) rfl ?_
              refine m_goto (tgt := 13) C d_Mo_nearestHouse_53 (by decide) ?_
              exact ih (10000 - (d + 1)) (by omega) (d + 1) rfl (by omega) (by rw [← he, show 10000 - (d + 1) = f by omega])
            · refine m_iload_n C d_Mo_nearestHouse_46 rfl rfl ?_
              refine m_iload_n C d_Mo_nearestHouse_47 rfl rfl ?_
              refine m_iadd C d_Mo_nearestHouse_48 ?_
              exact Rt _ _ _ _ _ _ (by decide) (by decide) d_Mo_nearestHouse_49 (⟨by rw [b2i_eq0, Bool.not_eq_false] at h6; rw [if_pos h6] at he; rw [he], rfl⟩)
          · refine m_iload_n C d_Mo_nearestHouse_31 rfl rfl ?_
            refine m_iload_n C d_Mo_nearestHouse_32 rfl rfl ?_
            refine m_isub C d_Mo_nearestHouse_33 ?_
            exact Rt _ _ _ _ _ _ (by decide) (by decide) d_Mo_nearestHouse_34 (⟨by rw [b2i_eq0, Bool.not_eq_false] at h7; rw [if_pos h7] at he; rw [he], rfl⟩)
    exact loop _ 0 rfl (Nat.zero_le _) (by rw [nhR, if_neg h9])
  · refine m_iload_n C d_Mo_nearestHouse_9 rfl rfl ?_
    exact Rt _ _ _ _ _ _ (by decide) (by decide) d_Mo_nearestHouse_10 (⟨by rw [nhR, if_pos h9], rfl⟩)

set_option maxHeartbeats 4000000 in
set_option maxRecDepth 100000 in
theorem ct_Mo_reason (l : Launch) (D : ma_D) (s0 : State) (R : mR) (m : Nat) (mr : Nat → Nat) (g : Nat) (hg : g < nS R) (M : ma_H) (hM : RepM R m mr M) (hwf : WfS R) : Ct l D s0 y_Mo_reason c_Mo_reason 2 (some .int) 2 0 0 45 [.ref m, .int (nI g)] M (fun _ => False) (pI (if R 31 0 = 0 then 2 else if isH R g (R 31 0) then 0 else 1) M) := by
  refine Ct_i 0 [some (.ref m), some (.int (nI g))] (by decide +kernel) (Nat.le_of_ble_eq_true rfl) rfl ?_
  intro G e1 e2 e3 C hw Rt
  subst e1; subst e2; subst e3
  refine m_aload_n C d_Mo_reason_0 rfl rfl ?_
  refine m_get C fg_Mo_172 d_Mo_reason_1 hM.1 rfl ?_
  refine m_if_ne (tgt := 11) C d_Mo_reason_4 (by decide) (fun h9 => ?_) (fun h9 => ?_)
  · refine m_aload_n C d_Mo_reason_11 rfl rfl ?_
    refine m_iload_n C d_Mo_reason_12 rfl rfl ?_
    refine m_aload_n C d_Mo_reason_13 rfl rfl ?_
    refine m_get C fg_Mo_172 d_Mo_reason_14 hM.1 rfl ?_
    refine m_callV (ci := 10) C d_Mo_reason_17 mw_Mo_184 mi_Mo_isHouse se_Mo_isHouse rfl (ct_Mo_isHouse _ _ _ R m mr g hg (R 31 0) M hM hwf) (fun _ h => h.elim) rfl rfl (Nat.le_of_ble_eq_true rfl) hM.1 (by decide) (fun v9 M9 hp h5 h6 => ?_)
    obtain ⟨rfl, hM9⟩ := hp; rw [hM9]
    show mj G 2 0 0 M 20 [some (.ref m), some (.int (nI g))] [.int (b2i (isH R g (R 31 0)))]
    refine m_if_eq (tgt := 27) C d_Mo_reason_20 (by decide) (fun h8 => ?_) (fun h8 => ?_)
    · refine m_iconst (v := 1) C d_Mo_reason_27 (by decide) ?_
      exact Rt _ _ _ _ _ _ (by decide) (by decide) d_Mo_reason_28 (⟨by rw [b2i_eq0] at h8; rw [if_neg h9, h8]; rfl, rfl⟩)
    · refine m_iconst (v := 0) C d_Mo_reason_23 (by decide) ?_
      refine m_goto (tgt := 28) C d_Mo_reason_24 (by decide) ?_
      exact Rt _ _ _ _ _ _ (by decide) (by decide) d_Mo_reason_28 (⟨by rw [b2i_eq0, Bool.not_eq_false] at h8; rw [if_neg h9, h8]; rfl, rfl⟩)
  · refine m_iconst (v := 2) C d_Mo_reason_7 (by decide) ?_
    refine m_goto (tgt := 28) C d_Mo_reason_8 (by decide) ?_
    exact Rt _ _ _ _ _ _ (by decide) (by decide) d_Mo_reason_28 (⟨by rw [if_pos h9], rfl⟩)
