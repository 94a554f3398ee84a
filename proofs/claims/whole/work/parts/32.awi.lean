/-! ===== AddressWords() ===== -/
theorem nn_new {M M1 : ma_H} {a : Nat} {e : ma_E} (h0 : M1 a = some e) (ho : ∀ q, q ≠ a → M1 q = M q) (q : Nat) (h : M1 q = none) : M q = none := by
  have n0 : q ≠ a := fun z => by rw [z, h0] at h; cases h
  rw [← ho q n0]; exact h
theorem nn_call {M M1 : ma_H} {a : Nat} {e : ma_E} (h0 : M1 a = some e) (ho : ∀ q, M q ≠ none → ¬ q = a → M1 q = M q) (q : Nat) (h : M1 q = none) : M q = none := by
  cases hx : M q with
  | none => rfl
  | some c =>
    have n0 : q ≠ a := fun z => by rw [z, h0] at h; cases h
    rw [ho q (by rw [hx]; simp) n0, hx] at h
    cases h
def sgC (c : Option ma_E) : Nat := match c with
  | none => 1000
  | some (.inl (ci, _)) => ci
  | some (.inr (ty, l)) => l.length + (match ty with | .int => 100 | .char => 200 | _ => 300)
def sgK (k : Nat) : Nat := [0, 330, 320, 340, 310, 8, 240, 120, 120, 2, 117, 117, 117, 7, 110, 110, 6].getD k 0
theorem okC_sg {R : mR} {ad : mAd} {k i j : Nat} {c : Option ma_E} (hk : k ≤ 16) (h : okC R ad k i j c) : sgC c = sgK k := by
  have h9 : k = 0 ∨ k = 1 ∨ k = 2 ∨ k = 3 ∨ k = 4 ∨ k = 5 ∨ k = 6 ∨ k = 7 ∨ k = 8 ∨ k = 9 ∨ k = 10 ∨ k = 11 ∨ k = 12 ∨ k = 13 ∨ k = 14 ∨ k = 15 ∨ k = 16 := by omega
  rcases h9 with rfl | rfl | rfl | rfl | rfl | rfl | rfl | rfl | rfl | rfl | rfl | rfl | rfl | rfl | rfl | rfl | rfl
  · simp only [okC] at h; rw [h]; rfl
  · obtain ⟨l, h, h2, -⟩ := h; rw [h]; simp [sgC, sgK, h2]
  · obtain ⟨l, h, h2, -⟩ := h; rw [h]; simp [sgC, sgK, h2]
  · obtain ⟨l, h, h2, -⟩ := h; rw [h]; simp [sgC, sgK, h2]
  · obtain ⟨l, h, h2, -⟩ := h; rw [h]; simp [sgC, sgK, h2]
  · obtain ⟨s, h⟩ := h; rw [h]; rfl
  · obtain ⟨f, h, -⟩ := h; rw [h]; simp [sgC, sgK, arrL_len]
  · obtain ⟨f, h⟩ := h; rw [h]; simp [sgC, sgK, arrL_len]
  · obtain ⟨f, h⟩ := h; rw [h]; simp [sgC, sgK, arrL_len]
  · obtain ⟨p, q, r, -, h⟩ := h; rw [h]; rfl
  · obtain ⟨f, h⟩ := h; rw [h]; simp [sgC, sgK, arrL_len]
  · obtain ⟨f, h⟩ := h; rw [h]; simp [sgC, sgK, arrL_len]
  · obtain ⟨f, h⟩ := h; rw [h]; simp [sgC, sgK, arrL_len]
  · obtain ⟨p, q, h⟩ := h; rw [h]; rfl
  · obtain ⟨f, h⟩ := h; rw [h]; simp [sgC, sgK, arrL_len]
  · obtain ⟨f, h⟩ := h; rw [h]; simp [sgC, sgK, arrL_len]
  · obtain ⟨f, h, -⟩ := h; rw [h]; rfl
theorem sgK_inj {k k' : Nat} (h : k ≤ 16) (h' : k' ≤ 16) (e : sgK k' = sgK k) : k = k' ∨ (k = 7 ∧ k' = 8) ∨ (k = 8 ∧ k' = 7) ∨ (k = 10 ∧ k' = 11) ∨ (k = 10 ∧ k' = 12) ∨ (k = 11 ∧ k' = 10) ∨ (k = 11 ∧ k' = 12) ∨ (k = 12 ∧ k' = 10) ∨ (k = 12 ∧ k' = 11) ∨ (k = 14 ∧ k' = 15) ∨ (k = 15 ∧ k' = 14) := (by decide +kernel : ∀ k k' : Fin 17, sgK k'.val = sgK k.val → k.val = k'.val ∨ (k.val = 7 ∧ k'.val = 8) ∨ (k.val = 8 ∧ k'.val = 7) ∨ (k.val = 10 ∧ k'.val = 11) ∨ (k.val = 10 ∧ k'.val = 12) ∨ (k.val = 11 ∧ k'.val = 10) ∨ (k.val = 11 ∧ k'.val = 12) ∨ (k.val = 12 ∧ k'.val = 10) ∨ (k.val = 12 ∧ k'.val = 11) ∨ (k.val = 14 ∧ k'.val = 15) ∨ (k.val = 15 ∧ k'.val = 14)) ⟨k, by omega⟩ ⟨k', by omega⟩ e
theorem k16s {k : Nat} (h : k < 16) : k = 0 ∨ k = 1 ∨ k = 2 ∨ k = 3 ∨ k = 4 ∨ k = 5 ∨ k = 6 ∨ k = 7 ∨ k = 8 ∨ k = 9 ∨ k = 10 ∨ k = 11 ∨ k = 12 ∨ k = 13 ∨ k = 14 ∨ k = 15 := by omega
theorem tn00 : tn 0 = 0 := rfl
theorem lv_zero : ∀ k i j, lv (fun _ _ => 0) k i j → k ≤ 16 ∧ (k < 16 → i = 0) ∧ (k = 16 → i < 10) ∧ j = 0 := by
  intro k i j hv
  have h1 := lv_k hv
  have h2 := lv_le hv
  simp only [nS, nL, nC, tn00] at h1
  omega

set_option maxHeartbeats 4000000 in
set_option maxRecDepth 100000 in
theorem ct_AW_init (l : Launch) (D : ma_D) (s0 : State) (x : Nat) (M : ma_H) (hx : M x = some (.inl (0, [.null, .int 0, .null, .int 0, .null, .int 0, .null, .null, .null, .null, .int 0]))) : Ct l D s0 y_AW_init c_AW_init 2 none 2 25 326 40 [.ref x] M (fun q => q = x) (fun r M' => r = none ∧ ∃ ad : mAd, ad 0 0 0 = x ∧ RepC (fun _ _ => 0) ad M' ∧ ∀ q, foot (fun _ _ => 0) ad q → q = x ∨ M q = none) := by
  refine Ct_v 1 [some (.ref x), none] (by decide +kernel) (Nat.le_of_ble_eq_true rfl) rfl ?_
  intro G e1 e2 e3 C hw hI Rt
  subst e1; subst e2; subst e3
  refine m_aload_n C d_AW_init_0 rfl rfl ?_
  refine m_obj C d_AW_init_1 ml_AW_1 mi_obj mc_obj (by decide) (Nat.le_of_ble_eq_true rfl) ?_
  have N0 : ∀ q, M q = none → M q = none := fun _ h => h
  refine m_aload_n C d_AW_init_4 rfl rfl ?_
  refine m_bipush (v := 30) C d_AW_init_5 (by decide) ?_
  refine m_anewE (N := 30) C d_AW_init_7 kt_St cl_AW_9 ao_St (by decide) (by decide) (by decide) (by decide) (by decide) (fun sts M1 M1n M1w M1a0 M1o => ?_)
  have M1_x : M1 x = some (.inl (0, [.null, .int 0, .null, .int 0, .null, .int 0, .null, .null, .null, .null, .int 0])) := (M1o x (ma_nef hx M1n)).trans hx
  have M1_sts : M1 sts = some (.inr (.object R_St, List.replicate 30 .null)) := M1a0
  have F_sts : M sts = none := N0 _ M1n
  have N1 : ∀ q, M1 q = none → M q = none := fun q h => N0 q (nn_new M1a0 M1o q h)
  refine m_putFE C (hI rfl) fp_AW_11 d_AW_init_10 (hw _ rfl) M1_x rfl rfl (fun M2 M2a0 M2o => ?_)
  have M2_sts : M2 sts = some (.inr (.object R_St, List.replicate 30 .null)) := (M2o sts (Ne.symm (ma_ne2 M1_x M1_sts))).trans M1_sts
  have M2_x : M2 x = some (.inl (0, [.ref sts, .int 0, .null, .int 0, .null, .int 0, .null, .null, .null, .null, .int 0])) := M2a0
  have N2 : ∀ q, M2 q = none → M q = none := fun q h => N1 q (nn_new M2a0 M2o q h)
  refine m_aload_n C d_AW_init_13 rfl rfl ?_
  refine m_bipush (v := 20) C d_AW_init_14 (by decide) ?_
  refine m_anewE (N := 20) C d_AW_init_16 kt_LM cl_AW_15 ao_LM (by decide) (by decide) (by decide) (by decide) (by decide) (fun lms M3 M3n M3w M3a0 M3o => ?_)
  have M3_sts : M3 sts = some (.inr (.object R_St, List.replicate 30 .null)) := (M3o sts (ma_nef M2_sts M3n)).trans M2_sts
  have M3_x : M3 x = some (.inl (0, [.ref sts, .int 0, .null, .int 0, .null, .int 0, .null, .null, .null, .null, .int 0])) := (M3o x (ma_nef M2_x M3n)).trans M2_x
  have M3_lms : M3 lms = some (.inr (.object R_LM, List.replicate 20 .null)) := M3a0
  have F_lms : M lms = none := N2 _ M3n
  have N3 : ∀ q, M3 q = none → M q = none := fun q h => N2 q (nn_new M3a0 M3o q h)
  refine m_putFE C (hI rfl) fp_AW_17 d_AW_init_19 (hw _ rfl) M3_x rfl rfl (fun M4 M4a0 M4o => ?_)
  have M4_sts : M4 sts = some (.inr (.object R_St, List.replicate 30 .null)) := (M4o sts (Ne.symm (ma_ne2 M3_x M3_sts))).trans M3_sts
  have M4_lms : M4 lms = some (.inr (.object R_LM, List.replicate 20 .null)) := (M4o lms (Ne.symm (ma_ne2 M3_x M3_lms))).trans M3_lms
  have M4_x : M4 x = some (.inl (0, [.ref sts, .int 0, .ref lms, .int 0, .null, .int 0, .null, .null, .null, .null, .int 0])) := M4a0
  have N4 : ∀ q, M4 q = none → M q = none := fun q h => N3 q (nn_new M4a0 M4o q h)
  refine m_aload_n C d_AW_init_22 rfl rfl ?_
  refine m_bipush (v := 40) C d_AW_init_23 (by decide) ?_
  refine m_anewE (N := 40) C d_AW_init_25 kt_Co cl_AW_21 ao_Co (by decide) (by decide) (by decide) (by decide) (by decide) (fun cos M5 M5n M5w M5a0 M5o => ?_)
  have M5_sts : M5 sts = some (.inr (.object R_St, List.replicate 30 .null)) := (M5o sts (ma_nef M4_sts M5n)).trans M4_sts
  have M5_lms : M5 lms = some (.inr (.object R_LM, List.replicate 20 .null)) := (M5o lms (ma_nef M4_lms M5n)).trans M4_lms
  have M5_x : M5 x = some (.inl (0, [.ref sts, .int 0, .ref lms, .int 0, .null, .int 0, .null, .null, .null, .null, .int 0])) := (M5o x (ma_nef M4_x M5n)).trans M4_x
  have M5_cos : M5 cos = some (.inr (.object R_Co, List.replicate 40 .null)) := M5a0
  have F_cos : M cos = none := N4 _ M5n
  have N5 : ∀ q, M5 q = none → M q = none := fun q h => N4 q (nn_new M5a0 M5o q h)
  refine m_putFE C (hI rfl) fp_AW_23 d_AW_init_28 (hw _ rfl) M5_x rfl rfl (fun M6 M6a0 M6o => ?_)
  have M6_sts : M6 sts = some (.inr (.object R_St, List.replicate 30 .null)) := (M6o sts (Ne.symm (ma_ne2 M5_x M5_sts))).trans M5_sts
  have M6_lms : M6 lms = some (.inr (.object R_LM, List.replicate 20 .null)) := (M6o lms (Ne.symm (ma_ne2 M5_x M5_lms))).trans M5_lms
  have M6_cos : M6 cos = some (.inr (.object R_Co, List.replicate 40 .null)) := (M6o cos (Ne.symm (ma_ne2 M5_x M5_cos))).trans M5_cos
  have M6_x : M6 x = some (.inl (0, [.ref sts, .int 0, .ref lms, .int 0, .ref cos, .int 0, .null, .null, .null, .null, .int 0])) := M6a0
  have N6 : ∀ q, M6 q = none → M q = none := fun q h => N5 q (nn_new M6a0 M6o q h)
  refine m_aload_n C d_AW_init_31 rfl rfl ?_
  refine m_newE (ci := 8) [.null, .int 0, .null, .null, .int 0, .int 0, .int 0, .int 0] C d_AW_init_32 rfl in_Sa tyok_Sa cl_AW_27 ins_Sa ini_Sa rfl df_Sa (by decide) (by decide) (fun sd M7 M7n M7w M7a0 M7o => ?_)
  have M7_sts : M7 sts = some (.inr (.object R_St, List.replicate 30 .null)) := (M7o sts (ma_nef M6_sts M7n)).trans M6_sts
  have M7_lms : M7 lms = some (.inr (.object R_LM, List.replicate 20 .null)) := (M7o lms (ma_nef M6_lms M7n)).trans M6_lms
  have M7_cos : M7 cos = some (.inr (.object R_Co, List.replicate 40 .null)) := (M7o cos (ma_nef M6_cos M7n)).trans M6_cos
  have M7_x : M7 x = some (.inl (0, [.ref sts, .int 0, .ref lms, .int 0, .ref cos, .int 0, .null, .null, .null, .null, .int 0])) := (M7o x (ma_nef M6_x M7n)).trans M6_x
  have M7_sd : M7 sd = some (.inl (8, [.null, .int 0, .null, .null, .int 0, .int 0, .int 0, .int 0])) := M7a0
  have F_sd : M sd = none := N6 _ M7n
  have N7 : ∀ q, M7 q = none → M q = none := fun q h => N6 q (nn_new M7a0 M7o q h)
  refine m_dup C d_AW_init_35 rfl ?_
  refine m_callI C d_AW_init_36 mw_AW_29 mi_Sa_init rfl (ct_Sa_init _ _ _ sd M7 M7_sd) (fun q h => by rw [h]; exact M7w) rfl rfl (Nat.le_of_ble_eq_true rfl) (by decide) (fun v7 M8 hp M85 M86 => ?_)
  obtain ⟨rfl, sg, ws, wl, z_sg, z_ws, z_wl, hSa⟩ := hp
  show mj G 2 (0 + 1 + 1 + 1 + 1 + 3) (0 + 30 + 20 + 40 + 8 + 80) M8 39 [some (.ref x), none] [.ref sd, .ref x]
  have M8_sts : M8 sts = some (.inr (.object R_St, List.replicate 30 .null)) := (M85 sts (by rw [M7_sts]; simp) (Ne.symm (ma_ne2 M7_sd M7_sts))).trans M7_sts
  have M8_lms : M8 lms = some (.inr (.object R_LM, List.replicate 20 .null)) := (M85 lms (by rw [M7_lms]; simp) (Ne.symm (ma_ne2 M7_sd M7_lms))).trans M7_lms
  have M8_cos : M8 cos = some (.inr (.object R_Co, List.replicate 40 .null)) := (M85 cos (by rw [M7_cos]; simp) (Ne.symm (ma_ne2 M7_sd M7_cos))).trans M7_cos
  have M8_x : M8 x = some (.inl (0, [.ref sts, .int 0, .ref lms, .int 0, .ref cos, .int 0, .null, .null, .null, .null, .int 0])) := (M85 x (by rw [M7_x]; simp) (ma_ne1 M7_x M7_sd (by decide))).trans M7_x
  have M8_sd : M8 sd = some (.inl (8, [.ref sg, .int (nI 0), .ref ws, .ref wl, .int (nI 0), .int (nI 0), .int (nI 0), .int 0])) := hSa.1
  have M8_sg : M8 sg = some (.inr (.char, arrL 40 (fun _ => 0))) := hSa.2.1
  have F_sg : M sg = none := N7 _ z_sg
  have M8_ws : M8 ws = some (.inr (.int, arrL 20 (fun _ => 0))) := hSa.2.2.1
  have F_ws : M ws = none := N7 _ z_ws
  have M8_wl : M8 wl = some (.inr (.int, arrL 20 (fun _ => 0))) := hSa.2.2.2.1
  have F_wl : M wl = none := N7 _ z_wl
  have N8 : ∀ q, M8 q = none → M q = none := fun q h => N7 q (nn_call M8_sd M85 q h)
  refine m_putFE C (hI rfl) fp_AW_30 d_AW_init_39 (hw _ rfl) M8_x rfl rfl (fun M9 M9a0 M9o => ?_)
  have M9_sts : M9 sts = some (.inr (.object R_St, List.replicate 30 .null)) := (M9o sts (Ne.symm (ma_ne2 M8_x M8_sts))).trans M8_sts
  have M9_lms : M9 lms = some (.inr (.object R_LM, List.replicate 20 .null)) := (M9o lms (Ne.symm (ma_ne2 M8_x M8_lms))).trans M8_lms
  have M9_cos : M9 cos = some (.inr (.object R_Co, List.replicate 40 .null)) := (M9o cos (Ne.symm (ma_ne2 M8_x M8_cos))).trans M8_cos
  have M9_sd : M9 sd = some (.inl (8, [.ref sg, .int (nI 0), .ref ws, .ref wl, .int (nI 0), .int (nI 0), .int (nI 0), .int 0])) := (M9o sd (ma_ne1 M8_sd M8_x (by decide))).trans M8_sd
  have M9_sg : M9 sg = some (.inr (.char, arrL 40 (fun _ => 0))) := (M9o sg (Ne.symm (ma_ne2 M8_x M8_sg))).trans M8_sg
  have M9_ws : M9 ws = some (.inr (.int, arrL 20 (fun _ => 0))) := (M9o ws (Ne.symm (ma_ne2 M8_x M8_ws))).trans M8_ws
  have M9_wl : M9 wl = some (.inr (.int, arrL 20 (fun _ => 0))) := (M9o wl (Ne.symm (ma_ne2 M8_x M8_wl))).trans M8_wl
  have M9_x : M9 x = some (.inl (0, [.ref sts, .int 0, .ref lms, .int 0, .ref cos, .int 0, .ref sd, .null, .null, .null, .int 0])) := M9a0
  have N9 : ∀ q, M9 q = none → M q = none := fun q h => N8 q (nn_new M9a0 M9o q h)
  refine m_aload_n C d_AW_init_42 rfl rfl ?_
  refine m_newE (ci := 2) [.null, .null, .null] C d_AW_init_43 rfl in_Ed tyok_Ed cl_AW_34 ins_Ed ini_Ed rfl df_Ed (by decide) (by decide) (fun ed M10 M10n M10w M10a0 M10o => ?_)
  have M10_sts : M10 sts = some (.inr (.object R_St, List.replicate 30 .null)) := (M10o sts (ma_nef M9_sts M10n)).trans M9_sts
  have M10_lms : M10 lms = some (.inr (.object R_LM, List.replicate 20 .null)) := (M10o lms (ma_nef M9_lms M10n)).trans M9_lms
  have M10_cos : M10 cos = some (.inr (.object R_Co, List.replicate 40 .null)) := (M10o cos (ma_nef M9_cos M10n)).trans M9_cos
  have M10_sd : M10 sd = some (.inl (8, [.ref sg, .int (nI 0), .ref ws, .ref wl, .int (nI 0), .int (nI 0), .int (nI 0), .int 0])) := (M10o sd (ma_nef M9_sd M10n)).trans M9_sd
  have M10_sg : M10 sg = some (.inr (.char, arrL 40 (fun _ => 0))) := (M10o sg (ma_nef M9_sg M10n)).trans M9_sg
  have M10_ws : M10 ws = some (.inr (.int, arrL 20 (fun _ => 0))) := (M10o ws (ma_nef M9_ws M10n)).trans M9_ws
  have M10_wl : M10 wl = some (.inr (.int, arrL 20 (fun _ => 0))) := (M10o wl (ma_nef M9_wl M10n)).trans M9_wl
  have M10_x : M10 x = some (.inl (0, [.ref sts, .int 0, .ref lms, .int 0, .ref cos, .int 0, .ref sd, .null, .null, .null, .int 0])) := (M10o x (ma_nef M9_x M10n)).trans M9_x
  have M10_ed : M10 ed = some (.inl (2, [.null, .null, .null])) := M10a0
  have F_ed : M ed = none := N9 _ M10n
  have N10 : ∀ q, M10 q = none → M q = none := fun q h => N9 q (nn_new M10a0 M10o q h)
  refine m_dup C d_AW_init_46 rfl ?_
  refine m_callI C d_AW_init_47 mw_AW_36 mi_Ed_init rfl (ct_Ed_init _ _ _ ed M10 M10_ed) (fun q h => by rw [h]; exact M10w) rfl rfl (Nat.le_of_ble_eq_true rfl) (by decide) (fun v7 M11 hp M115 M116 => ?_)
  obtain ⟨rfl, p, q, r, z_p, z_q, z_r, d1, d2, d3, hEd⟩ := hp
  show mj G 2 (0 + 1 + 1 + 1 + 1 + 3 + 1 + 3) (0 + 30 + 20 + 40 + 8 + 80 + 3 + 51) M11 50 [some (.ref x), none] [.ref ed, .ref x]
  have M11_sts : M11 sts = some (.inr (.object R_St, List.replicate 30 .null)) := (M115 sts (by rw [M10_sts]; simp) (Ne.symm (ma_ne2 M10_ed M10_sts))).trans M10_sts
  have M11_lms : M11 lms = some (.inr (.object R_LM, List.replicate 20 .null)) := (M115 lms (by rw [M10_lms]; simp) (Ne.symm (ma_ne2 M10_ed M10_lms))).trans M10_lms
  have M11_cos : M11 cos = some (.inr (.object R_Co, List.replicate 40 .null)) := (M115 cos (by rw [M10_cos]; simp) (Ne.symm (ma_ne2 M10_ed M10_cos))).trans M10_cos
  have M11_sd : M11 sd = some (.inl (8, [.ref sg, .int (nI 0), .ref ws, .ref wl, .int (nI 0), .int (nI 0), .int (nI 0), .int 0])) := (M115 sd (by rw [M10_sd]; simp) (ma_ne1 M10_sd M10_ed (by decide))).trans M10_sd
  have M11_sg : M11 sg = some (.inr (.char, arrL 40 (fun _ => 0))) := (M115 sg (by rw [M10_sg]; simp) (Ne.symm (ma_ne2 M10_ed M10_sg))).trans M10_sg
  have M11_ws : M11 ws = some (.inr (.int, arrL 20 (fun _ => 0))) := (M115 ws (by rw [M10_ws]; simp) (Ne.symm (ma_ne2 M10_ed M10_ws))).trans M10_ws
  have M11_wl : M11 wl = some (.inr (.int, arrL 20 (fun _ => 0))) := (M115 wl (by rw [M10_wl]; simp) (Ne.symm (ma_ne2 M10_ed M10_wl))).trans M10_wl
  have M11_x : M11 x = some (.inl (0, [.ref sts, .int 0, .ref lms, .int 0, .ref cos, .int 0, .ref sd, .null, .null, .null, .int 0])) := (M115 x (by rw [M10_x]; simp) (ma_ne1 M10_x M10_ed (by decide))).trans M10_x
  have M11_ed : M11 ed = some (.inl (2, [.ref p, .ref q, .ref r])) := hEd.1
  have M11_p : M11 p = some (.inr (.int, arrL 17 (fun _ => 0))) := hEd.2.1
  have F_p : M p = none := N10 _ z_p
  have M11_q : M11 q = some (.inr (.int, arrL 17 (fun _ => 0))) := hEd.2.2.1
  have F_q : M q = none := N10 _ z_q
  have M11_r : M11 r = some (.inr (.int, arrL 17 (fun _ => 0))) := hEd.2.2.2
  have F_r : M r = none := N10 _ z_r
  have N11 : ∀ q, M11 q = none → M q = none := fun q h => N10 q (nn_call M11_ed M115 q h)
  refine m_putFE C (hI rfl) fp_AW_37 d_AW_init_50 (hw _ rfl) M11_x rfl rfl (fun M12 M12a0 M12o => ?_)
  have M12_sts : M12 sts = some (.inr (.object R_St, List.replicate 30 .null)) := (M12o sts (Ne.symm (ma_ne2 M11_x M11_sts))).trans M11_sts
  have M12_lms : M12 lms = some (.inr (.object R_LM, List.replicate 20 .null)) := (M12o lms (Ne.symm (ma_ne2 M11_x M11_lms))).trans M11_lms
  have M12_cos : M12 cos = some (.inr (.object R_Co, List.replicate 40 .null)) := (M12o cos (Ne.symm (ma_ne2 M11_x M11_cos))).trans M11_cos
  have M12_sd : M12 sd = some (.inl (8, [.ref sg, .int (nI 0), .ref ws, .ref wl, .int (nI 0), .int (nI 0), .int (nI 0), .int 0])) := (M12o sd (ma_ne1 M11_sd M11_x (by decide))).trans M11_sd
  have M12_sg : M12 sg = some (.inr (.char, arrL 40 (fun _ => 0))) := (M12o sg (Ne.symm (ma_ne2 M11_x M11_sg))).trans M11_sg
  have M12_ws : M12 ws = some (.inr (.int, arrL 20 (fun _ => 0))) := (M12o ws (Ne.symm (ma_ne2 M11_x M11_ws))).trans M11_ws
  have M12_wl : M12 wl = some (.inr (.int, arrL 20 (fun _ => 0))) := (M12o wl (Ne.symm (ma_ne2 M11_x M11_wl))).trans M11_wl
  have M12_ed : M12 ed = some (.inl (2, [.ref p, .ref q, .ref r])) := (M12o ed (ma_ne1 M11_ed M11_x (by decide))).trans M11_ed
  have M12_p : M12 p = some (.inr (.int, arrL 17 (fun _ => 0))) := (M12o p (Ne.symm (ma_ne2 M11_x M11_p))).trans M11_p
  have M12_q : M12 q = some (.inr (.int, arrL 17 (fun _ => 0))) := (M12o q (Ne.symm (ma_ne2 M11_x M11_q))).trans M11_q
  have M12_r : M12 r = some (.inr (.int, arrL 17 (fun _ => 0))) := (M12o r (Ne.symm (ma_ne2 M11_x M11_r))).trans M11_r
  have M12_x : M12 x = some (.inl (0, [.ref sts, .int 0, .ref lms, .int 0, .ref cos, .int 0, .ref sd, .ref ed, .null, .null, .int 0])) := M12a0
  have N12 : ∀ q, M12 q = none → M q = none := fun q h => N11 q (nn_new M12a0 M12o q h)
  refine m_aload_n C d_AW_init_53 rfl rfl ?_
  refine m_newE (ci := 7) [.null, .null, .int 0, .int 0] C d_AW_init_54 rfl in_Ra tyok_Ra cl_AW_41 ins_Ra ini_Ra rfl df_Ra (by decide) (by decide) (fun ra M13 M13n M13w M13a0 M13o => ?_)
  have M13_sts : M13 sts = some (.inr (.object R_St, List.replicate 30 .null)) := (M13o sts (ma_nef M12_sts M13n)).trans M12_sts
  have M13_lms : M13 lms = some (.inr (.object R_LM, List.replicate 20 .null)) := (M13o lms (ma_nef M12_lms M13n)).trans M12_lms
  have M13_cos : M13 cos = some (.inr (.object R_Co, List.replicate 40 .null)) := (M13o cos (ma_nef M12_cos M13n)).trans M12_cos
  have M13_sd : M13 sd = some (.inl (8, [.ref sg, .int (nI 0), .ref ws, .ref wl, .int (nI 0), .int (nI 0), .int (nI 0), .int 0])) := (M13o sd (ma_nef M12_sd M13n)).trans M12_sd
  have M13_sg : M13 sg = some (.inr (.char, arrL 40 (fun _ => 0))) := (M13o sg (ma_nef M12_sg M13n)).trans M12_sg
  have M13_ws : M13 ws = some (.inr (.int, arrL 20 (fun _ => 0))) := (M13o ws (ma_nef M12_ws M13n)).trans M12_ws
  have M13_wl : M13 wl = some (.inr (.int, arrL 20 (fun _ => 0))) := (M13o wl (ma_nef M12_wl M13n)).trans M12_wl
  have M13_ed : M13 ed = some (.inl (2, [.ref p, .ref q, .ref r])) := (M13o ed (ma_nef M12_ed M13n)).trans M12_ed
  have M13_p : M13 p = some (.inr (.int, arrL 17 (fun _ => 0))) := (M13o p (ma_nef M12_p M13n)).trans M12_p
  have M13_q : M13 q = some (.inr (.int, arrL 17 (fun _ => 0))) := (M13o q (ma_nef M12_q M13n)).trans M12_q
  have M13_r : M13 r = some (.inr (.int, arrL 17 (fun _ => 0))) := (M13o r (ma_nef M12_r M13n)).trans M12_r
  have M13_x : M13 x = some (.inl (0, [.ref sts, .int 0, .ref lms, .int 0, .ref cos, .int 0, .ref sd, .ref ed, .null, .null, .int 0])) := (M13o x (ma_nef M12_x M13n)).trans M12_x
  have M13_ra : M13 ra = some (.inl (7, [.null, .null, .int 0, .int 0])) := M13a0
  have F_ra : M ra = none := N12 _ M13n
  have N13 : ∀ q, M13 q = none → M q = none := fun q h => N12 q (nn_new M13a0 M13o q h)
  refine m_dup C d_AW_init_57 rfl ?_
  refine m_callI C d_AW_init_58 mw_AW_43 mi_Ra_init rfl (ct_Ra_init _ _ _ ra M13 M13_ra) (fun q h => by rw [h]; exact M13w) rfl rfl (Nat.le_of_ble_eq_true rfl) (by decide) (fun v7 M14 hp M145 M146 => ?_)
  obtain ⟨rfl, cd, ds, z_cd, z_ds, hRa⟩ := hp
  show mj G 2 (0 + 1 + 1 + 1 + 1 + 3 + 1 + 3 + 1 + 2) (0 + 30 + 20 + 40 + 8 + 80 + 3 + 51 + 4 + 20) M14 61 [some (.ref x), none] [.ref ra, .ref x]
  have M14_sts : M14 sts = some (.inr (.object R_St, List.replicate 30 .null)) := (M145 sts (by rw [M13_sts]; simp) (Ne.symm (ma_ne2 M13_ra M13_sts))).trans M13_sts
  have M14_lms : M14 lms = some (.inr (.object R_LM, List.replicate 20 .null)) := (M145 lms (by rw [M13_lms]; simp) (Ne.symm (ma_ne2 M13_ra M13_lms))).trans M13_lms
  have M14_cos : M14 cos = some (.inr (.object R_Co, List.replicate 40 .null)) := (M145 cos (by rw [M13_cos]; simp) (Ne.symm (ma_ne2 M13_ra M13_cos))).trans M13_cos
  have M14_sd : M14 sd = some (.inl (8, [.ref sg, .int (nI 0), .ref ws, .ref wl, .int (nI 0), .int (nI 0), .int (nI 0), .int 0])) := (M145 sd (by rw [M13_sd]; simp) (ma_ne1 M13_sd M13_ra (by decide))).trans M13_sd
  have M14_sg : M14 sg = some (.inr (.char, arrL 40 (fun _ => 0))) := (M145 sg (by rw [M13_sg]; simp) (Ne.symm (ma_ne2 M13_ra M13_sg))).trans M13_sg
  have M14_ws : M14 ws = some (.inr (.int, arrL 20 (fun _ => 0))) := (M145 ws (by rw [M13_ws]; simp) (Ne.symm (ma_ne2 M13_ra M13_ws))).trans M13_ws
  have M14_wl : M14 wl = some (.inr (.int, arrL 20 (fun _ => 0))) := (M145 wl (by rw [M13_wl]; simp) (Ne.symm (ma_ne2 M13_ra M13_wl))).trans M13_wl
  have M14_ed : M14 ed = some (.inl (2, [.ref p, .ref q, .ref r])) := (M145 ed (by rw [M13_ed]; simp) (ma_ne1 M13_ed M13_ra (by decide))).trans M13_ed
  have M14_p : M14 p = some (.inr (.int, arrL 17 (fun _ => 0))) := (M145 p (by rw [M13_p]; simp) (Ne.symm (ma_ne2 M13_ra M13_p))).trans M13_p
  have M14_q : M14 q = some (.inr (.int, arrL 17 (fun _ => 0))) := (M145 q (by rw [M13_q]; simp) (Ne.symm (ma_ne2 M13_ra M13_q))).trans M13_q
  have M14_r : M14 r = some (.inr (.int, arrL 17 (fun _ => 0))) := (M145 r (by rw [M13_r]; simp) (Ne.symm (ma_ne2 M13_ra M13_r))).trans M13_r
  have M14_x : M14 x = some (.inl (0, [.ref sts, .int 0, .ref lms, .int 0, .ref cos, .int 0, .ref sd, .ref ed, .null, .null, .int 0])) := (M145 x (by rw [M13_x]; simp) (ma_ne1 M13_x M13_ra (by decide))).trans M13_x
  have M14_ra : M14 ra = some (.inl (7, [.ref cd, .ref ds, .int (nI 0), .int (nI 0)])) := hRa.1
  have M14_cd : M14 cd = some (.inr (.int, arrL 10 (fun _ => 0))) := hRa.2.1
  have F_cd : M cd = none := N13 _ z_cd
  have M14_ds : M14 ds = some (.inr (.int, arrL 10 (fun _ => 0))) := hRa.2.2.1
  have F_ds : M ds = none := N13 _ z_ds
  have N14 : ∀ q, M14 q = none → M q = none := fun q h => N13 q (nn_call M14_ra M145 q h)
  refine m_putFE C (hI rfl) fp_AW_44 d_AW_init_61 (hw _ rfl) M14_x rfl rfl (fun M15 M15a0 M15o => ?_)
  have M15_sts : M15 sts = some (.inr (.object R_St, List.replicate 30 .null)) := (M15o sts (Ne.symm (ma_ne2 M14_x M14_sts))).trans M14_sts
  have M15_lms : M15 lms = some (.inr (.object R_LM, List.replicate 20 .null)) := (M15o lms (Ne.symm (ma_ne2 M14_x M14_lms))).trans M14_lms
  have M15_cos : M15 cos = some (.inr (.object R_Co, List.replicate 40 .null)) := (M15o cos (Ne.symm (ma_ne2 M14_x M14_cos))).trans M14_cos
  have M15_sd : M15 sd = some (.inl (8, [.ref sg, .int (nI 0), .ref ws, .ref wl, .int (nI 0), .int (nI 0), .int (nI 0), .int 0])) := (M15o sd (ma_ne1 M14_sd M14_x (by decide))).trans M14_sd
  have M15_sg : M15 sg = some (.inr (.char, arrL 40 (fun _ => 0))) := (M15o sg (Ne.symm (ma_ne2 M14_x M14_sg))).trans M14_sg
  have M15_ws : M15 ws = some (.inr (.int, arrL 20 (fun _ => 0))) := (M15o ws (Ne.symm (ma_ne2 M14_x M14_ws))).trans M14_ws
  have M15_wl : M15 wl = some (.inr (.int, arrL 20 (fun _ => 0))) := (M15o wl (Ne.symm (ma_ne2 M14_x M14_wl))).trans M14_wl
  have M15_ed : M15 ed = some (.inl (2, [.ref p, .ref q, .ref r])) := (M15o ed (ma_ne1 M14_ed M14_x (by decide))).trans M14_ed
  have M15_p : M15 p = some (.inr (.int, arrL 17 (fun _ => 0))) := (M15o p (Ne.symm (ma_ne2 M14_x M14_p))).trans M14_p
  have M15_q : M15 q = some (.inr (.int, arrL 17 (fun _ => 0))) := (M15o q (Ne.symm (ma_ne2 M14_x M14_q))).trans M14_q
  have M15_r : M15 r = some (.inr (.int, arrL 17 (fun _ => 0))) := (M15o r (Ne.symm (ma_ne2 M14_x M14_r))).trans M14_r
  have M15_ra : M15 ra = some (.inl (7, [.ref cd, .ref ds, .int (nI 0), .int (nI 0)])) := (M15o ra (ma_ne1 M14_ra M14_x (by decide))).trans M14_ra
  have M15_cd : M15 cd = some (.inr (.int, arrL 10 (fun _ => 0))) := (M15o cd (Ne.symm (ma_ne2 M14_x M14_cd))).trans M14_cd
  have M15_ds : M15 ds = some (.inr (.int, arrL 10 (fun _ => 0))) := (M15o ds (Ne.symm (ma_ne2 M14_x M14_ds))).trans M14_ds
  have M15_x : M15 x = some (.inl (0, [.ref sts, .int 0, .ref lms, .int 0, .ref cos, .int 0, .ref sd, .ref ed, .ref ra, .null, .int 0])) := M15a0
  have N15 : ∀ q, M15 q = none → M q = none := fun q h => N14 q (nn_new M15a0 M15o q h)
  refine m_aload_n C d_AW_init_64 rfl rfl ?_
  refine m_bipush (v := 10) C d_AW_init_65 (by decide) ?_
  refine m_anewE (N := 10) C d_AW_init_67 kt_Pl cl_AW_48 ao_Pl (by decide) (by decide) (by decide) (by decide) (by decide) (fun pls M16 M16n M16w M16a0 M16o => ?_)
  have M16_sts : M16 sts = some (.inr (.object R_St, List.replicate 30 .null)) := (M16o sts (ma_nef M15_sts M16n)).trans M15_sts
  have M16_lms : M16 lms = some (.inr (.object R_LM, List.replicate 20 .null)) := (M16o lms (ma_nef M15_lms M16n)).trans M15_lms
  have M16_cos : M16 cos = some (.inr (.object R_Co, List.replicate 40 .null)) := (M16o cos (ma_nef M15_cos M16n)).trans M15_cos
  have M16_sd : M16 sd = some (.inl (8, [.ref sg, .int (nI 0), .ref ws, .ref wl, .int (nI 0), .int (nI 0), .int (nI 0), .int 0])) := (M16o sd (ma_nef M15_sd M16n)).trans M15_sd
  have M16_sg : M16 sg = some (.inr (.char, arrL 40 (fun _ => 0))) := (M16o sg (ma_nef M15_sg M16n)).trans M15_sg
  have M16_ws : M16 ws = some (.inr (.int, arrL 20 (fun _ => 0))) := (M16o ws (ma_nef M15_ws M16n)).trans M15_ws
  have M16_wl : M16 wl = some (.inr (.int, arrL 20 (fun _ => 0))) := (M16o wl (ma_nef M15_wl M16n)).trans M15_wl
  have M16_ed : M16 ed = some (.inl (2, [.ref p, .ref q, .ref r])) := (M16o ed (ma_nef M15_ed M16n)).trans M15_ed
  have M16_p : M16 p = some (.inr (.int, arrL 17 (fun _ => 0))) := (M16o p (ma_nef M15_p M16n)).trans M15_p
  have M16_q : M16 q = some (.inr (.int, arrL 17 (fun _ => 0))) := (M16o q (ma_nef M15_q M16n)).trans M15_q
  have M16_r : M16 r = some (.inr (.int, arrL 17 (fun _ => 0))) := (M16o r (ma_nef M15_r M16n)).trans M15_r
  have M16_ra : M16 ra = some (.inl (7, [.ref cd, .ref ds, .int (nI 0), .int (nI 0)])) := (M16o ra (ma_nef M15_ra M16n)).trans M15_ra
  have M16_cd : M16 cd = some (.inr (.int, arrL 10 (fun _ => 0))) := (M16o cd (ma_nef M15_cd M16n)).trans M15_cd
  have M16_ds : M16 ds = some (.inr (.int, arrL 10 (fun _ => 0))) := (M16o ds (ma_nef M15_ds M16n)).trans M15_ds
  have M16_x : M16 x = some (.inl (0, [.ref sts, .int 0, .ref lms, .int 0, .ref cos, .int 0, .ref sd, .ref ed, .ref ra, .null, .int 0])) := (M16o x (ma_nef M15_x M16n)).trans M15_x
  have M16_pls : M16 pls = some (.inr (.object R_Pl, List.replicate 10 .null)) := M16a0
  have F_pls : M pls = none := N15 _ M16n
  have N16 : ∀ q, M16 q = none → M q = none := fun q h => N15 q (nn_new M16a0 M16o q h)
  refine m_putFE C (hI rfl) fp_AW_50 d_AW_init_70 (hw _ rfl) M16_x rfl rfl (fun M17 M17a0 M17o => ?_)
  have M17_sts : M17 sts = some (.inr (.object R_St, List.replicate 30 .null)) := (M17o sts (Ne.symm (ma_ne2 M16_x M16_sts))).trans M16_sts
  have M17_lms : M17 lms = some (.inr (.object R_LM, List.replicate 20 .null)) := (M17o lms (Ne.symm (ma_ne2 M16_x M16_lms))).trans M16_lms
  have M17_cos : M17 cos = some (.inr (.object R_Co, List.replicate 40 .null)) := (M17o cos (Ne.symm (ma_ne2 M16_x M16_cos))).trans M16_cos
  have M17_sd : M17 sd = some (.inl (8, [.ref sg, .int (nI 0), .ref ws, .ref wl, .int (nI 0), .int (nI 0), .int (nI 0), .int 0])) := (M17o sd (ma_ne1 M16_sd M16_x (by decide))).trans M16_sd
  have M17_sg : M17 sg = some (.inr (.char, arrL 40 (fun _ => 0))) := (M17o sg (Ne.symm (ma_ne2 M16_x M16_sg))).trans M16_sg
  have M17_ws : M17 ws = some (.inr (.int, arrL 20 (fun _ => 0))) := (M17o ws (Ne.symm (ma_ne2 M16_x M16_ws))).trans M16_ws
  have M17_wl : M17 wl = some (.inr (.int, arrL 20 (fun _ => 0))) := (M17o wl (Ne.symm (ma_ne2 M16_x M16_wl))).trans M16_wl
  have M17_ed : M17 ed = some (.inl (2, [.ref p, .ref q, .ref r])) := (M17o ed (ma_ne1 M16_ed M16_x (by decide))).trans M16_ed
  have M17_p : M17 p = some (.inr (.int, arrL 17 (fun _ => 0))) := (M17o p (Ne.symm (ma_ne2 M16_x M16_p))).trans M16_p
  have M17_q : M17 q = some (.inr (.int, arrL 17 (fun _ => 0))) := (M17o q (Ne.symm (ma_ne2 M16_x M16_q))).trans M16_q
  have M17_r : M17 r = some (.inr (.int, arrL 17 (fun _ => 0))) := (M17o r (Ne.symm (ma_ne2 M16_x M16_r))).trans M16_r
  have M17_ra : M17 ra = some (.inl (7, [.ref cd, .ref ds, .int (nI 0), .int (nI 0)])) := (M17o ra (ma_ne1 M16_ra M16_x (by decide))).trans M16_ra
  have M17_cd : M17 cd = some (.inr (.int, arrL 10 (fun _ => 0))) := (M17o cd (Ne.symm (ma_ne2 M16_x M16_cd))).trans M16_cd
  have M17_ds : M17 ds = some (.inr (.int, arrL 10 (fun _ => 0))) := (M17o ds (Ne.symm (ma_ne2 M16_x M16_ds))).trans M16_ds
  have M17_pls : M17 pls = some (.inr (.object R_Pl, List.replicate 10 .null)) := (M17o pls (Ne.symm (ma_ne2 M16_x M16_pls))).trans M16_pls
  have M17_x : M17 x = some (.inl (0, [.ref sts, .int 0, .ref lms, .int 0, .ref cos, .int 0, .ref sd, .ref ed, .ref ra, .ref pls, .int 0])) := M17a0
  have N17 : ∀ q, M17 q = none → M q = none := fun q h => N16 q (nn_new M17a0 M17o q h)
  refine m_iconst (v := 0) C d_AW_init_73 (by decide) ?_
  refine m_istore_n (L' := [some (.ref x), some (.int 0)]) C d_AW_init_74 rfl (by decide) rfl ?_
  have loop : ∀ (lq9 : Nat) (M7 : ma_H) (i : Nat) (pl : Nat → Nat) (l : List Value), 10 - i = lq9 → i ≤ 10 → M7 sts = some (.inr (.object R_St, List.replicate 30 .null)) → M7 lms = some (.inr (.object R_LM, List.replicate 20 .null)) → M7 cos = some (.inr (.object R_Co, List.replicate 40 .null)) → M7 sd = some (.inl (8, [.ref sg, .int (nI 0), .ref ws, .ref wl, .int (nI 0), .int (nI 0), .int (nI 0), .int 0])) → M7 sg = some (.inr (.char, arrL 40 (fun _ => 0))) → M7 ws = some (.inr (.int, arrL 20 (fun _ => 0))) → M7 wl = some (.inr (.int, arrL 20 (fun _ => 0))) → M7 ed = some (.inl (2, [.ref p, .ref q, .ref r])) → M7 p = some (.inr (.int, arrL 17 (fun _ => 0))) → M7 q = some (.inr (.int, arrL 17 (fun _ => 0))) → M7 r = some (.inr (.int, arrL 17 (fun _ => 0))) → M7 ra = some (.inl (7, [.ref cd, .ref ds, .int (nI 0), .int (nI 0)])) → M7 cd = some (.inr (.int, arrL 10 (fun _ => 0))) → M7 ds = some (.inr (.int, arrL 10 (fun _ => 0))) → M7 x = some (.inl (0, [.ref sts, .int 0, .ref lms, .int 0, .ref cos, .int 0, .ref sd, .ref ed, .ref ra, .ref pls, .int 0])) → M7 pls = some (.inr (.object R_Pl, l)) → l.length = 10 → (∀ j, j < i → l[j]? = some (.ref (pl j))) → (∀ j, j < i → M7 (pl j) = some (.inl (6, [.int 0, .int 0, .int 0, .int 0, .int 0, .int 0])) ∧ M (pl j) = none) → (∀ j j', j < i → j' < i → pl j = pl j' → j = j') → (∀ q, M7 q = none → M q = none) → mj G 2 (15 + i) (266 + 6 * i) M7 75 [some (.ref x), some (.int (nI i))] [] := by
    intro lq9
    induction lq9 using Nat.strongRecOn with
    | ind lq9 ih =>
      intro M7 i pl l hr hi k_sts k_lms k_cos k_sd k_sg k_ws k_wl k_ed k_p k_q k_r k_ra k_cd k_ds k_x k_pls kl kp kc kj kn
      refine m_iload_n C d_AW_init_75 rfl rfl ?_
      refine m_bipush (v := 10) C d_AW_init_76 (by decide) ?_
      have e1 : (10 : Int32) ≤ nI i ↔ 10 ≤ i := by rw [show (10 : Int32) = nI 10 from rfl, nI_leI (by decide) (by omega)]
      refine m_icmp_ge (tgt := 100) C d_AW_init_78 (by decide) (fun h9 => ?_) (fun h9 => ?_)
      · rw [e1] at h9
        obtain rfl : i = 10 := by omega
        obtain ⟨ad, had⟩ : ∃ ad : mAd, ad = fun k i _ => if k < 16 then [x, sts, lms, cos, pls, sd, sg, ws, wl, ed, p, q, r, ra, cd, ds].getD k 0 else pl i := ⟨_, rfl⟩
        have a0 : ad 0 0 0 = x := by rw [had]; rfl
        have a1 : ad 1 0 0 = sts := by rw [had]; rfl
        have a2 : ad 2 0 0 = lms := by rw [had]; rfl
        have a3 : ad 3 0 0 = cos := by rw [had]; rfl
        have a4 : ad 4 0 0 = pls := by rw [had]; rfl
        have a5 : ad 5 0 0 = sd := by rw [had]; rfl
        have a6 : ad 6 0 0 = sg := by rw [had]; rfl
        have a7 : ad 7 0 0 = ws := by rw [had]; rfl
        have a8 : ad 8 0 0 = wl := by rw [had]; rfl
        have a9 : ad 9 0 0 = ed := by rw [had]; rfl
        have a10 : ad 10 0 0 = p := by rw [had]; rfl
        have a11 : ad 11 0 0 = q := by rw [had]; rfl
        have a12 : ad 12 0 0 = r := by rw [had]; rfl
        have a13 : ad 13 0 0 = ra := by rw [had]; rfl
        have a14 : ad 14 0 0 = cd := by rw [had]; rfl
        have a15 : ad 15 0 0 = ds := by rw [had]; rfl
        have a16 : ∀ i j, ad 16 i j = pl i := fun i j => by rw [had]; rfl
        have hlv := lv_zero
        have hok : ∀ k i j, lv (fun _ _ => 0) k i j → okC (fun _ _ => 0) ad k i j (M7 (ad k i j)) := by
          intro k i j hv
          obtain ⟨b1, b2, b3, rfl⟩ := hlv k i j hv
          by_cases h16 : k = 16
          · subst h16; rw [a16]; exact ⟨fun _ => 0, (kc i (b3 rfl)).1, fun z => absurd z (by rw [nF, tn00]; omega)⟩
          have hk16 : k < 16 := Nat.lt_of_le_of_ne b1 h16
          obtain rfl := b2 hk16
          have h9 := k16s hk16
          rcases h9 with rfl | rfl | rfl | rfl | rfl | rfl | rfl | rfl | rfl | rfl | rfl | rfl | rfl | rfl | rfl | rfl
          · rw [a0]; simp only [okC, a1, a2, a3, a4, a5, a9, a13]; exact k_x
          · rw [a1]; exact ⟨_, k_sts, rfl, fun q hq => absurd hq (Nat.not_lt_zero _)⟩
          · rw [a2]; exact ⟨_, k_lms, rfl, fun q hq => absurd hq (Nat.not_lt_zero _)⟩
          · rw [a3]; exact ⟨_, k_cos, rfl, fun q hq => absurd hq (Nat.not_lt_zero _)⟩
          · rw [a4]; exact ⟨l, k_pls, kl, fun q hq => by rw [a16]; exact kp q hq⟩
          · rw [a5]; simp only [okC, a6, a7, a8]; exact ⟨(0, 0, 0, 0, fun _ => 0, fun _ => 0), k_sd⟩
          · rw [a6]; exact ⟨_, k_sg, fun q hq => absurd hq (Nat.not_lt_zero _)⟩
          · rw [a7]; exact ⟨_, k_ws⟩
          · rw [a8]; exact ⟨_, k_wl⟩
          · rw [a9]; simp only [okC, a10, a11, a12]; exact ⟨p, q, r, Or.inl ⟨rfl, rfl, rfl⟩, k_ed⟩
          · rw [a10]; exact ⟨_, k_p⟩
          · rw [a11]; exact ⟨_, k_q⟩
          · rw [a12]; exact ⟨_, k_r⟩
          · rw [a13]; simp only [okC, a14, a15]; exact ⟨0, 0, k_ra⟩
          · rw [a14]; exact ⟨_, k_cd⟩
          · rw [a15]; exact ⟨_, k_ds⟩
        have hI : adI (fun _ _ => 0) ad := by
          intro k i j k' i' j' v v' e
          obtain ⟨b1, b2, b3, rfl⟩ := hlv k i j v
          obtain ⟨c1, c2, c3, rfl⟩ := hlv k' i' j' v'
          have s1 := okC_sg b1 (hok k i 0 v)
          have s2 := okC_sg c1 (hok k' i' 0 v')
          rw [e, s2] at s1
          have s3 := sgK_inj b1 c1 s1
          by_cases hkk : k = k'
          · subst hkk
            refine ⟨rfl, ?_, rfl⟩
            by_cases h16 : k = 16
            · subst h16; rw [a16, a16] at e; exact kj i i' (b3 rfl) (c3 rfl) e
            · have hk16 : k < 16 := Nat.lt_of_le_of_ne b1 h16
              rw [b2 hk16, c2 hk16]
          · exfalso
            have h9 := s3.resolve_left hkk
            rcases h9 with ⟨rfl, rfl⟩ | ⟨rfl, rfl⟩ | ⟨rfl, rfl⟩ | ⟨rfl, rfl⟩ | ⟨rfl, rfl⟩ | ⟨rfl, rfl⟩ | ⟨rfl, rfl⟩ | ⟨rfl, rfl⟩ | ⟨rfl, rfl⟩ | ⟨rfl, rfl⟩
            · rw [b2 (by decide), c2 (by decide), a7, a8] at e; exact hSa.2.2.2.2 e
            · rw [b2 (by decide), c2 (by decide), a8, a7] at e; exact hSa.2.2.2.2 e.symm
            · rw [b2 (by decide), c2 (by decide), a10, a11] at e; exact d1 e
            · rw [b2 (by decide), c2 (by decide), a10, a12] at e; exact d3 e
            · rw [b2 (by decide), c2 (by decide), a11, a10] at e; exact d1 e.symm
            · rw [b2 (by decide), c2 (by decide), a11, a12] at e; exact d2 e
            · rw [b2 (by decide), c2 (by decide), a12, a10] at e; exact d3 e.symm
            · rw [b2 (by decide), c2 (by decide), a12, a11] at e; exact d2 e.symm
            · rw [b2 (by decide), c2 (by decide), a14, a15] at e; exact hRa.2.2.2 e
            · rw [b2 (by decide), c2 (by decide), a15, a14] at e; exact hRa.2.2.2 e.symm
        have hft : ∀ q, foot (fun _ _ => 0) ad q → q = x ∨ M q = none := by
          rintro q9 ⟨k, i, j, v, rfl⟩
          obtain ⟨b1, b2, b3, rfl⟩ := hlv k i j v
          by_cases h16 : k = 16
          · subst h16; rw [a16]; exact Or.inr (kc i (b3 rfl)).2
          have hk16 : k < 16 := Nat.lt_of_le_of_ne b1 h16
          obtain rfl := b2 hk16
          have h9 := k16s hk16
          rcases h9 with rfl | rfl | rfl | rfl | rfl | rfl | rfl | rfl | rfl | rfl | rfl | rfl | rfl | rfl | rfl | rfl
          · rw [a0]; exact Or.inl rfl
          · rw [a1]; exact Or.inr F_sts
          · rw [a2]; exact Or.inr F_lms
          · rw [a3]; exact Or.inr F_cos
          · rw [a4]; exact Or.inr F_pls
          · rw [a5]; exact Or.inr F_sd
          · rw [a6]; exact Or.inr F_sg
          · rw [a7]; exact Or.inr F_ws
          · rw [a8]; exact Or.inr F_wl
          · rw [a9]; exact Or.inr F_ed
          · rw [a10]; exact Or.inr F_p
          · rw [a11]; exact Or.inr F_q
          · rw [a12]; exact Or.inr F_r
          · rw [a13]; exact Or.inr F_ra
          · rw [a14]; exact Or.inr F_cd
          · rw [a15]; exact Or.inr F_ds
        exact Rt _ _ _ _ _ (by decide) (by decide) d_AW_init_100 (⟨rfl, ad, a0, ⟨hok, hI⟩, hft⟩)
      · rw [e1] at h9
        refine m_aload_n C d_AW_init_81 rfl rfl ?_
        refine m_get C fg_AW_50 d_AW_init_82 k_x rfl ?_
        refine m_iload_n C d_AW_init_85 rfl rfl ?_
        refine m_newE (ci := 6) [.int 0, .int 0, .int 0, .int 0, .int 0, .int 0] C d_AW_init_86 rfl in_Pl tyok_Pl cl_AW_48 ins_Pl ini_Pl rfl df_Pl (by omega) (by omega) (fun a M8 M8n M8w M8a0 M8o => ?_)
        refine m_dup C d_AW_init_89 rfl ?_
        refine m_callI C d_AW_init_90 mw_AW_54 mi_Pl_init rfl (ct_Pl_init _ _ _ a M8) (fun _ h => h.elim) rfl rfl (Nat.le_of_ble_eq_true rfl) ⟨⟨by decide, by decide⟩, by omega, by omega⟩ (fun v7 M9 hp h5 h6 => ?_)
        obtain ⟨rfl, hM9⟩ := hp; rw [hM9]
        show mj G 2 (15 + i + 1 + 0) (266 + 6 * i + 6 + 0) M8 93 [some (.ref x), some (.int (nI i))] [.ref a, .int (nI i), .ref pls]
        have na : ∀ q, M7 q ≠ none → q ≠ a := fun q hq z => hq (by rw [z]; exact M8n)
        refine m_aastE C d_AW_init_93 (r := (R_Pl, T_Pl, 6)) M16w ((M8o _ (na _ (by rw [k_pls]; simp))).trans k_pls) kt_Pl M8a0 rfl (nI_pos (by omega)) (by rw [nI_clamp (by omega)]; omega) (fun M9 M9a0 M9o => ?_)
        rw [nI_clamp (by omega)] at M9a0
        refine m_iinc (v := (nI (i + 1))) (L' := [some (.ref x), some (.int (nI (i + 1)))]) C d_AW_init_94 rfl (nI_1 i) (by decide) rfl ?_
        refine m_goto (tgt := 75) C d_AW_init_97 (by decide) ?_
        have nap : a ≠ pls := Ne.symm (na _ (by rw [k_pls]; simp))
        refine mj_widen (k' := 15 + (i + 1)) (n' := 266 + 6 * (i + 1)) (by omega) (by omega) (ih (10 - (i + 1)) (by omega) M9 (i + 1) (fun j => if j = i then a else pl j) (l.set i (.ref a)) rfl (by omega) ((M9o _ (ma_ne3 k_sts k_pls (by decide +kernel))).trans ((M8o _ (na _ (by rw [k_sts]; simp))).trans k_sts)) ((M9o _ (ma_ne3 k_lms k_pls (by decide +kernel))).trans ((M8o _ (na _ (by rw [k_lms]; simp))).trans k_lms)) ((M9o _ (ma_ne3 k_cos k_pls (by decide +kernel))).trans ((M8o _ (na _ (by rw [k_cos]; simp))).trans k_cos)) ((M9o _ (ma_ne2 k_sd k_pls)).trans ((M8o _ (na _ (by rw [k_sd]; simp))).trans k_sd)) ((M9o _ (ma_ne3 k_sg k_pls (by decide +kernel))).trans ((M8o _ (na _ (by rw [k_sg]; simp))).trans k_sg)) ((M9o _ (ma_ne3 k_ws k_pls (by decide +kernel))).trans ((M8o _ (na _ (by rw [k_ws]; simp))).trans k_ws)) ((M9o _ (ma_ne3 k_wl k_pls (by decide +kernel))).trans ((M8o _ (na _ (by rw [k_wl]; simp))).trans k_wl)) ((M9o _ (ma_ne2 k_ed k_pls)).trans ((M8o _ (na _ (by rw [k_ed]; simp))).trans k_ed)) ((M9o _ (ma_ne3 k_p k_pls (by decide +kernel))).trans ((M8o _ (na _ (by rw [k_p]; simp))).trans k_p)) ((M9o _ (ma_ne3 k_q k_pls (by decide +kernel))).trans ((M8o _ (na _ (by rw [k_q]; simp))).trans k_q)) ((M9o _ (ma_ne3 k_r k_pls (by decide +kernel))).trans ((M8o _ (na _ (by rw [k_r]; simp))).trans k_r)) ((M9o _ (ma_ne2 k_ra k_pls)).trans ((M8o _ (na _ (by rw [k_ra]; simp))).trans k_ra)) ((M9o _ (ma_ne3 k_cd k_pls (by decide +kernel))).trans ((M8o _ (na _ (by rw [k_cd]; simp))).trans k_cd)) ((M9o _ (ma_ne3 k_ds k_pls (by decide +kernel))).trans ((M8o _ (na _ (by rw [k_ds]; simp))).trans k_ds)) ((M9o _ (ma_ne2 k_x k_pls)).trans ((M8o _ (na _ (by rw [k_x]; simp))).trans k_x)) M9a0 (by rw [List.length_set]; exact kl) ?_ ?_ ?_ ?_)
        · intro j hj; rw [List.getElem?_set]; by_cases hji : i = j
          · subst hji; simp [kl]; omega
          · rw [if_neg hji]; simp only [if_neg (Ne.symm hji)]; exact kp j (by omega)
        · intro j hj; by_cases hji : j = i
          · simp only [hji, if_pos]; exact ⟨(M9o _ nap).trans M8a0, kn _ M8n⟩
          · simp only [if_neg hji]; have hc := kc j (by omega)
            exact ⟨(M9o _ (ma_ne2 hc.1 k_pls)).trans ((M8o _ (na _ (by rw [hc.1]; simp))).trans hc.1), hc.2⟩
        · intro j j' hj hj' e
          by_cases h1 : j = i <;> by_cases h2 : j' = i <;> simp only [h1, h2, if_pos, if_neg, if_false, if_true] at e
          · omega
          · exact absurd e.symm (na _ (by rw [(kc j' (by omega)).1]; simp))
          · exact absurd e (na _ (by rw [(kc j (by omega)).1]; simp))
          · exact kj j j' (by omega) (by omega) e
        · exact fun q hq => kn q (nn_new M8a0 M8o q (nn_new M9a0 M9o q hq))
  exact mj_widen (by omega) (by omega) (loop _ M17 0 (fun _ => 0) _ rfl (Nat.zero_le _) M17_sts M17_lms M17_cos M17_sd M17_sg M17_ws M17_wl M17_ed M17_p M17_q M17_r M17_ra M17_cd M17_ds M17_x M17_pls rfl (fun j h => absurd h (by omega)) (fun j h => absurd h (by omega)) (fun j j' h => absurd h (by omega)) N17)
