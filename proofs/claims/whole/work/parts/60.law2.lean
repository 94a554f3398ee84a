/-! ===== the law's loop ===== -/
set_option maxHeartbeats 4000000 in
set_option maxRecDepth 100000 in
theorem law_loop {G : ma_G} (C : ma_C G c_La_law 7 R_La 12 601024 7293034 438) {sc N : Nat} {f : Nat → Int32} (hX : ma_X9 G sc N f) (hN : N ≤ 3072) (xa m : Nat) (mr : Nat → Nat) (o : Nat) (hret : ∀ (k n : Nat) (M : ma_H) (L : List (Option Value)), k ≤ 601024 → n ≤ 7293034 → mj G 7 k n M 1244 L [.int 1]) : ∀ (r t : Nat) (R : mR) (ad : mAd) (M : ma_H) (k n : Nat), 600 - t = r → t ≤ 512 → LI G R ad xa m mr o M → k ≤ 100 + 9 * t → n ≤ 5000 + 74 * t → mj G 7 k n M 23 [some (.ref sc), some (.ref xa), some (.ref m), some (.ref o), some (.int (nI (6 * t))), none, none] [] := by
  intro r
  induction r using Nat.strongRecOn with
  | ind r ih =>
    intro t R ad M k n hr ht hLI hk hn
    refine m_iload C d_La_law_23 rfl ?_
    refine m_aload_n C d_La_law_25 rfl rfl ?_
    refine m_xlen C d_La_law_26 hX ?_
    refine m_bipush (v := 6) C d_La_law_27 (by decide) ?_
    refine m_isub C d_La_law_29 ?_
    have e1 : nI N - 6 < nI (6 * t) ↔ N < 6 * t + 6 := by
      rw [Int32.lt_iff_toInt_lt, show (6 : Int32) = nI 6 from rfl, pk_sub_toInt (by omega) (by decide), nI_toInt (by omega)]; omega
    refine m_icmp_gt (tgt := 1243) C d_La_law_30 (by decide) (fun h9 => ?_) (fun h9 => ?_)
    · refine m_iconst (v := 1) C d_La_law_1243 (by decide) ?_
      exact hret _ _ _ _ (by omega) (by omega)
    · rw [e1] at h9
      have hi6 : 6 * t + 6 ≤ N := by omega
      have nx : ∀ (R' : mR) (ad' : mAd) (M' : ma_H) (k' n' : Nat), LI G R' ad' xa m mr o M' → k' ≤ k + 9 → n' ≤ n + 74 → mj G 7 k' n' M' 1237 [some (.ref sc), some (.ref xa), some (.ref m), some (.ref o), some (.int (nI (6 * t))), none, none] [] := by
        intro R' ad' M' k' n' hL' hk' hn'
        refine m_iinc (v := (nI (6 * (t + 1)))) (L' := [some (.ref sc), some (.ref xa), some (.ref m), some (.ref o), some (.int (nI (6 * (t + 1)))), none, none]) C d_La_law_1237 rfl (by show nI (6 * t) + 6 = nI (6 * (t + 1)); exact nI_add (6 * t) 6) (by decide) rfl ?_
        refine m_goto (tgt := 23) C d_La_law_1240 (by decide) ?_
        exact ih (600 - (t + 1)) (by omega) (t + 1) R' ad' M' k' n' rfl (by omega) hL' (by omega) (by omega)
      refine m_aload_n C d_La_law_33 rfl rfl ?_
      refine m_iload C d_La_law_34 rfl ?_
      refine m_xld C d_La_law_36 hX (by omega) (by omega) ?_
      refine m_bipush (v := 15) C d_La_law_37 (by decide) ?_
      refine m_iand C d_La_law_39 ?_
      obtain ⟨j, hj, ej⟩ := pk_andE (f (6 * t)) (m := 15) 4 rfl
      rw [ej]
      rcases (show j = 0 ∨ j = 1 ∨ j = 2 ∨ j = 3 ∨ j = 4 ∨ j = 5 ∨ j = 6 ∨ j = 7 ∨ j = 8 ∨ j = 9 ∨ j = 10 ∨ j = 11 ∨ j = 12 ∨ j = 13 ∨ j = 14 ∨ j = 15 by omega) with rfl | rfl | rfl | rfl | rfl | rfl | rfl | rfl | rfl | rfl | rfl | rfl | rfl | rfl | rfl | rfl
      · refine m_tabIn (tgt := 116) C d_La_law_40 (by decide) (by decide) (off := 76) (by decide) (by decide) ?_
        exact la_street C sc N f (6 * t) (by omega) hi6 R ad xa m mr o M hX hLI (by decide) (by decide) (by omega) (by omega) nx
      · refine m_tabIn (tgt := 172) C d_La_law_40 (by decide) (by decide) (off := 132) (by decide) (by decide) ?_
        exact la_sign C sc N f (6 * t) (by omega) hi6 R ad xa m mr o M hX hLI (by decide) (by decide) (by omega) (by omega) nx
      · refine m_tabIn (tgt := 284) C d_La_law_40 (by decide) (by decide) (off := 244) (by decide) (by decide) ?_
        exact la_alias C sc N f (6 * t) (by omega) hi6 R ad xa m mr o M hX hLI (by decide) (by decide) (by omega) (by omega) nx
      · refine m_tabIn (tgt := 340) C d_La_law_40 (by decide) (by decide) (off := 300) (by decide) (by decide) ?_
        exact la_range C sc N f (6 * t) (by omega) hi6 R ad xa m mr o M hX hLI (by decide) (by decide) (by omega) (by omega) nx
      · refine m_tabIn (tgt := 432) C d_La_law_40 (by decide) (by decide) (off := 392) (by decide) (by decide) ?_
        exact la_line C sc N f (6 * t) (by omega) hi6 R ad xa m mr o M hX hLI (by decide) (by decide) (by omega) (by omega) nx
      · refine m_tabIn (tgt := 536) C d_La_law_40 (by decide) (by decide) (off := 496) (by decide) (by decide) ?_
        exact la_close C sc N f (6 * t) (by omega) hi6 R ad xa m mr o M hX hLI (by decide) (by decide) (by omega) (by omega) nx
      · refine m_tabIn (tgt := 600) C d_La_law_40 (by decide) (by decide) (off := 560) (by decide) (by decide) ?_
        exact la_landmark C sc N f (6 * t) (by omega) hi6 R ad xa m mr o M hX hLI (by decide) (by decide) (by omega) (by omega) nx
      · refine m_tabIn (tgt := 724) C d_La_law_40 (by decide) (by decide) (off := 684) (by decide) (by decide) ?_
        exact la_meet C sc N f (6 * t) (by omega) hi6 R ad xa m mr o M hX hLI (by decide) (by decide) (by omega) (by omega) nx
      · refine m_tabIn (tgt := 796) C d_La_law_40 (by decide) (by decide) (off := 756) (by decide) (by decide) ?_
        exact la_corner C sc N f (6 * t) (by omega) hi6 R ad xa m mr o M hX hLI (by decide) (by decide) (by omega) (by omega) nx
      · refine m_tabIn (tgt := 864) C d_La_law_40 (by decide) (by decide) (off := 824) (by decide) (by decide) ?_
        exact la_post C sc N f (6 * t) (by omega) hi6 R ad xa m mr o M hX hLI (by decide) (by decide) (by omega) (by omega) nx
      · refine m_tabIn (tgt := 932) C d_La_law_40 (by decide) (by decide) (off := 892) (by decide) (by decide) ?_
        exact la_near C sc N f (6 * t) (by omega) hi6 R ad xa m mr o M hX hLI (by decide) (by decide) (by omega) (by omega) nx
      · refine m_tabIn (tgt := 1000) C d_La_law_40 (by decide) (by decide) (off := 960) (by decide) (by decide) ?_
        exact la_word C sc N f (6 * t) (by omega) hi6 R ad xa m mr o M hX hLI (by decide) (by decide) (by omega) (by omega) nx
      · refine m_tabIn (tgt := 1100) C d_La_law_40 (by decide) (by decide) (off := 1060) (by decide) (by decide) ?_
        exact la_find C sc N f (6 * t) (by omega) hi6 R ad xa m mr o M hX hLI (by decide) (by decide) (by omega) (by omega) nx
      · refine m_tabIn (tgt := 1156) C d_La_law_40 (by decide) (by decide) (off := 1116) (by decide) (by decide) ?_
        exact la_place C sc N f (6 * t) (by omega) hi6 R ad xa m mr o M hX hLI (by decide) (by decide) (by omega) (by omega) nx
      · refine m_tabIn (tgt := 1224) C d_La_law_40 (by decide) (by decide) (off := 1184) (by decide) (by decide) ?_
        exact la_twice C sc N f (6 * t) (by omega) hi6 R ad xa m mr o M hX hLI (by decide) (by decide) (by omega) (by omega) nx
      · refine m_tabOut (tgt := 1237) C d_La_law_40 (by decide) (by decide) ?_
        exact nx R ad M k n hLI (by omega) (by omega)

set_option maxHeartbeats 4000000 in
set_option maxRecDepth 100000 in
theorem law_body {G : ma_G} (C : ma_C G c_La_law 7 R_La 12 601024 7293034 438) {sc N : Nat} {f : Nat → Int32} (hX : ma_X9 G sc N f) (hN : N ≤ 3072) (hret : ∀ (k n : Nat) (M : ma_H) (L : List (Option Value)), k ≤ 601024 → n ≤ 7293034 → mj G 7 k n M 1244 L [.int 1]) : mj G 7 0 0 (fun _ => none) 0 [some (.ref sc), none, none, none, none, none, none] [] := by
  refine m_newE (ci := 0) [.null, .int 0, .null, .int 0, .null, .int 0, .null, .null, .null, .null, .int 0] C d_La_law_0 rfl in_AW tyok_AW cl_La_8 ins_AW ini_AW rfl df_AW (Nat.le_of_ble_eq_true rfl) (Nat.le_of_ble_eq_true rfl) (fun x M1 M1n M1w M1a0 M1o => ?_)
  refine m_dup C d_La_law_3 rfl ?_
  refine m_callI C d_La_law_4 mw_La_68 mi_AW_init rfl (ct_AW_init _ _ _ x M1 M1a0) (fun q h => by rw [h]; exact M1w) rfl rfl (Nat.le_of_ble_eq_true rfl) ⟨⟨(Nat.le_of_ble_eq_true rfl), (Nat.le_of_ble_eq_true rfl)⟩, (Nat.le_of_ble_eq_true rfl), (Nat.le_of_ble_eq_true rfl)⟩ (fun v9 M2 hp h5 h6 => ?_)
  obtain ⟨rfl, ad, ha, hC, hf⟩ := hp
  show mj G 7 26 337 M2 7 [some (.ref sc), none, none, none, none, none, none] [.ref x]
  refine m_astore_n (L' := [some (.ref sc), some (.ref x), none, none, none, none, none]) C d_La_law_7 rfl (by decide) rfl ?_
  refine m_newE (ci := 10) [.int 0, .int 0, .null, .null, .null, .null, .null, .null, .null, .null, .null, .null, .null, .null, .null, .null, .int 0, .null, .null, .null, .null, .int 0, .null, .null, .null, .null, .int 0, .null, .int 0, .null, .null, .int 0, .null, .null, .null] C d_La_law_8 rfl in_Mo tyok_Mo cl_La_69 ins_Mo ini_Mo rfl df_Mo (Nat.le_of_ble_eq_true rfl) (Nat.le_of_ble_eq_true rfl) (fun m M3 M3n M3w M3a0 M3o => ?_)
  refine m_dup C d_La_law_11 rfl ?_
  refine m_callI C d_La_law_12 mw_La_71 mi_Mo_init rfl (ct_Mo_init _ _ _ m M3 M3a0) (fun q h => by rw [h]; exact M3w) rfl rfl (Nat.le_of_ble_eq_true rfl) ⟨⟨(Nat.le_of_ble_eq_true rfl), (Nat.le_of_ble_eq_true rfl)⟩, (Nat.le_of_ble_eq_true rfl), (Nat.le_of_ble_eq_true rfl)⟩ (fun v8 M4 hp2 g5 g6 => ?_)
  obtain ⟨rfl, mr, hM, hm0⟩ := hp2
  show mj G 7 55 3945 M4 15 [some (.ref sc), some (.ref x), none, none, none, none, none] [.ref m]
  refine m_astore_n (L' := [some (.ref sc), some (.ref x), some (.ref m), none, none, none, none]) C d_La_law_15 rfl (by decide) rfl ?_
  refine m_iconst (v := 1) C d_La_law_16 (by decide) ?_
  refine m_newaE (N := 1) C d_La_law_17 rfl kt_long ac_long (fun _ h => by cases h) (by decide) (by decide) (by decide) (Nat.le_of_ble_eq_true rfl) (Nat.le_of_ble_eq_true rfl) (fun o M5 M5n M5w M5a0 M5o => ?_)
  refine m_astore_n (L' := [some (.ref sc), some (.ref x), some (.ref m), some (.ref o), none, none, none]) C d_La_law_19 rfl (by decide) rfl ?_
  refine m_iconst (v := 0) C d_La_law_20 (by decide) ?_
  refine m_istore (L' := [some (.ref sc), some (.ref x), some (.ref m), some (.ref o), some (.int 0), none, none]) C d_La_law_21 (by decide) rfl ?_
  have c3 : ∀ q, foot (fun _ _ => 0) ad q → M3 q = M2 q ∧ q ≠ m := fun q hq => by
    have n0 : q ≠ m := fun z => hC.fn hq (by rw [z]; exact M3n)
    exact ⟨M3o q n0, n0⟩
  have c4 : ∀ q, foot (fun _ _ => 0) ad q → M4 q = M3 q := fun q hq => g5 q (by rw [(c3 q hq).1]; exact hC.fn hq) (c3 q hq).2
  have hC4 : RepC (fun _ _ => 0) ad M4 := hC.keep (fun q hq => (c4 q hq).trans (c3 q hq).1)
  have o4 : ∀ q, M4 q ≠ none → q ≠ o := fun q h z => h (by rw [z]; exact M5n)
  have hC5 : RepC (fun _ _ => 0) ad M5 := hC4.keep (fun q hq => M5o q (o4 q (hC4.fn hq)))
  have hM5 : RepM (fun _ _ => 0) m mr M5 := hM.keep (fun q hq => M5o q (o4 q (hM.fn hq)))
  have hLI : LI G (fun _ _ => 0) ad x m mr o M5 := by
    refine ⟨WfS_0, hC5, hM5, ha, ⟨0, M5a0⟩, fun q hq => ⟨?_, fun z => ?_, o4 q (hC4.fn hq)⟩, fun q hq => ⟨?_, o4 q (hM.fn hq)⟩, M5w⟩
    · rcases hf q hq with z | z
      · rw [z]; exact M1w
      · exact h6 q z (hC.fn hq)
    · rcases z with z | ⟨k, hk, z⟩
      · exact (c3 q hq).2 z
      · exact hC.fn hq (by rw [← (c3 q hq).1, z]; exact hm0 k hk)
    · rcases hq with z | ⟨k, hk, z⟩
      · rw [z]; exact M3w
      · rw [z]; exact g6 _ (hm0 k hk) (hM.fn (Or.inr ⟨k, hk, rfl⟩))
  have h9 := law_loop C hX hN x m mr o hret (600 - 0) 0 (fun _ _ => 0) ad M5 56 3946 rfl (by decide) hLI (by decide) (by decide)
  exact h9
