/-! ===== writes to a street ===== -/
def setF (R : mR) (k : Nat) (f : Nat → Int32) : mR := fun k' => if k' = k then f else R k'
/-- what was never written is 0 -/
def Wz (R : mR) : Prop := ∀ i, i < 30 → (nS R ≤ i → R 3 i = 0 ∧ R 7 i = 0 ∧ R 11 i = 0 ∧ R 12 i = 0 ∧ R 13 i = 0 ∧ R 14 i = 0 ∧ R 15 i = 0) ∧ ∀ j, j < 3 → (nS R ≤ i ∨ tn (R 4 i) ≤ j) → R 5 (3 * i + j) = 0
def fF (R : mR) : mR := uR R 28 0 0
theorem nmL_congr {R R' : mR} {k : Nat} (h5 : R' 5 = R 5) (h6 : R' 6 = R 6) : nmL R' k = nmL R k := by simp only [nmL, h5, h6]
theorem tn_0 : tn 0 = 0 := rfl
theorem nt0 : nI (tn 0) = 0 := rfl
theorem setF_s {R : mR} {k : Nat} {f : Nat → Int32} : setF R k f k = f := if_pos rfl
theorem setF_n {R : mR} {k k' : Nat} {f : Nat → Int32} (h : k' ≠ k) : setF R k f k' = R k' := if_neg h
theorem lv_cg {R R' : mR} {k i j : Nat} (h1 : R' 1 = R 1) (h2 : R' 16 = R 16) (h3 : R' 21 = R 21) (h4 : R' 7 = R 7) (h : lv R' k i j) : lv R k i j := by
  simp only [lv, lvB, lvJ, nS, nL, nC, h1, h2, h3, h4] at h ⊢
  exact h
def okD (k : Nat) : List Nat := if k = 0 then [1, 16, 21, 28] else if k = 1 then [1] else if k = 2 then [16] else if k = 3 then [21] else if k = 5 then [26] else if k = 6 then [26, 27] else if k = 17 then [2, 3, 4, 7, 11, 12, 13, 14, 15] else if k = 19 then [7] else if k = 20 then [5, 6] else if k = 21 then [5, 6] else if k = 22 then [8, 9, 10] else if k = 23 then [17, 18] else if k = 24 then [19, 20] else if k = 25 then [19, 20] else if k = 26 then [22, 23, 24, 25] else []
theorem okC_cg {R R' : mR} {ad : mAd} {k i j : Nat} {c : Option ma_E} (hk : k ≠ 16) (h26 : k ≤ 26) (hs : ∀ f ∈ okD k, R' f = R f) (h : okC R ad k i j c) : okC R' ad k i j c := by
  have h9 : k = 0 ∨ k = 1 ∨ k = 2 ∨ k = 3 ∨ k = 4 ∨ k = 5 ∨ k = 6 ∨ k = 7 ∨ k = 8 ∨ k = 9 ∨ k = 10 ∨ k = 11 ∨ k = 12 ∨ k = 13 ∨ k = 14 ∨ k = 15 ∨ k = 16 ∨ k = 17 ∨ k = 18 ∨ k = 19 ∨ k = 20 ∨ k = 21 ∨ k = 22 ∨ k = 23 ∨ k = 24 ∨ k = 25 ∨ k = 26 := by omega
  rcases h9 with rfl | rfl | rfl | rfl | rfl | rfl | rfl | rfl | rfl | rfl | rfl | rfl | rfl | rfl | rfl | rfl | rfl | rfl | rfl | rfl | rfl | rfl | rfl | rfl | rfl | rfl | rfl
  · have e1 := hs 1 (by decide); have e16 := hs 16 (by decide); have e21 := hs 21 (by decide); have e28 := hs 28 (by decide); simp only [okC, nS, nL, nC, nW, nF, nmL, lmL, rgF, rgL, e1, e16, e21, e28] at h ⊢; exact h
  · have e1 := hs 1 (by decide); simp only [okC, nS, nL, nC, nW, nF, nmL, lmL, rgF, rgL, e1] at h ⊢; exact h
  · have e16 := hs 16 (by decide); simp only [okC, nS, nL, nC, nW, nF, nmL, lmL, rgF, rgL, e16] at h ⊢; exact h
  · have e21 := hs 21 (by decide); simp only [okC, nS, nL, nC, nW, nF, nmL, lmL, rgF, rgL, e21] at h ⊢; exact h
  · simp only [okC] at h ⊢; exact h
  · have e26 := hs 26 (by decide); simp only [okC, nS, nL, nC, nW, nF, nmL, lmL, rgF, rgL, e26] at h ⊢; exact h
  · have e26 := hs 26 (by decide); have e27 := hs 27 (by decide); simp only [okC, nS, nL, nC, nW, nF, nmL, lmL, rgF, rgL, e26, e27] at h ⊢; exact h
  · simp only [okC] at h ⊢; exact h
  · simp only [okC] at h ⊢; exact h
  · simp only [okC] at h ⊢; exact h
  · simp only [okC] at h ⊢; exact h
  · simp only [okC] at h ⊢; exact h
  · simp only [okC] at h ⊢; exact h
  · simp only [okC] at h ⊢; exact h
  · simp only [okC] at h ⊢; exact h
  · simp only [okC] at h ⊢; exact h
  · exact absurd rfl hk
  · have e2 := hs 2 (by decide); have e3 := hs 3 (by decide); have e4 := hs 4 (by decide); have e7 := hs 7 (by decide); have e11 := hs 11 (by decide); have e12 := hs 12 (by decide); have e13 := hs 13 (by decide); have e14 := hs 14 (by decide); have e15 := hs 15 (by decide); simp only [okC, nS, nL, nC, nW, nF, nmL, lmL, rgF, rgL, e2, e3, e4, e7, e11, e12, e13, e14, e15] at h ⊢; exact h
  · simp only [okC] at h ⊢; exact h
  · have e7 := hs 7 (by decide); simp only [okC, nS, nL, nC, nW, nF, nmL, lmL, rgF, rgL, e7] at h ⊢; exact h
  · have e5 := hs 5 (by decide); have e6 := hs 6 (by decide); simp only [okC, nS, nL, nC, nW, nF, nmL, lmL, rgF, rgL, e5, e6] at h ⊢; exact h
  · have e5 := hs 5 (by decide); have e6 := hs 6 (by decide); simp only [okC, nS, nL, nC, nW, nF, nmL, lmL, rgF, rgL, e5, e6] at h ⊢; exact h
  · have e8 := hs 8 (by decide); have e9 := hs 9 (by decide); have e10 := hs 10 (by decide); simp only [okC, nS, nL, nC, nW, nF, nmL, lmL, rgF, rgL, e8, e9, e10] at h ⊢; exact h
  · have e17 := hs 17 (by decide); have e18 := hs 18 (by decide); simp only [okC, nS, nL, nC, nW, nF, nmL, lmL, rgF, rgL, e17, e18] at h ⊢; exact h
  · have e19 := hs 19 (by decide); have e20 := hs 20 (by decide); simp only [okC, nS, nL, nC, nW, nF, nmL, lmL, rgF, rgL, e19, e20] at h ⊢; exact h
  · have e19 := hs 19 (by decide); have e20 := hs 20 (by decide); simp only [okC, nS, nL, nC, nW, nF, nmL, lmL, rgF, rgL, e19, e20] at h ⊢; exact h
  · have e22 := hs 22 (by decide); have e23 := hs 23 (by decide); have e24 := hs 24 (by decide); have e25 := hs 25 (by decide); simp only [okC, nS, nL, nC, nW, nF, nmL, lmL, rgF, rgL, e22, e23, e24, e25] at h ⊢; exact h

theorem i_sw (x y : Int32) : x + (y - x) = y := by grind

set_option maxHeartbeats 4000000 in
set_option maxRecDepth 100000 in
theorem ct_AW_close (l : Launch) (D : ma_D) (s0 : State) (R : mR) (ad : mAd) (s b : Int32) (hb01 : b = 0 ∨ b = 1) (M : ma_H) (hR : RepC R ad M) (hb : Bd R) : Cx l D s0 y_AW_close c_AW_close 3 none 7 1 6 103 [.ref (ad 0 0 0), .int s, .int b] M (foot R ad) (fun v M' => ((kn R s = true) ∧ (True) ∧ (True) ∧ (True)) ∧ v = none ∧ RepC (uR (uR R 3 (tn s) b) 28 0 0) ad M') (fun E M' => gbx (kn R s = true) (True) (True) (True) E ∧ RepC R ad M') := by
  refine Cx_gen 0 [some (.ref (ad 0 0 0)), some (.int s), some (.int b)] (by decide +kernel) (Nat.le_of_ble_eq_true rfl) rfl ?_
  intro G e1 e2 e3 C hw Rt Th Up
  subst e1; subst e2; subst e3
  refine m_aload_n C d_AW_close_0 rfl rfl ?_
  refine m_iload_n C d_AW_close_1 rfl rfl ?_
  refine m_callVX (ci := 0) C d_AW_close_2 ml_AW_77 mw_AW_77 mi_AW_knownStreet se_AW_knownStreet rfl (ct_AW_knownStreet _ _ _ R ad s M hR hb) (fun _ h => h.elim) rfl rfl (Nat.le_of_ble_eq_true rfl) hR.root (by decide) (fun v9 M9 hp h5 h6 => ?_) (fun E9 M9 hp h5 h6 => ?_)
  · obtain ⟨rfl, hM9, hk⟩ := hp; rw [hM9]
    show mj G 3 (0 + 1) (0 + 6) M 5 [some (.ref (ad 0 0 0)), some (.int s), some (.int b)] [.ref (ad 17 (tn s) 0)]
    obtain ⟨i0, hi, hsi, ht⟩ := kn_i hb hk
    rw [ht]
    refine m_iload_n C d_AW_close_5 rfl rfl ?_
    refine m_putE C fp_AW_143 d_AW_close_6 (hw _ ⟨17, i0, 0, lv_s (by decide) hi, rfl⟩) (hR.st hi) (by rcases hb01 with rfl | rfl <;> rfl) (by rcases hb01 with rfl | rfl <;> rfl) (fun M1 M1a0 M1o => ?_)
    have nx : ad 0 0 0 ≠ ad 17 i0 0 := hR.ne (lv_o (by decide)) (lv_s (by decide) hi) (by omega)
    have hr1 := (M1o _ nx).trans hR.root
    refine m_aload_n C d_AW_close_9 rfl rfl ?_
    refine m_callV (ci := 0) C d_AW_close_10 mw_AW_74 mi_AW_forgetPlaces se_AW_forgetPlaces rfl (ct_AW_forgetPlaces _ _ _ (ad 0 0 0) (.ref (ad 1 0 0)) (.int (nI (nS R))) (.ref (ad 2 0 0)) (.int (nI (nL R))) (.ref (ad 3 0 0)) (.int (nI (nC R))) (.ref (ad 5 0 0)) (.ref (ad 9 0 0)) (.ref (ad 13 0 0)) (.ref (ad 4 0 0)) (.int (nI (nF R))) M1 hr1) (fun q h => by rw [h]; exact hw _ ⟨0, 0, 0, lv_o (by decide), rfl⟩) rfl rfl (Nat.le_of_ble_eq_true rfl) hr1 (by decide) (fun v7 M2 hp h5 h6 => ?_)
    obtain ⟨rfl, hF, M2o⟩ := hp
    show mj G 3 (0 + 1 + 0) (0 + 6 + 0) M2 13 [some (.ref (ad 0 0 0)), some (.int s), some (.int b)] []
    have hs2 := (M2o _ (Ne.symm nx)).trans M1a0
    have hRep : RepC (uR (uR (R) 3 (i0) (b)) 28 (0) (0)) ad M2 := by
      obtain ⟨R1, hR1⟩ : ∃ R1, R1 = uR (uR (R) 3 (i0) (b)) 28 (0) (0) := ⟨_, rfl⟩
      rw [← hR1]
      have hag : ∀ f, f ∉ [3, 28] → R1 f = R f := fun f hf => by rw [hR1, uR_n (fun z => hf (by rw [z]; decide)), uR_n (fun z => hf (by rw [z]; decide))]
      have e28 : R1 28 = fu (R 28) (0) (0) := by rw [hR1, uR_s, uR_n (by decide)]
      have e3 : R1 3 = fu (R 3) (i0) (b) := by rw [hR1, uR_n (by decide), uR_s]
      refine hR.upd (fun k i j => (k = 0 ∧ i = 0 ∧ j = 0) ∨ (k = 17 ∧ i = i0 ∧ j = 0)) ?_ ?_ ?_ ?_
      · exact fun k i j hv => lv_cg (hag 1 (by decide)) (hag 16 (by decide)) (hag 21 (by decide)) (hag 7 (by decide)) hv
      · intro k i j hv hn
        rw [M2o _ (hR.ne hv (lv_o (by decide)) (fun z => hn (Or.inl z))), M1o _ (hR.ne hv (lv_s (by decide) hi) (fun z => hn (Or.inr z)))]
      · intro k i j hv hn c hc
        by_cases k0 : k = 0
        · subst k0
          have h1 : i < 1 := hv.1
          have h2 : j < 1 := hv.2
          exact absurd (show (0 = 0 ∧ i = 0 ∧ j = 0) ∨ (0 = 17 ∧ i = i0 ∧ j = 0) by omega) hn
        by_cases k16 : k = 16
        · subst k16
          obtain ⟨f, h1, _⟩ := hc
          exact ⟨f, h1, fun z => absurd z (by show ¬ i < tn (R1 28 0); rw [e28, fu_s, tn_0]; omega)⟩
        by_cases k17 : k = 17
        · subst k17
          have hne : i ≠ i0 := fun z => hn (Or.inr ⟨rfl, z, (by have : j < 1 := hv.2; omega)⟩)
          simp only [okC, hag 2 (by decide), e3, hag 4 (by decide), hag 7 (by decide), hag 11 (by decide), hag 12 (by decide), hag 13 (by decide), hag 14 (by decide), hag 15 (by decide), fu_n hne]
          exact hc
        exact okC_cg k16 (lv_le hv) (fun f hf => hag f ((by decide : ∀ k, k < 27 → k ∉ [0, 16, 17] → ∀ f ∈ okD k, f ∉ [3, 28]) k (by have := lv_le hv; omega) (by simp only [List.mem_cons, List.not_mem_nil, or_false, not_or]; exact ⟨k0, k16, k17⟩) f hf)) hc
      · rintro k i j hv (⟨rfl, rfl, rfl⟩ | ⟨rfl, rfl, rfl⟩)
        · simp only [okC, nS, nL, nC, nF, hag 1 (by decide), hag 16 (by decide), hag 21 (by decide), e28, fu_s, nt0]
          exact hF
        · simp only [okC, hag 2 (by decide), e3, hag 4 (by decide), hag 7 (by decide), hag 11 (by decide), hag 12 (by decide), hag 13 (by decide), hag 14 (by decide), hag 15 (by decide), fu_s]
          exact hs2
    exact Rt _ _ _ _ _ _ _ (by decide) (by decide) (⟨⟨hk, trivial, trivial, trivial⟩, rfl, by rw [ht]; exact hRep⟩) (Or.inr (Or.inl ⟨rfl, rfl, rfl, d_AW_close_13⟩))
  · obtain ⟨rfl, hM9, hk⟩ := hp; rw [hM9]
    exact Up _ _ _ _ _ _ (by decide) (by decide) (⟨Or.inl ⟨hk, rfl⟩, hR⟩)

set_option maxHeartbeats 4000000 in
set_option maxRecDepth 100000 in
theorem ct_AW_line (l : Launch) (D : ma_D) (s0 : State) (R : mR) (ad : mAd) (s x y tx ty : Int32) (M : ma_H) (hR : RepC R ad M) (hb : Bd R) : Cx l D s0 y_AW_line c_AW_line 7 (some .int) 7 3 18 103 [.ref (ad 0 0 0), .int s, .int x, .int y, .int tx, .int ty] M (foot R ad) (fun v M' => ((kn R s = true) ∧ (gdP x y ∧ gdP tx ty) ∧ (True) ∧ (True)) ∧ v = some (.int (w_root (sq_way x y tx ty))) ∧ RepC (uR (uR (uR (uR (uR (uR R 11 (tn s) x) 12 (tn s) y) 13 (tn s) (tx - x)) 14 (tn s) (ty - y)) 15 (tn s) (w_root (sq_way x y tx ty))) 28 0 0) ad M') (fun E M' => gbx (kn R s = true) (gdP x y ∧ gdP tx ty) (True) (True) E ∧ RepC R ad M') := by
  refine Cx_gen 1 [some (.ref (ad 0 0 0)), some (.int s), some (.int x), some (.int y), some (.int tx), some (.int ty), none] (by decide +kernel) (Nat.le_of_ble_eq_true rfl) rfl ?_
  intro G e1 e2 e3 C hw Rt Th Up
  subst e1; subst e2; subst e3
  refine m_aload_n C d_AW_line_0 rfl rfl ?_
  refine m_iload_n C d_AW_line_1 rfl rfl ?_
  refine m_callVX (ci := 0) C d_AW_line_2 ml_AW_77 mw_AW_77 mi_AW_knownStreet se_AW_knownStreet rfl (ct_AW_knownStreet _ _ _ R ad s M hR hb) (fun _ h => h.elim) rfl rfl (Nat.le_of_ble_eq_true rfl) hR.root (by decide) (fun v9 M9 hp h5 h6 => ?_) (fun E9 M9 hp h5 h6 => ?_)
  · obtain ⟨rfl, hM9, hk⟩ := hp; rw [hM9]
    show mj G 7 (0 + 1) (0 + 6) M 5 [some (.ref (ad 0 0 0)), some (.int s), some (.int x), some (.int y), some (.int tx), some (.int ty), none] [.ref (ad 17 (tn s) 0)]
    obtain ⟨i0, hi, hsi, ht⟩ := kn_i hb hk
    rw [ht]
    refine m_astore (L' := [some (.ref (ad 0 0 0)), some (.int s), some (.int x), some (.int y), some (.int tx), some (.int ty), some (.ref (ad 17 i0 0))]) C d_AW_line_5 (by decide) rfl ?_
    refine m_iload_n C d_AW_line_7 rfl rfl ?_
    refine m_iload_n C d_AW_line_8 rfl rfl ?_
    refine m_callSX C d_AW_line_9 ml_AW_134 mw_AW_134 mst_AW_requirePoint (ct_AW_requirePoint _ _ _ x y M) (fun _ h => h.elim) rfl rfl (Nat.le_of_ble_eq_true rfl) (by decide) (fun v8 M8 hp h5 h6 => ?_) (fun E8 M8 hp h5 h6 => ?_)
    · obtain ⟨rfl, hM8, hp1⟩ := hp; rw [hM8]
      show mj G 7 (0 + 1 + 1) (0 + 6 + 6) M 12 [some (.ref (ad 0 0 0)), some (.int s), some (.int x), some (.int y), some (.int tx), some (.int ty), some (.ref (ad 17 i0 0))] []
      refine m_iload C d_AW_line_12 rfl ?_
      refine m_iload C d_AW_line_14 rfl ?_
      refine m_callSX C d_AW_line_16 ml_AW_134 mw_AW_134 mst_AW_requirePoint (ct_AW_requirePoint _ _ _ tx ty M) (fun _ h => h.elim) rfl rfl (Nat.le_of_ble_eq_true rfl) (by decide) (fun v7 M7 hp h5 h6 => ?_) (fun E7 M7 hp h5 h6 => ?_)
      · obtain ⟨rfl, hM7, hp2⟩ := hp; rw [hM7]
        show mj G 7 (0 + 1 + 1 + 1) (0 + 6 + 6 + 6) M 19 [some (.ref (ad 0 0 0)), some (.int s), some (.int x), some (.int y), some (.int tx), some (.int ty), some (.ref (ad 17 i0 0))] []
        refine m_aload C d_AW_line_19 rfl ?_
        refine m_iload_n C d_AW_line_21 rfl rfl ?_
        refine m_iload_n C d_AW_line_22 rfl rfl ?_
        refine m_iload C d_AW_line_23 rfl ?_
        refine m_iload C d_AW_line_25 rfl ?_
        refine m_callV (ci := 9) C d_AW_line_27 mw_AW_138 mi_St_draw se_St_draw rfl (ct_St_draw _ _ _ (ad 17 i0 0) (ad 18 i0 0) (tn (R 4 i0)) (ad 19 i0 0) (tn (R 7 i0)) (R 2 i0) (R 11 i0) (R 12 i0) (R 11 i0 + R 13 i0) (R 12 i0 + R 14 i0) (R 15 i0) (R 3 i0) x y tx ty M (hR.st hi)) (fun q h => by rw [h]; exact hw _ ⟨17, i0, 0, lv_s (by decide) hi, rfl⟩) rfl rfl (Nat.le_of_ble_eq_true rfl) (hR.st hi) (by decide) (fun v6 M1 hp M1o9 h6 => ?_)
        obtain ⟨rfl, M1a0⟩ := hp
        show mj G 7 (0 + 1 + 1 + 1 + 0) (0 + 6 + 6 + 6 + 0) M1 30 [some (.ref (ad 0 0 0)), some (.int s), some (.int x), some (.int y), some (.int tx), some (.int ty), some (.ref (ad 17 i0 0))] []
        have nx : ad 0 0 0 ≠ ad 17 i0 0 := hR.ne (lv_o (by decide)) (lv_s (by decide) hi) (by omega)
        have M1o : ∀ q, M q ≠ none → q ≠ ad 17 i0 0 → M1 q = M q := M1o9
        have hr1 := (M1o _ (hR.ne0 (lv_o (by decide))) nx).trans hR.root
        refine m_aload_n C d_AW_line_30 rfl rfl ?_
        refine m_callV (ci := 0) C d_AW_line_31 mw_AW_74 mi_AW_forgetPlaces se_AW_forgetPlaces rfl (ct_AW_forgetPlaces _ _ _ (ad 0 0 0) (.ref (ad 1 0 0)) (.int (nI (nS R))) (.ref (ad 2 0 0)) (.int (nI (nL R))) (.ref (ad 3 0 0)) (.int (nI (nC R))) (.ref (ad 5 0 0)) (.ref (ad 9 0 0)) (.ref (ad 13 0 0)) (.ref (ad 4 0 0)) (.int (nI (nF R))) M1 hr1) (fun q h => by rw [h]; exact hw _ ⟨0, 0, 0, lv_o (by decide), rfl⟩) rfl rfl (Nat.le_of_ble_eq_true rfl) hr1 (by decide) (fun v7 M2 hp h5 h6 => ?_)
        obtain ⟨rfl, hF, M2o⟩ := hp
        show mj G 7 (0 + 1 + 1 + 1 + 0 + 0) (0 + 6 + 6 + 6 + 0 + 0) M2 34 [some (.ref (ad 0 0 0)), some (.int s), some (.int x), some (.int y), some (.int tx), some (.int ty), some (.ref (ad 17 i0 0))] []
        have hs2 : M2 (ad 17 i0 0) = some (.inl (9, stF (R 2 i0) (ad 18 i0 0) (tn (R 4 i0)) (ad 19 i0 0) (tn (R 7 i0)) x y tx ty (w_root (sq_way x y tx ty)) (R 3 i0))) := (M2o _ (Ne.symm nx)).trans M1a0
        have hRep : RepC (uR (uR (uR (uR (uR (uR (R) 11 (i0) (x)) 12 (i0) (y)) 13 (i0) (tx - x)) 14 (i0) (ty - y)) 15 (i0) (w_root (sq_way x y tx ty))) 28 (0) (0)) ad M2 := by
          obtain ⟨R1, hR1⟩ : ∃ R1, R1 = uR (uR (uR (uR (uR (uR (R) 11 (i0) (x)) 12 (i0) (y)) 13 (i0) (tx - x)) 14 (i0) (ty - y)) 15 (i0) (w_root (sq_way x y tx ty))) 28 (0) (0) := ⟨_, rfl⟩
          rw [← hR1]
          have hag : ∀ f, f ∉ [11, 12, 13, 14, 15, 28] → R1 f = R f := fun f hf => by rw [hR1, uR_n (fun z => hf (by rw [z]; decide)), uR_n (fun z => hf (by rw [z]; decide)), uR_n (fun z => hf (by rw [z]; decide)), uR_n (fun z => hf (by rw [z]; decide)), uR_n (fun z => hf (by rw [z]; decide)), uR_n (fun z => hf (by rw [z]; decide))]
          have e28 : R1 28 = fu (R 28) (0) (0) := by rw [hR1, uR_s, uR_n (by decide), uR_n (by decide), uR_n (by decide), uR_n (by decide), uR_n (by decide)]
          have e15 : R1 15 = fu (R 15) (i0) (w_root (sq_way x y tx ty)) := by rw [hR1, uR_n (by decide), uR_s, uR_n (by decide), uR_n (by decide), uR_n (by decide), uR_n (by decide)]
          have e14 : R1 14 = fu (R 14) (i0) (ty - y) := by rw [hR1, uR_n (by decide), uR_n (by decide), uR_s, uR_n (by decide), uR_n (by decide), uR_n (by decide)]
          have e13 : R1 13 = fu (R 13) (i0) (tx - x) := by rw [hR1, uR_n (by decide), uR_n (by decide), uR_n (by decide), uR_s, uR_n (by decide), uR_n (by decide)]
          have e12 : R1 12 = fu (R 12) (i0) (y) := by rw [hR1, uR_n (by decide), uR_n (by decide), uR_n (by decide), uR_n (by decide), uR_s, uR_n (by decide)]
          have e11 : R1 11 = fu (R 11) (i0) (x) := by rw [hR1, uR_n (by decide), uR_n (by decide), uR_n (by decide), uR_n (by decide), uR_n (by decide), uR_s]
          refine hR.upd (fun k i j => (k = 0 ∧ i = 0 ∧ j = 0) ∨ (k = 17 ∧ i = i0 ∧ j = 0)) ?_ ?_ ?_ ?_
          · exact fun k i j hv => lv_cg (hag 1 (by decide)) (hag 16 (by decide)) (hag 21 (by decide)) (hag 7 (by decide)) hv
          · intro k i j hv hn
            rw [M2o _ (hR.ne hv (lv_o (by decide)) (fun z => hn (Or.inl z))), M1o _ (hR.ne0 hv) (hR.ne hv (lv_s (by decide) hi) (fun z => hn (Or.inr z)))]
          · intro k i j hv hn c hc
            by_cases k0 : k = 0
            · subst k0
              have h1 : i < 1 := hv.1
              have h2 : j < 1 := hv.2
              exact absurd (show (0 = 0 ∧ i = 0 ∧ j = 0) ∨ (0 = 17 ∧ i = i0 ∧ j = 0) by omega) hn
            by_cases k16 : k = 16
            · subst k16
              obtain ⟨f, h1, _⟩ := hc
              exact ⟨f, h1, fun z => absurd z (by show ¬ i < tn (R1 28 0); rw [e28, fu_s, tn_0]; omega)⟩
            by_cases k17 : k = 17
            · subst k17
              have hne : i ≠ i0 := fun z => hn (Or.inr ⟨rfl, z, (by have : j < 1 := hv.2; omega)⟩)
              simp only [okC, hag 2 (by decide), hag 3 (by decide), hag 4 (by decide), hag 7 (by decide), e11, e12, e13, e14, e15, fu_n hne]
              exact hc
            exact okC_cg k16 (lv_le hv) (fun f hf => hag f ((by decide : ∀ k, k < 27 → k ∉ [0, 16, 17] → ∀ f ∈ okD k, f ∉ [11, 12, 13, 14, 15, 28]) k (by have := lv_le hv; omega) (by simp only [List.mem_cons, List.not_mem_nil, or_false, not_or]; exact ⟨k0, k16, k17⟩) f hf)) hc
          · rintro k i j hv (⟨rfl, rfl, rfl⟩ | ⟨rfl, rfl, rfl⟩)
            · simp only [okC, nS, nL, nC, nF, hag 1 (by decide), hag 16 (by decide), hag 21 (by decide), e28, fu_s, nt0]
              exact hF
            · simp only [okC, hag 2 (by decide), hag 3 (by decide), hag 4 (by decide), hag 7 (by decide), e11, e12, e13, e14, e15, fu_s, i_sw]
              exact hs2
        refine m_aload C d_AW_line_34 rfl ?_
        refine m_get C fg_AW_142 d_AW_line_36 hs2 rfl ?_
        exact Rt _ _ _ _ _ _ _ (by decide) (by decide) (⟨⟨hk, ⟨hp1, hp2⟩, trivial, trivial⟩, rfl, by rw [ht]; exact hRep⟩) (Or.inl ⟨rfl, _, rfl, rfl, d_AW_line_39⟩)
      · obtain ⟨rfl, hM7, hp2⟩ := hp; rw [hM7]
        exact Up _ _ _ _ _ _ (by decide) (by decide) (⟨Or.inr (Or.inl ⟨hk, fun z => hp2 z.2, rfl⟩), hR⟩)
    · obtain ⟨rfl, hM8, hp1⟩ := hp; rw [hM8]
      exact Up _ _ _ _ _ _ (by decide) (by decide) (⟨Or.inr (Or.inl ⟨hk, fun z => hp1 z.1, rfl⟩), hR⟩)
  · obtain ⟨rfl, hM9, hk⟩ := hp; rw [hM9]
    exact Up _ _ _ _ _ _ (by decide) (by decide) (⟨Or.inl ⟨hk, rfl⟩, hR⟩)

set_option maxHeartbeats 4000000 in
set_option maxRecDepth 100000 in
theorem ct_AW_alias (l : Launch) (D : ma_D) (s0 : State) (R : mR) (ad : mAd) (s : Int32) (M : ma_H) (hR : RepC R ad M) (hb : Bd R) (hz : Wz R) : Cx l D s0 y_AW_alias c_AW_alias 3 (some .int) 7 2 12 103 [.ref (ad 0 0 0), .int s] M (foot R ad) (fun v M' => ((kn R s = true) ∧ (True) ∧ (tn (R 5 (3 * tn s + (tn (R 4 (tn s)) - 1))) ≠ 0) ∧ (tn (R 4 (tn s)) < 3)) ∧ v = some (.int (nI (tn (R 4 (tn s)) + 1))) ∧ RepC (uR (uR (uR R 5 (3 * tn s + tn (R 4 (tn s))) 0) 4 (tn s) (nI (tn (R 4 (tn s)) + 1))) 28 0 0) ad M') (fun E M' => gbx (kn R s = true) (True) (tn (R 5 (3 * tn s + (tn (R 4 (tn s)) - 1))) ≠ 0) (tn (R 4 (tn s)) < 3) E ∧ RepC R ad M') := by
  refine Cx_gen 1 [some (.ref (ad 0 0 0)), some (.int s), none] (by decide +kernel) (Nat.le_of_ble_eq_true rfl) rfl ?_
  intro G e1 e2 e3 C hw Rt Th Up
  subst e1; subst e2; subst e3
  refine m_aload_n C d_AW_alias_0 rfl rfl ?_
  refine m_iload_n C d_AW_alias_1 rfl rfl ?_
  refine m_callVX (ci := 0) C d_AW_alias_2 ml_AW_77 mw_AW_77 mi_AW_knownStreet se_AW_knownStreet rfl (ct_AW_knownStreet _ _ _ R ad s M hR hb) (fun _ h => h.elim) rfl rfl (Nat.le_of_ble_eq_true rfl) hR.root (by decide) (fun v9 M9 hp h5 h6 => ?_) (fun E9 M9 hp h5 h6 => ?_)
  · obtain ⟨rfl, hM9, hk⟩ := hp; rw [hM9]
    show mj G 3 (0 + 1) (0 + 6) M 5 [some (.ref (ad 0 0 0)), some (.int s), none] [.ref (ad 17 (tn s) 0)]
    obtain ⟨i0, hi, hsi, ht⟩ := kn_i hb hk
    rw [ht]
    refine m_astore_n (L' := [some (.ref (ad 0 0 0)), some (.int s), some (.ref (ad 17 i0 0))]) C d_AW_alias_5 rfl (by decide) rfl ?_
    refine m_aload_n C d_AW_alias_6 rfl rfl ?_
    have hnc := (hb.2 i0 hi).1
    have hb30 := hb.1.1
    obtain ⟨ln9, hl1, hl2, hl3⟩ := hR.nms hi
    refine m_callV (ci := 9) C d_AW_alias_7 mw_AW_81 mi_St_latestName se_St_latestName rfl (ct_St_latestName _ _ _ (ad 17 i0 0) (ad 18 i0 0) (tn (R 4 i0)) (ad 19 i0 0) (tn (R 7 i0)) (R 2 i0) (R 11 i0) (R 12 i0) (R 11 i0 + R 13 i0) (R 12 i0 + R 14 i0) (R 15 i0) (R 3 i0) (ad 20 i0 (tn (R 4 i0) - 1)) ln9 M (hR.st hi) hl1 hnc.1 hnc.2 (hl3 _ (by omega))) (fun _ h => h.elim) rfl rfl (Nat.le_of_ble_eq_true rfl) (hR.st hi) (by decide) (fun v8 M8 hp h5 h6 => ?_)
    obtain ⟨rfl, hM8⟩ := hp; rw [hM8]
    show mj G 3 (0 + 1 + 0) (0 + 6 + 0) M 10 [some (.ref (ad 0 0 0)), some (.int s), some (.ref (ad 17 i0 0))] [.ref (ad 20 i0 (tn (R 4 i0) - 1))]
    obtain ⟨lc9, hNa⟩ := hR.nm (j := tn (R 4 i0) - 1) hi (by omega)
    refine m_callV (ci := 5) C d_AW_alias_10 mw_AW_103 mi_Na_isEmpty se_Na_isEmpty rfl (ct_Na_isEmpty _ _ _ (ad 20 i0 (tn (R 4 i0) - 1)) (ad 21 i0 (tn (R 4 i0) - 1)) lc9 (nmL R (3 * i0 + (tn (R 4 i0) - 1))) M hNa) (fun _ h => h.elim) rfl rfl (Nat.le_of_ble_eq_true rfl) hNa.1 (by decide) (fun v8 M8 hp h5 h6 => ?_)
    obtain ⟨rfl, hM8⟩ := hp; rw [hM8]
    show mj G 3 (0 + 1 + 0 + 0) (0 + 6 + 0 + 0) M 13 [some (.ref (ad 0 0 0)), some (.int s), some (.ref (ad 17 i0 0))] [.int (b2i (decide ((nmL R (3 * i0 + (tn (R 4 i0) - 1))).length = 0)))]
    refine m_if_eq (tgt := 26) C d_AW_alias_13 (by decide) (fun h1 => ?_) (fun h1 => ?_)
    · rw [b2i_eq0, decide_eq_false_iff_not, nmL_len] at h1
      refine m_aload_n C d_AW_alias_26 rfl rfl ?_
      refine m_get C fg_AW_112 d_AW_alias_27 (hR.st hi) rfl ?_
      refine m_iconst (v := 3) C d_AW_alias_30 (by decide) ?_
      have e3 : nI (tn (R 4 i0)) < 3 ↔ tn (R 4 i0) < 3 := by rw [show (3 : Int32) = nI 3 from rfl, nI_ltI (by omega) (by decide)]
      refine m_icmp_lt (tgt := 44) C d_AW_alias_31 (by decide) (fun h2 => ?_) (fun h2 => ?_)
      · rw [e3] at h2
        refine m_aload_n C d_AW_alias_44 rfl rfl ?_
        refine m_dup C d_AW_alias_45 rfl ?_
        refine m_get C fg_AW_112 d_AW_alias_46 (hR.st hi) rfl ?_
        refine m_iconst (v := 1) C d_AW_alias_49 (by decide) ?_
        refine m_iadd C d_AW_alias_50 ?_
        rw [nI_1]
        refine m_putE C fp_AW_112 d_AW_alias_51 (hw _ ⟨17, i0, 0, lv_s (by decide) hi, rfl⟩) (hR.st hi) rfl rfl (fun M1 M1a0 M1o => ?_)
        have nx : ad 0 0 0 ≠ ad 17 i0 0 := hR.ne (lv_o (by decide)) (lv_s (by decide) hi) (by omega)
        have hr1 := (M1o _ nx).trans hR.root
        refine m_aload_n C d_AW_alias_54 rfl rfl ?_
        refine m_callV (ci := 0) C d_AW_alias_55 mw_AW_74 mi_AW_forgetPlaces se_AW_forgetPlaces rfl (ct_AW_forgetPlaces _ _ _ (ad 0 0 0) (.ref (ad 1 0 0)) (.int (nI (nS R))) (.ref (ad 2 0 0)) (.int (nI (nL R))) (.ref (ad 3 0 0)) (.int (nI (nC R))) (.ref (ad 5 0 0)) (.ref (ad 9 0 0)) (.ref (ad 13 0 0)) (.ref (ad 4 0 0)) (.int (nI (nF R))) M1 hr1) (fun q h => by rw [h]; exact hw _ ⟨0, 0, 0, lv_o (by decide), rfl⟩) rfl rfl (Nat.le_of_ble_eq_true rfl) hr1 (by decide) (fun v7 M2 hp h5 h6 => ?_)
        obtain ⟨rfl, hF, M2o⟩ := hp
        show mj G 3 (0 + 1 + 0 + 0 + 0) (0 + 6 + 0 + 0 + 0) M2 58 [some (.ref (ad 0 0 0)), some (.int s), some (.ref (ad 17 i0 0))] []
        have hs2 : M2 (ad 17 i0 0) = some (.inl (9, stF (R 2 i0) (ad 18 i0 0) (tn (R 4 i0) + 1) (ad 19 i0 0) (tn (R 7 i0)) (R 11 i0) (R 12 i0) (R 11 i0 + R 13 i0) (R 12 i0 + R 14 i0) (R 15 i0) (R 3 i0))) := (M2o _ (Ne.symm nx)).trans M1a0
        have hzz : R 5 (3 * i0 + tn (R 4 i0)) = 0 := (hz i0 (by omega)).2 _ h2 (Or.inr (Nat.le_refl _))
        have hf5 : fu (R 5) (3 * i0 + tn (R 4 i0)) 0 = R 5 := by funext q; by_cases hq : q = 3 * i0 + tn (R 4 i0); rw [hq, fu_s, hzz]; rw [fu_n hq]
        have ht4 : tn (nI (tn (R 4 i0) + 1)) = tn (R 4 i0) + 1 := tn_nI (by omega)
        have hRep : RepC (uR (uR (uR (R) 5 (3 * i0 + tn (R 4 i0)) (0)) 4 (i0) (nI (tn (R 4 i0) + 1))) 28 (0) (0)) ad M2 := by
          obtain ⟨R1, hR1⟩ : ∃ R1, R1 = uR (uR (uR (R) 5 (3 * i0 + tn (R 4 i0)) (0)) 4 (i0) (nI (tn (R 4 i0) + 1))) 28 (0) (0) := ⟨_, rfl⟩
          rw [← hR1]
          have hag : ∀ f, f ∉ [5, 4, 28] → R1 f = R f := fun f hf => by rw [hR1, uR_n (fun z => hf (by rw [z]; decide)), uR_n (fun z => hf (by rw [z]; decide)), uR_n (fun z => hf (by rw [z]; decide))]
          have e28 : R1 28 = fu (R 28) (0) (0) := by rw [hR1, uR_s, uR_n (by decide), uR_n (by decide)]
          have e4 : R1 4 = fu (R 4) (i0) (nI (tn (R 4 i0) + 1)) := by rw [hR1, uR_n (by decide), uR_s, uR_n (by decide)]
          have e5 : R1 5 = fu (R 5) (3 * i0 + tn (R 4 i0)) (0) := by rw [hR1, uR_n (by decide), uR_n (by decide), uR_s]
          refine hR.upd (fun k i j => (k = 0 ∧ i = 0 ∧ j = 0) ∨ (k = 17 ∧ i = i0 ∧ j = 0)) ?_ ?_ ?_ ?_
          · exact fun k i j hv => lv_cg (hag 1 (by decide)) (hag 16 (by decide)) (hag 21 (by decide)) (hag 7 (by decide)) hv
          · intro k i j hv hn
            rw [M2o _ (hR.ne hv (lv_o (by decide)) (fun z => hn (Or.inl z))), M1o _ (hR.ne hv (lv_s (by decide) hi) (fun z => hn (Or.inr z)))]
          · intro k i j hv hn c hc
            by_cases k0 : k = 0
            · subst k0
              have h1 : i < 1 := hv.1
              have h2 : j < 1 := hv.2
              exact absurd (show (0 = 0 ∧ i = 0 ∧ j = 0) ∨ (0 = 17 ∧ i = i0 ∧ j = 0) by omega) hn
            by_cases k16 : k = 16
            · subst k16
              obtain ⟨f, h1, _⟩ := hc
              exact ⟨f, h1, fun z => absurd z (by show ¬ i < tn (R1 28 0); rw [e28, fu_s, tn_0]; omega)⟩
            by_cases k17 : k = 17
            · subst k17
              have hne : i ≠ i0 := fun z => hn (Or.inr ⟨rfl, z, (by have : j < 1 := hv.2; omega)⟩)
              simp only [okC, hag 2 (by decide), hag 3 (by decide), e4, hag 7 (by decide), hag 11 (by decide), hag 12 (by decide), hag 13 (by decide), hag 14 (by decide), hag 15 (by decide), fu_n hne]
              exact hc
            by_cases k20 : k = 20
            · subst k20
              simp only [okC, nmL_congr (k := 3 * i + j) (e5.trans hf5) (hag 6 (by decide))]
              exact hc
            by_cases k21 : k = 21
            · subst k21
              simp only [okC, nmL_congr (k := 3 * i + j) (e5.trans hf5) (hag 6 (by decide))]
              exact hc
            exact okC_cg k16 (lv_le hv) (fun f hf => hag f ((by decide : ∀ k, k < 27 → k ∉ [0, 16, 17, 20, 21] → ∀ f ∈ okD k, f ∉ [5, 4, 28]) k (by have := lv_le hv; omega) (by simp only [List.mem_cons, List.not_mem_nil, or_false, not_or]; exact ⟨k0, k16, k17, k20, k21⟩) f hf)) hc
          · rintro k i j hv (⟨rfl, rfl, rfl⟩ | ⟨rfl, rfl, rfl⟩)
            · simp only [okC, nS, nL, nC, nF, hag 1 (by decide), hag 16 (by decide), hag 21 (by decide), e28, fu_s, nt0]
              exact hF
            · simp only [okC, hag 2 (by decide), hag 3 (by decide), e4, hag 7 (by decide), hag 11 (by decide), hag 12 (by decide), hag 13 (by decide), hag 14 (by decide), hag 15 (by decide), fu_s, ht4]
              exact hs2
        refine m_aload_n C d_AW_alias_58 rfl rfl ?_
        refine m_get C fg_AW_112 d_AW_alias_59 hs2 rfl ?_
        exact Rt _ _ _ _ _ _ _ (by decide) (by decide) (⟨⟨hk, trivial, by rw [ht]; exact h1, by rw [ht]; exact h2⟩, by rw [ht], by rw [ht]; exact hRep⟩) (Or.inl ⟨rfl, _, rfl, rfl, d_AW_alias_62⟩)
      · exact Th _ _ _ _ _ _ _ _ _ _ xw_AW_66 sr_AW_115 d_AW_alias_34 d_AW_alias_37 (Or.inl ⟨d_AW_alias_38, d_AW_alias_40, d_AW_alias_43⟩) (by decide) (by decide) (by decide) (by decide) (⟨Or.inr (Or.inr (Or.inr ⟨hk, trivial, by rw [ht]; exact h1, by rw [ht]; exact fun z => h2 (e3.mpr z), rfl⟩)), hR⟩)
    · exact Th _ _ _ _ _ _ _ _ _ _ xw_AW_107 sr_AW_109 d_AW_alias_16 d_AW_alias_19 (Or.inl ⟨d_AW_alias_20, d_AW_alias_22, d_AW_alias_25⟩) (by decide) (by decide) (by decide) (by decide) (⟨Or.inr (Or.inr (Or.inl ⟨hk, trivial, by rw [ht]; rw [b2i_eq0, nmL_len] at h1; simpa using h1, rfl⟩)), hR⟩)
  · obtain ⟨rfl, hM9, hk⟩ := hp; rw [hM9]
    exact Up _ _ _ _ _ _ (by decide) (by decide) (⟨Or.inl ⟨hk, rfl⟩, hR⟩)
