/-! ===== distances and ranking ===== -/
def inE (ad : mAd) (q : Nat) : Prop := q = ad 9 0 0 ∨ q = ad 10 0 0 ∨ q = ad 11 0 0 ∨ q = ad 12 0 0
theorem RepC.ed {R : mR} {ad : mAd} {M : ma_H} (h : RepC R ad M) : ∃ p q r fp fq fr, rot (ad 10 0 0) (ad 11 0 0) (ad 12 0 0) p q r ∧ rEd M (ad 9 0 0) p q r fp fq fr := by
  obtain ⟨p, q, r, h1, h2⟩ := h.1 9 0 0 (lv_o (by decide))
  obtain ⟨f0, k0⟩ := h.1 10 0 0 (lv_o (by decide))
  obtain ⟨f1, k1⟩ := h.1 11 0 0 (lv_o (by decide))
  obtain ⟨f2, k2⟩ := h.1 12 0 0 (lv_o (by decide))
  rcases id h1 with ⟨rfl, rfl, rfl⟩ | ⟨rfl, rfl, rfl⟩ | ⟨rfl, rfl, rfl⟩
  · exact ⟨_, _, _, f0, f1, f2, h1, h2, k0, k1, k2⟩
  · exact ⟨_, _, _, f1, f2, f0, h1, h2, k1, k2, k0⟩
  · exact ⟨_, _, _, f2, f0, f1, h1, h2, k2, k0, k1⟩
theorem RepC.edN {R : mR} {ad : mAd} {M M' : ma_H} (h : RepC R ad M) (hag : ∀ q, M q ≠ none → ¬ inE ad q → M' q = M q) (hE : ∃ p q r fp fq fr, rot (ad 10 0 0) (ad 11 0 0) (ad 12 0 0) p q r ∧ rEd M' (ad 9 0 0) p q r fp fq fr) : RepC R ad M' := by
  obtain ⟨p, q, r, fp, fq, fr, h1, h2, h3, h4, h5⟩ := hE
  refine h.upd (fun k i j => 9 ≤ k ∧ k ≤ 12 ∧ i = 0 ∧ j = 0) (fun _ _ _ z => z) (fun k i j hv hn => hag _ (h.ne0 hv) ?_) (fun _ _ _ _ _ _ z => z) ?_
  · rintro (z | z | z | z)
    · have := h.2 _ _ _ _ _ _ hv (lv_o (by decide)) z; omega
    · have := h.2 _ _ _ _ _ _ hv (lv_o (by decide)) z; omega
    · have := h.2 _ _ _ _ _ _ hv (lv_o (by decide)) z; omega
    · have := h.2 _ _ _ _ _ _ hv (lv_o (by decide)) z; omega
  · rintro k i j hv ⟨a1, a2, rfl, rfl⟩
    have h9 : k = 9 ∨ k = 10 ∨ k = 11 ∨ k = 12 := by omega
    rcases h9 with rfl | rfl | rfl | rfl
    · exact ⟨p, q, r, h1, h2⟩
    · rcases h1 with ⟨e1, e2, e3⟩ | ⟨e1, e2, e3⟩ | ⟨e1, e2, e3⟩
      · exact ⟨fp, e1 ▸ h3⟩
      · exact ⟨fr, e3 ▸ h5⟩
      · exact ⟨fq, e2 ▸ h4⟩
    · rcases h1 with ⟨e1, e2, e3⟩ | ⟨e1, e2, e3⟩ | ⟨e1, e2, e3⟩
      · exact ⟨fq, e2 ▸ h4⟩
      · exact ⟨fp, e1 ▸ h3⟩
      · exact ⟨fr, e3 ▸ h5⟩
    · rcases h1 with ⟨e1, e2, e3⟩ | ⟨e1, e2, e3⟩ | ⟨e1, e2, e3⟩
      · exact ⟨fr, e3 ▸ h5⟩
      · exact ⟨fq, e2 ▸ h4⟩
      · exact ⟨fp, e1 ▸ h3⟩
theorem RepC.ra {R : mR} {ad : mAd} {M : ma_H} (h : RepC R ad M) : ∃ k sz fc fd, rRa M (ad 13 0 0) (ad 14 0 0) (ad 15 0 0) k sz fc fd := by
  obtain ⟨k, sz, h1⟩ := h.1 13 0 0 (lv_o (by decide))
  obtain ⟨fc, h2⟩ := h.1 14 0 0 (lv_o (by decide))
  obtain ⟨fd, h3⟩ := h.1 15 0 0 (lv_o (by decide))
  exact ⟨k, sz, fc, fd, h1, h2, h3, h.ne (lv_o (by decide)) (lv_o (by decide)) (by omega)⟩
def inR (ad : mAd) (q : Nat) : Prop := q = ad 13 0 0 ∨ q = ad 14 0 0 ∨ q = ad 15 0 0
theorem RepC.raN {R : mR} {ad : mAd} {M M' : ma_H} {k9 sz : Nat} {fc fd : Nat → Int32} (h : RepC R ad M) (hag : ∀ q, M q ≠ none → ¬ inR ad q → M' q = M q) (hE : rRa M' (ad 13 0 0) (ad 14 0 0) (ad 15 0 0) k9 sz fc fd) : RepC R ad M' := by
  obtain ⟨h2, h3, h4, h5⟩ := hE
  refine h.upd (fun k i j => 13 ≤ k ∧ k ≤ 15 ∧ i = 0 ∧ j = 0) (fun _ _ _ z => z) (fun k i j hv hn => hag _ (h.ne0 hv) ?_) (fun _ _ _ _ _ _ z => z) ?_
  · rintro (z | z | z)
    · have := h.2 _ _ _ _ _ _ hv (lv_o (by decide)) z; omega
    · have := h.2 _ _ _ _ _ _ hv (lv_o (by decide)) z; omega
    · have := h.2 _ _ _ _ _ _ hv (lv_o (by decide)) z; omega
  · rintro k i j hv ⟨a1, a2, rfl, rfl⟩
    have h9 : k = 13 ∨ k = 14 ∨ k = 15 := by omega
    rcases h9 with rfl | rfl | rfl
    · exact ⟨k9, sz, h2⟩
    · exact ⟨fc, h3⟩
    · exact ⟨fd, h4⟩
theorem RepC.sa {R : mR} {ad : mAd} {M : ma_H} (h : RepC R ad M) : ∃ fs s, rSa M (ad 5 0 0) (ad 6 0 0) (ad 7 0 0) (ad 8 0 0) (nW R) fs s ∧ ∀ q, q < nW R → fs q = R 27 q := by
  obtain ⟨s, h1⟩ := h.1 5 0 0 (lv_o (by decide))
  obtain ⟨fs, h2, h3⟩ := h.1 6 0 0 (lv_o (by decide))
  obtain ⟨f, h4⟩ := h.1 7 0 0 (lv_o (by decide))
  obtain ⟨g, h5⟩ := h.1 8 0 0 (lv_o (by decide))
  exact ⟨fs, (s.1, s.2.1, s.2.2.1, s.2.2.2.1, f, g), ⟨h1, h2, h4, h5, h.ne (lv_o (by decide)) (lv_o (by decide)) (by omega)⟩, h3⟩
def inS (ad : mAd) (q : Nat) : Prop := q = ad 5 0 0 ∨ q = ad 7 0 0 ∨ q = ad 8 0 0
theorem RepC.saN {R : mR} {ad : mAd} {M M' : ma_H} {fs : Nat → Int32} {s : saT} (h : RepC R ad M) (hag : ∀ q, M q ≠ none → ¬ inS ad q → M' q = M q) (hE : rSa M' (ad 5 0 0) (ad 6 0 0) (ad 7 0 0) (ad 8 0 0) (nW R) fs s) : RepC R ad M' := by
  obtain ⟨h2, h3, h4, h5, h6⟩ := hE
  refine h.upd (fun k i j => (k = 5 ∨ k = 7 ∨ k = 8) ∧ i = 0 ∧ j = 0) (fun _ _ _ z => z) (fun k i j hv hn => hag _ (h.ne0 hv) ?_) (fun _ _ _ _ _ _ z => z) ?_
  · rintro (z | z | z)
    · have := h.2 _ _ _ _ _ _ hv (lv_o (by decide)) z; omega
    · have := h.2 _ _ _ _ _ _ hv (lv_o (by decide)) z; omega
    · have := h.2 _ _ _ _ _ _ hv (lv_o (by decide)) z; omega
  · rintro k i j hv ⟨a1, rfl, rfl⟩
    rcases a1 with rfl | rfl | rfl
    · exact ⟨s, h2⟩
    · exact ⟨_, h4⟩
    · exact ⟨_, h5⟩
/-- the least of lim and the first i words' distances from bs, where these may be less -/
def ndk (fs : Nat → Int32) (s : saT) (bs : List Int32) (lim : Int32) : Nat → Int32
  | 0 => lim
  | i + 1 => if i_abs (s.2.2.2.2.2 i - nI bs.length) < ndk fs s bs lim i then i_mn (ndk fs s bs lim i) (od (fun c => fs (tn (s.2.2.2.2.1 i) + c)) (lsf bs) (tn (s.2.2.2.2.2 i)) bs.length) else ndk fs s bs lim i
def nrD (fs : Nat → Int32) (s : saT) (bs : List Int32) (lim : Int32) : Int32 := if bs.length = 0 then lim else ndk fs s bs lim s.1
def dsk (R : mR) (fs : Nat → Int32) (s : saT) (i : Nat) : Nat → Int32
  | 0 => 99
  | j + 1 => nrD fs s (nmL R (3 * i + j)) (dsk R fs s i j)
/-- the words' places are small -/
def okW (s : saT) : Prop := s.1 ≤ 20 ∧ ∀ i, i < s.1 → ∃ a b : Nat, s.2.2.2.2.1 i = nI a ∧ s.2.2.2.2.2 i = nI b ∧ a + b ≤ 40
def Ltr (R : mR) : Prop := (∀ i j, i < nS R → j < 3 → ∀ k, k < (nmL R (3 * i + j)).length → lsf (nmL R (3 * i + j)) k ≠ 32) ∧ ∀ m, m < nL R → ∀ k, k < (lmL R m).length → lsf (lmL R m) k ≠ 32
/-- size, candidates, distances after the first t offers -/
def rkO (R : mR) (fs : Nat → Int32) (s : saT) (t : Nat) : Int32 × Int32 := if t < nS R then (nI t, dsk R fs s t (tn (R 4 t))) else (nI (30 + (t - nS R)), nrD fs s (lmL R (t - nS R)) 99)
def rkS (R : mR) (fs : Nat → Int32) (s : saT) (k : Nat) (f0 g0 : Nat → Int32) : Nat → Nat × (Nat → Int32) × (Nat → Int32)
  | 0 => (0, f0, g0)
  | t + 1 => ra_of k (rkO R fs s t).1 (rkO R fs s t).2 (rkS R fs s k f0 g0 t)
theorem rkS_le (R : mR) (fs : Nat → Int32) (s : saT) (k : Nat) (f0 g0 : Nat → Int32) : ∀ t, (rkS R fs s k f0 g0 t).1 ≤ k := by
  intro t
  induction t with
  | zero => exact Nat.zero_le _
  | succ t ih =>
    rw [rkS, ra_of]
    split
    · exact ih
    · show (if (rkS R fs s k f0 g0 t).1 < k then (rkS R fs s k f0 g0 t).1 + 1 else (rkS R fs s k f0 g0 t).1) ≤ k
      by_cases h : (rkS R fs s k f0 g0 t).1 < k
      · rw [if_pos h]; exact h
      · rw [if_neg h]; exact ih

set_option maxHeartbeats 4000000 in
set_option maxRecDepth 100000 in
theorem ct_AW_nearerDistance (l : Launch) (D : ma_D) (s0 : State) (R : mR) (ad : mAd) (fs : Nat → Int32) (s : saT) (b cb : Nat) (lb : List Value) (bs : List Int32) (lim : Int32) (M : ma_H) (hR : RepC R ad M) (hb : Bd R) (hS : rSa M (ad 5 0 0) (ad 6 0 0) (ad 7 0 0) (ad 8 0 0) (nW R) fs s) (hW : okW s) (hB : rNa M b cb lb bs) (h32 : ∀ k, k < bs.length → lsf bs k ≠ 32) : Ct l D s0 y_AW_nearerDistance c_AW_nearerDistance 5 (some .int) 3 0 0 77 [.ref (ad 0 0 0), .ref b, .int lim] M (inE ad) (fun v M' => v = some (.int (nrD fs s bs lim)) ∧ RepC R ad M') := by
  refine Ct_i 2 [some (.ref (ad 0 0 0)), some (.ref b), some (.int lim), none, none] (by decide +kernel) (Nat.le_of_ble_eq_true rfl) rfl ?_
  intro G e1 e2 e3 C hw Rt
  subst e1; subst e2; subst e3
  have hbl := hB.2.2.2.1
  refine m_iload_n C d_AW_nearerDistance_0 rfl rfl ?_
  refine m_istore_n (L' := [some (.ref (ad 0 0 0)), some (.ref b), some (.int lim), some (.int lim), none]) C d_AW_nearerDistance_1 rfl (by decide) rfl ?_
  refine m_aload_n C d_AW_nearerDistance_2 rfl rfl ?_
  refine m_callV (ci := 5) C d_AW_nearerDistance_3 mw_AW_103 mi_Na_isEmpty se_Na_isEmpty rfl (ct_Na_isEmpty _ _ _ b cb lb bs M hB) (fun _ h => h.elim) rfl rfl (Nat.le_of_ble_eq_true rfl) hB.1 (by decide) (fun v9 M9 hp h5 h6 => ?_)
  obtain ⟨rfl, hM9⟩ := hp; rw [hM9]
  show mj G 5 0 0 M 6 [some (.ref (ad 0 0 0)), some (.ref b), some (.int lim), some (.int lim), none] [.int (b2i (decide (bs.length = 0)))]
  refine m_if_eq (tgt := 11) C d_AW_nearerDistance_6 (by decide) (fun h1 => ?_) (fun h1 => ?_)
  · rw [b2i_eq0, decide_eq_false_iff_not] at h1
    refine m_iconst (v := 0) C d_AW_nearerDistance_11 (by decide) ?_
    refine m_istore (L' := [some (.ref (ad 0 0 0)), some (.ref b), some (.int lim), some (.int lim), some (.int 0)]) C d_AW_nearerDistance_12 (by decide) rfl ?_
    have loop : ∀ (rk : Nat) (M2 : ma_H) (i : Nat), s.1 - i = rk → i ≤ s.1 → RepC R ad M2 → (∀ q, M q ≠ none → ¬ inE ad q → M2 q = M q) → mj G 5 0 0 M2 14 [some (.ref (ad 0 0 0)), some (.ref b), some (.int lim), some (.int (ndk fs s bs lim i)), some (.int (nI i))] [] := by
      intro rk
      induction rk using Nat.strongRecOn with
      | ind rk ih =>
        intro M2 i hr hi hR2 hag
        have nE : ∀ k i j, lv R k i j → ¬ (9 ≤ k ∧ k ≤ 12) → ¬ inE ad (ad k i j) := by
          rintro k i j hv hn (z | z | z | z)
          · have := hR.2 _ _ _ _ _ _ hv (lv_o (by decide)) z; omega
          · have := hR.2 _ _ _ _ _ _ hv (lv_o (by decide)) z; omega
          · have := hR.2 _ _ _ _ _ _ hv (lv_o (by decide)) z; omega
          · have := hR.2 _ _ _ _ _ _ hv (lv_o (by decide)) z; omega
        have hS2 : ∀ k, k < 9 → M2 (ad k 0 0) = M (ad k 0 0) := fun k hk => hag _ (hR.ne0 (lv_o (by omega))) (nE _ _ _ (lv_o (by omega)) (by omega))
        obtain ⟨p, q, r, fp, fq, fr, hro, hEd⟩ := hR2.ed
        have m5 := (hS2 5 (by decide)).trans hS.1
        have m6 := (hS2 6 (by decide)).trans hS.2.1
        have m7 := (hS2 7 (by decide)).trans hS.2.2.1
        have m8 := (hS2 8 (by decide)).trans hS.2.2.2.1
        have n9b : b ≠ ad 9 0 0 := by obtain ⟨p, q, r, -, h⟩ := hR.1 9 0 0 (lv_o (by decide)); exact ma_ne1 hB.1 h (by decide)
        have mB : rNa M2 b cb lb bs := by
          have a9 := hR.1 9 0 0 (lv_o (by decide)); have a10 := hR.1 10 0 0 (lv_o (by decide)); have a11 := hR.1 11 0 0 (lv_o (by decide)); have a12 := hR.1 12 0 0 (lv_o (by decide))
          obtain ⟨p, q, r, -, a9⟩ := a9; obtain ⟨f1, a10⟩ := a10; obtain ⟨f2, a11⟩ := a11; obtain ⟨f3, a12⟩ := a12
          refine hB.kept (hag b (by rw [hB.1]; simp) ?_) (hag cb (by rw [hB.2.1]; simp) ?_)
          · rintro (z | z | z | z); exact n9b z; exact ma_ne2 hB.1 a10 z; exact ma_ne2 hB.1 a11 z; exact ma_ne2 hB.1 a12 z
          · rintro (z | z | z | z); exact ma_ne2 a9 hB.2.1 z.symm; exact ma_ne3 hB.2.1 a10 (by decide) z; exact ma_ne3 hB.2.1 a11 (by decide) z; exact ma_ne3 hB.2.1 a12 (by decide) z
        have hw20 := hW.1
        refine m_iload C d_AW_nearerDistance_14 rfl ?_
        refine m_aload_n C d_AW_nearerDistance_16 rfl rfl ?_
        refine m_get C fg_AW_30 d_AW_nearerDistance_17 hR2.root rfl ?_
        refine m_get C fg_AW_312 d_AW_nearerDistance_20 m5 rfl ?_
        have e1 : nI s.1 ≤ nI i ↔ s.1 ≤ i := nI_leI (by omega) (by omega)
        refine m_icmp_ge (tgt := 94) C d_AW_nearerDistance_23 (by decide) (fun h2 => ?_) (fun h2 => ?_)
        · rw [e1] at h2
          obtain rfl : i = s.1 := by omega
          refine m_iload_n C d_AW_nearerDistance_94 rfl rfl ?_
          exact Rt _ _ _ _ _ _ (by decide) (by decide) d_AW_nearerDistance_95 (⟨by rw [nrD, if_neg h1], hR2⟩)
        · rw [e1] at h2
          obtain ⟨a, b9, ha, hb9, hab⟩ := hW.2 i (by omega)
          refine m_aload_n C d_AW_nearerDistance_26 rfl rfl ?_
          refine m_get C fg_AW_30 d_AW_nearerDistance_27 hR2.root rfl ?_
          refine m_get C fg_AW_315 d_AW_nearerDistance_30 m5 rfl ?_
          refine m_iload C d_AW_nearerDistance_33 rfl ?_
          refine m_iald (v := .int (s.2.2.2.2.2 i)) C d_AW_nearerDistance_35 m8 kt_int (nI_pos (by omega)) (by rw [nI_clamp (by omega)]; exact arrL_get (by omega)) ?_
          refine m_aload_n C d_AW_nearerDistance_36 rfl rfl ?_
          refine m_get C fg_AW_100 d_AW_nearerDistance_37 mB.1 rfl ?_
          refine m_isub C d_AW_nearerDistance_40 ?_
          refine m_abs C d_AW_nearerDistance_41 ml_AW_318 (by decide) (Nat.le_of_ble_eq_true rfl) (by decide) (by decide) ?_
          show mj G 5 0 0 M2 44 [some (.ref (ad 0 0 0)), some (.ref b), some (.int lim), some (.int (ndk fs s bs lim i)), some (.int (nI i))] [.int (i_abs ((((s.2.2.2.2.2 i)) - ((nI bs.length)))))]
          refine m_iload_n C d_AW_nearerDistance_44 rfl rfl ?_
          refine m_icmp_ge (tgt := 88) C d_AW_nearerDistance_45 (by decide) (fun h3 => ?_) (fun h3 => ?_)
          · refine m_iinc (v := (nI (i + 1))) (L' := [some (.ref (ad 0 0 0)), some (.ref b), some (.int lim), some (.int (ndk fs s bs lim i)), some (.int (nI (i + 1)))]) C d_AW_nearerDistance_88 rfl (nI_1 i) (by decide) rfl ?_
            refine m_goto (tgt := 14) C d_AW_nearerDistance_91 (by decide) ?_
            have h9 := ih (s.1 - (i + 1)) (by omega) M2 (i + 1) rfl (by omega) hR2 hag
            rw [ndk, if_neg (Int32.not_lt.mpr h3)] at h9
            exact h9
          · refine m_iload_n C d_AW_nearerDistance_48 rfl rfl ?_
            refine m_aload_n C d_AW_nearerDistance_49 rfl rfl ?_
            refine m_get C fg_AW_37 d_AW_nearerDistance_50 hR2.root rfl ?_
            refine m_aload_n C d_AW_nearerDistance_53 rfl rfl ?_
            refine m_get C fg_AW_30 d_AW_nearerDistance_54 hR2.root rfl ?_
            refine m_get C fg_AW_324 d_AW_nearerDistance_57 m5 rfl ?_
            refine m_aload_n C d_AW_nearerDistance_60 rfl rfl ?_
            refine m_get C fg_AW_30 d_AW_nearerDistance_61 hR2.root rfl ?_
            refine m_get C fg_AW_328 d_AW_nearerDistance_64 m5 rfl ?_
            refine m_iload C d_AW_nearerDistance_67 rfl ?_
            refine m_iald (v := .int (s.2.2.2.2.1 i)) C d_AW_nearerDistance_69 m7 kt_int (nI_pos (by omega)) (by rw [nI_clamp (by omega)]; exact arrL_get (by omega)) ?_
            refine m_aload_n C d_AW_nearerDistance_70 rfl rfl ?_
            refine m_get C fg_AW_30 d_AW_nearerDistance_71 hR2.root rfl ?_
            refine m_get C fg_AW_315 d_AW_nearerDistance_74 m5 rfl ?_
            refine m_iload C d_AW_nearerDistance_77 rfl ?_
            refine m_iald (v := .int (s.2.2.2.2.2 i)) C d_AW_nearerDistance_79 m8 kt_int (nI_pos (by omega)) (by rw [nI_clamp (by omega)]; exact arrL_get (by omega)) ?_
            refine m_aload_n C d_AW_nearerDistance_80 rfl rfl ?_
            rw [show s.2.2.2.2.1 i = nI a from ha, show s.2.2.2.2.2 i = nI b9 from hb9]
            refine m_callV (ci := 2) C d_AW_nearerDistance_81 mw_AW_331 mi_Ed_count se_Ed_count rfl (ct_Ed_count _ _ _ (ad 9 0 0) (ad 10 0 0) (ad 11 0 0) (ad 12 0 0) p q r fp fq fr (ad 6 0 0) fs a b9 b cb lb bs M2 hEd hro (hR.ne (lv_o (by decide)) (lv_o (by decide)) (by omega)) (hR.ne (lv_o (by decide)) (lv_o (by decide)) (by omega)) (hR.ne (lv_o (by decide)) (lv_o (by decide)) (by omega)) m6 hab mB h32) (fun q h => hw q h) rfl rfl (Nat.le_of_ble_eq_true rfl) hEd.1 (by decide) (fun v7 M7 hp h75 h76 => ?_)
            obtain ⟨rfl, hE7⟩ := hp
            show mj G 5 0 0 M7 84 [some (.ref (ad 0 0 0)), some (.ref b), some (.int lim), some (.int (ndk fs s bs lim i)), some (.int (nI i))] [.int (od (fun i => fs (a + i)) (lsf bs) b9 bs.length), .int (ndk fs s bs lim i)]
            refine m_min C d_AW_nearerDistance_84 ml_AW_335 (by decide) (Nat.le_of_ble_eq_true rfl) (by decide) (by decide) ?_
            show mj G 5 0 0 M7 87 [some (.ref (ad 0 0 0)), some (.ref b), some (.int lim), some (.int (ndk fs s bs lim i)), some (.int (nI i))] [.int (i_mn ((ndk fs s bs lim i)) ((od (fun i => fs (a + i)) (lsf bs) b9 bs.length)))]
            refine m_istore_n (L' := [some (.ref (ad 0 0 0)), some (.ref b), some (.int lim), some (.int (i_mn ((ndk fs s bs lim i)) ((od (fun i => fs (a + i)) (lsf bs) b9 bs.length)))), some (.int (nI i))]) C d_AW_nearerDistance_87 rfl (by decide) rfl ?_
            refine m_iinc (v := (nI (i + 1))) (L' := [some (.ref (ad 0 0 0)), some (.ref b), some (.int lim), some (.int (i_mn ((ndk fs s bs lim i)) ((od (fun i => fs (a + i)) (lsf bs) b9 bs.length)))), some (.int (nI (i + 1)))]) C d_AW_nearerDistance_88 rfl (nI_1 i) (by decide) rfl ?_
            refine m_goto (tgt := 14) C d_AW_nearerDistance_91 (by decide) ?_
            have h9 := ih (s.1 - (i + 1)) (by omega) M7 (i + 1) rfl (by omega) (hR2.edN h75 hE7) (fun q hq hn => (h75 q (by rw [hag q hq hn]; exact hq) hn).trans (hag q hq hn))
            rw [ndk, if_pos (Int32.not_le.mp h3), ha, hb9, tn_nI (by omega), tn_nI (by omega)] at h9
            exact h9
    exact loop _ M 0 rfl (Nat.zero_le _) hR (fun _ _ _ => rfl)
  · refine m_iload_n C d_AW_nearerDistance_9 rfl rfl ?_
    exact Rt _ _ _ _ _ _ (by decide) (by decide) d_AW_nearerDistance_10 (⟨by rw [nrD, if_pos (by rw [b2i_eq0] at h1; simpa using h1)], hR⟩)

set_option maxHeartbeats 4000000 in
set_option maxRecDepth 100000 in
theorem ct_AW_distanceOfStreet (l : Launch) (D : ma_D) (s0 : State) (R : mR) (ad : mAd) (fs : Nat → Int32) (s : saT) (g : Nat) (hg : g < nS R) (M : ma_H) (hR : RepC R ad M) (hb : Bd R) (hS : rSa M (ad 5 0 0) (ad 6 0 0) (ad 7 0 0) (ad 8 0 0) (nW R) fs s) (hW : okW s) (hL : Ltr R) : Ct l D s0 y_AW_distanceOfStreet c_AW_distanceOfStreet 4 (some .int) 4 0 0 101 [.ref (ad 0 0 0), .ref (ad 17 g 0)] M (inE ad) (fun v M' => v = some (.int (dsk R fs s g (tn (R 4 g)))) ∧ RepC R ad M') := by
  refine Ct_i 2 [some (.ref (ad 0 0 0)), some (.ref (ad 17 g 0)), none, none] (by decide +kernel) (Nat.le_of_ble_eq_true rfl) rfl ?_
  intro G e1 e2 e3 C hw Rt
  subst e1; subst e2; subst e3
  have hbg := (hb.2 g hg).1
  refine m_bipush (v := 99) C d_AW_distanceOfStreet_0 (by decide) ?_
  refine m_istore_n (L' := [some (.ref (ad 0 0 0)), some (.ref (ad 17 g 0)), some (.int 99), none]) C d_AW_distanceOfStreet_2 rfl (by decide) rfl ?_
  refine m_iconst (v := 0) C d_AW_distanceOfStreet_3 (by decide) ?_
  refine m_istore_n (L' := [some (.ref (ad 0 0 0)), some (.ref (ad 17 g 0)), some (.int 99), some (.int 0)]) C d_AW_distanceOfStreet_4 rfl (by decide) rfl ?_
  have loop : ∀ (rk : Nat) (M2 : ma_H) (i : Nat), tn (R 4 g) - i = rk → i ≤ tn (R 4 g) → RepC R ad M2 → (∀ q, M q ≠ none → ¬ inE ad q → M2 q = M q) → mj G 4 0 0 M2 5 [some (.ref (ad 0 0 0)), some (.ref (ad 17 g 0)), some (.int (dsk R fs s g i)), some (.int (nI i))] [] := by
    intro rk
    induction rk using Nat.strongRecOn with
    | ind rk ih =>
      intro M2 i hr hi hR2 hag
      have nE : ∀ k i j, lv R k i j → ¬ (9 ≤ k ∧ k ≤ 12) → ¬ inE ad (ad k i j) := by
        rintro k i j hv hn (z | z | z | z)
        · have := hR.2 _ _ _ _ _ _ hv (lv_o (by decide)) z; omega
        · have := hR.2 _ _ _ _ _ _ hv (lv_o (by decide)) z; omega
        · have := hR.2 _ _ _ _ _ _ hv (lv_o (by decide)) z; omega
        · have := hR.2 _ _ _ _ _ _ hv (lv_o (by decide)) z; omega
      have hS2 : ∀ k, k < 9 → M2 (ad k 0 0) = M (ad k 0 0) := fun k hk => hag _ (hR.ne0 (lv_o (by omega))) (nE _ _ _ (lv_o (by omega)) (by omega))
      have hS3 : rSa M2 (ad 5 0 0) (ad 6 0 0) (ad 7 0 0) (ad 8 0 0) (nW R) fs s := ⟨(hS2 5 (by decide)).trans hS.1, (hS2 6 (by decide)).trans hS.2.1, (hS2 7 (by decide)).trans hS.2.2.1, (hS2 8 (by decide)).trans hS.2.2.2.1, hS.2.2.2.2⟩
      refine m_iload_n C d_AW_distanceOfStreet_5 rfl rfl ?_
      refine m_aload_n C d_AW_distanceOfStreet_6 rfl rfl ?_
      refine m_get C fg_AW_112 d_AW_distanceOfStreet_7 (hR2.st hg) rfl ?_
      have e1 : nI (tn (R 4 g)) ≤ nI i ↔ tn (R 4 g) ≤ i := nI_leI (by omega) (by omega)
      refine m_icmp_ge (tgt := 31) C d_AW_distanceOfStreet_10 (by decide) (fun h2 => ?_) (fun h2 => ?_)
      · rw [e1] at h2
        obtain rfl : i = tn (R 4 g) := by omega
        refine m_iload_n C d_AW_distanceOfStreet_31 rfl rfl ?_
        exact Rt _ _ _ _ _ _ (by decide) (by decide) d_AW_distanceOfStreet_32 (⟨rfl, hR2⟩)
      · rw [e1] at h2
        obtain ⟨l9, hl1, hl2, hl3⟩ := hR2.nms hg
        obtain ⟨lb, hN⟩ := hR2.nm (j := i) hg (by omega)
        refine m_aload_n C d_AW_distanceOfStreet_13 rfl rfl ?_
        refine m_aload_n C d_AW_distanceOfStreet_14 rfl rfl ?_
        refine m_get C fg_AW_308 d_AW_distanceOfStreet_15 (hR2.st hg) rfl ?_
        refine m_iload_n C d_AW_distanceOfStreet_18 rfl rfl ?_
        refine m_aald (v := .ref (ad 20 g i)) C d_AW_distanceOfStreet_19 hl1 kt_Na rfl (nI_pos (by omega)) (by rw [nI_clamp (by omega)]; exact hl3 i (by omega)) ?_
        refine m_iload_n C d_AW_distanceOfStreet_20 rfl rfl ?_
        refine m_callV (ci := 0) C d_AW_distanceOfStreet_21 mw_AW_304 mi_AW_nearerDistance se_AW_nearerDistance rfl (ct_AW_nearerDistance _ _ _ R ad fs s (ad 20 g i) (ad 21 g i) lb (nmL R (3 * g + i)) (dsk R fs s g i) M2 hR2 hb hS3 hW hN (hL.1 g i hg (by omega))) (fun q h => hw q h) rfl rfl (Nat.le_of_ble_eq_true rfl) hR2.root (by decide) (fun v7 M7 hp h75 h76 => ?_)
        obtain ⟨rfl, hR7⟩ := hp
        show mj G 4 0 0 M7 24 [some (.ref (ad 0 0 0)), some (.ref (ad 17 g 0)), some (.int (dsk R fs s g i)), some (.int (nI i))] [.int (nrD fs s (nmL R (3 * g + i)) (dsk R fs s g i))]
        refine m_istore_n (L' := [some (.ref (ad 0 0 0)), some (.ref (ad 17 g 0)), some (.int (nrD fs s (nmL R (3 * g + i)) (dsk R fs s g i))), some (.int (nI i))]) C d_AW_distanceOfStreet_24 rfl (by decide) rfl ?_
        refine m_iinc (v := (nI (i + 1))) (L' := [some (.ref (ad 0 0 0)), some (.ref (ad 17 g 0)), some (.int (nrD fs s (nmL R (3 * g + i)) (dsk R fs s g i))), some (.int (nI (i + 1)))]) C d_AW_distanceOfStreet_25 rfl (nI_1 i) (by decide) rfl ?_
        refine m_goto (tgt := 5) C d_AW_distanceOfStreet_28 (by decide) ?_
        exact ih (tn (R 4 g) - (i + 1)) (by omega) M7 (i + 1) rfl (by omega) hR7 (fun q hq hn => (h75 q (by rw [hag q hq hn]; exact hq) hn).trans (hag q hq hn))
  exact loop _ M 0 rfl (Nat.zero_le _) hR (fun _ _ _ => rfl)

set_option maxHeartbeats 4000000 in
set_option maxRecDepth 100000 in
theorem ct_AW_rank (l : Launch) (D : ma_D) (s0 : State) (R : mR) (ad : mAd) (fs : Nat → Int32) (s : saT) (m : Nat) (hm : m ≤ 10) (k9 z9 : Nat) (fc fd : Nat → Int32) (M : ma_H) (hR : RepC R ad M) (hb : Bd R) (hS : rSa M (ad 5 0 0) (ad 6 0 0) (ad 7 0 0) (ad 8 0 0) (nW R) fs s) (hW : okW s) (hL : Ltr R) (hra : rRa M (ad 13 0 0) (ad 14 0 0) (ad 15 0 0) k9 z9 fc fd) : Ct l D s0 y_AW_rank c_AW_rank 3 none 5 0 0 124 [.ref (ad 0 0 0), .int (nI m)] M (fun q => inE ad q ∨ inR ad q) (fun v M' => v = none ∧ RepC R ad M' ∧ rRa M' (ad 13 0 0) (ad 14 0 0) (ad 15 0 0) m (rkS R fs s m fc fd (nS R + nL R)).1 (rkS R fs s m fc fd (nS R + nL R)).2.1 (rkS R fs s m fc fd (nS R + nL R)).2.2) := by
  refine Ct_v 1 [some (.ref (ad 0 0 0)), some (.int (nI m)), none] (by decide +kernel) (Nat.le_of_ble_eq_true rfl) rfl ?_
  intro G e1 e2 e3 C hw hI Rt
  subst e1; subst e2; subst e3
  obtain ⟨⟨hbS, hbL, hbC, hbW, hbF⟩, hbi⟩ := id hb
  have nER : ∀ k i j, lv R k i j → ¬ (9 ≤ k ∧ k ≤ 15) → ¬ (inE ad (ad k i j) ∨ inR ad (ad k i j)) := by
    rintro k i j hv hn ((z | z | z | z) | (z | z | z)) <;> (have := hR.2 _ _ _ _ _ _ hv (lv_o (by decide)) z; omega)
  have nR : ∀ k, 13 ≤ k → k ≤ 15 → ¬ inE ad (ad k 0 0) := by
    rintro k h1 h2 (z | z | z | z) <;> (have := hR.2 _ _ _ _ _ _ (lv_o (by omega)) (lv_o (by decide)) z; omega)
  refine m_aload_n C d_AW_rank_0 rfl rfl ?_
  refine m_get C fg_AW_44 d_AW_rank_1 hR.root rfl ?_
  refine m_iload_n C d_AW_rank_4 rfl rfl ?_
  refine m_callV (ci := 7) C d_AW_rank_5 mw_AW_294 mi_Ra_begin se_Ra_begin rfl (ct_Ra_begin _ _ _ (ad 13 0 0) (ad 14 0 0) (ad 15 0 0) k9 z9 fc fd m M hra) (fun q h => hw q (Or.inr (Or.inl h))) rfl rfl (Nat.le_of_ble_eq_true rfl) hra.1 (by decide) (fun v7 M1 hp h15 h16 => ?_)
  obtain ⟨rfl, hra1⟩ := hp
  show mj G 3 0 0 M1 8 [some (.ref (ad 0 0 0)), some (.int (nI m)), none] []
  have hR1 : RepC R ad M1 := hR.raN (fun q hq hn => h15 q hq (fun z => hn (Or.inl z))) hra1
  have hag1 : ∀ q, M q ≠ none → ¬ (inE ad q ∨ inR ad q) → M1 q = M q := fun q hq hn => h15 q hq (fun z => hn (Or.inr (Or.inl z)))
  refine m_iconst (v := 0) C d_AW_rank_8 (by decide) ?_
  refine m_istore_n (L' := [some (.ref (ad 0 0 0)), some (.int (nI m)), some (.int 0)]) C d_AW_rank_9 rfl (by decide) rfl ?_
  have loop2 : ∀ (rk : Nat) (M2 : ma_H) (i : Nat), nL R - i = rk → i ≤ nL R → RepC R ad M2 → (∀ q, M q ≠ none → ¬ (inE ad q ∨ inR ad q) → M2 q = M q) → rRa M2 (ad 13 0 0) (ad 14 0 0) (ad 15 0 0) m (rkS R fs s m fc fd (nS R + i)).1 (rkS R fs s m fc fd (nS R + i)).2.1 (rkS R fs s m fc fd (nS R + i)).2.2 → mj G 3 0 0 M2 44 [some (.ref (ad 0 0 0)), some (.int (nI m)), some (.int (nI i))] [] := by
    intro rk
    induction rk using Nat.strongRecOn with
    | ind rk ih =>
      intro M2 i hr hi hR2 hag hra2
      have hS2 : ∀ k, k < 9 → M2 (ad k 0 0) = M (ad k 0 0) := fun k hk => hag _ (hR.ne0 (lv_o (by omega))) (nER _ _ _ (lv_o (by omega)) (by omega))
      have hS3 : rSa M2 (ad 5 0 0) (ad 6 0 0) (ad 7 0 0) (ad 8 0 0) (nW R) fs s := ⟨(hS2 5 (by decide)).trans hS.1, (hS2 6 (by decide)).trans hS.2.1, (hS2 7 (by decide)).trans hS.2.2.1, (hS2 8 (by decide)).trans hS.2.2.2.1, hS.2.2.2.2⟩
      refine m_iload_n C d_AW_rank_44 rfl rfl ?_
      refine m_aload_n C d_AW_rank_45 rfl rfl ?_
      refine m_get C fg_AW_162 d_AW_rank_46 hR2.root rfl ?_
      have e1 : nI (nL R) ≤ nI i ↔ nL R ≤ i := nI_leI (by omega) (by omega)
      refine m_icmp_ge (tgt := 84) C d_AW_rank_49 (by decide) (fun h2 => ?_) (fun h2 => ?_)
      · rw [e1] at h2
        obtain rfl : i = nL R := by omega
        exact Rt _ _ _ _ _ (by decide) (by decide) d_AW_rank_84 (⟨rfl, hR2, hra2⟩)
      · rw [e1] at h2
        have hin : i < nL R := by omega
        obtain ⟨l9, hl1, hl2, hl3⟩ := hR2.lms
        obtain ⟨lb, hN⟩ := hR2.ln hin
        refine m_aload_n C d_AW_rank_52 rfl rfl ?_
        refine m_get C fg_AW_44 d_AW_rank_53 hR2.root rfl ?_
        refine m_bipush (v := 30) C d_AW_rank_56 (by decide) ?_
        refine m_iload_n C d_AW_rank_58 rfl rfl ?_
        refine m_iadd C d_AW_rank_59 ?_
        rw [show (30 : Int32) + nI i = nI (30 + i) by rw [show (30 : Int32) = nI 30 from rfl, nI_add]]
        refine m_aload_n C d_AW_rank_60 rfl rfl ?_
        refine m_aload_n C d_AW_rank_61 rfl rfl ?_
        refine m_get C fg_AW_17 d_AW_rank_62 hR2.root rfl ?_
        refine m_iload_n C d_AW_rank_65 rfl rfl ?_
        refine m_aald (v := .ref (ad 23 i 0)) C d_AW_rank_66 hl1 kt_LM rfl (nI_pos (by omega)) (by rw [nI_clamp (by omega)]; exact hl3 i hin) ?_
        refine m_get C fg_AW_152 d_AW_rank_67 (hR2.lm hin) rfl ?_
        refine m_bipush (v := 99) C d_AW_rank_70 (by decide) ?_
        refine m_callV (ci := 0) C d_AW_rank_72 mw_AW_304 mi_AW_nearerDistance se_AW_nearerDistance rfl (ct_AW_nearerDistance _ _ _ R ad fs s (ad 24 i 0) (ad 25 i 0) lb (lmL R i) 99 M2 hR2 hb hS3 hW hN (hL.2 i hin)) (fun q h => hw q (Or.inl h)) rfl rfl (Nat.le_of_ble_eq_true rfl) hR2.root (by decide) (fun v7 M7 hp h75 h76 => ?_)
        obtain ⟨rfl, hR7⟩ := hp
        show mj G 3 0 0 M7 75 [some (.ref (ad 0 0 0)), some (.int (nI m)), some (.int (nI i))] [.int (nrD fs s (lmL R i) 99), .int (nI (30 + i)), .ref (ad 13 0 0)]
        have hra7 : rRa M7 (ad 13 0 0) (ad 14 0 0) (ad 15 0 0) m (rkS R fs s m fc fd (nS R + i)).1 (rkS R fs s m fc fd (nS R + i)).2.1 (rkS R fs s m fc fd (nS R + i)).2.2 := ⟨(h75 _ (by rw [hra2.1]; simp) (nR 13 (by decide) (by decide))).trans hra2.1, (h75 _ (by rw [hra2.2.1]; simp) (nR 14 (by decide) (by decide))).trans hra2.2.1, (h75 _ (by rw [hra2.2.2.1]; simp) (nR 15 (by decide) (by decide))).trans hra2.2.2.1, hra2.2.2.2⟩
        refine m_callV (ci := 7) C d_AW_rank_75 mw_AW_301 mi_Ra_offer se_Ra_offer rfl (ct_Ra_offer _ _ _ (ad 13 0 0) (ad 14 0 0) (ad 15 0 0) m (rkS R fs s m fc fd (nS R + i)).1 (rkS R fs s m fc fd (nS R + i)).2.1 (rkS R fs s m fc fd (nS R + i)).2.2 (nI (30 + i)) (nrD fs s (lmL R i) 99) M7 hra7 hm (rkS_le _ _ _ _ _ _ _)) (fun q h => hw q (Or.inr h)) rfl rfl (Nat.le_of_ble_eq_true rfl) hra7.1 (by decide) (fun v6 M8 hp h85 h86 => ?_)
        obtain ⟨rfl, hra8⟩ := hp
        show mj G 3 0 0 M8 78 [some (.ref (ad 0 0 0)), some (.int (nI m)), some (.int (nI i))] []
        have hR8 : RepC R ad M8 := hR7.raN h85 hra8
        have hag8 : ∀ q, M q ≠ none → ¬ (inE ad q ∨ inR ad q) → M8 q = M q := fun q hq hn => by
          have a1 := hag q hq hn; have a2 := (h75 q (by rw [a1]; exact hq) (fun z => hn (Or.inl z))).trans a1
          exact (h85 q (by rw [a2]; exact hq) (fun z => hn (Or.inr z))).trans a2
        refine m_iinc (v := (nI (i + 1))) (L' := [some (.ref (ad 0 0 0)), some (.int (nI m)), some (.int (nI (i + 1)))]) C d_AW_rank_78 rfl (nI_1 i) (by decide) rfl ?_
        refine m_goto (tgt := 44) C d_AW_rank_81 (by decide) ?_
        refine ih (nL R - (i + 1)) (by omega) M8 (i + 1) rfl (by omega) hR8 hag8 ?_
        rw [show nS R + (i + 1) = nS R + i + 1 by omega, rkS, show rkO R fs s (nS R + i) = (nI (30 + i), nrD fs s (lmL R i) 99) by rw [rkO, if_neg (by omega), show nS R + i - nS R = i by omega]]
        exact hra8
  have loop : ∀ (rk : Nat) (M2 : ma_H) (i : Nat), nS R - i = rk → i ≤ nS R → RepC R ad M2 → (∀ q, M q ≠ none → ¬ (inE ad q ∨ inR ad q) → M2 q = M q) → rRa M2 (ad 13 0 0) (ad 14 0 0) (ad 15 0 0) m (rkS R fs s m fc fd i).1 (rkS R fs s m fc fd i).2.1 (rkS R fs s m fc fd i).2.2 → mj G 3 0 0 M2 10 [some (.ref (ad 0 0 0)), some (.int (nI m)), some (.int (nI i))] [] := by
    intro rk
    induction rk using Nat.strongRecOn with
    | ind rk ih =>
      intro M2 i hr hi hR2 hag hra2
      have hS2 : ∀ k, k < 9 → M2 (ad k 0 0) = M (ad k 0 0) := fun k hk => hag _ (hR.ne0 (lv_o (by omega))) (nER _ _ _ (lv_o (by omega)) (by omega))
      have hS3 : rSa M2 (ad 5 0 0) (ad 6 0 0) (ad 7 0 0) (ad 8 0 0) (nW R) fs s := ⟨(hS2 5 (by decide)).trans hS.1, (hS2 6 (by decide)).trans hS.2.1, (hS2 7 (by decide)).trans hS.2.2.1, (hS2 8 (by decide)).trans hS.2.2.2.1, hS.2.2.2.2⟩
      refine m_iload_n C d_AW_rank_10 rfl rfl ?_
      refine m_aload_n C d_AW_rank_11 rfl rfl ?_
      refine m_get C fg_AW_62 d_AW_rank_12 hR2.root rfl ?_
      have e1 : nI (nS R) ≤ nI i ↔ nS R ≤ i := nI_leI (by omega) (by omega)
      refine m_icmp_ge (tgt := 42) C d_AW_rank_15 (by decide) (fun h2 => ?_) (fun h2 => ?_)
      · rw [e1] at h2
        obtain rfl : i = nS R := by omega
        refine m_iconst (v := 0) C d_AW_rank_42 (by decide) ?_
        refine m_istore_n (L' := [some (.ref (ad 0 0 0)), some (.int (nI m)), some (.int 0)]) C d_AW_rank_43 rfl (by decide) rfl ?_
        exact loop2 _ M2 0 rfl (Nat.zero_le _) hR2 hag hra2
      · rw [e1] at h2
        have hin : i < nS R := by omega
        obtain ⟨l9, hl1, hl2, hl3⟩ := hR2.sts
        refine m_aload_n C d_AW_rank_18 rfl rfl ?_
        refine m_get C fg_AW_44 d_AW_rank_19 hR2.root rfl ?_
        refine m_iload_n C d_AW_rank_22 rfl rfl ?_
        refine m_aload_n C d_AW_rank_23 rfl rfl ?_
        refine m_aload_n C d_AW_rank_24 rfl rfl ?_
        refine m_get C fg_AW_11 d_AW_rank_25 hR2.root rfl ?_
        refine m_iload_n C d_AW_rank_28 rfl rfl ?_
        refine m_aald (v := .ref (ad 17 i 0)) C d_AW_rank_29 hl1 kt_St rfl (nI_pos (by omega)) (by rw [nI_clamp (by omega)]; exact hl3 i hin) ?_
        refine m_callV (ci := 0) C d_AW_rank_30 mw_AW_297 mi_AW_distanceOfStreet se_AW_distanceOfStreet rfl (ct_AW_distanceOfStreet _ _ _ R ad fs s i hin M2 hR2 hb hS3 hW hL) (fun q h => hw q (Or.inl h)) rfl rfl (Nat.le_of_ble_eq_true rfl) hR2.root (by decide) (fun v7 M7 hp h75 h76 => ?_)
        obtain ⟨rfl, hR7⟩ := hp
        show mj G 3 0 0 M7 33 [some (.ref (ad 0 0 0)), some (.int (nI m)), some (.int (nI i))] [.int (dsk R fs s i (tn (R 4 i))), .int (nI i), .ref (ad 13 0 0)]
        have hra7 : rRa M7 (ad 13 0 0) (ad 14 0 0) (ad 15 0 0) m (rkS R fs s m fc fd (i)).1 (rkS R fs s m fc fd (i)).2.1 (rkS R fs s m fc fd (i)).2.2 := ⟨(h75 _ (by rw [hra2.1]; simp) (nR 13 (by decide) (by decide))).trans hra2.1, (h75 _ (by rw [hra2.2.1]; simp) (nR 14 (by decide) (by decide))).trans hra2.2.1, (h75 _ (by rw [hra2.2.2.1]; simp) (nR 15 (by decide) (by decide))).trans hra2.2.2.1, hra2.2.2.2⟩
        refine m_callV (ci := 7) C d_AW_rank_33 mw_AW_301 mi_Ra_offer se_Ra_offer rfl (ct_Ra_offer _ _ _ (ad 13 0 0) (ad 14 0 0) (ad 15 0 0) m (rkS R fs s m fc fd (i)).1 (rkS R fs s m fc fd (i)).2.1 (rkS R fs s m fc fd (i)).2.2 (nI i) (dsk R fs s i (tn (R 4 i))) M7 hra7 hm (rkS_le _ _ _ _ _ _ _)) (fun q h => hw q (Or.inr h)) rfl rfl (Nat.le_of_ble_eq_true rfl) hra7.1 (by decide) (fun v6 M8 hp h85 h86 => ?_)
        obtain ⟨rfl, hra8⟩ := hp
        show mj G 3 0 0 M8 36 [some (.ref (ad 0 0 0)), some (.int (nI m)), some (.int (nI i))] []
        have hR8 : RepC R ad M8 := hR7.raN h85 hra8
        have hag8 : ∀ q, M q ≠ none → ¬ (inE ad q ∨ inR ad q) → M8 q = M q := fun q hq hn => by
          have a1 := hag q hq hn; have a2 := (h75 q (by rw [a1]; exact hq) (fun z => hn (Or.inl z))).trans a1
          exact (h85 q (by rw [a2]; exact hq) (fun z => hn (Or.inr z))).trans a2
        refine m_iinc (v := (nI (i + 1))) (L' := [some (.ref (ad 0 0 0)), some (.int (nI m)), some (.int (nI (i + 1)))]) C d_AW_rank_36 rfl (nI_1 i) (by decide) rfl ?_
        refine m_goto (tgt := 10) C d_AW_rank_39 (by decide) ?_
        refine ih (nS R - (i + 1)) (by omega) M8 (i + 1) rfl (by omega) hR8 hag8 ?_
        rw [rkS, show rkO R fs s i = (nI i, dsk R fs s i (tn (R 4 i))) by rw [rkO, if_pos hin]]
        exact hra8
  exact loop _ M1 0 rfl (Nat.zero_le _) hR1 hag1 hra1
