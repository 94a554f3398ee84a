/-! ===== reads of the whole ===== -/
def Bd (R : mR) : Prop := (nS R ≤ 30 ∧ nL R ≤ 20 ∧ nC R ≤ 40 ∧ nW R ≤ 40 ∧ nF R ≤ 10) ∧ ∀ i, i < nS R → (0 < tn (R 4 i) ∧ tn (R 4 i) ≤ 3) ∧ tn (R 7 i) ≤ 6 ∧ 0 ≤ R 15 i ∧ R 15 i ≤ 32768
def kn (R : mR) (s : Int32) : Bool := decide (0 ≤ s) && decide (s < nI (nS R))
theorem kn_i {R : mR} {s : Int32} (hb : Bd R) (h : kn R s = true) : ∃ i, i < nS R ∧ s = nI i ∧ tn s = i := by
  simp only [kn, Bool.and_eq_true, decide_eq_true_eq] at h
  have h1 := tn_of h.1
  refine ⟨tn s, ?_, h1.1, rfl⟩
  have h2 := h.2
  rw [h1.1, nI_ltI h1.2 (by have := hb.1.1; omega)] at h2
  exact h2
theorem kn_nI {R : mR} {i : Nat} (hb : Bd R) (h : i < nS R) : kn R (nI i) = true := by
  have := hb.1.1
  simp only [kn, Bool.and_eq_true, decide_eq_true_eq]
  exact ⟨nI_pos' (by omega), (nI_ltI (by omega) (by omega)).mpr h⟩
/-- which of the four is thrown -/
def gbx (p q r s : Prop) (E : String) : Prop := (¬ p ∧ E = x_IA) ∨ (p ∧ ¬ q ∧ E = x_IO) ∨ (p ∧ q ∧ ¬ r ∧ E = x_IS) ∨ (p ∧ q ∧ r ∧ ¬ s ∧ E = x_UO)
def coF (R : mR) (s o : Int32) : Nat → Nat → Int32
  | 0, _ => -1
  | f + 1, k => if R 22 k = s ∧ R 23 k = o then R 24 k else if R 22 k = o ∧ R 23 k = s then R 25 k else coF R s o f (k + 1)
def shB (R : mR) (i o : Nat) : Bool := decide (∃ a, a < tn (R 4 i) ∧ (nmL R (3 * i + a)).length ≠ 0 ∧ ∃ b, b < tn (R 4 o) ∧ nmL R (3 * o + b) = nmL R (3 * i + a))
def shA (R : mR) (i o : Nat) : Bool := !decide (o = i) && decide (R 2 o = R 2 i) && shB R i o
def shN (R : mR) (i : Nat) : Bool := decide (∃ o, o < nS R ∧ shA R i o = true)
def twC (R : mR) : Nat → Nat
  | 0 => 0
  | i + 1 => if shN R i then twC R i + 1 else twC R i
theorem twC_le (R : mR) : ∀ i, twC R i ≤ i := by
  intro i
  induction i with
  | zero => exact Nat.le_refl _
  | succ i ih => rw [twC]; split <;> omega
def neF (R : mR) (x y : Int32) : Nat → Int32 × Int32
  | 0 => (-1, 0)
  | k + 1 => if (neF R x y k).1 = -1 ∨ sq_way x y (R 11 k) (R 12 k) < (neF R x y k).2 then (nI k, sq_way x y (R 11 k) (R 12 k)) else neF R x y k
def poF (R : mR) (s : Nat) (m : Int32) : Int32 := 20000 * (btw (R 15 s) (R 11 s) (R 11 s + R 13 s) m + 10000) + btw (R 15 s) (R 12 s) (R 12 s + R 14 s) m + 10000
theorem m1_ne {n : Nat} (h : n < 2 ^ 31) : nI n ≠ -1 := fun z => by
  have h2 := nI_pos h
  rw [z] at h2
  exact h2 (by decide)

set_option maxHeartbeats 4000000 in
set_option maxRecDepth 100000 in
theorem ct_AW_knownStreet (l : Launch) (D : ma_D) (s0 : State) (R : mR) (ad : mAd) (s : Int32) (M : ma_H) (hR : RepC R ad M) (hb : Bd R) : Cx l D s0 y_AW_knownStreet c_AW_knownStreet 2 (some (.object "AddressWords$Street")) 6 1 6 82 [.ref (ad 0 0 0), .int s] M (fun _ => False) (fun r M' => r = some (.ref (ad 17 (tn s) 0)) ∧ M' = M ∧ kn R s = true) (fun E M' => E = x_IA ∧ M' = M ∧ ¬ kn R s = true) := by
  refine Cx_gen 0 [some (.ref (ad 0 0 0)), some (.int s)] (by decide +kernel) (Nat.le_of_ble_eq_true rfl) rfl ?_
  intro G e1 e2 e3 C hw Rt Th Up
  subst e1; subst e2; subst e3
  refine m_iload_n C d_AW_knownStreet_0 rfl rfl ?_
  refine m_if_lt (tgt := 12) C d_AW_knownStreet_1 (by decide) (fun h1 => ?_) (fun h1 => ?_)
  · exact Th _ _ _ _ _ _ _ _ _ _ xw_AW_246 sr_AW_274 d_AW_knownStreet_12 d_AW_knownStreet_15 (Or.inr ⟨d_AW_knownStreet_16, d_AW_knownStreet_19, d_AW_knownStreet_22⟩) (by decide) (by decide) (by decide) (by decide) (⟨rfl, rfl, fun z => (by simp only [kn, Bool.and_eq_true, decide_eq_true_eq] at z; exact Int32.not_lt.mpr z.1 h1)⟩)
  · refine m_iload_n C d_AW_knownStreet_4 rfl rfl ?_
    refine m_aload_n C d_AW_knownStreet_5 rfl rfl ?_
    refine m_get C fg_AW_62 d_AW_knownStreet_6 hR.root rfl ?_
    refine m_icmp_lt (tgt := 23) C d_AW_knownStreet_9 (by decide) (fun h2 => ?_) (fun h2 => ?_)
    · have hk : kn R s = true := by simp only [kn, Bool.and_eq_true, decide_eq_true_eq]; exact ⟨Int32.not_lt.mp h1, h2⟩
      obtain ⟨i, hi, rfl, ht⟩ := kn_i hb hk
      obtain ⟨l, hl1, hl2, hl3⟩ := hR.sts
      have hb1 := hb.1.1
      refine m_aload_n C d_AW_knownStreet_23 rfl rfl ?_
      refine m_get C fg_AW_11 d_AW_knownStreet_24 hR.root rfl ?_
      refine m_iload_n C d_AW_knownStreet_27 rfl rfl ?_
      refine m_aald (v := .ref (ad 17 i 0)) C d_AW_knownStreet_28 hl1 kt_St rfl (nI_pos (by omega)) (by rw [nI_clamp (by omega)]; exact hl3 i hi) ?_
      exact Rt _ _ _ _ _ _ _ (by decide) (by decide) (⟨by rw [ht], rfl, hk⟩) (Or.inr (Or.inr ⟨_, rfl, Or.inl ⟨_, rfl⟩, _, rfl, rfl, d_AW_knownStreet_29⟩))
    · exact Th _ _ _ _ _ _ _ _ _ _ xw_AW_246 sr_AW_274 d_AW_knownStreet_12 d_AW_knownStreet_15 (Or.inr ⟨d_AW_knownStreet_16, d_AW_knownStreet_19, d_AW_knownStreet_22⟩) (by decide) (by decide) (by decide) (by decide) (⟨rfl, rfl, fun z => h2 (by simp only [kn, Bool.and_eq_true, decide_eq_true_eq] at z; exact z.2)⟩)

set_option maxHeartbeats 4000000 in
set_option maxRecDepth 100000 in
theorem ct_AW_metresOfCorner (l : Launch) (D : ma_D) (s0 : State) (R : mR) (ad : mAd) (s o : Int32) (M : ma_H) (hR : RepC R ad M) (hb : Bd R) : Ct l D s0 y_AW_metresOfCorner c_AW_metresOfCorner 5 (some .int) 0 0 0 0 [.ref (ad 0 0 0), .int s, .int o] M (fun _ => False) (pI (coF R s o (nC R) 0) M) := by
  refine Ct_i 2 [some (.ref (ad 0 0 0)), some (.int s), some (.int o), none, none] (by decide +kernel) (Nat.le_of_ble_eq_true rfl) rfl ?_
  intro G e1 e2 e3 C hw Rt
  subst e1; subst e2; subst e3
  obtain ⟨⟨hbS, hbL, hbC, hbW, hbF⟩, hbi⟩ := hb
  obtain ⟨l, hl1, hl2, hl3⟩ := hR.cos
  refine m_iconst (v := 0) C d_AW_metresOfCorner_0 (by decide) ?_
  refine m_istore_n (L' := [some (.ref (ad 0 0 0)), some (.int s), some (.int o), some (.int 0), none]) C d_AW_metresOfCorner_1 rfl (by decide) rfl ?_
  have loop : ∀ (rk : Nat) (i : Nat), nC R - i = rk → i ≤ nC R → coF R s o (nC R - i) i = coF R s o (nC R) 0 → mj G 5 0 0 M 2 [some (.ref (ad 0 0 0)), some (.int s), some (.int o), some (.int (nI i)), none] [] := by
    intro rk
    induction rk using Nat.strongRecOn with
    | ind rk ih =>
      intro i hr hi he
      refine m_iload_n C d_AW_metresOfCorner_2 rfl rfl ?_
      refine m_aload_n C d_AW_metresOfCorner_3 rfl rfl ?_
      refine m_get C fg_AW_179 d_AW_metresOfCorner_4 hR.root rfl ?_
      have e1 : nI (nC R) ≤ nI i ↔ nC R ≤ i := nI_leI (by omega) (by omega)
      refine m_icmp_ge (tgt := 72) C d_AW_metresOfCorner_7 (by decide) (fun h9 => ?_) (fun h9 => ?_)
      · refine m_iconst (v := (-1)) C d_AW_metresOfCorner_72 (by decide) ?_
        exact Rt _ _ _ _ _ _ (by decide) (by decide) d_AW_metresOfCorner_73 (⟨by rw [e1] at h9; rw [← he, show nC R - i = 0 by omega]; rfl, rfl⟩)
      · rw [e1] at h9
        obtain ⟨f, hf⟩ : ∃ f, nC R - i = f + 1 := ⟨nC R - i - 1, by omega⟩
        rw [hf, coF] at he
        refine m_aload_n C d_AW_metresOfCorner_10 rfl rfl ?_
        refine m_get C fg_AW_23 d_AW_metresOfCorner_11 hR.root rfl ?_
        refine m_iload_n C d_AW_metresOfCorner_14 rfl rfl ?_
        refine m_aald (v := .ref (ad 26 i 0)) C d_AW_metresOfCorner_15 hl1 kt_Co rfl (nI_pos (by omega)) (by rw [nI_clamp (by omega)]; exact hl3 i (by omega)) ?_
        refine m_astore (L' := [some (.ref (ad 0 0 0)), some (.int s), some (.int o), some (.int (nI i)), some (.ref (ad 26 i 0))]) C d_AW_metresOfCorner_16 (by decide) rfl ?_
        have nxt : ¬ (R 22 i = s ∧ R 23 i = o) → ¬ (R 22 i = o ∧ R 23 i = s) → mj G 5 0 0 M 66 [some (.ref (ad 0 0 0)), some (.int s), some (.int o), some (.int (nI i)), some (.ref (ad 26 i 0))] [] := by
          intro a1 a2
          rw [if_neg a1, if_neg a2] at he
          refine m_iinc (v := (nI (i + 1))) (L' := [some (.ref (ad 0 0 0)), some (.int s), some (.int o), some (.int (nI (i + 1))), some (.ref (ad 26 i 0))]) C d_AW_metresOfCorner_66 rfl (nI_1 i) (by decide) rfl ?_
          refine m_goto (tgt := 2) C d_AW_metresOfCorner_69 (by decide) ?_
          refine mj_L (L' := [some (.ref (ad 0 0 0)), some (.int s), some (.int o), some (.int (nI (i + 1))), none]) (fun q v hv => by rcases q with _ | _ | _ | _ | _ | q <;> simp_all) (ih (nC R - (i + 1)) (by omega) (i + 1) rfl (by omega) (by rw [← he, show nC R - (i + 1) = f by omega]))
        have sec : ¬ (R 22 i = s ∧ R 23 i = o) → mj G 5 0 0 M 42 [some (.ref (ad 0 0 0)), some (.int s), some (.int o), some (.int (nI i)), some (.ref (ad 26 i 0))] [] := by
          intro a1
          refine m_aload C d_AW_metresOfCorner_42 rfl ?_
          refine m_get C fg_AW_279 d_AW_metresOfCorner_44 (hR.co (i := i) (by omega)) rfl ?_
          refine m_iload_n C d_AW_metresOfCorner_47 rfl rfl ?_
          refine m_icmp_ne (tgt := 66) C d_AW_metresOfCorner_48 (by decide) (fun h8 => ?_) (fun h8 => ?_)
          · exact nxt a1 (fun z => h8 z.1)
          · refine m_aload C d_AW_metresOfCorner_51 rfl ?_
            refine m_get C fg_AW_280 d_AW_metresOfCorner_53 (hR.co (i := i) (by omega)) rfl ?_
            refine m_iload_n C d_AW_metresOfCorner_56 rfl rfl ?_
            refine m_icmp_ne (tgt := 66) C d_AW_metresOfCorner_57 (by decide) (fun h7 => ?_) (fun h7 => ?_)
            · exact nxt a1 (fun z => h7 z.2)
            · refine m_aload C d_AW_metresOfCorner_60 rfl ?_
              refine m_get C fg_AW_286 d_AW_metresOfCorner_62 (hR.co (i := i) (by omega)) rfl ?_
              exact Rt _ _ _ _ _ _ (by decide) (by decide) d_AW_metresOfCorner_65 (⟨by rw [← he, if_neg a1, if_pos ⟨h8, h7⟩], rfl⟩)
        refine m_aload C d_AW_metresOfCorner_18 rfl ?_
        refine m_get C fg_AW_279 d_AW_metresOfCorner_20 (hR.co (i := i) (by omega)) rfl ?_
        refine m_iload_n C d_AW_metresOfCorner_23 rfl rfl ?_
        refine m_icmp_ne (tgt := 42) C d_AW_metresOfCorner_24 (by decide) (fun h8 => ?_) (fun h8 => ?_)
        · exact sec (fun z => h8 z.1)
        · refine m_aload C d_AW_metresOfCorner_27 rfl ?_
          refine m_get C fg_AW_280 d_AW_metresOfCorner_29 (hR.co (i := i) (by omega)) rfl ?_
          refine m_iload_n C d_AW_metresOfCorner_32 rfl rfl ?_
          refine m_icmp_ne (tgt := 42) C d_AW_metresOfCorner_33 (by decide) (fun h7 => ?_) (fun h7 => ?_)
          · exact sec (fun z => h7 z.2)
          · refine m_aload C d_AW_metresOfCorner_36 rfl ?_
            refine m_get C fg_AW_283 d_AW_metresOfCorner_38 (hR.co (i := i) (by omega)) rfl ?_
            exact Rt _ _ _ _ _ _ (by decide) (by decide) d_AW_metresOfCorner_41 (⟨by rw [← he, if_pos ⟨h8, h7⟩], rfl⟩)
  exact loop _ 0 rfl (Nat.zero_le _) rfl

set_option maxHeartbeats 4000000 in
set_option maxRecDepth 100000 in
theorem ct_AW_hasLandmarkNamed (l : Launch) (D : ma_D) (s0 : State) (R : mR) (ad : mAd) (b cb : Nat) (lb : List Value) (bs : List Int32) (M : ma_H) (hR : RepC R ad M) (hb : Bd R) (hB : rNa M b cb lb bs) : Ct l D s0 y_AW_hasLandmarkNamed c_AW_hasLandmarkNamed 3 (some .boolean) 1 0 0 22 [.ref (ad 0 0 0), .ref b] M (fun _ => False) (pI (b2i (decide (∃ m, m < nL R ∧ lmL R m = bs))) M) := by
  refine Ct_z 1 [some (.ref (ad 0 0 0)), some (.ref b), none] (by decide +kernel) (Nat.le_of_ble_eq_true rfl) rfl ?_
  intro G e1 e2 e3 C hw Rt
  subst e1; subst e2; subst e3
  obtain ⟨⟨hbS, hbL, hbC, hbW, hbF⟩, hbi⟩ := hb
  obtain ⟨l, hl1, hl2, hl3⟩ := hR.lms
  refine m_iconst (v := 0) C d_AW_hasLandmarkNamed_0 (by decide) ?_
  refine m_istore_n (L' := [some (.ref (ad 0 0 0)), some (.ref b), some (.int 0)]) C d_AW_hasLandmarkNamed_1 rfl (by decide) rfl ?_
  have loop : ∀ (rk : Nat) (i : Nat), nL R - i = rk → i ≤ nL R → (∀ j, j < i → lmL R j ≠ bs) → mj G 3 0 0 M 2 [some (.ref (ad 0 0 0)), some (.ref b), some (.int (nI i))] [] := by
    intro rk
    induction rk using Nat.strongRecOn with
    | ind rk ih =>
      intro i hr hi hj
      refine m_iload_n C d_AW_hasLandmarkNamed_2 rfl rfl ?_
      refine m_aload_n C d_AW_hasLandmarkNamed_3 rfl rfl ?_
      refine m_get C fg_AW_162 d_AW_hasLandmarkNamed_4 hR.root rfl ?_
      have e1 : nI (nL R) ≤ nI i ↔ nL R ≤ i := nI_leI (by omega) (by omega)
      refine m_icmp_ge (tgt := 34) C d_AW_hasLandmarkNamed_7 (by decide) (fun h2 => ?_) (fun h2 => ?_)
      · refine m_iconst (v := 0) C d_AW_hasLandmarkNamed_34 (by decide) ?_
        exact Rt _ _ _ _ _ _ (by decide) (by decide) (by decide) d_AW_hasLandmarkNamed_35 (⟨by rw [e1] at h2; have : ¬ ∃ i, i < nL R ∧ lmL R i = bs := fun ⟨j, q1, q2⟩ => hj j (by omega) q2; rw [decide_eq_false this]; rfl, rfl⟩)
      · rw [e1] at h2
        refine m_aload_n C d_AW_hasLandmarkNamed_10 rfl rfl ?_
        refine m_get C fg_AW_17 d_AW_hasLandmarkNamed_11 hR.root rfl ?_
        refine m_iload_n C d_AW_hasLandmarkNamed_14 rfl rfl ?_
        refine m_aald (v := .ref (ad 23 i 0)) C d_AW_hasLandmarkNamed_15 hl1 kt_LM rfl (nI_pos (by omega)) (by rw [nI_clamp (by omega)]; exact hl3 i (by omega)) ?_
        refine m_get C fg_AW_152 d_AW_hasLandmarkNamed_16 (hR.lm (i := i) (by omega)) rfl ?_
        refine m_aload_n C d_AW_hasLandmarkNamed_19 rfl rfl ?_
        obtain ⟨l9, hN⟩ := hR.ln (i := i) (by omega)
        refine m_callV (ci := 5) C d_AW_hasLandmarkNamed_20 mw_AW_276 mi_Na_isSameAs se_Na_isSameAs rfl (ct_Na_isSameAs _ _ _ (ad 24 i 0) (ad 25 i 0) l9 (lmL R i) b cb lb bs M hN hB) (fun _ h => h.elim) rfl rfl (Nat.le_of_ble_eq_true rfl) hN.1 (by decide) (fun v9 M9 hp h5 h6 => ?_)
        obtain ⟨rfl, hM9⟩ := hp; rw [hM9]
        show mj G 3 0 0 M 23 [some (.ref (ad 0 0 0)), some (.ref b), some (.int (nI i))] [.int (b2i (decide (lmL R i = bs)))]
        refine m_if_eq (tgt := 28) C d_AW_hasLandmarkNamed_23 (by decide) (fun h3 => ?_) (fun h3 => ?_)
        · rw [b2i_eq0, decide_eq_false_iff_not] at h3
          refine m_iinc (v := (nI (i + 1))) (L' := [some (.ref (ad 0 0 0)), some (.ref b), some (.int (nI (i + 1)))]) C d_AW_hasLandmarkNamed_28 rfl (nI_1 i) (by decide) rfl ?_
          refine m_goto (tgt := 2) C d_AW_hasLandmarkNamed_31 (by decide) ?_
          exact ih (nL R - (i + 1)) (by omega) (i + 1) rfl (by omega) (fun j hj9 => by by_cases q : j = i; rw [q]; exact h3; exact hj j (by omega))
        · refine m_iconst (v := 1) C d_AW_hasLandmarkNamed_26 (by decide) ?_
          exact Rt _ _ _ _ _ _ (by decide) (by decide) (by decide) d_AW_hasLandmarkNamed_27 (⟨by rw [b2i_eq0] at h3; have : ∃ i, i < nL R ∧ lmL R i = bs := ⟨i, by omega, by simpa using h3⟩; rw [decide_eq_true this]; rfl, rfl⟩)
  exact loop _ 0 rfl (Nat.zero_le _) (fun j h => absurd h (by omega))

set_option maxHeartbeats 4000000 in
set_option maxRecDepth 100000 in
theorem ct_AW_sharesName (l : Launch) (D : ma_D) (s0 : State) (R : mR) (ad : mAd) (g : Nat) (hg : g < nS R) (M : ma_H) (hR : RepC R ad M) (hb : Bd R) : Ct l D s0 y_AW_sharesName c_AW_sharesName 4 (some .boolean) 3 0 0 66 [.ref (ad 0 0 0), .int (nI g)] M (fun _ => False) (pI (b2i (shN R g)) M) := by
  refine Ct_z 2 [some (.ref (ad 0 0 0)), some (.int (nI g)), none, none] (by decide +kernel) (Nat.le_of_ble_eq_true rfl) rfl ?_
  intro G e1 e2 e3 C hw Rt
  subst e1; subst e2; subst e3
  obtain ⟨⟨hbS, hbL, hbC, hbW, hbF⟩, hbi⟩ := hb
  obtain ⟨l, hl1, hl2, hl3⟩ := hR.sts
  refine m_aload_n C d_AW_sharesName_0 rfl rfl ?_
  refine m_get C fg_AW_11 d_AW_sharesName_1 hR.root rfl ?_
  refine m_iload_n C d_AW_sharesName_4 rfl rfl ?_
  refine m_aald (v := .ref (ad 17 g 0)) C d_AW_sharesName_5 hl1 kt_St rfl (nI_pos (by omega)) (by rw [nI_clamp (by omega)]; exact hl3 g hg) ?_
  refine m_astore_n (L' := [some (.ref (ad 0 0 0)), some (.int (nI g)), some (.ref (ad 17 g 0)), none]) C d_AW_sharesName_6 rfl (by decide) rfl ?_
  refine m_iconst (v := 0) C d_AW_sharesName_7 (by decide) ?_
  refine m_istore_n (L' := [some (.ref (ad 0 0 0)), some (.int (nI g)), some (.ref (ad 17 g 0)), some (.int 0)]) C d_AW_sharesName_8 rfl (by decide) rfl ?_
  have loop : ∀ (rk : Nat) (i : Nat), nS R - i = rk → i ≤ nS R → (∀ j, j < i → ¬ shA R g j = true) → mj G 4 0 0 M 9 [some (.ref (ad 0 0 0)), some (.int (nI g)), some (.ref (ad 17 g 0)), some (.int (nI i))] [] := by
    intro rk
    induction rk using Nat.strongRecOn with
    | ind rk ih =>
      intro i hr hi hj
      refine m_iload_n C d_AW_sharesName_9 rfl rfl ?_
      refine m_aload_n C d_AW_sharesName_10 rfl rfl ?_
      refine m_get C fg_AW_62 d_AW_sharesName_11 hR.root rfl ?_
      have e1 : nI (nS R) ≤ nI i ↔ nS R ≤ i := nI_leI (by omega) (by omega)
      refine m_icmp_ge (tgt := 59) C d_AW_sharesName_14 (by decide) (fun h2 => ?_) (fun h2 => ?_)
      · refine m_iconst (v := 0) C d_AW_sharesName_59 (by decide) ?_
        exact Rt _ _ _ _ _ _ (by decide) (by decide) (by decide) d_AW_sharesName_60 (⟨by rw [e1] at h2; have : ¬ ∃ o, o < nS R ∧ shA R g o = true := fun ⟨j, q1, q2⟩ => hj j (by omega) q2; rw [shN, decide_eq_false this]; rfl, rfl⟩)
      · rw [e1] at h2
        have hin : i < nS R := by omega
        have nxt : ¬ shA R g i = true → mj G 4 0 0 M 53 [some (.ref (ad 0 0 0)), some (.int (nI g)), some (.ref (ad 17 g 0)), some (.int (nI i))] [] := by
          intro a1
          refine m_iinc (v := (nI (i + 1))) (L' := [some (.ref (ad 0 0 0)), some (.int (nI g)), some (.ref (ad 17 g 0)), some (.int (nI (i + 1)))]) C d_AW_sharesName_53 rfl (nI_1 i) (by decide) rfl ?_
          refine m_goto (tgt := 9) C d_AW_sharesName_56 (by decide) ?_
          exact ih (nS R - (i + 1)) (by omega) (i + 1) rfl (by omega) (fun j hj9 => by by_cases q : j = i; rw [q]; exact a1; exact hj j (by omega))
        refine m_iload_n C d_AW_sharesName_17 rfl rfl ?_
        refine m_iload_n C d_AW_sharesName_18 rfl rfl ?_
        have e2 : nI i = nI g ↔ i = g := nI_eq (by omega) (by omega)
        refine m_icmp_eq (tgt := 53) C d_AW_sharesName_19 (by decide) (fun h3 => ?_) (fun h3 => ?_)
        · exact nxt (by rw [e2] at h3; simp [shA, h3])
        · rw [e2] at h3
          refine m_aload_n C d_AW_sharesName_22 rfl rfl ?_
          refine m_get C fg_AW_11 d_AW_sharesName_23 hR.root rfl ?_
          refine m_iload_n C d_AW_sharesName_26 rfl rfl ?_
          refine m_aald (v := .ref (ad 17 i 0)) C d_AW_sharesName_27 hl1 kt_St rfl (nI_pos (by omega)) (by rw [nI_clamp (by omega)]; exact hl3 i hin) ?_
          refine m_get C fg_AW_289 d_AW_sharesName_28 (hR.st hin) rfl ?_
          refine m_aload_n C d_AW_sharesName_31 rfl rfl ?_
          refine m_get C fg_AW_289 d_AW_sharesName_32 (hR.st hg) rfl ?_
          refine m_icmp_ne (tgt := 53) C d_AW_sharesName_35 (by decide) (fun h4 => ?_) (fun h4 => ?_)
          · exact nxt (by simp [shA, h4])
          · refine m_aload_n C d_AW_sharesName_38 rfl rfl ?_
            refine m_aload_n C d_AW_sharesName_39 rfl rfl ?_
            refine m_get C fg_AW_11 d_AW_sharesName_40 hR.root rfl ?_
            refine m_iload_n C d_AW_sharesName_43 rfl rfl ?_
            refine m_aald (v := .ref (ad 17 i 0)) C d_AW_sharesName_44 hl1 kt_St rfl (nI_pos (by omega)) (by rw [nI_clamp (by omega)]; exact hl3 i hin) ?_
            refine m_callV (ci := 9) C d_AW_sharesName_45 mw_AW_290 mi_St_sharesNameWith se_St_sharesNameWith rfl (ct_St_sharesNameWith _ _ _ (ad 17 g 0) (ad 18 g 0) (tn (R 4 g)) (ad 19 g 0) (tn (R 7 g)) (R 2 g) (R 11 g) (R 12 g) (R 11 g + R 13 g) (R 12 g + R 14 g) (R 15 g) (R 3 g) (fun j => ad 20 g j) (fun j => ad 21 g j) (fun j => nmL R (3 * g + j)) (ad 17 i 0) (ad 18 i 0) (tn (R 4 i)) (ad 19 i 0) (tn (R 7 i)) (R 2 i) (R 11 i) (R 12 i) (R 11 i + R 13 i) (R 12 i + R 14 i) (R 15 i) (R 3 i) (fun j => ad 20 i j) (fun j => ad 21 i j) (fun j => nmL R (3 * i + j)) M (hR.st hg) (hR.rNs hg (hbi g hg).1.2) (hbi g hg).1.2 (hR.st hin) (hR.rNs hin (hbi i hin).1.2) (hbi i hin).1.2) (fun _ h => h.elim) rfl rfl (Nat.le_of_ble_eq_true rfl) (hR.st hg) (by decide) (fun v9 M9 hp h5 h6 => ?_)
            obtain ⟨rfl, hM9⟩ := hp; rw [hM9]
            show mj G 4 0 0 M 48 [some (.ref (ad 0 0 0)), some (.int (nI g)), some (.ref (ad 17 g 0)), some (.int (nI i))] [.int (b2i (shB R g i))]
            refine m_if_eq (tgt := 53) C d_AW_sharesName_48 (by decide) (fun h5 => ?_) (fun h5 => ?_)
            · exact nxt (by rw [b2i_eq0] at h5; simp [shA, h5])
            · refine m_iconst (v := 1) C d_AW_sharesName_51 (by decide) ?_
              exact Rt _ _ _ _ _ _ (by decide) (by decide) (by decide) d_AW_sharesName_52 (⟨by rw [b2i_eq0, Bool.not_eq_false] at h5; have : ∃ o, o < nS R ∧ shA R g o = true := ⟨i, hin, by simp [shA, h3, h4, h5]⟩; rw [shN, decide_eq_true this]; rfl, rfl⟩)
  exact loop _ 0 rfl (Nat.zero_le _) (fun j h => absurd h (by omega))

set_option maxHeartbeats 4000000 in
set_option maxRecDepth 100000 in
theorem ct_AW_twice (l : Launch) (D : ma_D) (s0 : State) (R : mR) (ad : mAd) (M : ma_H) (hR : RepC R ad M) (hb : Bd R) : Ct l D s0 y_AW_twice c_AW_twice 3 (some .int) 4 0 0 89 [.ref (ad 0 0 0)] M (fun _ => False) (pI (nI (twC R (nS R))) M) := by
  refine Ct_i 2 [some (.ref (ad 0 0 0)), none, none] (by decide +kernel) (Nat.le_of_ble_eq_true rfl) rfl ?_
  intro G e1 e2 e3 C hw Rt
  subst e1; subst e2; subst e3
  have hbS := hb.1.1
  refine m_iconst (v := 0) C d_AW_twice_0 (by decide) ?_
  refine m_istore_n (L' := [some (.ref (ad 0 0 0)), some (.int 0), none]) C d_AW_twice_1 rfl (by decide) rfl ?_
  refine m_iconst (v := 0) C d_AW_twice_2 (by decide) ?_
  refine m_istore_n (L' := [some (.ref (ad 0 0 0)), some (.int 0), some (.int 0)]) C d_AW_twice_3 rfl (by decide) rfl ?_
  have loop : ∀ (rk : Nat) (i : Nat), nS R - i = rk → i ≤ nS R → mj G 3 0 0 M 4 [some (.ref (ad 0 0 0)), some (.int (nI (twC R i))), some (.int (nI i))] [] := by
    intro rk
    induction rk using Nat.strongRecOn with
    | ind rk ih =>
      intro i hr hi
      refine m_iload_n C d_AW_twice_4 rfl rfl ?_
      refine m_aload_n C d_AW_twice_5 rfl rfl ?_
      refine m_get C fg_AW_62 d_AW_twice_6 hR.root rfl ?_
      have e1 : nI (nS R) ≤ nI i ↔ nS R ≤ i := nI_leI (by omega) (by omega)
      refine m_icmp_ge (tgt := 29) C d_AW_twice_9 (by decide) (fun h2 => ?_) (fun h2 => ?_)
      · refine m_iload_n C d_AW_twice_29 rfl rfl ?_
        rw [e1] at h2
        obtain rfl : i = nS R := by omega
        exact Rt _ _ _ _ _ _ (by decide) (by decide) d_AW_twice_30 (⟨by rfl, rfl⟩)
      · rw [e1] at h2
        refine m_aload_n C d_AW_twice_12 rfl rfl ?_
        refine m_iload_n C d_AW_twice_13 rfl rfl ?_
        refine m_callV (ci := 0) C d_AW_twice_14 mw_AW_271 mi_AW_sharesName se_AW_sharesName rfl (ct_AW_sharesName _ _ _ R ad i (by omega) M hR hb) (fun _ h => h.elim) rfl rfl (Nat.le_of_ble_eq_true rfl) hR.root (by decide) (fun v9 M9 hp h5 h6 => ?_)
        obtain ⟨rfl, hM9⟩ := hp; rw [hM9]
        show mj G 3 0 0 M 17 [some (.ref (ad 0 0 0)), some (.int (nI (twC R i))), some (.int (nI i))] [.int (b2i (shN R i))]
        refine m_if_eq (tgt := 23) C d_AW_twice_17 (by decide) (fun h3 => ?_) (fun h3 => ?_)
        · rw [b2i_eq0] at h3
          refine m_iinc (v := (nI (i + 1))) (L' := [some (.ref (ad 0 0 0)), some (.int (nI (twC R i))), some (.int (nI (i + 1)))]) C d_AW_twice_23 rfl (nI_1 i) (by decide) rfl ?_
          refine m_goto (tgt := 4) C d_AW_twice_26 (by decide) ?_
          have h9 := ih (nS R - (i + 1)) (by omega) (i + 1) rfl (by omega)
          rw [twC, if_neg (by rw [h3]; simp)] at h9
          exact h9
        · rw [b2i_eq0, Bool.not_eq_false] at h3
          refine m_iinc (v := (nI (twC R i + 1))) (L' := [some (.ref (ad 0 0 0)), some (.int (nI (twC R i + 1))), some (.int (nI i))]) C d_AW_twice_20 rfl (nI_1 _) (by decide) rfl ?_
          refine m_iinc (v := (nI (i + 1))) (L' := [some (.ref (ad 0 0 0)), some (.int (nI (twC R i + 1))), some (.int (nI (i + 1)))]) C d_AW_twice_23 rfl (nI_1 i) (by decide) rfl ?_
          refine m_goto (tgt := 4) C d_AW_twice_26 (by decide) ?_
          have h9 := ih (nS R - (i + 1)) (by omega) (i + 1) rfl (by omega)
          rw [twC, if_pos h3] at h9
          exact h9
  exact loop _ 0 rfl (Nat.zero_le _)

set_option maxHeartbeats 4000000 in
set_option maxRecDepth 100000 in
theorem ct_AW_corner (l : Launch) (D : ma_D) (s0 : State) (R : mR) (ad : mAd) (s o : Int32) (M : ma_H) (hR : RepC R ad M) (hb : Bd R) : Cx l D s0 y_AW_corner c_AW_corner 3 (some .int) 7 2 12 103 [.ref (ad 0 0 0), .int s, .int o] M (fun _ => False) (fun v M' => ((kn R s = true ∧ kn R o = true) ∧ (True) ∧ (True) ∧ (True)) ∧ v = some (.int (coF R s o (nC R) 0)) ∧ M' = M) (fun E M' => gbx (kn R s = true ∧ kn R o = true) (True) (True) (True) E ∧ RepC R ad M') := by
  refine Cx_gen 0 [some (.ref (ad 0 0 0)), some (.int s), some (.int o)] (by decide +kernel) (Nat.le_of_ble_eq_true rfl) rfl ?_
  intro G e1 e2 e3 C hw Rt Th Up
  subst e1; subst e2; subst e3
  refine m_aload_n C d_AW_corner_0 rfl rfl ?_
  refine m_iload_n C d_AW_corner_1 rfl rfl ?_
  refine m_callVX (ci := 0) C d_AW_corner_2 ml_AW_77 mw_AW_77 mi_AW_knownStreet se_AW_knownStreet rfl (ct_AW_knownStreet _ _ _ R ad s M hR hb) (fun _ h => h.elim) rfl rfl (Nat.le_of_ble_eq_true rfl) hR.root (by decide) (fun v9 M9 hp h5 h6 => ?_) (fun E9 M9 hp h5 h6 => ?_)
  · obtain ⟨rfl, hM9, hk⟩ := hp; rw [hM9]
    show mj G 3 (0 + 1) (0 + 6) M 5 [some (.ref (ad 0 0 0)), some (.int s), some (.int o)] [.ref (ad 17 (tn s) 0)]
    refine m_pop C d_AW_corner_5 rfl ?_
    refine m_aload_n C d_AW_corner_6 rfl rfl ?_
    refine m_iload_n C d_AW_corner_7 rfl rfl ?_
    refine m_callVX (ci := 0) C d_AW_corner_8 ml_AW_77 mw_AW_77 mi_AW_knownStreet se_AW_knownStreet rfl (ct_AW_knownStreet _ _ _ R ad o M hR hb) (fun _ h => h.elim) rfl rfl (Nat.le_of_ble_eq_true rfl) hR.root (by decide) (fun v8 M8 hp h5 h6 => ?_) (fun E8 M8 hp h5 h6 => ?_)
    · obtain ⟨rfl, hM8, hk2⟩ := hp; rw [hM8]
      show mj G 3 (0 + 1 + 1) (0 + 6 + 6) M 11 [some (.ref (ad 0 0 0)), some (.int s), some (.int o)] [.ref (ad 17 (tn o) 0)]
      refine m_pop C d_AW_corner_11 rfl ?_
      refine m_aload_n C d_AW_corner_12 rfl rfl ?_
      refine m_iload_n C d_AW_corner_13 rfl rfl ?_
      refine m_iload_n C d_AW_corner_14 rfl rfl ?_
      refine m_callV (ci := 0) C d_AW_corner_15 mw_AW_173 mi_AW_metresOfCorner se_AW_metresOfCorner rfl (ct_AW_metresOfCorner _ _ _ R ad s o M hR hb) (fun _ h => h.elim) rfl rfl (Nat.le_of_ble_eq_true rfl) hR.root (by decide) (fun v7 M7 hp h5 h6 => ?_)
      obtain ⟨rfl, hM7⟩ := hp; rw [hM7]
      show mj G 3 (0 + 1 + 1 + 0) (0 + 6 + 6 + 0) M 18 [some (.ref (ad 0 0 0)), some (.int s), some (.int o)] [.int (coF R s o (nC R) 0)]
      exact Rt _ _ _ _ _ _ _ (by decide) (by decide) (⟨⟨⟨hk, hk2⟩, trivial, trivial, trivial⟩, rfl, rfl⟩) (Or.inl ⟨rfl, _, rfl, rfl, d_AW_corner_18⟩)
    · obtain ⟨rfl, hM8, hk2⟩ := hp; rw [hM8]
      exact Up _ _ _ _ _ _ (by decide) (by decide) (⟨Or.inl ⟨fun z => hk2 z.2, rfl⟩, hR⟩)
  · obtain ⟨rfl, hM9, hk⟩ := hp; rw [hM9]
    exact Up _ _ _ _ _ _ (by decide) (by decide) (⟨Or.inl ⟨fun z => hk z.1, rfl⟩, hR⟩)

set_option maxHeartbeats 4000000 in
set_option maxRecDepth 100000 in
theorem ct_AW_post (l : Launch) (D : ma_D) (s0 : State) (R : mR) (ad : mAd) (s m : Int32) (M : ma_H) (hR : RepC R ad M) (hb : Bd R) : Cx l D s0 y_AW_post c_AW_post 6 (some .int) 7 2 12 103 [.ref (ad 0 0 0), .int s, .int m] M (fun _ => False) (fun v M' => ((kn R s = true) ∧ (inn m 0 (R 15 (tn s)) = true) ∧ (True) ∧ (True)) ∧ v = some (.int (poF R (tn s) m)) ∧ M' = M) (fun E M' => gbx (kn R s = true) (inn m 0 (R 15 (tn s)) = true) (True) (True) E ∧ RepC R ad M') := by
  refine Cx_gen 3 [some (.ref (ad 0 0 0)), some (.int s), some (.int m), none, none, none] (by decide +kernel) (Nat.le_of_ble_eq_true rfl) rfl ?_
  intro G e1 e2 e3 C hw Rt Th Up
  subst e1; subst e2; subst e3
  refine m_aload_n C d_AW_post_0 rfl rfl ?_
  refine m_iload_n C d_AW_post_1 rfl rfl ?_
  refine m_callVX (ci := 0) C d_AW_post_2 ml_AW_77 mw_AW_77 mi_AW_knownStreet se_AW_knownStreet rfl (ct_AW_knownStreet _ _ _ R ad s M hR hb) (fun _ h => h.elim) rfl rfl (Nat.le_of_ble_eq_true rfl) hR.root (by decide) (fun v9 M9 hp h5 h6 => ?_) (fun E9 M9 hp h5 h6 => ?_)
  · obtain ⟨rfl, hM9, hk⟩ := hp; rw [hM9]
    show mj G 6 (0 + 1) (0 + 6) M 5 [some (.ref (ad 0 0 0)), some (.int s), some (.int m), none, none, none] [.ref (ad 17 (tn s) 0)]
    obtain ⟨i, hi, hsi, ht⟩ := kn_i hb hk
    rw [ht]
    have hbi := (hb.2 i hi).2.2
    refine m_astore_n (L' := [some (.ref (ad 0 0 0)), some (.int s), some (.int m), some (.ref (ad 17 i 0)), none, none]) C d_AW_post_5 rfl (by decide) rfl ?_
    refine m_aload_n C d_AW_post_6 rfl rfl ?_
    refine m_iload_n C d_AW_post_7 rfl rfl ?_
    refine m_callSX C d_AW_post_8 ml_AW_167 mw_AW_167 mst_AW_requireMetres (ct_AW_requireMetres _ _ _ (ad 17 i 0) (ad 18 i 0) (tn (R 4 i)) (ad 19 i 0) (tn (R 7 i)) (R 2 i) (R 11 i) (R 12 i) (R 11 i + R 13 i) (R 12 i + R 14 i) (R 15 i) (R 3 i) m M (hR.st hi)) (fun _ h => h.elim) rfl rfl (Nat.le_of_ble_eq_true rfl) (by decide) (fun v8 M8 hp h5 h6 => ?_) (fun E8 M8 hp h5 h6 => ?_)
    · obtain ⟨rfl, hM8, hm⟩ := hp; rw [hM8]
      show mj G 6 (0 + 1 + 1) (0 + 6 + 6) M 11 [some (.ref (ad 0 0 0)), some (.int s), some (.int m), some (.ref (ad 17 i 0)), none, none] []
      refine m_aload_n C d_AW_post_11 rfl rfl ?_
      refine m_aload_n C d_AW_post_12 rfl rfl ?_
      refine m_get C fg_AW_186 d_AW_post_13 (hR.st hi) rfl ?_
      refine m_aload_n C d_AW_post_16 rfl rfl ?_
      refine m_get C fg_AW_189 d_AW_post_17 (hR.st hi) rfl ?_
      refine m_iload_n C d_AW_post_20 rfl rfl ?_
      refine m_callV (ci := 9) C d_AW_post_21 mw_AW_192 mi_St_between se_St_between rfl (ct_St_between _ _ _ (ad 17 i 0) (ad 18 i 0) (tn (R 4 i)) (ad 19 i 0) (tn (R 7 i)) (R 2 i) (R 11 i) (R 12 i) (R 11 i + R 13 i) (R 12 i + R 14 i) (R 15 i) (R 3 i) (R 11 i) (R 11 i + R 13 i) m M (hR.st hi) hbi.1 hbi.2) (fun _ h => h.elim) rfl rfl (Nat.le_of_ble_eq_true rfl) (hR.st hi) (by decide) (fun v7 M7 hp h5 h6 => ?_)
      obtain ⟨rfl, hM7⟩ := hp; rw [hM7]
      show mj G 6 (0 + 1 + 1 + 0) (0 + 6 + 6 + 0) M 24 [some (.ref (ad 0 0 0)), some (.int s), some (.int m), some (.ref (ad 17 i 0)), none, none] [.int (btw (R 15 i) (R 11 i) (R 11 i + R 13 i) m)]
      refine m_istore (L' := [some (.ref (ad 0 0 0)), some (.int s), some (.int m), some (.ref (ad 17 i 0)), some (.int (btw (R 15 i) (R 11 i) (R 11 i + R 13 i) m)), none]) C d_AW_post_24 (by decide) rfl ?_
      refine m_aload_n C d_AW_post_26 rfl rfl ?_
      refine m_aload_n C d_AW_post_27 rfl rfl ?_
      refine m_get C fg_AW_196 d_AW_post_28 (hR.st hi) rfl ?_
      refine m_aload_n C d_AW_post_31 rfl rfl ?_
      refine m_get C fg_AW_199 d_AW_post_32 (hR.st hi) rfl ?_
      refine m_iload_n C d_AW_post_35 rfl rfl ?_
      refine m_callV (ci := 9) C d_AW_post_36 mw_AW_192 mi_St_between se_St_between rfl (ct_St_between _ _ _ (ad 17 i 0) (ad 18 i 0) (tn (R 4 i)) (ad 19 i 0) (tn (R 7 i)) (R 2 i) (R 11 i) (R 12 i) (R 11 i + R 13 i) (R 12 i + R 14 i) (R 15 i) (R 3 i) (R 12 i) (R 12 i + R 14 i) m M (hR.st hi) hbi.1 hbi.2) (fun _ h => h.elim) rfl rfl (Nat.le_of_ble_eq_true rfl) (hR.st hi) (by decide) (fun v7 M7 hp h5 h6 => ?_)
      obtain ⟨rfl, hM7⟩ := hp; rw [hM7]
      show mj G 6 (0 + 1 + 1 + 0 + 0) (0 + 6 + 6 + 0 + 0) M 39 [some (.ref (ad 0 0 0)), some (.int s), some (.int m), some (.ref (ad 17 i 0)), some (.int (btw (R 15 i) (R 11 i) (R 11 i + R 13 i) m)), none] [.int (btw (R 15 i) (R 12 i) (R 12 i + R 14 i) m)]
      refine m_istore (L' := [some (.ref (ad 0 0 0)), some (.int s), some (.int m), some (.ref (ad 17 i 0)), some (.int (btw (R 15 i) (R 11 i) (R 11 i + R 13 i) m)), some (.int (btw (R 15 i) (R 12 i) (R 12 i + R 14 i) m))]) C d_AW_post_39 (by decide) rfl ?_
      refine m_sipush (v := 20000) C d_AW_post_41 (by decide) ?_
      refine m_iload C d_AW_post_44 rfl ?_
      refine m_sipush (v := 10000) C d_AW_post_46 (by decide) ?_
      refine m_iadd C d_AW_post_49 ?_
      refine m_imul C d_AW_post_50 ?_
      refine m_iload C d_AW_post_51 rfl ?_
      refine m_iadd C d_AW_post_53 ?_
      refine m_sipush (v := 10000) C d_AW_post_54 (by decide) ?_
      refine m_iadd C d_AW_post_57 ?_
      exact Rt _ _ _ _ _ _ _ (by decide) (by decide) (⟨⟨hk, by rw [ht]; exact hm, trivial, trivial⟩, by rw [ht]; rfl, rfl⟩) (Or.inl ⟨rfl, _, rfl, rfl, d_AW_post_58⟩)
    · obtain ⟨rfl, hM8, hm⟩ := hp; rw [hM8]
      exact Up _ _ _ _ _ _ (by decide) (by decide) (⟨Or.inr (Or.inl ⟨hk, by rw [ht]; exact hm, rfl⟩), hR⟩)
  · obtain ⟨rfl, hM9, hk⟩ := hp; rw [hM9]
    exact Up _ _ _ _ _ _ (by decide) (by decide) (⟨Or.inl ⟨hk, rfl⟩, hR⟩)

set_option maxHeartbeats 4000000 in
set_option maxRecDepth 100000 in
theorem ct_AW_near (l : Launch) (D : ma_D) (s0 : State) (R : mR) (ad : mAd) (x y : Int32) (M : ma_H) (hR : RepC R ad M) (hb : Bd R) : Cx l D s0 y_AW_near c_AW_near 7 (some .int) 7 1 6 103 [.ref (ad 0 0 0), .int x, .int y] M (fun _ => False) (fun v M' => ((True) ∧ (gdP x y) ∧ (True) ∧ (True)) ∧ v = some (.int (neF R x y (nS R)).1) ∧ M' = M) (fun E M' => gbx (True) (gdP x y) (True) (True) E ∧ RepC R ad M') := by
  refine Cx_gen 4 [some (.ref (ad 0 0 0)), some (.int x), some (.int y), none, none, none, none] (by decide +kernel) (Nat.le_of_ble_eq_true rfl) rfl ?_
  intro G e1 e2 e3 C hw Rt Th Up
  subst e1; subst e2; subst e3
  have hbS := hb.1.1
  obtain ⟨l, hl1, hl2, hl3⟩ := hR.sts
  refine m_iload_n C d_AW_near_0 rfl rfl ?_
  refine m_iload_n C d_AW_near_1 rfl rfl ?_
  refine m_callSX C d_AW_near_2 ml_AW_134 mw_AW_134 mst_AW_requirePoint (ct_AW_requirePoint _ _ _ x y M) (fun _ h => h.elim) rfl rfl (Nat.le_of_ble_eq_true rfl) (by decide) (fun v8 M8 hp h5 h6 => ?_) (fun E8 M8 hp h5 h6 => ?_)
  · obtain ⟨rfl, hM8, hm⟩ := hp; rw [hM8]
    show mj G 7 (0 + 1) (0 + 6) M 5 [some (.ref (ad 0 0 0)), some (.int x), some (.int y), none, none, none, none] []
    refine m_iconst (v := (-1)) C d_AW_near_5 (by decide) ?_
    refine m_istore_n (L' := [some (.ref (ad 0 0 0)), some (.int x), some (.int y), some (.int (-1)), none, none, none]) C d_AW_near_6 rfl (by decide) rfl ?_
    refine m_iconst (v := 0) C d_AW_near_7 (by decide) ?_
    refine m_istore (L' := [some (.ref (ad 0 0 0)), some (.int x), some (.int y), some (.int (-1)), some (.int 0), none, none]) C d_AW_near_8 (by decide) rfl ?_
    refine m_iconst (v := 0) C d_AW_near_10 (by decide) ?_
    refine m_istore (L' := [some (.ref (ad 0 0 0)), some (.int x), some (.int y), some (.int (-1)), some (.int 0), some (.int 0), none]) C d_AW_near_11 (by decide) rfl ?_
    have loop : ∀ (rk : Nat) (i : Nat), nS R - i = rk → i ≤ nS R → mj G 7 (0 + 1) (0 + 6) M 13 [some (.ref (ad 0 0 0)), some (.int x), some (.int y), some (.int (neF R x y i).1), some (.int (neF R x y i).2), some (.int (nI i)), none] [] := by
      intro rk
      induction rk using Nat.strongRecOn with
      | ind rk ih =>
        intro i hr hi
        refine m_iload C d_AW_near_13 rfl ?_
        refine m_aload_n C d_AW_near_15 rfl rfl ?_
        refine m_get C fg_AW_62 d_AW_near_16 hR.root rfl ?_
        have e1 : nI (nS R) ≤ nI i ↔ nS R ≤ i := nI_leI (by omega) (by omega)
        refine m_icmp_ge (tgt := 74) C d_AW_near_19 (by decide) (fun h2 => ?_) (fun h2 => ?_)
        · refine m_iload_n C d_AW_near_74 rfl rfl ?_
          rw [e1] at h2
          obtain rfl : i = nS R := by omega
          exact Rt _ _ _ _ _ _ _ (by decide) (by decide) (⟨⟨trivial, hm, trivial, trivial⟩, rfl, rfl⟩) (Or.inl ⟨rfl, _, rfl, rfl, d_AW_near_75⟩)
        · rw [e1] at h2
          have hin : i < nS R := by omega
          refine m_iload_n C d_AW_near_22 rfl rfl ?_
          refine m_iload_n C d_AW_near_23 rfl rfl ?_
          refine m_aload_n C d_AW_near_24 rfl rfl ?_
          refine m_get C fg_AW_11 d_AW_near_25 hR.root rfl ?_
          refine m_iload C d_AW_near_28 rfl ?_
          refine m_aald (v := .ref (ad 17 i 0)) C d_AW_near_30 hl1 kt_St rfl (nI_pos (by omega)) (by rw [nI_clamp (by omega)]; exact hl3 i hin) ?_
          refine m_get C fg_AW_186 d_AW_near_31 (hR.st hin) rfl ?_
          refine m_aload_n C d_AW_near_34 rfl rfl ?_
          refine m_get C fg_AW_11 d_AW_near_35 hR.root rfl ?_
          refine m_iload C d_AW_near_38 rfl ?_
          refine m_aald (v := .ref (ad 17 i 0)) C d_AW_near_40 hl1 kt_St rfl (nI_pos (by omega)) (by rw [nI_clamp (by omega)]; exact hl3 i hin) ?_
          refine m_get C fg_AW_196 d_AW_near_41 (hR.st hin) rfl ?_
          refine m_callS C d_AW_near_44 mw_AW_202 mst_AW_squareOfWay (ct_AW_squareOfWay _ _ _ x y (R 11 i) (R 12 i) M) (fun _ h => h.elim) rfl rfl (Nat.le_of_ble_eq_true rfl) (by decide) (fun v7 M7 hp h5 h6 => ?_)
          obtain ⟨rfl, hM7⟩ := hp; rw [hM7]
          show mj G 7 (0 + 1 + 0) (0 + 6 + 0) M 47 [some (.ref (ad 0 0 0)), some (.int x), some (.int y), some (.int (neF R x y i).1), some (.int (neF R x y i).2), some (.int (nI i)), none] [.int (sq_way x y (R 11 i) (R 12 i))]
          refine m_istore (L' := [some (.ref (ad 0 0 0)), some (.int x), some (.int y), some (.int (neF R x y i).1), some (.int (neF R x y i).2), some (.int (nI i)), some (.int (sq_way x y (R 11 i) (R 12 i)))]) C d_AW_near_47 (by decide) rfl ?_
          refine m_iload_n C d_AW_near_49 rfl rfl ?_
          refine m_iconst (v := (-1)) C d_AW_near_50 (by decide) ?_
          refine m_icmp_eq (tgt := 61) C d_AW_near_51 (by decide) (fun h3 => ?_) (fun h3 => ?_)
          · refine m_iload C d_AW_near_61 rfl ?_
            refine m_istore_n (L' := [some (.ref (ad 0 0 0)), some (.int x), some (.int y), some (.int (nI i)), some (.int (neF R x y i).2), some (.int (nI i)), some (.int (sq_way x y (R 11 i) (R 12 i)))]) C d_AW_near_63 rfl (by decide) rfl ?_
            refine m_iload C d_AW_near_64 rfl ?_
            refine m_istore (L' := [some (.ref (ad 0 0 0)), some (.int x), some (.int y), some (.int (nI i)), some (.int (sq_way x y (R 11 i) (R 12 i))), some (.int (nI i)), some (.int (sq_way x y (R 11 i) (R 12 i)))]) C d_AW_near_66 (by decide) rfl ?_
            refine m_iinc (v := (nI (i + 1))) (L' := [some (.ref (ad 0 0 0)), some (.int x), some (.int y), some (.int (nI i)), some (.int (sq_way x y (R 11 i) (R 12 i))), some (.int (nI (i + 1))), some (.int (sq_way x y (R 11 i) (R 12 i)))]) C d_AW_near_68 rfl (nI_1 i) (by decide) rfl ?_
            refine m_goto (tgt := 13) C d_AW_near_71 (by decide) ?_
            have h9 := ih (nS R - (i + 1)) (by omega) (i + 1) rfl (by omega)
            rw [neF, if_pos (Or.inl h3)] at h9
            exact mj_L (fun q v hv => by rcases q with _ | _ | _ | _ | _ | _ | _ | q <;> simp_all) h9
          · refine m_iload C d_AW_near_54 rfl ?_
            refine m_iload C d_AW_near_56 rfl ?_
            refine m_icmp_ge (tgt := 68) C d_AW_near_58 (by decide) (fun h4 => ?_) (fun h4 => ?_)
            · refine m_iinc (v := (nI (i + 1))) (L' := [some (.ref (ad 0 0 0)), some (.int x), some (.int y), some (.int (neF R x y i).1), some (.int (neF R x y i).2), some (.int (nI (i + 1))), some (.int (sq_way x y (R 11 i) (R 12 i)))]) C d_AW_near_68 rfl (nI_1 i) (by decide) rfl ?_
              refine m_goto (tgt := 13) C d_AW_near_71 (by decide) ?_
              have h9 := ih (nS R - (i + 1)) (by omega) (i + 1) rfl (by omega)
              rw [neF, if_neg (fun z => z.elim h3 (Int32.not_lt.mpr h4))] at h9
              exact mj_L (fun q v hv => by rcases q with _ | _ | _ | _ | _ | _ | _ | q <;> simp_all) h9
            · refine m_iload C d_AW_near_61 rfl ?_
              refine m_istore_n (L' := [some (.ref (ad 0 0 0)), some (.int x), some (.int y), some (.int (nI i)), some (.int (neF R x y i).2), some (.int (nI i)), some (.int (sq_way x y (R 11 i) (R 12 i)))]) C d_AW_near_63 rfl (by decide) rfl ?_
              refine m_iload C d_AW_near_64 rfl ?_
              refine m_istore (L' := [some (.ref (ad 0 0 0)), some (.int x), some (.int y), some (.int (nI i)), some (.int (sq_way x y (R 11 i) (R 12 i))), some (.int (nI i)), some (.int (sq_way x y (R 11 i) (R 12 i)))]) C d_AW_near_66 (by decide) rfl ?_
              refine m_iinc (v := (nI (i + 1))) (L' := [some (.ref (ad 0 0 0)), some (.int x), some (.int y), some (.int (nI i)), some (.int (sq_way x y (R 11 i) (R 12 i))), some (.int (nI (i + 1))), some (.int (sq_way x y (R 11 i) (R 12 i)))]) C d_AW_near_68 rfl (nI_1 i) (by decide) rfl ?_
              refine m_goto (tgt := 13) C d_AW_near_71 (by decide) ?_
              have h9 := ih (nS R - (i + 1)) (by omega) (i + 1) rfl (by omega)
              rw [neF, if_pos (Or.inr (Int32.not_le.mp h4))] at h9
              exact mj_L (fun q v hv => by rcases q with _ | _ | _ | _ | _ | _ | _ | q <;> simp_all) h9
    exact loop _ 0 rfl (Nat.zero_le _)
  · obtain ⟨rfl, hM8, hm⟩ := hp; rw [hM8]
    exact Up _ _ _ _ _ _ (by decide) (by decide) (⟨Or.inr (Or.inl ⟨trivial, hm, rfl⟩), hR⟩)
