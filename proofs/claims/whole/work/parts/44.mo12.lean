/-! ===== words; the model's nearest, apartStreet, apartMark ===== -/
/-- how many letters stand right before i -/
def rnL (sg : Nat → Int32) : Nat → Nat
  | 0 => 0
  | i + 1 => if is_l (sg i) = true then rnL sg i + 1 else 0
theorem rnL_le (sg : Nat → Int32) : ∀ i, rnL sg i ≤ i := by
  intro i
  induction i with
  | zero => exact Nat.le_refl _
  | succ i ih => rw [rnL]; split <;> omega
/-- the words that ended before i, the newest first: start and length -/
def wdD (sg : Nat → Int32) : Nat → List (Nat × Nat)
  | 0 => []
  | i + 1 => if is_l (sg i) = true then wdD sg i else if 0 < rnL sg i then (i - rnL sg i, rnL sg i) :: wdD sg i else wdD sg i
/-- all words of the first i signs -/
def wdL (sg : Nat → Int32) (i : Nat) : List (Nat × Nat) := if 0 < rnL sg i then (i - rnL sg i, rnL sg i) :: wdD sg i else wdD sg i
/-- the least distance of the words from b -/
def mdF (sg b : Nat → Int32) (n : Nat) : List (Nat × Nat) → Int32
  | [] => 99
  | w :: t => i_mn (mdF sg b n t) (od (fun c => sg (w.1 + c)) b w.2 n)
theorem odr_cg2 {sg bf : Int32} {b b' : Nat → Int32} {i1 : Int32} {la bl : Nat → Int32} {m : Nat} (h : ∀ j, j < m → b j = b' j) : ∀ k, k ≤ m → odr sg bf b i1 la bl k = odr sg bf b' i1 la bl k := by
  intro k
  induction k with
  | zero => intro _; rfl
  | succ k ih =>
    intro hk
    rw [odr, odr, ih (by omega), h k (by omega)]
    by_cases h0 : 0 < k
    · rw [h (k - 1) (by omega)]
    · have h1 : ¬ (0 < k ∧ sg = b (k - 1) ∧ bf = b' k) := fun z => h0 z.1
      have h2 : ¬ (0 < k ∧ sg = b' (k - 1) ∧ bf = b' k) := fun z => h0 z.1
      rw [if_neg h1, if_neg h2]
theorem od2_cg {a a' b b' : Nat → Int32} {n m : Nat} (ha : ∀ c, c < n → a c = a' c) (hb : ∀ c, c < m → b c = b' c) : ∀ i, i ≤ n → (∀ k, k ≤ m → (od2 a b i).1 k = (od2 a' b' i).1 k) ∧ ∀ k, k ≤ m → (od2 a b i).2 k = (od2 a' b' i).2 k := by
  intro i
  induction i with
  | zero => intro _; exact ⟨fun _ _ => rfl, fun _ _ => rfl⟩
  | succ i ih =>
    intro hi
    have h1 := ih (by omega)
    refine ⟨fun k hk => ?_, h1.1⟩
    show odr (a i) (if i = 0 then 32 else a (i - 1)) b (nI (i + 1)) (od2 a b i).1 (od2 a b i).2 k = odr (a' i) (if i = 0 then 32 else a' (i - 1)) b' (nI (i + 1)) (od2 a' b' i).1 (od2 a' b' i).2 k
    have e1 : (if i = 0 then 32 else a (i - 1)) = (if i = 0 then 32 else a' (i - 1)) := by
      by_cases h0 : i = 0
      · rw [if_pos h0, if_pos h0]
      · rw [if_neg h0, if_neg h0, ha (i - 1) (by omega)]
    rw [e1, ha i (by omega), odr_cg2 hb k hk]
    exact odr_congr h1.1 (Or.inl h1.2) k hk
theorem od_cg {a a' b b' : Nat → Int32} {n m : Nat} (ha : ∀ c, c < n → a c = a' c) (hb : ∀ c, c < m → b c = b' c) : od a b n m = od a' b' n m := (od2_cg ha hb n (Nat.le_refl _)).1 m (Nat.le_refl _)
theorem mdF_cg {sg b b' : Nat → Int32} {m : Nat} (hb : ∀ c, c < m → b c = b' c) : ∀ l, mdF sg b m l = mdF sg b' m l := by
  intro l
  induction l with
  | nil => rfl
  | cons w t ih => rw [mdF, mdF, ih, od_cg (fun _ _ => rfl) hb]
/-- R' is R but for what is only scribbled -/
def scr (fs : List Nat) (R R' : mR) : Prop := ∀ f, f ∉ fs → R' f = R f
def asM (R : mR) (s : Nat) : Nat → Int32
  | 0 => 99
  | j + 1 => if tn (R 5 (3 * s + j)) = 0 then asM R s j else i_mn (asM R s j) (mdF (R 27) (fun c => R 6 (16 * (3 * s + j) + c)) (tn (R 5 (3 * s + j))) (wdL (R 27) (nW R)))
def amM (R : mR) (k : Nat) : Int32 := mdF (R 27) (fun c => R 20 (8 * k + c)) (tn (R 19 k)) (wdL (R 27) (nW R))

set_option maxHeartbeats 4000000 in
set_option maxRecDepth 100000 in
theorem ct_Mo_nearest (l : Launch) (D : ma_D) (s0 : State) (R : mR) (m : Nat) (mr : Nat → Nat) (c9 : Nat) (hc9 : c9 ≤ 16) (h32 : ∀ k, k < c9 → R 33 k ≠ 32) (M : ma_H) (hM : RepM R m mr M) (hWd : R 26 0 = nI (nW R)) (hbW : nW R ≤ 40) : Ct l D s0 y_Mo_nearest c_Mo_nearest 5 (some .int) 2 0 0 47 [.ref m, .int (nI c9)] M (fun q => q = m ∨ ∃ k, mln k ≠ 0 ∧ q = mr k) (fun v M' => v = some (.int (mdF (R 27) (R 33) c9 (wdL (R 27) (nW R)))) ∧ ∃ R', scr [32, 34] R R' ∧ RepM R' m mr M') := by
  refine Ct_i 3 [some (.ref m), some (.int (nI c9)), none, none, none] (by decide +kernel) (Nat.le_of_ble_eq_true rfl) rfl ?_
  intro G e1 e2 e3 C hw Rt
  subst e1; subst e2; subst e3
  refine m_bipush (v := 99) C d_Mo_nearest_0 (by decide) ?_
  refine m_istore_n (L' := [some (.ref m), some (.int (nI c9)), some (.int 99), none, none]) C d_Mo_nearest_2 rfl (by decide) rfl ?_
  refine m_iconst (v := 0) C d_Mo_nearest_3 (by decide) ?_
  refine m_istore_n (L' := [some (.ref m), some (.int (nI c9)), some (.int 99), some (.int 0), none]) C d_Mo_nearest_4 rfl (by decide) rfl ?_
  refine m_iconst (v := 0) C d_Mo_nearest_5 (by decide) ?_
  refine m_istore (L' := [some (.ref m), some (.int (nI c9)), some (.int 99), some (.int 0), some (.int 0)]) C d_Mo_nearest_6 (by decide) rfl ?_
  have loop : ∀ (lq9 : Nat) (M2 : ma_H) (k : Nat) (Rc : mR), nW R + 1 - k = lq9 → k ≤ nW R → scr [32, 34] R Rc → RepM Rc m mr M2 → (∀ c, c < rnL (R 27) k → Rc 32 c = R 27 (k - rnL (R 27) k + c)) → mj G 5 0 0 M2 8 [some (.ref m), some (.int (nI c9)), some (.int (mdF (R 27) (R 33) c9 (wdD (R 27) k))), some (.int (nI (rnL (R 27) k))), some (.int (nI k))] [] := by
    intro lq9
    induction lq9 using Nat.strongRecOn with
    | ind lq9 ih =>
      intro M2 k Rc hr hk hRc hM2 hA
      have q26 : Rc 26 0 = nI (nW R) := by rw [hRc 26 (by decide)]; exact hWd
      have q27 : Rc 27 = R 27 := hRc 27 (by decide)
      have hrl := rnL_le (R 27) k
      refine m_iload C d_Mo_nearest_8 rfl ?_
      refine m_aload_n C d_Mo_nearest_10 rfl rfl ?_
      refine m_get C fg_Mo_155 d_Mo_nearest_11 hM2.1 rfl ?_
      rw [q26]
      have e1 : nI (nW R) < nI k ↔ nW R < k := nI_ltI (by omega) (by omega)
      refine m_icmp_gt (tgt := 85) C d_Mo_nearest_14 (by decide) (fun h9 => ?_) (fun h9 => ?_)
      · exact absurd (e1.mp h9) (by omega)
      · clear h9
        refine m_iload C d_Mo_nearest_17 rfl ?_
        refine m_aload_n C d_Mo_nearest_19 rfl rfl ?_
        refine m_get C fg_Mo_155 d_Mo_nearest_20 hM2.1 rfl ?_
        rw [q26]
        have e2 : nI (nW R) ≤ nI k ↔ nW R ≤ k := nI_leI (by omega) (by omega)
        refine m_icmp_ge (tgt := 62) C d_Mo_nearest_23 (by decide) (fun h8 => ?_) (fun h8 => ?_)
        · rw [e2] at h8
          refine m_iload_n C d_Mo_nearest_62 rfl rfl ?_
          have e5 : nI (rnL (R 27) k) ≤ 0 ↔ ¬ 0 < rnL (R 27) k := by rw [show (0 : Int32) = nI 0 from rfl, nI_leI (by omega) (by decide)]; omega
          refine m_if_le (tgt := 77) C d_Mo_nearest_63 (by decide) (fun h6 => ?_) (fun h6 => ?_)
          · rw [e5] at h6
            refine m_iconst (v := 0) C d_Mo_nearest_77 (by decide) ?_
            refine m_istore_n (L' := [some (.ref m), some (.int (nI c9)), some (.int (mdF (R 27) (R 33) c9 (wdD (R 27) k))), some (.int 0), some (.int (nI k))]) C d_Mo_nearest_78 rfl (by decide) rfl ?_
            have hkn : k = nW R := by omega
            refine m_iinc (v := (nI (k + 1))) (L' := [some (.ref m), some (.int (nI c9)), some (.int (mdF (R 27) (R 33) c9 (wdD (R 27) k))), some (.int 0), some (.int (nI (k + 1)))]) C d_Mo_nearest_79 rfl (nI_1 k) (by decide) rfl ?_
            refine m_goto (tgt := 8) C d_Mo_nearest_82 (by decide) ?_
            refine m_iload C d_Mo_nearest_8 rfl ?_
            refine m_aload_n C d_Mo_nearest_10 rfl rfl ?_
            refine m_get C fg_Mo_155 d_Mo_nearest_11 hM2.1 rfl ?_
            rw [q26]
            have e7 : nI (nW R) < nI (k + 1) ↔ nW R < k + 1 := nI_ltI (by omega) (by omega)
            refine m_icmp_gt (tgt := 85) C d_Mo_nearest_14 (by decide) (fun h5 => ?_) (fun h5 => ?_)
            · refine m_iload_n C d_Mo_nearest_85 rfl rfl ?_
              exact Rt _ _ _ _ _ _ (by decide) (by decide) d_Mo_nearest_86 (⟨by rw [wdL, ← hkn, if_neg h6], Rc, hRc, hM2⟩)
            · exact absurd (e7.mpr (by omega)) h5
          · rw [e5, Classical.not_not] at h6
            refine m_iload_n C d_Mo_nearest_66 rfl rfl ?_
            refine m_aload_n C d_Mo_nearest_67 rfl rfl ?_
            refine m_iload_n C d_Mo_nearest_68 rfl rfl ?_
            refine m_iload_n C d_Mo_nearest_69 rfl rfl ?_
            refine m_callV (ci := 10) C d_Mo_nearest_70 mw_Mo_161 mi_Mo_distance se_Mo_distance rfl (ct_Mo_distance _ _ _ Rc m mr (rnL (R 27) k) c9 (by omega) hc9 (fun j hj => by rw [hRc 33 (by decide)]; exact h32 j hj) M2 hM2) (fun q h => hw q h) rfl rfl (Nat.le_of_ble_eq_true rfl) hM2.1 (by decide) (fun v8 M8 hp h85 h86 => ?_)
            obtain ⟨rfl, T8, hM8⟩ := hp
            show mj G 5 0 0 M8 73 [some (.ref m), some (.int (nI c9)), some (.int (mdF (R 27) (R 33) c9 (wdD (R 27) k))), some (.int (nI (rnL (R 27) k))), some (.int (nI k))] [.int (od (Rc 32) (Rc 33) (rnL (R 27) k) c9), .int (mdF (R 27) (R 33) c9 (wdD (R 27) k))]
            have hod : od (Rc 32) (Rc 33) (rnL (R 27) k) c9 = od (fun c => R 27 (k - rnL (R 27) k + c)) (R 33) (rnL (R 27) k) c9 := od_cg hA (fun c _ => by rw [hRc 33 (by decide)])
            rw [hod]
            refine m_callS C d_Mo_nearest_73 mw_Mo_158 mst_Mo_least (ct_Mo_least _ _ _ (mdF (R 27) (R 33) c9 (wdD (R 27) k)) (od (fun c => R 27 (k - rnL (R 27) k + c)) (R 33) (rnL (R 27) k) c9) M8) (fun _ h => h.elim) rfl rfl (Nat.le_of_ble_eq_true rfl) (by decide) (fun v9 M9 hp h95 h96 => ?_)
            obtain ⟨rfl, hM9⟩ := hp; rw [hM9]
            show mj G 5 0 0 M8 76 [some (.ref m), some (.int (nI c9)), some (.int (mdF (R 27) (R 33) c9 (wdD (R 27) k))), some (.int (nI (rnL (R 27) k))), some (.int (nI k))] [.int (i_mn (mdF (R 27) (R 33) c9 (wdD (R 27) k)) (od (fun c => R 27 (k - rnL (R 27) k + c)) (R 33) (rnL (R 27) k) c9))]
            have hR8 : scr [32, 34] R (setF Rc 34 T8) := fun f hf => by rw [setF_n (fun z => hf (by rw [z]; decide))]; exact hRc f hf
            refine m_istore_n (L' := [some (.ref m), some (.int (nI c9)), some (.int (i_mn (mdF (R 27) (R 33) c9 (wdD (R 27) k)) (od (fun c => R 27 (k - rnL (R 27) k + c)) (R 33) (rnL (R 27) k) c9))), some (.int (nI (rnL (R 27) k))), some (.int (nI k))]) C d_Mo_nearest_76 rfl (by decide) rfl ?_
            refine m_iconst (v := 0) C d_Mo_nearest_77 (by decide) ?_
            refine m_istore_n (L' := [some (.ref m), some (.int (nI c9)), some (.int (i_mn (mdF (R 27) (R 33) c9 (wdD (R 27) k)) (od (fun c => R 27 (k - rnL (R 27) k + c)) (R 33) (rnL (R 27) k) c9))), some (.int 0), some (.int (nI k))]) C d_Mo_nearest_78 rfl (by decide) rfl ?_
            have hkn : k = nW R := by omega
            refine m_iinc (v := (nI (k + 1))) (L' := [some (.ref m), some (.int (nI c9)), some (.int (i_mn (mdF (R 27) (R 33) c9 (wdD (R 27) k)) (od (fun c => R 27 (k - rnL (R 27) k + c)) (R 33) (rnL (R 27) k) c9))), some (.int 0), some (.int (nI (k + 1)))]) C d_Mo_nearest_79 rfl (nI_1 k) (by decide) rfl ?_
            refine m_goto (tgt := 8) C d_Mo_nearest_82 (by decide) ?_
            refine m_iload C d_Mo_nearest_8 rfl ?_
            refine m_aload_n C d_Mo_nearest_10 rfl rfl ?_
            refine m_get C fg_Mo_155 d_Mo_nearest_11 hM8.1 rfl ?_
            rw [show setF Rc 34 T8 26 0 = nI (nW R) by rw [setF_n (by decide)]; exact q26]
            have e7 : nI (nW R) < nI (k + 1) ↔ nW R < k + 1 := nI_ltI (by omega) (by omega)
            refine m_icmp_gt (tgt := 85) C d_Mo_nearest_14 (by decide) (fun h5 => ?_) (fun h5 => ?_)
            · refine m_iload_n C d_Mo_nearest_85 rfl rfl ?_
              exact Rt _ _ _ _ _ _ (by decide) (by decide) d_Mo_nearest_86 (⟨by rw [wdL, ← hkn, if_pos h6]; rfl, _, hR8, hM8⟩)
            · exact absurd (e7.mpr (by omega)) h5
        · rw [e2] at h8
          refine m_aload_n C d_Mo_nearest_26 rfl rfl ?_
          refine m_get C fg_Mo_77 d_Mo_nearest_27 hM2.1 rfl ?_
          refine m_iload C d_Mo_nearest_30 rfl ?_
          refine m_iald (v := .int ((Rc 27) k)) C d_Mo_nearest_32 (hM2.a27) kt_int (nI_pos (by omega)) (by rw [nI_clamp (by omega)]; exact arrL_get (by omega)) ?_
          rw [q27]
          refine m_bipush (v := 97) C d_Mo_nearest_33 (by decide) ?_
          refine m_bipush (v := 122) C d_Mo_nearest_35 (by decide) ?_
          refine m_callS C d_Mo_nearest_37 mw_Mo_102 mst_Mo_in (ct_Mo_in _ _ _ (R 27 k) 97 122 M2) (fun _ h => h.elim) rfl rfl (Nat.le_of_ble_eq_true rfl) (by decide) (fun v9 M9 hp h5 h6 => ?_)
          obtain ⟨rfl, hM9⟩ := hp; rw [hM9]
          show mj G 5 0 0 M2 40 [some (.ref m), some (.int (nI c9)), some (.int (mdF (R 27) (R 33) c9 (wdD (R 27) k))), some (.int (nI (rnL (R 27) k))), some (.int (nI k))] [.int (b2i (inn (R 27 k) 97 122))]
          rw [is_l_inn]
          refine m_if_eq (tgt := 62) C d_Mo_nearest_40 (by decide) (fun h7 => ?_) (fun h7 => ?_)
          · rw [b2i_eq0] at h7
            have hnl : ¬ is_l (R 27 k) = true := by rw [h7]; simp
            refine m_iload_n C d_Mo_nearest_62 rfl rfl ?_
            have e5 : nI (rnL (R 27) k) ≤ 0 ↔ ¬ 0 < rnL (R 27) k := by rw [show (0 : Int32) = nI 0 from rfl, nI_leI (by omega) (by decide)]; omega
            refine m_if_le (tgt := 77) C d_Mo_nearest_63 (by decide) (fun h6 => ?_) (fun h6 => ?_)
            · rw [e5] at h6
              refine m_iconst (v := 0) C d_Mo_nearest_77 (by decide) ?_
              refine m_istore_n (L' := [some (.ref m), some (.int (nI c9)), some (.int (mdF (R 27) (R 33) c9 (wdD (R 27) k))), some (.int 0), some (.int (nI k))]) C d_Mo_nearest_78 rfl (by decide) rfl ?_
              refine m_iinc (v := (nI (k + 1))) (L' := [some (.ref m), some (.int (nI c9)), some (.int (mdF (R 27) (R 33) c9 (wdD (R 27) k))), some (.int 0), some (.int (nI (k + 1)))]) C d_Mo_nearest_79 rfl (nI_1 k) (by decide) rfl ?_
              refine m_goto (tgt := 8) C d_Mo_nearest_82 (by decide) ?_
              have h4 := ih (nW R + 1 - (k + 1)) (by omega) M2 (k + 1) Rc rfl (by omega) hRc hM2
              rw [wdD, rnL, if_neg hnl, if_neg hnl, if_neg h6] at h4
              exact h4 (fun c h => absurd h (by omega))
            · rw [e5, Classical.not_not] at h6
              refine m_iload_n C d_Mo_nearest_66 rfl rfl ?_
              refine m_aload_n C d_Mo_nearest_67 rfl rfl ?_
              refine m_iload_n C d_Mo_nearest_68 rfl rfl ?_
              refine m_iload_n C d_Mo_nearest_69 rfl rfl ?_
              refine m_callV (ci := 10) C d_Mo_nearest_70 mw_Mo_161 mi_Mo_distance se_Mo_distance rfl (ct_Mo_distance _ _ _ Rc m mr (rnL (R 27) k) c9 (by omega) hc9 (fun j hj => by rw [hRc 33 (by decide)]; exact h32 j hj) M2 hM2) (fun q h => hw q h) rfl rfl (Nat.le_of_ble_eq_true rfl) hM2.1 (by decide) (fun v8 M8 hp h85 h86 => ?_)
              obtain ⟨rfl, T8, hM8⟩ := hp
              show mj G 5 0 0 M8 73 [some (.ref m), some (.int (nI c9)), some (.int (mdF (R 27) (R 33) c9 (wdD (R 27) k))), some (.int (nI (rnL (R 27) k))), some (.int (nI k))] [.int (od (Rc 32) (Rc 33) (rnL (R 27) k) c9), .int (mdF (R 27) (R 33) c9 (wdD (R 27) k))]
              have hod : od (Rc 32) (Rc 33) (rnL (R 27) k) c9 = od (fun c => R 27 (k - rnL (R 27) k + c)) (R 33) (rnL (R 27) k) c9 := od_cg hA (fun c _ => by rw [hRc 33 (by decide)])
              rw [hod]
              refine m_callS C d_Mo_nearest_73 mw_Mo_158 mst_Mo_least (ct_Mo_least _ _ _ (mdF (R 27) (R 33) c9 (wdD (R 27) k)) (od (fun c => R 27 (k - rnL (R 27) k + c)) (R 33) (rnL (R 27) k) c9) M8) (fun _ h => h.elim) rfl rfl (Nat.le_of_ble_eq_true rfl) (by decide) (fun v9 M9 hp h95 h96 => ?_)
              obtain ⟨rfl, hM9⟩ := hp; rw [hM9]
              show mj G 5 0 0 M8 76 [some (.ref m), some (.int (nI c9)), some (.int (mdF (R 27) (R 33) c9 (wdD (R 27) k))), some (.int (nI (rnL (R 27) k))), some (.int (nI k))] [.int (i_mn (mdF (R 27) (R 33) c9 (wdD (R 27) k)) (od (fun c => R 27 (k - rnL (R 27) k + c)) (R 33) (rnL (R 27) k) c9))]
              have hR8 : scr [32, 34] R (setF Rc 34 T8) := fun f hf => by rw [setF_n (fun z => hf (by rw [z]; decide))]; exact hRc f hf
              refine m_istore_n (L' := [some (.ref m), some (.int (nI c9)), some (.int (i_mn (mdF (R 27) (R 33) c9 (wdD (R 27) k)) (od (fun c => R 27 (k - rnL (R 27) k + c)) (R 33) (rnL (R 27) k) c9))), some (.int (nI (rnL (R 27) k))), some (.int (nI k))]) C d_Mo_nearest_76 rfl (by decide) rfl ?_
              refine m_iconst (v := 0) C d_Mo_nearest_77 (by decide) ?_
              refine m_istore_n (L' := [some (.ref m), some (.int (nI c9)), some (.int (i_mn (mdF (R 27) (R 33) c9 (wdD (R 27) k)) (od (fun c => R 27 (k - rnL (R 27) k + c)) (R 33) (rnL (R 27) k) c9))), some (.int 0), some (.int (nI k))]) C d_Mo_nearest_78 rfl (by decide) rfl ?_
              refine m_iinc (v := (nI (k + 1))) (L' := [some (.ref m), some (.int (nI c9)), some (.int (i_mn (mdF (R 27) (R 33) c9 (wdD (R 27) k)) (od (fun c => R 27 (k - rnL (R 27) k + c)) (R 33) (rnL (R 27) k) c9))), some (.int 0), some (.int (nI (k + 1)))]) C d_Mo_nearest_79 rfl (nI_1 k) (by decide) rfl ?_
              refine m_goto (tgt := 8) C d_Mo_nearest_82 (by decide) ?_
              have h4 := ih (nW R + 1 - (k + 1)) (by omega) M8 (k + 1) _ rfl (by omega) hR8 hM8
              rw [wdD, rnL, if_neg hnl, if_neg hnl, if_pos h6] at h4
              exact h4 (fun c h => absurd h (by omega))
          · rw [b2i_eq0, Bool.not_eq_false] at h7
            refine m_aload_n C d_Mo_nearest_43 rfl rfl ?_
            refine m_get C fg_Mo_86 d_Mo_nearest_44 hM2.1 rfl ?_
            refine m_iload_n C d_Mo_nearest_47 rfl rfl ?_
            refine m_aload_n C d_Mo_nearest_48 rfl rfl ?_
            refine m_get C fg_Mo_77 d_Mo_nearest_49 hM2.1 rfl ?_
            refine m_iload C d_Mo_nearest_52 rfl ?_
            refine m_iald (v := .int ((Rc 27) k)) C d_Mo_nearest_54 (hM2.a27) kt_int (nI_pos (by omega)) (by rw [nI_clamp (by omega)]; exact arrL_get (by omega)) ?_
            rw [q27]
            refine m_iastE C d_Mo_nearest_55 (hw _ (Or.inr ⟨32, by decide, rfl⟩)) (hM2.a32) kt_int (nI_pos (by omega)) (by rw [nI_clamp (by omega), arrL_len]; omega) (fun M3 M3a9 M3o => ?_)
            rw [nI_clamp (by omega), arrL_set] at M3a9
            obtain ⟨R3, hR3⟩ : ∃ R3, R3 = uR Rc 32 (rnL (R 27) k) ((R 27 k)) := ⟨_, rfl⟩
            have hM3 : RepM R3 m mr M3 := by rw [hR3]; exact hM2.set (k := 32) (by decide) (by decide) M3a9 M3o
            refine m_iinc (v := (nI (rnL (R 27) k + 1))) (L' := [some (.ref m), some (.int (nI c9)), some (.int (mdF (R 27) (R 33) c9 (wdD (R 27) k))), some (.int (nI (rnL (R 27) k + 1))), some (.int (nI k))]) C d_Mo_nearest_56 rfl (nI_1 _) (by decide) rfl ?_
            refine m_goto (tgt := 79) C d_Mo_nearest_59 (by decide) ?_
            refine m_iinc (v := (nI (k + 1))) (L' := [some (.ref m), some (.int (nI c9)), some (.int (mdF (R 27) (R 33) c9 (wdD (R 27) k))), some (.int (nI (rnL (R 27) k + 1))), some (.int (nI (k + 1)))]) C d_Mo_nearest_79 rfl (nI_1 k) (by decide) rfl ?_
            refine m_goto (tgt := 8) C d_Mo_nearest_82 (by decide) ?_
            have hR39 : scr [32, 34] R R3 := fun f hf => by rw [hR3, uR_n (fun z => hf (by rw [z]; decide))]; exact hRc f hf
            have h4 := ih (nW R + 1 - (k + 1)) (by omega) M3 (k + 1) R3 rfl (by omega) hR39 hM3
            rw [wdD, rnL, if_pos h7, if_pos h7] at h4
            refine h4 (fun c hc => ?_)
            rw [hR3, uR_s, show k + 1 - (rnL (R 27) k + 1) = k - rnL (R 27) k by omega]
            by_cases hcc : c = rnL (R 27) k
            · rw [hcc, fu_s, show k - rnL (R 27) k + rnL (R 27) k = k by omega]
            · rw [fu_n hcc]; exact hA c (by omega)
  exact loop _ M 0 R rfl (Nat.zero_le _) (fun _ _ => rfl) hM (fun c h => absurd h (by show ¬ c < 0; omega))
