/-! ===== what is required; Street(); forgetPlaces ===== -/
def tn (v : Int32) : Nat := v.toNatClampNeg
theorem tn_nI {n : Nat} (h : n < 2 ^ 31) : tn (nI n) = n := nI_clamp h
theorem tn_of {v : Int32} (h : 0 ≤ v) : v = nI (tn v) ∧ tn v < 2 ^ 31 := by
  obtain ⟨n, hn, rfl⟩ := wb_of32 v
  by_cases h2 : n < 2 ^ 31
  · rw [tn_nI h2]; exact ⟨rfl, h2⟩
  · exfalso
    rw [Int32.le_iff_toInt_le] at h
    have e3 : (0 : Int32).toInt = 0 := rfl
    have e4 : (nI n).toInt = (n : Int).bmod (2 ^ 32) := by
      show (Int32.ofNat n).toInt = _
      simp
    rw [e3, e4, Int.bmod_def] at h
    omega
theorem tn_le {v : Int32} {N : Nat} (h : 0 ≤ v) (hN : N < 2 ^ 31) (h2 : v ≤ nI N) : tn v ≤ N := by
  have h3 := tn_of h
  rw [h3.1, nI_leI h3.2 hN] at h2
  exact h2
/-- v lies from a to b -/
def inn (v a b : Int32) : Bool := decide (a ≤ v) && decide (v ≤ b)
def gdL (p : Int64) (n : Int32) : Prop := inn n 1 8 = true ∧ ∀ i, i < tn n → is_l (sgn p (tn n) i) = true
def is_s (c : Int32) : Bool := is_l c || is_d c || decide (c = 32)
def gdS (p : Int64) (n : Int32) : Prop := ∀ i, i < tn n → is_s (sgn p (tn n) i) = true
def gdH (s lo hi : Int32) : Prop := inn s 0 2 = true ∧ inn lo 1 9999 = true ∧ inn hi 1 9999 = true ∧ hs_first s lo ≤ hs_last s hi
def gdP (x y : Int32) : Prop := inn x (-9999) 9999 = true ∧ inn y (-9999) 9999 = true
theorem inn_t {v a b : Int32} (h1 : ¬ v < a) (h2 : v ≤ b) : inn v a b = true := by simp [inn, Int32.not_lt.mp h1, h2]
theorem inn_l {v a b : Int32} (h1 : v < a) : ¬ inn v a b = true := by simp [inn, Int32.not_le.mpr h1]
theorem inn_r {v a b : Int32} (h1 : ¬ v ≤ b) : ¬ inn v a b = true := by simp [inn, h1]
theorem inn_i {v a b : Int32} (h : inn v a b = true) : a ≤ v ∧ v ≤ b := by simpa [inn] using h
theorem inn8 {n : Int32} (h : inn n 0 8 = true) : ∃ m : Nat, m ≤ 8 ∧ n = nI m := ⟨tn n, tn_le (inn_i h).1 (by decide) (inn_i h).2, (tn_of (inn_i h).1).1⟩

set_option maxHeartbeats 4000000 in
set_option maxRecDepth 100000 in
theorem ct_AW_requireHouse (l : Launch) (D : ma_D) (s0 : State) (h : Int32) (M : ma_H) : Cx l D s0 y_AW_requireHouse c_AW_requireHouse 1 none 6 1 6 82 [.int h] M (fun _ => False) (fun r M' => r = none ∧ M' = M ∧ inn h 1 9999 = true) (fun E M' => E = x_IO ∧ M' = M ∧ ¬ inn h 1 9999 = true) := by
  refine Cx_gen 0 [some (.int h)] (by decide +kernel) (Nat.le_of_ble_eq_true rfl) rfl ?_
  intro G e1 e2 e3 C hw Rt Th Up
  subst e1; subst e2; subst e3
  refine m_iload_n C d_AW_requireHouse_0 rfl rfl ?_
  refine m_iconst (v := 1) C d_AW_requireHouse_1 (by decide) ?_
  refine m_icmp_lt (tgt := 12) C d_AW_requireHouse_2 (by decide) (fun h1 => ?_) (fun h1 => ?_)
  · exact Th _ _ _ _ _ _ _ _ _ _ xw_AW_55 sr_AW_384 d_AW_requireHouse_12 d_AW_requireHouse_15 (Or.inr ⟨d_AW_requireHouse_16, d_AW_requireHouse_19, d_AW_requireHouse_22⟩) (by decide) (by decide) (by decide) (by decide) (⟨rfl, rfl, inn_l h1⟩)
  · refine m_iload_n C d_AW_requireHouse_5 rfl rfl ?_
    refine m_sipush (v := 9999) C d_AW_requireHouse_6 (by decide) ?_
    refine m_icmp_le (tgt := 23) C d_AW_requireHouse_9 (by decide) (fun h2 => ?_) (fun h2 => ?_)
    · exact Rt _ _ _ _ _ _ _ (by decide) (by decide) (⟨rfl, rfl, inn_t h1 h2⟩) (Or.inr (Or.inl ⟨rfl, rfl, rfl, d_AW_requireHouse_23⟩))
    · exact Th _ _ _ _ _ _ _ _ _ _ xw_AW_55 sr_AW_384 d_AW_requireHouse_12 d_AW_requireHouse_15 (Or.inr ⟨d_AW_requireHouse_16, d_AW_requireHouse_19, d_AW_requireHouse_22⟩) (by decide) (by decide) (by decide) (by decide) (⟨rfl, rfl, inn_r h2⟩)

set_option maxHeartbeats 4000000 in
set_option maxRecDepth 100000 in
theorem ct_AW_requirePoint (l : Launch) (D : ma_D) (s0 : State) (x y : Int32) (M : ma_H) : Cx l D s0 y_AW_requirePoint c_AW_requirePoint 2 none 6 1 6 82 [.int x, .int y] M (fun _ => False) (fun r M' => r = none ∧ M' = M ∧ gdP x y) (fun E M' => E = x_IO ∧ M' = M ∧ ¬ gdP x y) := by
  refine Cx_gen 0 [some (.int x), some (.int y)] (by decide +kernel) (Nat.le_of_ble_eq_true rfl) rfl ?_
  intro G e1 e2 e3 C hw Rt Th Up
  subst e1; subst e2; subst e3
  refine m_iload_n C d_AW_requirePoint_0 rfl rfl ?_
  refine m_sipush (v := (-9999)) C d_AW_requirePoint_1 (by decide) ?_
  refine m_icmp_lt (tgt := 28) C d_AW_requirePoint_4 (by decide) (fun h1 => ?_) (fun h1 => ?_)
  · exact Th _ _ _ _ _ _ _ _ _ _ xw_AW_55 sr_AW_386 d_AW_requirePoint_28 d_AW_requirePoint_31 (Or.inr ⟨d_AW_requirePoint_32, d_AW_requirePoint_35, d_AW_requirePoint_38⟩) (by decide) (by decide) (by decide) (by decide) (⟨rfl, rfl, fun z => inn_l h1 z.1⟩)
  · refine m_iload_n C d_AW_requirePoint_7 rfl rfl ?_
    refine m_sipush (v := 9999) C d_AW_requirePoint_8 (by decide) ?_
    refine m_icmp_gt (tgt := 28) C d_AW_requirePoint_11 (by decide) (fun h2 => ?_) (fun h2 => ?_)
    · exact Th _ _ _ _ _ _ _ _ _ _ xw_AW_55 sr_AW_386 d_AW_requirePoint_28 d_AW_requirePoint_31 (Or.inr ⟨d_AW_requirePoint_32, d_AW_requirePoint_35, d_AW_requirePoint_38⟩) (by decide) (by decide) (by decide) (by decide) (⟨rfl, rfl, fun z => inn_r (Int32.not_le.mpr h2) z.1⟩)
    · refine m_iload_n C d_AW_requirePoint_14 rfl rfl ?_
      refine m_sipush (v := (-9999)) C d_AW_requirePoint_15 (by decide) ?_
      refine m_icmp_lt (tgt := 28) C d_AW_requirePoint_18 (by decide) (fun h3 => ?_) (fun h3 => ?_)
      · exact Th _ _ _ _ _ _ _ _ _ _ xw_AW_55 sr_AW_386 d_AW_requirePoint_28 d_AW_requirePoint_31 (Or.inr ⟨d_AW_requirePoint_32, d_AW_requirePoint_35, d_AW_requirePoint_38⟩) (by decide) (by decide) (by decide) (by decide) (⟨rfl, rfl, fun z => inn_l h3 z.2⟩)
      · refine m_iload_n C d_AW_requirePoint_21 rfl rfl ?_
        refine m_sipush (v := 9999) C d_AW_requirePoint_22 (by decide) ?_
        refine m_icmp_le (tgt := 39) C d_AW_requirePoint_25 (by decide) (fun h4 => ?_) (fun h4 => ?_)
        · exact Rt _ _ _ _ _ _ _ (by decide) (by decide) (⟨rfl, rfl, inn_t h1 (Int32.not_lt.mp h2), inn_t h3 h4⟩) (Or.inr (Or.inl ⟨rfl, rfl, rfl, d_AW_requirePoint_39⟩))
        · exact Th _ _ _ _ _ _ _ _ _ _ xw_AW_55 sr_AW_386 d_AW_requirePoint_28 d_AW_requirePoint_31 (Or.inr ⟨d_AW_requirePoint_32, d_AW_requirePoint_35, d_AW_requirePoint_38⟩) (by decide) (by decide) (by decide) (by decide) (⟨rfl, rfl, fun z => inn_r h4 z.2⟩)

set_option maxHeartbeats 4000000 in
set_option maxRecDepth 100000 in
theorem ct_AW_requireMetres (l : Launch) (D : ma_D) (s0 : State) (a nr nc rr rc : Nat) (ar x y tx ty ln cl : Int32) (m : Int32) (M : ma_H) (ha : M a = some (.inl (9, stF ar nr nc rr rc x y tx ty ln cl))) : Cx l D s0 y_AW_requireMetres c_AW_requireMetres 2 none 6 1 6 82 [.ref a, .int m] M (fun _ => False) (fun r M' => r = none ∧ M' = M ∧ inn m 0 ln = true) (fun E M' => E = x_IO ∧ M' = M ∧ ¬ inn m 0 ln = true) := by
  refine Cx_gen 0 [some (.ref a), some (.int m)] (by decide +kernel) (Nat.le_of_ble_eq_true rfl) rfl ?_
  intro G e1 e2 e3 C hw Rt Th Up
  subst e1; subst e2; subst e3
  refine m_iload_n C d_AW_requireMetres_0 rfl rfl ?_
  refine m_if_lt (tgt := 12) C d_AW_requireMetres_1 (by decide) (fun h1 => ?_) (fun h1 => ?_)
  · exact Th _ _ _ _ _ _ _ _ _ _ xw_AW_55 sr_AW_388 d_AW_requireMetres_12 d_AW_requireMetres_15 (Or.inr ⟨d_AW_requireMetres_16, d_AW_requireMetres_19, d_AW_requireMetres_22⟩) (by decide) (by decide) (by decide) (by decide) (⟨rfl, rfl, inn_l h1⟩)
  · refine m_iload_n C d_AW_requireMetres_4 rfl rfl ?_
    refine m_aload_n C d_AW_requireMetres_5 rfl rfl ?_
    refine m_get C fg_AW_142 d_AW_requireMetres_6 ha rfl ?_
    refine m_icmp_le (tgt := 23) C d_AW_requireMetres_9 (by decide) (fun h2 => ?_) (fun h2 => ?_)
    · exact Rt _ _ _ _ _ _ _ (by decide) (by decide) (⟨rfl, rfl, inn_t h1 h2⟩) (Or.inr (Or.inl ⟨rfl, rfl, rfl, d_AW_requireMetres_23⟩))
    · exact Th _ _ _ _ _ _ _ _ _ _ xw_AW_55 sr_AW_388 d_AW_requireMetres_12 d_AW_requireMetres_15 (Or.inr ⟨d_AW_requireMetres_16, d_AW_requireMetres_19, d_AW_requireMetres_22⟩) (by decide) (by decide) (by decide) (by decide) (⟨rfl, rfl, inn_r h2⟩)

set_option maxHeartbeats 4000000 in
set_option maxRecDepth 100000 in
theorem ct_AW_requireHouses (l : Launch) (D : ma_D) (s0 : State) (s lo hi : Int32) (M : ma_H) : Cx l D s0 y_AW_requireHouses c_AW_requireHouses 3 none 7 3 18 102 [.int s, .int lo, .int hi] M (fun _ => False) (fun r M' => r = none ∧ M' = M ∧ gdH s lo hi) (fun E M' => E = x_IO ∧ M' = M ∧ ¬ gdH s lo hi) := by
  refine Cx_gen 0 [some (.int s), some (.int lo), some (.int hi)] (by decide +kernel) (Nat.le_of_ble_eq_true rfl) rfl ?_
  intro G e1 e2 e3 C hw Rt Th Up
  subst e1; subst e2; subst e3
  refine m_iload_n C d_AW_requireHouses_0 rfl rfl ?_
  refine m_if_lt (tgt := 9) C d_AW_requireHouses_1 (by decide) (fun h1 => ?_) (fun h1 => ?_)
  · exact Th _ _ _ _ _ _ _ _ _ _ xw_AW_55 sr_AW_374 d_AW_requireHouses_9 d_AW_requireHouses_12 (Or.inr ⟨d_AW_requireHouses_13, d_AW_requireHouses_16, d_AW_requireHouses_19⟩) (by decide) (by decide) (by decide) (by decide) (⟨rfl, rfl, fun z => inn_l h1 z.1⟩)
  · refine m_iload_n C d_AW_requireHouses_4 rfl rfl ?_
    refine m_iconst (v := 2) C d_AW_requireHouses_5 (by decide) ?_
    refine m_icmp_le (tgt := 20) C d_AW_requireHouses_6 (by decide) (fun h2 => ?_) (fun h2 => ?_)
    · refine m_iload_n C d_AW_requireHouses_20 rfl rfl ?_
      refine m_callSX C d_AW_requireHouses_21 ml_AW_147 mw_AW_147 mst_AW_requireHouse (ct_AW_requireHouse _ _ _ lo M) (fun _ h => h.elim) rfl rfl (Nat.le_of_ble_eq_true rfl) (by decide) (fun v9 M9 hp h5 h6 => ?_) (fun E9 M9 hp h5 h6 => ?_)
      · obtain ⟨rfl, hM9, hc⟩ := hp; rw [hM9]
        show mj G 3 (0 + 1) (0 + 6) M 24 [some (.int s), some (.int lo), some (.int hi)] []
        refine m_iload_n C d_AW_requireHouses_24 rfl rfl ?_
        refine m_callSX C d_AW_requireHouses_25 ml_AW_147 mw_AW_147 mst_AW_requireHouse (ct_AW_requireHouse _ _ _ hi M) (fun _ h => h.elim) rfl rfl (Nat.le_of_ble_eq_true rfl) (by decide) (fun v8 M8 hp h5 h6 => ?_) (fun E8 M8 hp h5 h6 => ?_)
        · obtain ⟨rfl, hM8, hd⟩ := hp; rw [hM8]
          show mj G 3 (0 + 1 + 1) (0 + 6 + 6) M 28 [some (.int s), some (.int lo), some (.int hi)] []
          refine m_iload_n C d_AW_requireHouses_28 rfl rfl ?_
          refine m_iload_n C d_AW_requireHouses_29 rfl rfl ?_
          refine m_callS C d_AW_requireHouses_30 mw_AW_376 mst_HR_firstFrom (ct_HR_firstFrom _ _ _ s lo M) (fun _ h => h.elim) rfl rfl (Nat.le_of_ble_eq_true rfl) (by decide) (fun v7 M7 hp h5 h6 => ?_)
          obtain ⟨rfl, hM7⟩ := hp; rw [hM7]
          show mj G 3 (0 + 1 + 1 + 0) (0 + 6 + 6 + 0) M 33 [some (.int s), some (.int lo), some (.int hi)] [.int (hs_first s lo)]
          refine m_iload_n C d_AW_requireHouses_33 rfl rfl ?_
          refine m_iload_n C d_AW_requireHouses_34 rfl rfl ?_
          refine m_callS C d_AW_requireHouses_35 mw_AW_379 mst_HR_lastTo (ct_HR_lastTo _ _ _ s hi M) (fun _ h => h.elim) rfl rfl (Nat.le_of_ble_eq_true rfl) (by decide) (fun v7 M7 hp h5 h6 => ?_)
          obtain ⟨rfl, hM7⟩ := hp; rw [hM7]
          show mj G 3 (0 + 1 + 1 + 0) (0 + 6 + 6 + 0) M 38 [some (.int s), some (.int lo), some (.int hi)] [.int (hs_last s hi), .int (hs_first s lo)]
          refine m_icmp_le (tgt := 52) C d_AW_requireHouses_38 (by decide) (fun h9 => ?_) (fun h9 => ?_)
          · exact Rt _ _ _ _ _ _ _ (by decide) (by decide) (⟨rfl, rfl, inn_t h1 h2, hc, hd, h9⟩) (Or.inr (Or.inl ⟨rfl, rfl, rfl, d_AW_requireHouses_52⟩))
          · exact Th _ _ _ _ _ _ _ _ _ _ xw_AW_55 sr_AW_382 d_AW_requireHouses_41 d_AW_requireHouses_44 (Or.inr ⟨d_AW_requireHouses_45, d_AW_requireHouses_48, d_AW_requireHouses_51⟩) (by decide) (by decide) (by decide) (by decide) (⟨rfl, rfl, fun z => h9 z.2.2.2⟩)
        · obtain ⟨rfl, hM8, hd⟩ := hp; rw [hM8]
          exact Up _ _ _ _ _ _ (by decide) (by decide) (⟨rfl, rfl, fun z => hd z.2.2.1⟩)
      · obtain ⟨rfl, hM9, hc⟩ := hp; rw [hM9]
        exact Up _ _ _ _ _ _ (by decide) (by decide) (⟨rfl, rfl, fun z => hc z.2.1⟩)
    · exact Th _ _ _ _ _ _ _ _ _ _ xw_AW_55 sr_AW_374 d_AW_requireHouses_9 d_AW_requireHouses_12 (Or.inr ⟨d_AW_requireHouses_13, d_AW_requireHouses_16, d_AW_requireHouses_19⟩) (by decide) (by decide) (by decide) (by decide) (⟨rfl, rfl, fun z => inn_r h2 z.1⟩)

set_option maxHeartbeats 4000000 in
set_option maxRecDepth 100000 in
theorem ct_AW_requireLetters (l : Launch) (D : ma_D) (s0 : State) (p : Int64) (n : Int32) (M : ma_H) : Cx l D s0 y_AW_requireLetters c_AW_requireLetters 4 none 6 1 6 82 [.long p, .int n] M (fun _ => False) (fun r M' => r = none ∧ M' = M ∧ gdL p n) (fun E M' => E = x_IO ∧ M' = M ∧ ¬ gdL p n) := by
  refine Cx_gen 1 [some (.long p), none, some (.int n), none] (by decide +kernel) (Nat.le_of_ble_eq_true rfl) rfl ?_
  intro G e1 e2 e3 C hw Rt Th Up
  subst e1; subst e2; subst e3
  refine m_iload_n C d_AW_requireLetters_0 rfl rfl ?_
  refine m_iconst (v := 1) C d_AW_requireLetters_1 (by decide) ?_
  refine m_icmp_lt (tgt := 11) C d_AW_requireLetters_2 (by decide) (fun h1 => ?_) (fun h1 => ?_)
  · exact Th _ _ _ _ _ _ _ _ _ _ xw_AW_55 sr_AW_357 d_AW_requireLetters_11 d_AW_requireLetters_14 (Or.inr ⟨d_AW_requireLetters_15, d_AW_requireLetters_18, d_AW_requireLetters_21⟩) (by decide) (by decide) (by decide) (by decide) (⟨rfl, rfl, fun z => inn_l h1 z.1⟩)
  · refine m_iload_n C d_AW_requireLetters_5 rfl rfl ?_
    refine m_bipush (v := 8) C d_AW_requireLetters_6 (by decide) ?_
    refine m_icmp_le (tgt := 22) C d_AW_requireLetters_8 (by decide) (fun h2 => ?_) (fun h2 => ?_)
    · have hin : inn n 1 8 = true := inn_t h1 h2
      obtain ⟨m, hm, rfl⟩ := inn8 (inn_t (a := 0) (b := 8) (fun z => h1 (Int32.lt_trans z (by decide))) h2)
      have htn : tn (nI m) = m := tn_nI (by omega)
      refine m_iconst (v := 0) C d_AW_requireLetters_22 (by decide) ?_
      refine m_istore_n (L' := [some (.long p), none, some (.int (nI m)), some (.int 0)]) C d_AW_requireLetters_23 rfl (by decide) rfl ?_
      have loop : ∀ (rk : Nat) (i : Nat), m - i = rk → i ≤ m → (∀ j, j < i → is_l (sgn p m j) = true) → mj G 4 0 0 M 24 [some (.long p), none, some (.int (nI m)), some (.int (nI i))] [] := by
        intro rk
        induction rk using Nat.strongRecOn with
        | ind rk ih =>
          intro i hr hi hj
          refine m_iload_n C d_AW_requireLetters_24 rfl rfl ?_
          refine m_iload_n C d_AW_requireLetters_25 rfl rfl ?_
          have e1 : nI m ≤ nI i ↔ m ≤ i := nI_leI (by omega) (by omega)
          refine m_icmp_ge (tgt := 58) C d_AW_requireLetters_26 (by decide) (fun h3 => ?_) (fun h3 => ?_)
          · exact Rt _ _ _ _ _ _ _ (by decide) (by decide) (⟨rfl, rfl, hin, by rw [htn]; intro j hj9; exact hj j (by have := e1.mp h3; omega)⟩) (Or.inr (Or.inl ⟨rfl, rfl, rfl, d_AW_requireLetters_58⟩))
          · rw [e1] at h3
            refine m_lload_n C d_AW_requireLetters_29 rfl rfl ?_
            refine m_iload_n C d_AW_requireLetters_30 rfl rfl ?_
            refine m_iload_n C d_AW_requireLetters_31 rfl rfl ?_
            refine m_callS C d_AW_requireLetters_32 mw_AW_359 mst_AW_signAt (ct_AW_signAt _ _ _ p m i hm (by omega) M) (fun _ h => h.elim) rfl rfl (Nat.le_of_ble_eq_true rfl) (by decide) (fun v9 M9 hp h5 h6 => ?_)
            obtain ⟨rfl, hM9⟩ := hp; rw [hM9]
            show mj G 4 0 0 M 35 [some (.long p), none, some (.int (nI m)), some (.int (nI i))] [.int (sgn p m i)]
            refine m_callS C d_AW_requireLetters_35 mw_AW_363 mst_AW_isLetter (ct_AW_isLetter _ _ _ (sgn p m i) M) (fun _ h => h.elim) rfl rfl (Nat.le_of_ble_eq_true rfl) (by decide) (fun v9 M9 hp h5 h6 => ?_)
            obtain ⟨rfl, hM9⟩ := hp; rw [hM9]
            show mj G 4 0 0 M 38 [some (.long p), none, some (.int (nI m)), some (.int (nI i))] [.int (b2i (is_l (sgn p m i)))]
            refine m_if_ne (tgt := 52) C d_AW_requireLetters_38 (by decide) (fun h4 => ?_) (fun h4 => ?_)
            · rw [b2i_eq0, Bool.not_eq_false] at h4
              refine m_iinc (v := (nI (i + 1))) (L' := [some (.long p), none, some (.int (nI m)), some (.int (nI (i + 1)))]) C d_AW_requireLetters_52 rfl (nI_1 i) (by decide) rfl ?_
              refine m_goto (tgt := 24) C d_AW_requireLetters_55 (by decide) ?_
              exact ih (m - (i + 1)) (by omega) (i + 1) rfl (by omega) (fun j hj9 => by by_cases q : j = i; rw [q]; exact h4; exact hj j (by omega))
            · rw [b2i_eq0] at h4
              exact Th _ _ _ _ _ _ _ _ _ _ xw_AW_55 sr_AW_367 d_AW_requireLetters_41 d_AW_requireLetters_44 (Or.inr ⟨d_AW_requireLetters_45, d_AW_requireLetters_48, d_AW_requireLetters_51⟩) (by decide) (by decide) (by decide) (by decide) (⟨rfl, rfl, fun z => by have := z.2 i (by rw [htn]; omega); rw [htn, h4] at this; cases this⟩)
      exact loop _ 0 rfl (Nat.zero_le _) (fun j h => absurd h (by omega))
    · exact Th _ _ _ _ _ _ _ _ _ _ xw_AW_55 sr_AW_357 d_AW_requireLetters_11 d_AW_requireLetters_14 (Or.inr ⟨d_AW_requireLetters_15, d_AW_requireLetters_18, d_AW_requireLetters_21⟩) (by decide) (by decide) (by decide) (by decide) (⟨rfl, rfl, fun z => inn_r h2 z.1⟩)

set_option maxHeartbeats 4000000 in
set_option maxRecDepth 100000 in
theorem ct_AW_requireSigns (l : Launch) (D : ma_D) (s0 : State) (p : Int64) (m : Nat) (hm : m ≤ 8) (M : ma_H) : Cx l D s0 y_AW_requireSigns c_AW_requireSigns 5 none 6 1 6 82 [.long p, .int (nI m)] M (fun _ => False) (fun r M' => r = none ∧ M' = M ∧ gdS p (nI m)) (fun E M' => E = x_IO ∧ M' = M ∧ ¬ gdS p (nI m)) := by
  refine Cx_gen 2 [some (.long p), none, some (.int (nI m)), none, none] (by decide +kernel) (Nat.le_of_ble_eq_true rfl) rfl ?_
  intro G e1 e2 e3 C hw Rt Th Up
  subst e1; subst e2; subst e3
  have htn : tn (nI m) = m := tn_nI (by omega)
  refine m_iconst (v := 0) C d_AW_requireSigns_0 (by decide) ?_
  refine m_istore_n (L' := [some (.long p), none, some (.int (nI m)), some (.int 0), none]) C d_AW_requireSigns_1 rfl (by decide) rfl ?_
  have loop : ∀ (rk : Nat) (i : Nat), m - i = rk → i ≤ m → (∀ j, j < i → is_s (sgn p m j) = true) → mj G 5 0 0 M 2 [some (.long p), none, some (.int (nI m)), some (.int (nI i)), none] [] := by
    intro rk
    induction rk using Nat.strongRecOn with
    | ind rk ih =>
      intro i hr hi hj
      refine m_iload_n C d_AW_requireSigns_2 rfl rfl ?_
      refine m_iload_n C d_AW_requireSigns_3 rfl rfl ?_
      have e1 : nI m ≤ nI i ↔ m ≤ i := nI_leI (by omega) (by omega)
      refine m_icmp_ge (tgt := 55) C d_AW_requireSigns_4 (by decide) (fun h3 => ?_) (fun h3 => ?_)
      · exact Rt _ _ _ _ _ _ _ (by decide) (by decide) (⟨rfl, rfl, by intro j hj9; rw [htn] at hj9 ⊢; exact hj j (by have := e1.mp h3; omega)⟩) (Or.inr (Or.inl ⟨rfl, rfl, rfl, d_AW_requireSigns_55⟩))
      · rw [e1] at h3
        refine m_lload_n C d_AW_requireSigns_7 rfl rfl ?_
        refine m_iload_n C d_AW_requireSigns_8 rfl rfl ?_
        refine m_iload_n C d_AW_requireSigns_9 rfl rfl ?_
        refine m_callS C d_AW_requireSigns_10 mw_AW_359 mst_AW_signAt (ct_AW_signAt _ _ _ p m i hm (by omega) M) (fun _ h => h.elim) rfl rfl (Nat.le_of_ble_eq_true rfl) (by decide) (fun v9 M9 hp h5 h6 => ?_)
        obtain ⟨rfl, hM9⟩ := hp; rw [hM9]
        show mj G 5 0 0 M 13 [some (.long p), none, some (.int (nI m)), some (.int (nI i)), none] [.int (sgn p m i)]
        refine m_istore (L' := [some (.long p), none, some (.int (nI m)), some (.int (nI i)), some (.int (sgn p m i))]) C d_AW_requireSigns_13 (by decide) rfl ?_
        refine m_iload C d_AW_requireSigns_15 rfl ?_
        refine m_callS C d_AW_requireSigns_17 mw_AW_363 mst_AW_isLetter (ct_AW_isLetter _ _ _ (sgn p m i) M) (fun _ h => h.elim) rfl rfl (Nat.le_of_ble_eq_true rfl) (by decide) (fun v9 M9 hp h5 h6 => ?_)
        obtain ⟨rfl, hM9⟩ := hp; rw [hM9]
        show mj G 5 0 0 M 20 [some (.long p), none, some (.int (nI m)), some (.int (nI i)), some (.int (sgn p m i))] [.int (b2i (is_l (sgn p m i)))]
        refine m_if_ne (tgt := 49) C d_AW_requireSigns_20 (by decide) (fun h4 => ?_) (fun h4 => ?_)
        · refine m_iinc (v := (nI (i + 1))) (L' := [some (.long p), none, some (.int (nI m)), some (.int (nI (i + 1))), some (.int (sgn p m i))]) C d_AW_requireSigns_49 rfl (nI_1 i) (by decide) rfl ?_
          refine m_goto (tgt := 2) C d_AW_requireSigns_52 (by decide) ?_
          refine mj_L (L' := [some (.long p), none, some (.int (nI m)), some (.int (nI (i + 1))), none]) (fun q v hv => by rcases q with _ | _ | _ | _ | _ | q <;> simp_all) (ih (m - (i + 1)) (by omega) (i + 1) rfl (by omega) (fun j hj9 => by by_cases q : j = i; rw [q]; rw [b2i_eq0, Bool.not_eq_false] at h4; simp [is_s, h4]; exact hj j (by omega)))
        · rw [b2i_eq0] at h4
          refine m_iload C d_AW_requireSigns_23 rfl ?_
          refine m_callS C d_AW_requireSigns_25 mw_AW_369 mst_AW_isDigit (ct_AW_isDigit _ _ _ (sgn p m i) M) (fun _ h => h.elim) rfl rfl (Nat.le_of_ble_eq_true rfl) (by decide) (fun v9 M9 hp h5 h6 => ?_)
          obtain ⟨rfl, hM9⟩ := hp; rw [hM9]
          show mj G 5 0 0 M 28 [some (.long p), none, some (.int (nI m)), some (.int (nI i)), some (.int (sgn p m i))] [.int (b2i (is_d (sgn p m i)))]
          refine m_if_ne (tgt := 49) C d_AW_requireSigns_28 (by decide) (fun h5 => ?_) (fun h5 => ?_)
          · refine m_iinc (v := (nI (i + 1))) (L' := [some (.long p), none, some (.int (nI m)), some (.int (nI (i + 1))), some (.int (sgn p m i))]) C d_AW_requireSigns_49 rfl (nI_1 i) (by decide) rfl ?_
            refine m_goto (tgt := 2) C d_AW_requireSigns_52 (by decide) ?_
            refine mj_L (L' := [some (.long p), none, some (.int (nI m)), some (.int (nI (i + 1))), none]) (fun q v hv => by rcases q with _ | _ | _ | _ | _ | q <;> simp_all) (ih (m - (i + 1)) (by omega) (i + 1) rfl (by omega) (fun j hj9 => by by_cases q : j = i; rw [q]; rw [b2i_eq0, Bool.not_eq_false] at h5; simp [is_s, h5]; exact hj j (by omega)))
          · rw [b2i_eq0] at h5
            refine m_iload C d_AW_requireSigns_31 rfl ?_
            refine m_bipush (v := 32) C d_AW_requireSigns_33 (by decide) ?_
            refine m_icmp_eq (tgt := 49) C d_AW_requireSigns_35 (by decide) (fun h6 => ?_) (fun h6 => ?_)
            · refine m_iinc (v := (nI (i + 1))) (L' := [some (.long p), none, some (.int (nI m)), some (.int (nI (i + 1))), some (.int (sgn p m i))]) C d_AW_requireSigns_49 rfl (nI_1 i) (by decide) rfl ?_
              refine m_goto (tgt := 2) C d_AW_requireSigns_52 (by decide) ?_
              refine mj_L (L' := [some (.long p), none, some (.int (nI m)), some (.int (nI (i + 1))), none]) (fun q v hv => by rcases q with _ | _ | _ | _ | _ | q <;> simp_all) (ih (m - (i + 1)) (by omega) (i + 1) rfl (by omega) (fun j hj9 => by by_cases q : j = i; rw [q]; simp [is_s, h6]; exact hj j (by omega)))
            · exact Th _ _ _ _ _ _ _ _ _ _ xw_AW_55 sr_AW_372 d_AW_requireSigns_38 d_AW_requireSigns_41 (Or.inr ⟨d_AW_requireSigns_42, d_AW_requireSigns_45, d_AW_requireSigns_48⟩) (by decide) (by decide) (by decide) (by decide) (⟨rfl, rfl, fun z => by have := z i (by rw [htn]; omega); rw [htn, is_s, h4, h5] at this; simp [h6] at this⟩)
  exact loop _ 0 rfl (Nat.zero_le _) (fun j h => absurd h (by omega))
