/-! ===== arrays of ints as functions; Name.append; Street ===== -/
def fu (f : Nat → Int32) (i : Nat) (v : Int32) : Nat → Int32 := fun j => if j = i then v else f j
def arrL (N : Nat) (f : Nat → Int32) : List Value := (List.range N).map fun i => Value.int (f i)
theorem arrL_len {N : Nat} {f : Nat → Int32} : (arrL N f).length = N := by simp [arrL]
theorem arrL_get {N i : Nat} {f : Nat → Int32} (h : i < N) : (arrL N f)[i]? = some (.int (f i)) := by simp [arrL, List.getElem?_range h]
theorem arrL_set {N i : Nat} {f : Nat → Int32} {v : Int32} : (arrL N f).set i (.int v) = arrL N (fu f i v) := by
  apply List.ext_getElem?
  intro j
  rw [List.getElem?_set, arrL_len]
  by_cases hj : j < N
  · rw [arrL_get hj, arrL_get hj, fu]
    by_cases h : i = j
    · subst h; simp [hj]
    · rw [if_neg h, if_neg (Ne.symm h)]
  · by_cases h : i = j
    · subst h; rw [if_pos rfl, if_neg hj, List.getElem?_eq_none (by rw [arrL_len]; omega)]
    · rw [if_neg h, List.getElem?_eq_none (by rw [arrL_len]; omega), List.getElem?_eq_none (by rw [arrL_len]; omega)]
theorem arrL_congr {N : Nat} {f g : Nat → Int32} (h : ∀ i, i < N → f i = g i) : arrL N f = arrL N g := by
  simp only [arrL]
  exact List.map_congr_left fun i hi => by rw [h i (List.mem_range.mp hi)]
theorem arrL_rep (N : Nat) : List.replicate N (Value.int 0) = arrL N (fun _ => 0) := by
  apply List.ext_getElem?
  intro j
  by_cases hj : j < N
  · rw [arrL_get hj, List.getElem?_replicate, if_pos hj]
  · rw [List.getElem?_eq_none (by simp; omega), List.getElem?_eq_none (by rw [arrL_len]; omega)]
/-- the n signs of a packed long -/
def sgns (p : Int64) (n : Nat) (i : Nat) : List Int32 := (List.range i).map (sgn p n)
theorem sgns_len {p : Int64} {n i : Nat} : (sgns p n i).length = i := by simp [sgns]
theorem sgns_s {p : Int64} {n i : Nat} : sgns p n (i + 1) = sgns p n i ++ [sgn p n i] := by simp [sgns, List.range_succ]
theorem rNa.app {M M1 M2 : ma_H} {a ch : Nat} {l : List Value} {ls : List Int32} {x : Int32} (h : rNa M a ch l ls) (hl : ls.length < 16) (h1 : M2 a = some (.inl (5, [.ref ch, .int (nI (ls.length + 1))]))) (h2 : M2 ch = some (.inr (.char, l.set ls.length (.int x)))) : rNa M2 a ch (l.set ls.length (.int x)) (ls ++ [x]) := by
  obtain ⟨-, -, e3, e4, e5⟩ := h
  refine ⟨by rw [List.length_append]; exact h1, h2, by rw [List.length_set]; exact e3, by rw [List.length_append]; exact hl, fun i y hy => ?_⟩
  rw [List.getElem?_set]
  by_cases hi : ls.length = i
  · subst hi
    rw [if_pos rfl, if_pos (by omega)]
    rw [List.getElem?_append_right (Nat.le_refl _)] at hy
    simp at hy
    rw [hy]
  · rw [if_neg hi]
    by_cases h9 : i < ls.length
    · rw [List.getElem?_append_left h9] at hy
      exact e5 i y hy
    · rw [List.getElem?_append_right (by omega), List.getElem?_eq_none (by simp; omega)] at hy
      cases hy
abbrev stF (ar : Int32) (nr nc rr rc : Nat) (x y tx ty ln cl : Int32) : List Value := [.int ar, .ref nr, .int (nI nc), .ref rr, .int (nI rc), .int x, .int y, .int tx, .int ty, .int ln, .int cl]
/-- the array nr: its first nc places hold the names nm i, with the letters ls i -/
def rNs (M : ma_H) (nr : Nat) (nm ch : Nat → Nat) (ls : Nat → List Int32) (nc : Nat) : Prop := (∃ l, M nr = some (.inr (.object R_Na, l)) ∧ ∀ i, i < nc → l[i]? = some (.ref (nm i))) ∧ ∀ i, i < nc → ∃ l9, rNa M (nm i) (ch i) l9 (ls i)
/-- the array rr: its first rc places hold ranges -/
def rRs (M : ma_H) (rr : Nat) (rg : Nat → Nat) (sd fi la : Nat → Int32) (rc : Nat) : Prop := (∃ l, M rr = some (.inr (.object R_HR, l)) ∧ ∀ i, i < rc → l[i]? = some (.ref (rg i))) ∧ ∀ i, i < rc → M (rg i) = some (.inl (3, [.int (sd i), .int (fi i), .int (la i)]))
/-- the nearest of the first k offers -/
def nhF (h : Int32) (off : Nat → Int32) : Nat → Int32
  | 0 => h
  | k + 1 => if k = 0 ∨ hs_less h (off k) (nhF h off k) = true then off k else nhF h off k
def btw (ln fr to m : Int32) : Int32 := if ln = 0 then fr else fr + f_div (2 * (to - fr) * m + ln) (2 * ln)
theorem tw_ne {ln : Int32} (hln : 0 ≤ ln) (hl2 : ln ≤ 32768) (h : ¬ ln = 0) : ¬ 2 * ln = 0 := by
  intro z
  have h2 : (2 * ln).toInt = 0 := by rw [z]; rfl
  rw [Int32.le_iff_toInt_le] at hln hl2
  rw [Int32.toInt_mul] at h2
  have e1 : (2 : Int32).toInt = 2 := rfl
  have e2 : (32768 : Int32).toInt = 32768 := rfl
  have e3 : (0 : Int32).toInt = 0 := rfl
  rw [e1, Int.bmod_eq_of_le (by omega) (by omega)] at h2
  exact h (Int32.toInt_inj.mp (by omega))
theorem nI_sub1 {n : Nat} (h : 0 < n) : nI n - 1 = nI (n - 1) := by
  obtain ⟨m, rfl⟩ : ∃ m, n = m + 1 := ⟨n - 1, by omega⟩
  rw [show nI (m + 1) = nI m + 1 from (nI_1 m).symm]
  simp

set_option maxHeartbeats 4000000 in
set_option maxRecDepth 100000 in
theorem ct_Na_append (l : Launch) (D : ma_D) (s0 : State) (a ch : Nat) (l9 : List Value) (ls : List Int32) (p : Int64) (n : Nat) (hn : n ≤ 8) (M : ma_H) (ha : rNa M a ch l9 ls) (hl : ls.length + n ≤ 16) : Ct l D s0 y_Na_append c_Na_append 5 none 1 0 0 23 [.ref a, .long p, .int (nI n)] M (fun q => q = a ∨ q = ch) (fun r M' => r = none ∧ ∃ l', rNa M' a ch l' (ls ++ sgns p n n)) := by
  refine Ct_v 1 [some (.ref a), some (.long p), none, some (.int (nI n)), none] (by decide +kernel) (Nat.le_of_ble_eq_true rfl) rfl ?_
  intro G e1 e2 e3 C hw hI Rt
  subst e1; subst e2; subst e3
  refine m_iconst (v := 0) C d_Na_append_0 (by decide) ?_
  refine m_istore (L' := [some (.ref a), some (.long p), none, some (.int (nI n)), some (.int 0)]) C d_Na_append_1 (by decide) rfl ?_
  have loop : ∀ (r : Nat) (M2 : ma_H) (i : Nat) (l2 : List Value), n - i = r → i ≤ n → rNa M2 a ch l2 (ls ++ sgns p n i) → mj G 5 0 0 M2 3 [some (.ref a), some (.long p), none, some (.int (nI n)), some (.int (nI i))] [] := by
    intro r
    induction r using Nat.strongRecOn with
    | ind r ih =>
      intro M2 i l2 hr hi hN
      refine m_iload C d_Na_append_3 rfl ?_
      refine m_iload_n C d_Na_append_5 rfl rfl ?_
      have e1 : nI n ≤ nI i ↔ n ≤ i := nI_leI (by omega) (by omega)
      have eL : (ls ++ sgns p n i).length = ls.length + i := by rw [List.length_append, sgns_len]
      refine m_icmp_ge (tgt := 50) C d_Na_append_6 (by decide) (fun h1 => ?_) (fun h1 => ?_)
      · rw [e1] at h1
        obtain rfl : i = n := by omega
        exact Rt _ _ _ _ _ (by decide) (by decide) d_Na_append_50 (⟨rfl, l2, hN⟩)
      · rw [e1] at h1
        have hN1 : M2 a = some (.inl (5, [.ref ch, .int (nI (ls.length + i))])) := by rw [← eL]; exact hN.1
        refine m_aload_n C d_Na_append_9 rfl rfl ?_
        refine m_get C fg_Na_15 d_Na_append_10 hN1 rfl ?_
        refine m_bipush (v := 16) C d_Na_append_13 (by decide) ?_
        have e2 : ¬ (16 : Int32) ≤ nI (ls.length + i) := by rw [show (16 : Int32) = nI 16 from rfl, nI_leI (by decide) (by omega)]; omega
        refine m_icmp_ge (tgt := 50) C d_Na_append_15 (by decide) (fun h2 => ?_) (fun h2 => ?_)
        · exact absurd h2 e2
        · refine m_aload_n C d_Na_append_18 rfl rfl ?_
          refine m_get C fg_Na_9 d_Na_append_19 hN1 rfl ?_
          refine m_aload_n C d_Na_append_22 rfl rfl ?_
          refine m_get C fg_Na_15 d_Na_append_23 hN1 rfl ?_
          refine m_lload_n C d_Na_append_26 rfl rfl ?_
          refine m_iload_n C d_Na_append_27 rfl rfl ?_
          refine m_iload C d_Na_append_28 rfl ?_
          refine m_callS C d_Na_append_30 mw_Na_19 mst_AW_signAt (ct_AW_signAt _ _ _ p n i hn (by omega) M2) (fun _ h => h.elim) rfl rfl (Nat.le_of_ble_eq_true rfl) (by decide) (fun v9 M9 hp h5 h6 => ?_)
          obtain ⟨rfl, hM9⟩ := hp; rw [hM9]
          show mj G 5 0 0 M2 33 [some (.ref a), some (.long p), none, some (.int (nI n)), some (.int (nI i))] [.int (sgn p n i), .int (nI (ls.length + i)), .ref ch]
          obtain ⟨c, hc, hs⟩ := sgn_lt p n i
          refine m_castE C d_Na_append_33 (hw _ (Or.inr rfl)) hN.2.1 kt_char (nI_pos (by omega)) (by rw [nI_clamp (by omega), hN.2.2.1]; omega) (by rw [hs]; exact nar_c (by omega)) (fun M3 M3a9 M3o => ?_)
          have M3a0 : M3 ch = some (.inr (.char, l2.set (ls.length + i) (.int (sgn p n i)))) := by rw [M3a9, nI_clamp (by omega)]
          have M3_a : M3 a = some (.inl (5, [.ref ch, .int (nI (ls.length + i))])) := (M3o a (ma_ne2 hN1 hN.2.1)).trans hN1
          have M3_ch : M3 ch = some (.inr (.char, l2.set (ls.length + i) (.int (sgn p n i)))) := M3a0
          refine m_aload_n C d_Na_append_34 rfl rfl ?_
          refine m_dup C d_Na_append_35 rfl ?_
          refine m_get C fg_Na_15 d_Na_append_36 M3_a rfl ?_
          refine m_iconst (v := 1) C d_Na_append_39 (by decide) ?_
          refine m_iadd C d_Na_append_40 ?_
          rw [nI_1]
          refine m_putE C fp_Na_15 d_Na_append_41 (hw _ (Or.inl rfl)) M3_a rfl rfl (fun M4 M4a0 M4o => ?_)
          have M4_ch : M4 ch = some (.inr (.char, l2.set (ls.length + i) (.int (sgn p n i)))) := (M4o ch (Ne.symm (ma_ne2 M3_a M3_ch))).trans M3_ch
          have M4_a : M4 a = some (.inl (5, [.ref ch, .int (nI (ls.length + i + 1))])) := M4a0
          refine m_iinc (v := (nI (i + 1))) (L' := [some (.ref a), some (.long p), none, some (.int (nI n)), some (.int (nI (i + 1)))]) C d_Na_append_44 rfl (nI_1 i) (by decide) rfl ?_
          refine m_goto (tgt := 3) C d_Na_append_47 (by decide) ?_
          refine ih (n - (i + 1)) (by omega) M4 (i + 1) (l2.set (ls.length + i) (.int (sgn p n i))) rfl (by omega) ?_
          rw [sgns_s, ← List.append_assoc]
          rw [← eL]; exact rNa.app (M1 := M4) hN (by omega) (by rw [eL]; exact M4_a) (by rw [eL]; exact M4_ch)
  exact loop _ M 0 l9 rfl (Nat.zero_le _) (by simpa [sgns] using ha)

set_option maxHeartbeats 4000000 in
set_option maxRecDepth 100000 in
theorem ct_St_latestName (l : Launch) (D : ma_D) (s0 : State) (a nr nc rr rc : Nat) (ar x y tx ty ln cl : Int32) (b : Nat) (l9 : List Value) (M : ma_H) (ha : M a = some (.inl (9, stF ar nr nc rr rc x y tx ty ln cl))) (hr : M nr = some (.inr (.object R_Na, l9))) (h0 : 0 < nc) (h3 : nc ≤ 3) (hb : l9[nc - 1]? = some (.ref b)) : Ct l D s0 y_St_latestName c_St_latestName 1 (some (.object "AddressWords$Name")) 0 0 0 0 [.ref a] M (fun _ => False) (fun r M' => r = some (.ref b) ∧ M' = M) := by
  refine Ct_a 0 [some (.ref a)] (by decide +kernel) (Nat.le_of_ble_eq_true rfl) rfl ?_
  intro G e1 e2 e3 C hw Rt
  subst e1; subst e2; subst e3
  refine m_aload_n C d_St_latestName_0 rfl rfl ?_
  refine m_get C fg_St_11 d_St_latestName_1 ha rfl ?_
  refine m_aload_n C d_St_latestName_4 rfl rfl ?_
  refine m_get C fg_St_17 d_St_latestName_5 ha rfl ?_
  refine m_iconst (v := 1) C d_St_latestName_8 (by decide) ?_
  refine m_isub C d_St_latestName_9 ?_
  rw [nI_sub1 h0]
  refine m_aald (v := .ref b) C d_St_latestName_10 hr kt_Na rfl (nI_pos (by omega)) (by rw [nI_clamp (by omega)]; exact hb) ?_
  exact Rt _ _ _ _ _ _ (by decide) (by decide) d_St_latestName_11 (⟨rfl, rfl⟩)

set_option maxHeartbeats 4000000 in
set_option maxRecDepth 100000 in
theorem ct_St_draw (l : Launch) (D : ma_D) (s0 : State) (a nr nc rr rc : Nat) (ar x y tx ty ln cl : Int32) (x1 y1 x2 y2 : Int32) (M : ma_H) (ha : M a = some (.inl (9, stF ar nr nc rr rc x y tx ty ln cl))) : Ct l D s0 y_St_draw c_St_draw 5 none 1 0 0 25 [.ref a, .int x1, .int y1, .int x2, .int y2] M (fun q => q = a) (fun r M' => r = none ∧ M' a = some (.inl (9, stF ar nr nc rr rc x1 y1 x2 y2 (w_root (sq_way x1 y1 x2 y2)) cl))) := by
  refine Ct_v 0 [some (.ref a), some (.int x1), some (.int y1), some (.int x2), some (.int y2)] (by decide +kernel) (Nat.le_of_ble_eq_true rfl) rfl ?_
  intro G e1 e2 e3 C hw hI Rt
  subst e1; subst e2; subst e3
  refine m_aload_n C d_St_draw_0 rfl rfl ?_
  refine m_iload_n C d_St_draw_1 rfl rfl ?_
  refine m_putE C fp_St_31 d_St_draw_2 (hw _ rfl) ha rfl rfl (fun M1 M1a0 M1o => ?_)
  have M1_a : M1 a = some (.inl (9, [.int ar, .ref nr, .int (nI nc), .ref rr, .int (nI rc), .int x1, .int y, .int tx, .int ty, .int ln, .int cl])) := M1a0
  refine m_aload_n C d_St_draw_5 rfl rfl ?_
  refine m_iload_n C d_St_draw_6 rfl rfl ?_
  refine m_putE C fp_St_34 d_St_draw_7 (hw _ rfl) M1_a rfl rfl (fun M2 M2a0 M2o => ?_)
  have M2_a : M2 a = some (.inl (9, [.int ar, .ref nr, .int (nI nc), .ref rr, .int (nI rc), .int x1, .int y1, .int tx, .int ty, .int ln, .int cl])) := M2a0
  refine m_aload_n C d_St_draw_10 rfl rfl ?_
  refine m_iload_n C d_St_draw_11 rfl rfl ?_
  refine m_putE C fp_St_37 d_St_draw_12 (hw _ rfl) M2_a rfl rfl (fun M3 M3a0 M3o => ?_)
  have M3_a : M3 a = some (.inl (9, [.int ar, .ref nr, .int (nI nc), .ref rr, .int (nI rc), .int x1, .int y1, .int x2, .int ty, .int ln, .int cl])) := M3a0
  refine m_aload_n C d_St_draw_15 rfl rfl ?_
  refine m_iload C d_St_draw_16 rfl ?_
  refine m_putE C fp_St_40 d_St_draw_18 (hw _ rfl) M3_a rfl rfl (fun M4 M4a0 M4o => ?_)
  have M4_a : M4 a = some (.inl (9, [.int ar, .ref nr, .int (nI nc), .ref rr, .int (nI rc), .int x1, .int y1, .int x2, .int y2, .int ln, .int cl])) := M4a0
  refine m_aload_n C d_St_draw_21 rfl rfl ?_
  refine m_iload_n C d_St_draw_22 rfl rfl ?_
  refine m_iload_n C d_St_draw_23 rfl rfl ?_
  refine m_iload_n C d_St_draw_24 rfl rfl ?_
  refine m_iload C d_St_draw_25 rfl ?_
  refine m_callS C d_St_draw_27 mw_St_43 mst_AW_squareOfWay (ct_AW_squareOfWay _ _ _ x1 y1 x2 y2 M4) (fun _ h => h.elim) rfl rfl (Nat.le_of_ble_eq_true rfl) (by decide) (fun v9 M9 hp h5 h6 => ?_)
  obtain ⟨rfl, hM9⟩ := hp; rw [hM9]
  show mj G 5 0 0 M4 30 [some (.ref a), some (.int x1), some (.int y1), some (.int x2), some (.int y2)] [.int (sq_way x1 y1 x2 y2), .ref a]
  refine m_callS C d_St_draw_30 mw_St_47 mst_AW_wholeRoot (ct_AW_wholeRoot _ _ _ (sq_way x1 y1 x2 y2) M4) (fun _ h => h.elim) rfl rfl (Nat.le_of_ble_eq_true rfl) (by decide) (fun v9 M9 hp h5 h6 => ?_)
  obtain ⟨rfl, hM9⟩ := hp; rw [hM9]
  show mj G 5 0 0 M4 33 [some (.ref a), some (.int x1), some (.int y1), some (.int x2), some (.int y2)] [.int (w_root (sq_way x1 y1 x2 y2)), .ref a]
  refine m_putE C fp_St_51 d_St_draw_33 (hw _ rfl) M4_a rfl rfl (fun M5 M5a0 M5o => ?_)
  have M5_a : M5 a = some (.inl (9, [.int ar, .ref nr, .int (nI nc), .ref rr, .int (nI rc), .int x1, .int y1, .int x2, .int y2, .int (w_root (sq_way x1 y1 x2 y2)), .int cl])) := M5a0
  exact Rt _ _ _ _ _ (by decide) (by decide) d_St_draw_36 (⟨rfl, M5_a⟩)

set_option maxHeartbeats 4000000 in
set_option maxRecDepth 100000 in
theorem ct_St_between (l : Launch) (D : ma_D) (s0 : State) (a nr nc rr rc : Nat) (ar x y tx ty ln cl : Int32) (fr to m : Int32) (M : ma_H) (ha : M a = some (.inl (9, stF ar nr nc rr rc x y tx ty ln cl))) (hln : 0 ≤ ln) (hl2 : ln ≤ 32768) : Ct l D s0 y_St_between c_St_between 4 (some .int) 1 0 0 22 [.ref a, .int fr, .int to, .int m] M (fun _ => False) (pI (btw ln fr to m) M) := by
  refine Ct_i 0 [some (.ref a), some (.int fr), some (.int to), some (.int m)] (by decide +kernel) (Nat.le_of_ble_eq_true rfl) rfl ?_
  intro G e1 e2 e3 C hw Rt
  subst e1; subst e2; subst e3
  refine m_aload_n C d_St_between_0 rfl rfl ?_
  refine m_get C fg_St_51 d_St_between_1 ha rfl ?_
  refine m_if_ne (tgt := 9) C d_St_between_4 (by decide) (fun h1 => ?_) (fun h1 => ?_)
  · refine m_iload_n C d_St_between_9 rfl rfl ?_
    refine m_iconst (v := 2) C d_St_between_10 (by decide) ?_
    refine m_iload_n C d_St_between_11 rfl rfl ?_
    refine m_iload_n C d_St_between_12 rfl rfl ?_
    refine m_isub C d_St_between_13 ?_
    refine m_imul C d_St_between_14 ?_
    refine m_iload_n C d_St_between_15 rfl rfl ?_
    refine m_imul C d_St_between_16 ?_
    refine m_aload_n C d_St_between_17 rfl rfl ?_
    refine m_get C fg_St_51 d_St_between_18 ha rfl ?_
    refine m_iadd C d_St_between_21 ?_
    refine m_iconst (v := 2) C d_St_between_22 (by decide) ?_
    refine m_aload_n C d_St_between_23 rfl rfl ?_
    refine m_get C fg_St_51 d_St_between_24 ha rfl ?_
    refine m_imul C d_St_between_27 ?_
    refine m_callS C d_St_between_28 mw_St_54 mst_Ma_floorDiv (ct_Ma_floorDiv _ _ _ (2 * (to - fr) * m + ln) (2 * ln) (tw_ne hln hl2 h1) M) (fun _ h => h.elim) rfl rfl (Nat.le_of_ble_eq_true rfl) (by decide) (fun v9 M9 hp h5 h6 => ?_)
    obtain ⟨rfl, hM9⟩ := hp; rw [hM9]
    show mj G 4 0 0 M 31 [some (.ref a), some (.int fr), some (.int to), some (.int m)] [.int (f_div (2 * (to - fr) * m + ln) (2 * ln)), .int fr]
    refine m_iadd C d_St_between_31 ?_
    exact Rt _ _ _ _ _ _ (by decide) (by decide) d_St_between_32 (⟨by rw [btw, if_neg h1], rfl⟩)
  · refine m_iload_n C d_St_between_7 rfl rfl ?_
    exact Rt _ _ _ _ _ _ (by decide) (by decide) d_St_between_8 (⟨by rw [btw, if_pos h1], rfl⟩)

set_option maxHeartbeats 4000000 in
set_option maxRecDepth 100000 in
theorem ct_St_nearestHouse (l : Launch) (D : ma_D) (s0 : State) (a nr nc rr rc : Nat) (ar x y tx ty ln cl : Int32) (rg : Nat → Nat) (sd fi la : Nat → Int32) (h : Int32) (M : ma_H) (ha : M a = some (.inl (9, stF ar nr nc rr rc x y tx ty ln cl))) (hr : rRs M rr rg sd fi la rc) (hrc : rc ≤ 6) : Ct l D s0 y_St_nearestHouse c_St_nearestHouse 5 (some .int) 2 0 0 46 [.ref a, .int h] M (fun _ => False) (pI (nhF h (fun i => hs_near (sd i) (fi i) (la i) h) rc) M) := by
  refine Ct_i 3 [some (.ref a), some (.int h), none, none, none] (by decide +kernel) (Nat.le_of_ble_eq_true rfl) rfl ?_
  intro G e1 e2 e3 C hw Rt
  subst e1; subst e2; subst e3
  obtain ⟨⟨l, hl1, hl2⟩, hr2⟩ := hr
  refine m_iload_n C d_St_nearestHouse_0 rfl rfl ?_
  refine m_istore_n (L' := [some (.ref a), some (.int h), some (.int h), none, none]) C d_St_nearestHouse_1 rfl (by decide) rfl ?_
  refine m_iconst (v := 0) C d_St_nearestHouse_2 (by decide) ?_
  refine m_istore_n (L' := [some (.ref a), some (.int h), some (.int h), some (.int 0), none]) C d_St_nearestHouse_3 rfl (by decide) rfl ?_
  have loop : ∀ (r : Nat) (i : Nat) (b : Int32), rc - i = r → i ≤ rc → b = nhF h (fun i => hs_near (sd i) (fi i) (la i) h) i → mj G 5 0 0 M 4 [some (.ref a), some (.int h), some (.int b), some (.int (nI i)), none] [] := by
    intro r
    induction r using Nat.strongRecOn with
    | ind r ih =>
      intro i b hr hi hb
      refine m_iload_n C d_St_nearestHouse_4 rfl rfl ?_
      refine m_aload_n C d_St_nearestHouse_5 rfl rfl ?_
      refine m_get C fg_St_60 d_St_nearestHouse_6 ha rfl ?_
      have e1 : nI rc ≤ nI i ↔ rc ≤ i := nI_leI (by omega) (by omega)
      refine m_icmp_ge (tgt := 47) C d_St_nearestHouse_9 (by decide) (fun h1 => ?_) (fun h1 => ?_)
      · refine m_iload_n C d_St_nearestHouse_47 rfl rfl ?_
        rw [e1] at h1
        obtain rfl : i = rc := by omega
        exact Rt _ _ _ _ _ _ (by decide) (by decide) d_St_nearestHouse_48 (⟨by rw [hb], rfl⟩)
      · rw [e1] at h1
        refine m_aload_n C d_St_nearestHouse_12 rfl rfl ?_
        refine m_get C fg_St_23 d_St_nearestHouse_13 ha rfl ?_
        refine m_iload_n C d_St_nearestHouse_16 rfl rfl ?_
        refine m_aald (v := .ref (rg i)) C d_St_nearestHouse_17 hl1 kt_HR rfl (nI_pos (by omega)) (by rw [nI_clamp (by omega)]; exact hl2 i (by omega)) ?_
        refine m_iload_n C d_St_nearestHouse_18 rfl rfl ?_
        refine m_callV (ci := 3) C d_St_nearestHouse_19 mw_St_66 mi_HR_nearestTo se_HR_nearestTo rfl (ct_HR_nearestTo _ _ _ (rg i) (sd i) (fi i) (la i) h M (hr2 i (by omega))) (fun _ h => h.elim) rfl rfl (Nat.le_of_ble_eq_true rfl) (hr2 i (by omega)) (by decide) (fun v9 M9 hp h5 h6 => ?_)
        obtain ⟨rfl, hM9⟩ := hp; rw [hM9]
        show mj G 5 0 0 M 22 [some (.ref a), some (.int h), some (.int b), some (.int (nI i)), none] [.int (hs_near (sd i) (fi i) (la i) h)]
        refine m_istore (L' := [some (.ref a), some (.int h), some (.int b), some (.int (nI i)), some (.int (hs_near (sd i) (fi i) (la i) h))]) C d_St_nearestHouse_22 (by decide) rfl ?_
        refine m_iload_n C d_St_nearestHouse_24 rfl rfl ?_
        have e2 : nI i = 0 ↔ i = 0 := nI_eq (a := i) (b := 0) (by omega) (by decide)
        refine m_if_eq (tgt := 38) C d_St_nearestHouse_25 (by decide) (fun h2 => ?_) (fun h2 => ?_)
        · refine m_iload C d_St_nearestHouse_38 rfl ?_
          refine m_istore_n (L' := [some (.ref a), some (.int h), some (.int (hs_near (sd i) (fi i) (la i) h)), some (.int (nI i)), some (.int (hs_near (sd i) (fi i) (la i) h))]) C d_St_nearestHouse_40 rfl (by decide) rfl ?_
          refine m_iinc (v := (nI (i + 1))) (L' := [some (.ref a), some (.int h), some (.int (hs_near (sd i) (fi i) (la i) h)), some (.int (nI (i + 1))), some (.int (hs_near (sd i) (fi i) (la i) h))]) C d_St_nearestHouse_41 rfl (nI_1 i) (by decide) rfl ?_
          refine m_goto (tgt := 4) C d_St_nearestHouse_44 (by decide) ?_
          refine mj_L (L' := [some (.ref a), some (.int h), some (.int (hs_near (sd i) (fi i) (la i) h)), some (.int (nI (i + 1))), none]) ?_ (ih (rc - (i + 1)) (by omega) (i + 1) _ rfl (by omega) (by rw [nhF, if_pos (Or.inl (e2.mp h2))]))
          intro q v hv; rcases q with _ | _ | _ | _ | _ | q <;> simp_all
        · refine m_iload_n C d_St_nearestHouse_28 rfl rfl ?_
          refine m_iload C d_St_nearestHouse_29 rfl ?_
          refine m_iload_n C d_St_nearestHouse_31 rfl rfl ?_
          refine m_callS C d_St_nearestHouse_32 mw_St_69 mst_St_isNearer (ct_St_isNearer _ _ _ h (hs_near (sd i) (fi i) (la i) h) b M) (fun _ h => h.elim) rfl rfl (Nat.le_of_ble_eq_true rfl) (by decide) (fun v9 M9 hp h5 h6 => ?_)
          obtain ⟨rfl, hM9⟩ := hp; rw [hM9]
          show mj G 5 0 0 M 35 [some (.ref a), some (.int h), some (.int b), some (.int (nI i)), some (.int (hs_near (sd i) (fi i) (la i) h))] [.int (b2i (hs_less h (hs_near (sd i) (fi i) (la i) h) b))]
          refine m_if_eq (tgt := 41) C d_St_nearestHouse_35 (by decide) (fun h3 => ?_) (fun h3 => ?_)
          · refine m_iinc (v := (nI (i + 1))) (L' := [some (.ref a), some (.int h), some (.int b), some (.int (nI (i + 1))), some (.int (hs_near (sd i) (fi i) (la i) h))]) C d_St_nearestHouse_41 rfl (nI_1 i) (by decide) rfl ?_
            refine m_goto (tgt := 4) C d_St_nearestHouse_44 (by decide) ?_
            refine mj_L (L' := [some (.ref a), some (.int h), some (.int b), some (.int (nI (i + 1))), none]) ?_ (ih (rc - (i + 1)) (by omega) (i + 1) _ rfl (by omega) (by rw [nhF, if_neg]; exact hb; rw [b2i_eq0] at h3; rw [e2] at h2; rw [hb] at h3; rintro (z | z); exact h2 z; rw [h3] at z; cases z))
            intro q v hv; rcases q with _ | _ | _ | _ | _ | q <;> simp_all
          · refine m_iload C d_St_nearestHouse_38 rfl ?_
            refine m_istore_n (L' := [some (.ref a), some (.int h), some (.int (hs_near (sd i) (fi i) (la i) h)), some (.int (nI i)), some (.int (hs_near (sd i) (fi i) (la i) h))]) C d_St_nearestHouse_40 rfl (by decide) rfl ?_
            refine m_iinc (v := (nI (i + 1))) (L' := [some (.ref a), some (.int h), some (.int (hs_near (sd i) (fi i) (la i) h)), some (.int (nI (i + 1))), some (.int (hs_near (sd i) (fi i) (la i) h))]) C d_St_nearestHouse_41 rfl (nI_1 i) (by decide) rfl ?_
            refine m_goto (tgt := 4) C d_St_nearestHouse_44 (by decide) ?_
            refine mj_L (L' := [some (.ref a), some (.int h), some (.int (hs_near (sd i) (fi i) (la i) h)), some (.int (nI (i + 1))), none]) ?_ (ih (rc - (i + 1)) (by omega) (i + 1) _ rfl (by omega) (by rw [nhF, if_pos]; rw [b2i_eq0] at h3; right; rw [← hb]; simpa using h3))
            intro q v hv; rcases q with _ | _ | _ | _ | _ | q <;> simp_all
  refine mj_L (L' := [some (.ref a), some (.int h), some (.int h), some (.int (nI 0)), none]) ?_ (loop _ 0 h rfl (Nat.zero_le _) rfl)
  intro q v hv; exact hv

set_option maxHeartbeats 4000000 in
set_option maxRecDepth 100000 in
theorem ct_St_hasHouse (l : Launch) (D : ma_D) (s0 : State) (a nr nc rr rc : Nat) (ar x y tx ty ln cl : Int32) (rg : Nat → Nat) (sd fi la : Nat → Int32) (h : Int32) (M : ma_H) (ha : M a = some (.inl (9, stF ar nr nc rr rc x y tx ty ln cl))) (hr : rRs M rr rg sd fi la rc) (hrc : rc ≤ 6) : Ct l D s0 y_St_hasHouse c_St_hasHouse 2 (some .boolean) 3 0 0 70 [.ref a, .int h] M (fun _ => False) (pI (b2i (decide (0 < rc ∧ nhF h (fun i => hs_near (sd i) (fi i) (la i) h) rc = h))) M) := by
  refine Ct_z 0 [some (.ref a), some (.int h)] (by decide +kernel) (Nat.le_of_ble_eq_true rfl) rfl ?_
  intro G e1 e2 e3 C hw Rt
  subst e1; subst e2; subst e3
  refine m_aload_n C d_St_hasHouse_0 rfl rfl ?_
  refine m_get C fg_St_60 d_St_hasHouse_1 ha rfl ?_
  have e0 : nI rc ≤ 0 ↔ ¬ 0 < rc := by rw [show (0 : Int32) = nI 0 from rfl, nI_leI (by omega) (by decide)]; omega
  refine m_if_le (tgt := 20) C d_St_hasHouse_4 (by decide) (fun h1 => ?_) (fun h1 => ?_)
  · refine m_iconst (v := 0) C d_St_hasHouse_20 (by decide) ?_
    exact Rt _ _ _ _ _ _ (by decide) (by decide) (by decide) d_St_hasHouse_21 (⟨by rw [e0] at h1; simp [b2i, h1], rfl⟩)
  · rw [e0, Classical.not_not] at h1
    refine m_aload_n C d_St_hasHouse_7 rfl rfl ?_
    refine m_iload_n C d_St_hasHouse_8 rfl rfl ?_
    refine m_callV (ci := 9) C d_St_hasHouse_9 mw_St_63 mi_St_nearestHouse se_St_nearestHouse rfl (ct_St_nearestHouse _ _ _ a nr nc rr rc ar x y tx ty ln cl rg sd fi la h M ha hr hrc) (fun _ h => h.elim) rfl rfl (Nat.le_of_ble_eq_true rfl) ha (by decide) (fun v9 M9 hp h5 h6 => ?_)
    obtain ⟨rfl, hM9⟩ := hp; rw [hM9]
    show mj G 2 0 0 M 12 [some (.ref a), some (.int h)] [.int (nhF h (fun i => hs_near (sd i) (fi i) (la i) h) rc)]
    refine m_iload_n C d_St_hasHouse_12 rfl rfl ?_
    refine m_icmp_ne (tgt := 20) C d_St_hasHouse_13 (by decide) (fun h2 => ?_) (fun h2 => ?_)
    · refine m_iconst (v := 0) C d_St_hasHouse_20 (by decide) ?_
      exact Rt _ _ _ _ _ _ (by decide) (by decide) (by decide) d_St_hasHouse_21 (⟨by simp [b2i, h1, h2], rfl⟩)
    · refine m_iconst (v := 1) C d_St_hasHouse_16 (by decide) ?_
      refine m_goto (tgt := 21) C d_St_hasHouse_17 (by decide) ?_
      exact Rt _ _ _ _ _ _ (by decide) (by decide) (by decide) d_St_hasHouse_21 (⟨by simp [b2i, h1, h2], rfl⟩)

set_option maxHeartbeats 4000000 in
set_option maxRecDepth 100000 in
theorem ct_St_hasName (l : Launch) (D : ma_D) (s0 : State) (a nr nc rr rc : Nat) (ar x y tx ty ln cl : Int32) (nm ch : Nat → Nat) (ls : Nat → List Int32) (b cb : Nat) (lb : List Value) (bs : List Int32) (M : ma_H) (ha : M a = some (.inl (9, stF ar nr nc rr rc x y tx ty ln cl))) (hn : rNs M nr nm ch ls nc) (hnc : nc ≤ 3) (hb : rNa M b cb lb bs) : Ct l D s0 y_St_hasName c_St_hasName 3 (some .boolean) 1 0 0 22 [.ref a, .ref b] M (fun _ => False) (pI (b2i (decide (bs.length ≠ 0 ∧ ∃ i, i < nc ∧ ls i = bs))) M) := by
  refine Ct_z 1 [some (.ref a), some (.ref b), none] (by decide +kernel) (Nat.le_of_ble_eq_true rfl) rfl ?_
  intro G e1 e2 e3 C hw Rt
  subst e1; subst e2; subst e3
  obtain ⟨⟨l, hl1, hl2⟩, hn2⟩ := hn
  refine m_aload_n C d_St_hasName_0 rfl rfl ?_
  refine m_callV (ci := 5) C d_St_hasName_1 mw_St_80 mi_Na_isEmpty se_Na_isEmpty rfl (ct_Na_isEmpty _ _ _ b cb lb bs M hb) (fun _ h => h.elim) rfl rfl (Nat.le_of_ble_eq_true rfl) hb.1 (by decide) (fun v9 M9 hp h5 h6 => ?_)
  obtain ⟨rfl, hM9⟩ := hp; rw [hM9]
  show mj G 3 0 0 M 4 [some (.ref a), some (.ref b), none] [.int (b2i (decide (bs.length = 0)))]
  refine m_if_eq (tgt := 9) C d_St_hasName_4 (by decide) (fun h1 => ?_) (fun h1 => ?_)
  · rw [b2i_eq0, decide_eq_false_iff_not] at h1
    refine m_iconst (v := 0) C d_St_hasName_9 (by decide) ?_
    refine m_istore_n (L' := [some (.ref a), some (.ref b), some (.int 0)]) C d_St_hasName_10 rfl (by decide) rfl ?_
    have loop : ∀ (r : Nat) (i : Nat), nc - i = r → i ≤ nc → (∀ j, j < i → ls j ≠ bs) → mj G 3 0 0 M 11 [some (.ref a), some (.ref b), some (.int (nI i))] [] := by
      intro r
      induction r using Nat.strongRecOn with
      | ind r ih =>
        intro i hr hi hj
        refine m_iload_n C d_St_hasName_11 rfl rfl ?_
        refine m_aload_n C d_St_hasName_12 rfl rfl ?_
        refine m_get C fg_St_17 d_St_hasName_13 ha rfl ?_
        have e1 : nI nc ≤ nI i ↔ nc ≤ i := nI_leI (by omega) (by omega)
        refine m_icmp_ge (tgt := 40) C d_St_hasName_16 (by decide) (fun h2 => ?_) (fun h2 => ?_)
        · refine m_iconst (v := 0) C d_St_hasName_40 (by decide) ?_
          exact Rt _ _ _ _ _ _ (by decide) (by decide) (by decide) d_St_hasName_41 (⟨by rw [e1] at h2; have : ¬ ∃ i, i < nc ∧ ls i = bs := fun ⟨j, q1, q2⟩ => hj j (by omega) q2; simp [b2i, this], rfl⟩)
        · rw [e1] at h2
          refine m_aload_n C d_St_hasName_19 rfl rfl ?_
          refine m_get C fg_St_11 d_St_hasName_20 ha rfl ?_
          refine m_iload_n C d_St_hasName_23 rfl rfl ?_
          refine m_aald (v := .ref (nm i)) C d_St_hasName_24 hl1 kt_Na rfl (nI_pos (by omega)) (by rw [nI_clamp (by omega)]; exact hl2 i (by omega)) ?_
          refine m_aload_n C d_St_hasName_25 rfl rfl ?_
          obtain ⟨l9, hN⟩ := hn2 i (by omega)
          refine m_callV (ci := 5) C d_St_hasName_26 mw_St_84 mi_Na_isSameAs se_Na_isSameAs rfl (ct_Na_isSameAs _ _ _ (nm i) (ch i) l9 (ls i) b cb lb bs M hN hb) (fun _ h => h.elim) rfl rfl (Nat.le_of_ble_eq_true rfl) hN.1 (by decide) (fun v9 M9 hp h5 h6 => ?_)
          obtain ⟨rfl, hM9⟩ := hp; rw [hM9]
          show mj G 3 0 0 M 29 [some (.ref a), some (.ref b), some (.int (nI i))] [.int (b2i (decide (ls i = bs)))]
          refine m_if_eq (tgt := 34) C d_St_hasName_29 (by decide) (fun h3 => ?_) (fun h3 => ?_)
          · rw [b2i_eq0, decide_eq_false_iff_not] at h3
            refine m_iinc (v := (nI (i + 1))) (L' := [some (.ref a), some (.ref b), some (.int (nI (i + 1)))]) C d_St_hasName_34 rfl (nI_1 i) (by decide) rfl ?_
            refine m_goto (tgt := 11) C d_St_hasName_37 (by decide) ?_
            exact ih (nc - (i + 1)) (by omega) (i + 1) rfl (by omega) (fun j hj9 => by by_cases q : j = i; rw [q]; exact h3; exact hj j (by omega))
          · refine m_iconst (v := 1) C d_St_hasName_32 (by decide) ?_
            exact Rt _ _ _ _ _ _ (by decide) (by decide) (by decide) d_St_hasName_33 (⟨by rw [b2i_eq0] at h3; have : bs.length ≠ 0 ∧ ∃ i, i < nc ∧ ls i = bs := ⟨h1, i, by omega, by simpa using h3⟩; rw [decide_eq_true this]; rfl, rfl⟩)
    exact loop _ 0 rfl (Nat.zero_le _) (fun j h => absurd h (by omega))
  · refine m_iconst (v := 0) C d_St_hasName_7 (by decide) ?_
    exact Rt _ _ _ _ _ _ (by decide) (by decide) (by decide) d_St_hasName_8 (⟨by rw [b2i_eq0] at h1; have : bs.length = 0 := (by simpa using h1); simp [b2i, this], rfl⟩)

set_option maxHeartbeats 4000000 in
set_option maxRecDepth 100000 in
theorem ct_St_sharesNameWith (l : Launch) (D : ma_D) (s0 : State) (a nr nc rr rc : Nat) (ar x y tx ty ln cl : Int32) (nm ch : Nat → Nat) (ls : Nat → List Int32) (a2 nr2 nc2 rr2 rc2 : Nat) (ar2 x2 y2 tx2 ty2 ln2 cl2 : Int32) (nm2 ch2 : Nat → Nat) (ls2 : Nat → List Int32) (M : ma_H) (ha : M a = some (.inl (9, stF ar nr nc rr rc x y tx ty ln cl))) (hn : rNs M nr nm ch ls nc) (hnc : nc ≤ 3) (ha2 : M a2 = some (.inl (9, stF ar2 nr2 nc2 rr2 rc2 x2 y2 tx2 ty2 ln2 cl2))) (hn2 : rNs M nr2 nm2 ch2 ls2 nc2) (hnc2 : nc2 ≤ 3) : Ct l D s0 y_St_sharesNameWith c_St_sharesNameWith 3 (some .boolean) 2 0 0 44 [.ref a, .ref a2] M (fun _ => False) (pI (b2i (decide (∃ i, i < nc ∧ (ls i).length ≠ 0 ∧ ∃ j, j < nc2 ∧ ls2 j = ls i))) M) := by
  refine Ct_z 1 [some (.ref a), some (.ref a2), none] (by decide +kernel) (Nat.le_of_ble_eq_true rfl) rfl ?_
  intro G e1 e2 e3 C hw Rt
  subst e1; subst e2; subst e3
  obtain ⟨⟨l, hl1, hl2⟩, hm2⟩ := hn
  refine m_iconst (v := 0) C d_St_sharesNameWith_0 (by decide) ?_
  refine m_istore_n (L' := [some (.ref a), some (.ref a2), some (.int 0)]) C d_St_sharesNameWith_1 rfl (by decide) rfl ?_
  have loop : ∀ (r : Nat) (i : Nat), nc - i = r → i ≤ nc → (∀ j, j < i → ¬ ((ls j).length ≠ 0 ∧ ∃ q, q < nc2 ∧ ls2 q = ls j)) → mj G 3 0 0 M 2 [some (.ref a), some (.ref a2), some (.int (nI i))] [] := by
    intro r
    induction r using Nat.strongRecOn with
    | ind r ih =>
      intro i hr hi hj
      refine m_iload_n C d_St_sharesNameWith_2 rfl rfl ?_
      refine m_aload_n C d_St_sharesNameWith_3 rfl rfl ?_
      refine m_get C fg_St_17 d_St_sharesNameWith_4 ha rfl ?_
      have e1 : nI nc ≤ nI i ↔ nc ≤ i := nI_leI (by omega) (by omega)
      refine m_icmp_ge (tgt := 31) C d_St_sharesNameWith_7 (by decide) (fun h2 => ?_) (fun h2 => ?_)
      · refine m_iconst (v := 0) C d_St_sharesNameWith_31 (by decide) ?_
        exact Rt _ _ _ _ _ _ (by decide) (by decide) (by decide) d_St_sharesNameWith_32 (⟨by rw [e1] at h2; have : ¬ ∃ i, i < nc ∧ (ls i).length ≠ 0 ∧ ∃ j, j < nc2 ∧ ls2 j = ls i := fun ⟨j, q1, q2⟩ => hj j (by omega) q2; rw [decide_eq_false this]; rfl, rfl⟩)
      · rw [e1] at h2
        refine m_aload_n C d_St_sharesNameWith_10 rfl rfl ?_
        refine m_aload_n C d_St_sharesNameWith_11 rfl rfl ?_
        refine m_get C fg_St_11 d_St_sharesNameWith_12 ha rfl ?_
        refine m_iload_n C d_St_sharesNameWith_15 rfl rfl ?_
        refine m_aald (v := .ref (nm i)) C d_St_sharesNameWith_16 hl1 kt_Na rfl (nI_pos (by omega)) (by rw [nI_clamp (by omega)]; exact hl2 i (by omega)) ?_
        obtain ⟨l9, hN⟩ := hm2 i (by omega)
        refine m_callV (ci := 9) C d_St_sharesNameWith_17 mw_St_76 mi_St_hasName se_St_hasName rfl (ct_St_hasName _ _ _ a2 nr2 nc2 rr2 rc2 ar2 x2 y2 tx2 ty2 ln2 cl2 nm2 ch2 ls2 (nm i) (ch i) l9 (ls i) M ha2 hn2 hnc2 hN) (fun _ h => h.elim) rfl rfl (Nat.le_of_ble_eq_true rfl) ha2 (by decide) (fun v9 M9 hp h5 h6 => ?_)
        obtain ⟨rfl, hM9⟩ := hp; rw [hM9]
        show mj G 3 0 0 M 20 [some (.ref a), some (.ref a2), some (.int (nI i))] [.int (b2i (decide ((ls i).length ≠ 0 ∧ ∃ q, q < nc2 ∧ ls2 q = ls i)))]
        refine m_if_eq (tgt := 25) C d_St_sharesNameWith_20 (by decide) (fun h3 => ?_) (fun h3 => ?_)
        · rw [b2i_eq0, decide_eq_false_iff_not] at h3
          refine m_iinc (v := (nI (i + 1))) (L' := [some (.ref a), some (.ref a2), some (.int (nI (i + 1)))]) C d_St_sharesNameWith_25 rfl (nI_1 i) (by decide) rfl ?_
          refine m_goto (tgt := 2) C d_St_sharesNameWith_28 (by decide) ?_
          exact ih (nc - (i + 1)) (by omega) (i + 1) rfl (by omega) (fun j hj9 => by by_cases q : j = i; rw [q]; exact h3; exact hj j (by omega))
        · refine m_iconst (v := 1) C d_St_sharesNameWith_23 (by decide) ?_
          exact Rt _ _ _ _ _ _ (by decide) (by decide) (by decide) d_St_sharesNameWith_24 (⟨by rw [b2i_eq0] at h3; have : ∃ i, i < nc ∧ (ls i).length ≠ 0 ∧ ∃ j, j < nc2 ∧ ls2 j = ls i := ⟨i, by omega, of_decide_eq_true (by simpa using h3)⟩; rw [decide_eq_true this]; rfl, rfl⟩)
  exact loop _ 0 rfl (Nat.zero_le _) (fun j h => absurd h (by omega))
