/-! ===== AddressWords$Name ===== -/
/-- a Name at a, its letters ls in the array ch -/
def rNa (M : ma_H) (a ch : Nat) (l : List Value) (ls : List Int32) : Prop := M a = some (.inl (5, [.ref ch, .int (nI ls.length)])) ∧ M ch = some (.inr (.char, l)) ∧ l.length = 16 ∧ ls.length ≤ 16 ∧ ∀ (i : Nat) (x : Int32), ls[i]? = some x → l[i]? = some (.int x)
theorem rNa.ne {M : ma_H} {a ch : Nat} {l : List Value} {ls : List Int32} (h : rNa M a ch l ls) : a ≠ ch := by
  rintro rfl
  have := h.1.symm.trans h.2.1
  cases this

set_option maxHeartbeats 4000000 in
set_option maxRecDepth 100000 in
theorem ct_Na_isEmpty (l : Launch) (D : ma_D) (s0 : State) (a ch : Nat) (l9 : List Value) (ls : List Int32) (M : ma_H) (ha : rNa M a ch l9 ls) : Ct l D s0 y_Na_isEmpty c_Na_isEmpty 1 (some .boolean) 0 0 0 0 [.ref a] M (fun _ => False) (pI (b2i (decide (ls.length = 0))) M) := by
  refine Ct_z 0 [some (.ref a)] (by decide +kernel) (Nat.le_of_ble_eq_true rfl) rfl ?_
  intro G e1 e2 e3 C hw Rt
  subst e1; subst e2; subst e3
  obtain ⟨h1, h2, h3, h4, h5⟩ := ha
  refine m_aload_n C d_Na_isEmpty_0 rfl rfl ?_
  refine m_get C fg_Na_15 d_Na_isEmpty_1 h1 rfl ?_
  have e0 : nI ls.length = 0 ↔ ls.length = 0 := nI_eq (a := ls.length) (b := 0) (by omega) (by decide)
  refine m_if_ne (tgt := 11) C d_Na_isEmpty_4 (by decide) (fun h9 => ?_) (fun h9 => ?_)
  · refine m_iconst (v := 0) C d_Na_isEmpty_11 (by decide) ?_
    exact Rt _ _ _ _ _ _ (Nat.le_refl _) (Nat.le_refl _) (by decide) d_Na_isEmpty_12 ⟨by rw [e0] at h9; simp [b2i, h9], rfl⟩
  · refine m_iconst (v := 1) C d_Na_isEmpty_7 (by decide) ?_
    refine m_goto (tgt := 12) C d_Na_isEmpty_8 (by decide) ?_
    exact Rt _ _ _ _ _ _ (Nat.le_refl _) (Nat.le_refl _) (by decide) d_Na_isEmpty_12 ⟨by rw [e0] at h9; simp [b2i, h9], rfl⟩

set_option maxHeartbeats 4000000 in
set_option maxRecDepth 100000 in
theorem ct_Na_hasRoomFor (l : Launch) (D : ma_D) (s0 : State) (a ch : Nat) (l9 : List Value) (ls : List Int32) (n : Nat) (hn : n ≤ 8) (M : ma_H) (ha : rNa M a ch l9 ls) : Ct l D s0 y_Na_hasRoomFor c_Na_hasRoomFor 2 (some .boolean) 0 0 0 0 [.ref a, .int (nI n)] M (fun _ => False) (pI (b2i (decide (ls.length + n ≤ 16))) M) := by
  refine Ct_z 0 [some (.ref a), some (.int (nI n))] (by decide +kernel) (Nat.le_of_ble_eq_true rfl) rfl ?_
  intro G e1 e2 e3 C hw Rt
  subst e1; subst e2; subst e3
  obtain ⟨h1, h2, h3, h4, h5⟩ := ha
  refine m_aload_n C d_Na_hasRoomFor_0 rfl rfl ?_
  refine m_get C fg_Na_15 d_Na_hasRoomFor_1 h1 rfl ?_
  refine m_iload_n C d_Na_hasRoomFor_4 rfl rfl ?_
  refine m_iadd C d_Na_hasRoomFor_5 ?_
  refine m_bipush (v := 16) C d_Na_hasRoomFor_6 (by decide) ?_
  have e0 : 16 < nI ls.length + nI n ↔ ¬ ls.length + n ≤ 16 := by rw [nI_add, show (16 : Int32) = nI 16 from rfl, nI_ltI (by decide) (by omega)]; omega
  refine m_icmp_gt (tgt := 15) C d_Na_hasRoomFor_8 (by decide) (fun h9 => ?_) (fun h9 => ?_)
  · refine m_iconst (v := 0) C d_Na_hasRoomFor_15 (by decide) ?_
    exact Rt _ _ _ _ _ _ (Nat.le_refl _) (Nat.le_refl _) (by decide) d_Na_hasRoomFor_16 ⟨by rw [e0] at h9; simp [b2i, h9], rfl⟩
  · refine m_iconst (v := 1) C d_Na_hasRoomFor_11 (by decide) ?_
    refine m_goto (tgt := 16) C d_Na_hasRoomFor_12 (by decide) ?_
    exact Rt _ _ _ _ _ _ (Nat.le_refl _) (Nat.le_refl _) (by decide) d_Na_hasRoomFor_16 ⟨by rw [e0] at h9; simp [b2i, Classical.not_not.mp h9], rfl⟩

set_option maxHeartbeats 4000000 in
set_option maxRecDepth 100000 in
theorem ct_Na_isSameAs (l : Launch) (D : ma_D) (s0 : State) (a ch : Nat) (l9 : List Value) (ls : List Int32) (b ch2 : Nat) (l2 : List Value) (ls2 : List Int32) (M : ma_H) (ha : rNa M a ch l9 ls) (hb : rNa M b ch2 l2 ls2) : Ct l D s0 y_Na_isSameAs c_Na_isSameAs 3 (some .boolean) 0 0 0 0 [.ref a, .ref b] M (fun _ => False) (pI (b2i (decide (ls = ls2))) M) := by
  refine Ct_z 1 [some (.ref a), some (.ref b), none] (by decide +kernel) (Nat.le_of_ble_eq_true rfl) rfl ?_
  intro G e1 e2 e3 C hw Rt
  subst e1; subst e2; subst e3
  obtain ⟨h1, h2, h3, h4, h5⟩ := ha
  obtain ⟨g1, g2, g3, g4, g5⟩ := hb
  refine m_aload_n C d_Na_isSameAs_0 rfl rfl ?_
  refine m_get C fg_Na_15 d_Na_isSameAs_1 h1 rfl ?_
  refine m_aload_n C d_Na_isSameAs_4 rfl rfl ?_
  refine m_get C fg_Na_15 d_Na_isSameAs_5 g1 rfl ?_
  have e0 : nI ls.length = nI ls2.length ↔ ls.length = ls2.length := nI_eq (by omega) (by omega)
  refine m_icmp_eq (tgt := 13) C d_Na_isSameAs_8 (by decide) (fun h9 => ?_) (fun h9 => ?_)
  · rw [e0] at h9
    refine m_iconst (v := 0) C d_Na_isSameAs_13 (by decide) ?_
    refine m_istore_n (L' := [some (.ref a), some (.ref b), some (.int 0)]) C d_Na_isSameAs_14 rfl (by decide) rfl ?_
    have loop : ∀ (r : Nat) (i : Nat), ls.length - i = r → i ≤ ls.length → (∀ j, j < i → ls[j]? = ls2[j]?) → mj G 3 0 0 M 15 [some (.ref a), some (.ref b), some (.int (nI i))] [] := by
      intro r
      induction r using Nat.strongRecOn with
      | ind r ih =>
        intro i hr hi hj
        refine m_iload_n C d_Na_isSameAs_15 rfl rfl ?_
        refine m_aload_n C d_Na_isSameAs_16 rfl rfl ?_
        refine m_get C fg_Na_15 d_Na_isSameAs_17 h1 rfl ?_
        have e1 : nI ls.length ≤ nI i ↔ ls.length ≤ i := nI_leI (by omega) (by omega)
        refine m_icmp_ge (tgt := 46) C d_Na_isSameAs_20 (by decide) (fun h8 => ?_) (fun h8 => ?_)
        · refine m_iconst (v := 1) C d_Na_isSameAs_46 (by decide) ?_
          exact Rt _ _ _ _ _ _ (Nat.le_refl _) (Nat.le_refl _) (by decide) d_Na_isSameAs_47 ⟨by rw [e1] at h8; have : ls = ls2 := List.ext_getElem? fun j => (by by_cases q : j < i; exact hj j q; rw [List.getElem?_eq_none (by omega), List.getElem?_eq_none (by omega)]); simp [b2i, this], rfl⟩
        · rw [e1] at h8
          obtain ⟨x, hx⟩ : ∃ x, ls[i]? = some x := ⟨_, List.getElem?_eq_getElem (by omega)⟩
          obtain ⟨y, hy⟩ : ∃ y, ls2[i]? = some y := ⟨_, List.getElem?_eq_getElem (by omega)⟩
          refine m_aload_n C d_Na_isSameAs_23 rfl rfl ?_
          refine m_get C fg_Na_9 d_Na_isSameAs_24 h1 rfl ?_
          refine m_iload_n C d_Na_isSameAs_27 rfl rfl ?_
          refine m_cald C d_Na_isSameAs_28 h2 kt_char (nI_pos (by omega)) (by rw [nI_clamp (by omega)]; exact h5 i x hx) ?_
          refine m_aload_n C d_Na_isSameAs_29 rfl rfl ?_
          refine m_get C fg_Na_9 d_Na_isSameAs_30 g1 rfl ?_
          refine m_iload_n C d_Na_isSameAs_33 rfl rfl ?_
          refine m_cald C d_Na_isSameAs_34 g2 kt_char (nI_pos (by omega)) (by rw [nI_clamp (by omega)]; exact g5 i y hy) ?_
          refine m_icmp_eq (tgt := 40) C d_Na_isSameAs_35 (by decide) (fun h7 => ?_) (fun h7 => ?_)
          · subst h7
            refine m_iinc (v := nI (i + 1)) (L' := [some (.ref a), some (.ref b), some (.int (nI (i + 1)))]) C d_Na_isSameAs_40 rfl (nI_1 i) (by decide) rfl ?_
            refine m_goto (tgt := 15) C d_Na_isSameAs_43 (by decide) ?_
            exact ih (ls.length - (i + 1)) (by omega) (i + 1) rfl (by omega) (lt_s hj (hx.trans hy.symm))
          · refine m_iconst (v := 0) C d_Na_isSameAs_38 (by decide) ?_
            exact Rt _ _ _ _ _ _ (Nat.le_refl _) (Nat.le_refl _) (by decide) d_Na_isSameAs_39 ⟨by have : ls ≠ ls2 := fun z => h7 (by rw [z, hy] at hx; exact (Option.some.inj hx).symm); simp [b2i, this], rfl⟩
    exact loop _ 0 rfl (Nat.zero_le _) lt_0
  · refine m_iconst (v := 0) C d_Na_isSameAs_11 (by decide) ?_
    exact Rt _ _ _ _ _ _ (Nat.le_refl _) (Nat.le_refl _) (by decide) d_Na_isSameAs_12 ⟨by rw [e0] at h9; have : ls ≠ ls2 := fun z => h9 (by rw [z]); simp [b2i, this], rfl⟩
