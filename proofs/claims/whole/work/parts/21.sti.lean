/-! ===== Street(area); forgetPlaces ===== -/
def rNn (M : ma_H) (nm ch : Nat → Nat) (k : Nat) : Prop := (∀ j, j < k → rNa M (nm j) (ch j) (List.replicate 16 (.int 0)) []) ∧ ∀ j j', j < k → j' < k → (nm j = nm j' → j = j') ∧ (ch j = ch j' → j = j')
theorem rNa_E {M : ma_H} {a ch : Nat} (h1 : M a = some (.inl (5, [.ref ch, .int (nI 0)]))) (h2 : M ch = some (.inr (.char, List.replicate 16 (.int 0)))) : rNa M a ch (List.replicate 16 (.int 0)) [] := ⟨h1, h2, rfl, by decide, fun i x h => by simp at h⟩
theorem rNn.next {M M1 : ma_H} {nm ch : Nat → Nat} {k a c : Nat} (h : rNn M nm ch k) (hs : ∀ q, M q ≠ none → q ≠ a → q ≠ c → M1 q = M q) (ha : M a = none) (hc : M c = none) (hN : rNa M1 a c (List.replicate 16 (.int 0)) []) : rNn M1 (fun j => if j = k then a else nm j) (fun j => if j = k then c else ch j) (k + 1) := by
  have hn : ∀ j, j < k → nm j ≠ a ∧ nm j ≠ c ∧ ch j ≠ a ∧ ch j ≠ c := fun j hj => ⟨ma_nef (h.1 j hj).1 ha, ma_nef (h.1 j hj).1 hc, ma_nef (h.1 j hj).2.1 ha, ma_nef (h.1 j hj).2.1 hc⟩
  refine ⟨fun j hj => ?_, fun j j' hj hj' => ⟨fun e => ?_, fun e => ?_⟩⟩
  · by_cases h1 : j = k
    · simp only [h1, if_pos]; exact hN
    · simp only [if_neg h1]
      have hj2 : j < k := by omega
      exact (h.1 j hj2).kept (hs _ (by rw [(h.1 j hj2).1]; simp) (hn j hj2).1 (hn j hj2).2.1) (hs _ (by rw [(h.1 j hj2).2.1]; simp) (hn j hj2).2.2.1 (hn j hj2).2.2.2)
  · by_cases h1 : j = k <;> by_cases h2 : j' = k <;> simp only [h1, h2, if_pos, if_neg, if_false, if_true] at e
    · omega
    · exact absurd e.symm (hn j' (by omega)).1
    · exact absurd e (hn j (by omega)).1
    · exact (h.2 j j' (by omega) (by omega)).1 e
  · by_cases h1 : j = k <;> by_cases h2 : j' = k <;> simp only [h1, h2, if_pos, if_neg, if_false, if_true] at e
    · omega
    · exact absurd e.symm (hn j' (by omega)).2.2.2
    · exact absurd e (hn j (by omega)).2.2.2
    · exact (h.2 j j' (by omega) (by omega)).2 e

set_option maxHeartbeats 4000000 in
set_option maxRecDepth 100000 in
theorem ct_AW_forgetPlaces (l : Launch) (D : ma_D) (s0 : State) (x : Nat) (v0 v1 v2 v3 v4 v5 v6 v7 v8 v9 v10 : Value) (M : ma_H) (hx : M x = some (.inl (0, [v0, v1, v2, v3, v4, v5, v6, v7, v8, v9, v10]))) : Ct l D s0 y_AW_forgetPlaces c_AW_forgetPlaces 1 none 0 0 0 0 [.ref x] M (fun q => q = x) (fun r M' => r = none ∧ M' x = some (.inl (0, [v0, v1, v2, v3, v4, v5, v6, v7, v8, v9, .int 0])) ∧ ∀ q, q ≠ x → M' q = M q) := by
  refine Ct_v 0 [some (.ref x)] (by decide +kernel) (Nat.le_of_ble_eq_true rfl) rfl ?_
  intro G e1 e2 e3 C hw hI Rt
  subst e1; subst e2; subst e3
  refine m_aload_n C d_AW_forgetPlaces_0 rfl rfl ?_
  refine m_iconst (v := 0) C d_AW_forgetPlaces_1 (by decide) ?_
  refine m_putE C fp_AW_232 d_AW_forgetPlaces_2 (hw _ rfl) hx rfl rfl (fun M1 M1a0 M1o => ?_)
  have M1_x : M1 x = some (.inl (0, [v0, v1, v2, v3, v4, v5, v6, v7, v8, v9, .int 0])) := M1a0
  exact Rt _ _ _ _ _ (by decide) (by decide) d_AW_forgetPlaces_5 (⟨rfl, M1_x, M1o⟩)

set_option maxHeartbeats 4000000 in
set_option maxRecDepth 100000 in
theorem ct_St_init (l : Launch) (D : ma_D) (s0 : State) (a : Nat) (ar : Int32) (M : ma_H) (ha : M a = some (.inl (9, [.int 0, .null, .int 0, .null, .int 0, .int 0, .int 0, .int 0, .int 0, .int 0, .int 0]))) : Ct l D s0 y_St_init c_St_init 3 none 2 8 63 40 [.ref a, .int ar] M (fun q => q = a) (fun r M' => r = none ∧ ∃ (nr rr : Nat) (nm ch : Nat → Nat) (l : List Value), M' a = some (.inl (9, stF ar nr 1 rr 0 0 0 0 0 0 0)) ∧ M' nr = some (.inr (.object R_Na, l)) ∧ l.length = 3 ∧ (∀ j, j < 3 → l[j]? = some (.ref (nm j))) ∧ M' rr = some (.inr (.object R_HR, List.replicate 6 .null)) ∧ rNn M' nm ch 3 ∧ M nr = none ∧ M rr = none ∧ ∀ j, j < 3 → M (nm j) = none ∧ M (ch j) = none) := by
  refine Ct_v 1 [some (.ref a), some (.int ar), none] (by decide +kernel) (Nat.le_of_ble_eq_true rfl) rfl ?_
  intro G e1 e2 e3 C hw hI Rt
  subst e1; subst e2; subst e3
  refine m_aload_n C d_St_init_0 rfl rfl ?_
  refine m_obj C d_St_init_1 ml_St_3 mi_obj mc_obj (by decide) (Nat.le_of_ble_eq_true rfl) ?_
  refine m_aload_n C d_St_init_4 rfl rfl ?_
  refine m_iconst (v := 3) C d_St_init_5 (by decide) ?_
  refine m_anewE (N := 3) C d_St_init_6 kt_Na cl_St_9 ao_Na (by decide) (by decide) (by decide) (by decide) (by decide) (fun nr M1 M1n M1w M1a0 M1o => ?_)
  have M1_a : M1 a = some (.inl (9, [.int 0, .null, .int 0, .null, .int 0, .int 0, .int 0, .int 0, .int 0, .int 0, .int 0])) := (M1o a (ma_nef ha M1n)).trans ha
  have M1_nr : M1 nr = some (.inr (.object R_Na, List.replicate 3 .null)) := M1a0
  refine m_putFE C (hI rfl) fp_St_11 d_St_init_9 (hw _ rfl) M1_a rfl rfl (fun M2 M2a0 M2o => ?_)
  have M2_nr : M2 nr = some (.inr (.object R_Na, List.replicate 3 .null)) := (M2o nr (Ne.symm (ma_ne2 M1_a M1_nr))).trans M1_nr
  have M2_a : M2 a = some (.inl (9, [.int 0, .ref nr, .int 0, .null, .int 0, .int 0, .int 0, .int 0, .int 0, .int 0, .int 0])) := M2a0
  refine m_aload_n C d_St_init_12 rfl rfl ?_
  refine m_iconst (v := 1) C d_St_init_13 (by decide) ?_
  refine m_putE C fp_St_17 d_St_init_14 (hw _ rfl) M2_a rfl rfl (fun M3 M3a0 M3o => ?_)
  have M3_nr : M3 nr = some (.inr (.object R_Na, List.replicate 3 .null)) := (M3o nr (Ne.symm (ma_ne2 M2_a M2_nr))).trans M2_nr
  have M3_a : M3 a = some (.inl (9, [.int 0, .ref nr, .int 1, .null, .int 0, .int 0, .int 0, .int 0, .int 0, .int 0, .int 0])) := M3a0
  refine m_aload_n C d_St_init_17 rfl rfl ?_
  refine m_bipush (v := 6) C d_St_init_18 (by decide) ?_
  refine m_anewE (N := 6) C d_St_init_20 kt_HR cl_St_21 ao_HR (by decide) (by decide) (by decide) (by decide) (by decide) (fun rr M4 M4n M4w M4a0 M4o => ?_)
  have M4_nr : M4 nr = some (.inr (.object R_Na, List.replicate 3 .null)) := (M4o nr (ma_nef M3_nr M4n)).trans M3_nr
  have M4_a : M4 a = some (.inl (9, [.int 0, .ref nr, .int 1, .null, .int 0, .int 0, .int 0, .int 0, .int 0, .int 0, .int 0])) := (M4o a (ma_nef M3_a M4n)).trans M3_a
  have M4_rr : M4 rr = some (.inr (.object R_HR, List.replicate 6 .null)) := M4a0
  refine m_putFE C (hI rfl) fp_St_23 d_St_init_23 (hw _ rfl) M4_a rfl rfl (fun M5 M5a0 M5o => ?_)
  have M5_nr : M5 nr = some (.inr (.object R_Na, List.replicate 3 .null)) := (M5o nr (Ne.symm (ma_ne2 M4_a M4_nr))).trans M4_nr
  have M5_rr : M5 rr = some (.inr (.object R_HR, List.replicate 6 .null)) := (M5o rr (Ne.symm (ma_ne2 M4_a M4_rr))).trans M4_rr
  have M5_a : M5 a = some (.inl (9, [.int 0, .ref nr, .int 1, .ref rr, .int 0, .int 0, .int 0, .int 0, .int 0, .int 0, .int 0])) := M5a0
  refine m_aload_n C d_St_init_26 rfl rfl ?_
  refine m_iload_n C d_St_init_27 rfl rfl ?_
  refine m_putFE C (hI rfl) fp_St_27 d_St_init_28 (hw _ rfl) M5_a rfl rfl (fun M6 M6a0 M6o => ?_)
  have M6_nr : M6 nr = some (.inr (.object R_Na, List.replicate 3 .null)) := (M6o nr (Ne.symm (ma_ne2 M5_a M5_nr))).trans M5_nr
  have M6_rr : M6 rr = some (.inr (.object R_HR, List.replicate 6 .null)) := (M6o rr (Ne.symm (ma_ne2 M5_a M5_rr))).trans M5_rr
  have M6_a : M6 a = some (.inl (9, [.int ar, .ref nr, .int 1, .ref rr, .int 0, .int 0, .int 0, .int 0, .int 0, .int 0, .int 0])) := M6a0
  have f1 : ∀ q, M6 q = none → M q = none := by
    intro q hq
    have n0 : q ≠ a := fun z => by rw [z, M6_a] at hq; cases hq
    have n1 : q ≠ nr := fun z => by rw [z, M6_nr] at hq; cases hq
    have n2 : q ≠ rr := fun z => by rw [z, M6_rr] at hq; cases hq
    rw [M6o q n0, M5o q n0, M4o q n2, M3o q n0, M2o q n0, M1o q n1] at hq; exact hq
  have f2 : M rr = none := by
    have n0 : rr ≠ a := Ne.symm (ma_nef M3_a M4n)
    have n1 : rr ≠ nr := Ne.symm (ma_nef M3_nr M4n)
    rw [← M1o rr n1, ← M2o rr n0, ← M3o rr n0]; exact M4n
  refine m_iconst (v := 0) C d_St_init_31 (by decide) ?_
  refine m_istore_n (L' := [some (.ref a), some (.int ar), some (.int 0)]) C d_St_init_32 rfl (by decide) rfl ?_
  have loop : ∀ (rk : Nat) (M7 : ma_H) (i : Nat) (nm : Nat → Nat) (ch : Nat → Nat) (l : List Value), 3 - i = rk → i ≤ 3 → M7 a = some (.inl (9, stF ar nr 1 rr 0 0 0 0 0 0 0)) → M7 nr = some (.inr (.object R_Na, l)) → l.length = 3 → (∀ j, j < i → l[j]? = some (.ref (nm j))) → M7 rr = some (.inr (.object R_HR, List.replicate 6 .null)) → rNn M7 nm ch i → (∀ j, j < i → M (nm j) = none ∧ M (ch j) = none) → (∀ q, M7 q = none → M q = none) → mj G 3 (2 + 2 * i) (9 + 18 * i) M7 33 [some (.ref a), some (.int ar), some (.int (nI i))] [] := by
    intro rk
    induction rk using Nat.strongRecOn with
    | ind rk ih =>
      intro M7 i nm ch l hr hi k1 k2 k3 k4 k5 k6 k7 k8
      refine m_iload_n C d_St_init_33 rfl rfl ?_
      refine m_iconst (v := 3) C d_St_init_34 (by decide) ?_
      have e1 : (3 : Int32) ≤ nI i ↔ 3 ≤ i := by rw [show (3 : Int32) = nI 3 from rfl, nI_leI (by decide) (by omega)]
      refine m_icmp_ge (tgt := 57) C d_St_init_35 (by decide) (fun h9 => ?_) (fun h9 => ?_)
      · rw [e1] at h9
        obtain rfl : i = 3 := by omega
        exact Rt _ _ _ _ _ (by decide) (by decide) d_St_init_57 (⟨rfl, nr, rr, nm, ch, l, k1, k2, k3, k4, k5, k6, M1n, f2, k7⟩)
      · rw [e1] at h9
        refine m_aload_n C d_St_init_38 rfl rfl ?_
        refine m_get C fg_St_11 d_St_init_39 k1 rfl ?_
        refine m_iload_n C d_St_init_42 rfl rfl ?_
        refine m_newE (ci := 5) [.null, .int 0] C d_St_init_43 rfl in_Na tyok_Na cl_St_9 ins_Na ini_Na rfl df_Na (by omega) (by omega) (fun nb M8 M8n M8w M8a0 M8o => ?_)
        have M8_a : M8 a = some (.inl (9, [.int ar, .ref nr, .int (nI 1), .ref rr, .int (nI 0), .int 0, .int 0, .int 0, .int 0, .int 0, .int 0])) := (M8o a (ma_nef k1 M8n)).trans k1
        have M8_nr : M8 nr = some (.inr (.object R_Na, l)) := (M8o nr (ma_nef k2 M8n)).trans k2
        have M8_rr : M8 rr = some (.inr (.object R_HR, List.replicate 6 .null)) := (M8o rr (ma_nef k5 M8n)).trans k5
        have M8_nb : M8 nb = some (.inl (5, [.null, .int 0])) := M8a0
        refine m_dup C d_St_init_46 rfl ?_
        refine m_callI C d_St_init_47 mw_St_30 mi_Na_init rfl (ct_Na_init _ _ _ nb M8 M8_nb) (fun q h => by rw [h]; exact M8w) rfl rfl (Nat.le_of_ble_eq_true rfl) ⟨⟨by decide, by decide⟩, by omega, by omega⟩ (fun v9 M9 hp h5 h6 => ?_)
        obtain ⟨rfl, cb, hcb, hN⟩ := hp
        show mj G 3 (2 + 2 * i + 1 + 1) (9 + 18 * i + 2 + 16) M9 50 [some (.ref a), some (.int ar), some (.int (nI i))] [.ref nb, .int (nI i), .ref nr]
        have nb9 : ∀ q, M7 q ≠ none → M9 q = M7 q := fun q hq => by
          have n0 : q ≠ nb := fun z => hq (by rw [z]; exact M8n)
          rw [h5 q (by rw [M8o q n0]; exact hq) n0, M8o q n0]
        have cb7 : M7 cb = none := by rw [← M8o cb (Ne.symm (ma_nef M8_nb hcb))]; exact hcb
        have t1 := (nb9 a (by rw [k1]; simp)).trans k1
        have t2 := (nb9 nr (by rw [k2]; simp)).trans k2
        have t5 := (nb9 rr (by rw [k5]; simp)).trans k5
        refine m_aastE C d_St_init_50 (r := (R_Na, T_Na, 2)) ?wr t2 kt_Na hN.1 rfl (nI_pos (by omega)) (by rw [nI_clamp (by omega)]; omega) (fun M10 M10a0 M10o => ?_)
        case wr => exact M1w
        rw [nI_clamp (by omega)] at M10a0
        refine m_iinc (v := (nI (i + 1))) (L' := [some (.ref a), some (.int ar), some (.int (nI (i + 1)))]) C d_St_init_51 rfl (nI_1 i) (by decide) rfl ?_
        refine m_goto (tgt := 33) C d_St_init_54 (by decide) ?_
        refine mj_widen (k' := 2 + 2 * (i + 1)) (n' := 9 + 18 * (i + 1)) (by omega) (by omega) (ih (3 - (i + 1)) (by omega) M10 (i + 1) (fun j => if j = i then nb else nm j) (fun j => if j = i then cb else ch j) (l.set i (.ref nb)) rfl (by omega) ?_ M10a0 ?_ ?_ ?_ ?_ ?_ ?_)
        · exact (M10o a (ma_ne2 k1 k2)).trans t1
        · rw [List.length_set]; exact k3
        · intro j hj; rw [List.getElem?_set]; by_cases hji : i = j
          · subst hji; simp [k3]; omega
          · rw [if_neg hji]; simp only [if_neg (Ne.symm hji)]; exact k4 j (by omega)
        · exact (M10o rr (ma_ne3 k5 k2 (by decide +kernel))).trans t5
        · have hx := k6.next (M1 := M9) (fun q hq _ _ => nb9 q hq) M8n cb7 hN
          exact ⟨fun j hj => (hx.1 j hj).kept (M10o _ (ma_ne2 (hx.1 j hj).1 t2)) (M10o _ (ma_ne3 (hx.1 j hj).2.1 t2 (by decide +kernel))), hx.2⟩
        · intro j hj; by_cases hji : j = i
          · simp only [hji, if_pos]; exact ⟨k8 _ M8n, k8 _ cb7⟩
          · simp only [if_neg hji]; exact k7 j (by omega)
        · intro q hq; apply k8
          have n0 : q ≠ nr := fun z => by rw [z, M10a0] at hq; cases hq
          rw [M10o q n0] at hq
          cases hx : M7 q with
          | none => rfl
          | some c => rw [nb9 q (by rw [hx]; simp), hx] at hq; cases hq
  exact mj_widen (by omega) (by omega) (loop _ M6 0 (fun _ => 0) (fun _ => 0) _ rfl (Nat.zero_le _) M6_a M6_nr rfl (fun j h => absurd h (by omega)) M6_rr ⟨fun j h => absurd h (by omega), fun j j' h => absurd h (by omega)⟩ (fun j h => absurd h (by omega)) f1)
