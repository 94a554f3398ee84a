/-! ===== Edits ===== -/
def i_mn (x y : Int32) : Int32 := if y < x then y else x
/-- one row of the counting: the sign, the sign before it, the name's letters, the row's number, the last row and the one before it -/
def odr (sg bf : Int32) (b : Nat → Int32) (i1 : Int32) (la bl : Nat → Int32) : Nat → Int32
  | 0 => i1
  | k + 1 => if 0 < k ∧ sg = b (k - 1) ∧ bf = b k then i_mn (i_mn (la k + (if sg = b k then 0 else 1)) (i_mn (la (k + 1)) (odr sg bf b i1 la bl k) + 1)) (bl (k - 1) + 1) else i_mn (la k + (if sg = b k then 0 else 1)) (i_mn (la (k + 1)) (odr sg bf b i1 la bl k) + 1)
theorem odr_congr {sg bf : Int32} {b : Nat → Int32} {i1 : Int32} {la la' bl bl' : Nat → Int32} {m : Nat} (h1 : ∀ j, j ≤ m → la j = la' j) (h2 : (∀ j, j ≤ m → bl j = bl' j) ∨ ∀ j, j < m → bf ≠ b j) : ∀ k, k ≤ m → odr sg bf b i1 la bl k = odr sg bf b i1 la' bl' k := by
  intro k
  induction k with
  | zero => intro _; rfl
  | succ k ih =>
    intro hk
    rw [odr, odr, ih (by omega), h1 k (by omega), h1 (k + 1) hk]
    rcases h2 with h2 | h2
    · rw [h2 (k - 1) (by omega)]
    · have h9 : ¬ (0 < k ∧ sg = b (k - 1) ∧ bf = b k) := fun z => h2 k (by omega) z.2.2
      rw [if_neg h9, if_neg h9]
/-- rows i and i - 1 -/
def od2 (a b : Nat → Int32) : Nat → (Nat → Int32) × (Nat → Int32)
  | 0 => (fun j => nI j, fun _ => 0)
  | i + 1 => (odr (a i) (if i = 0 then 32 else a (i - 1)) b (nI (i + 1)) (od2 a b i).1 (od2 a b i).2, (od2 a b i).1)
/-- letters put in, taken out, changed or swapped between the first i of a and the first j of b -/
def od (a b : Nat → Int32) (i j : Nat) : Int32 := (od2 a b i).1 j
def lsf (ls : List Int32) (k : Nat) : Int32 := ls.getD k 0
theorem rNa.at {M : ma_H} {a ch : Nat} {l : List Value} {ls : List Int32} (h : rNa M a ch l ls) {k : Nat} (hk : k < ls.length) : l[k]? = some (.int (lsf ls k)) := h.2.2.2.2 k _ (by simp [lsf, List.getD, List.getElem?_eq_getElem hk])
theorem rNa.kept {M M1 : ma_H} {a ch : Nat} {l : List Value} {ls : List Int32} (h : rNa M a ch l ls) (h1 : M1 a = M a) (h2 : M1 ch = M ch) : rNa M1 a ch l ls := ⟨h1.trans h.1, h2.trans h.2.1, h.2.2⟩
def rot (x y z p q r : Nat) : Prop := (p = x ∧ q = y ∧ r = z) ∨ (p = y ∧ q = z ∧ r = x) ∨ (p = z ∧ q = x ∧ r = y)
theorem rot.next {x y z p q r : Nat} (h : rot x y z p q r) : rot x y z q r p := by
  rcases h with ⟨rfl, rfl, rfl⟩ | ⟨rfl, rfl, rfl⟩ | ⟨rfl, rfl, rfl⟩
  · exact Or.inr (Or.inl ⟨rfl, rfl, rfl⟩)
  · exact Or.inr (Or.inr ⟨rfl, rfl, rfl⟩)
  · exact Or.inl ⟨rfl, rfl, rfl⟩
theorem rot.mem {x y z p q r : Nat} (h : rot x y z p q r) : r = x ∨ r = y ∨ r = z := by
  rcases h with ⟨rfl, rfl, rfl⟩ | ⟨rfl, rfl, rfl⟩ | ⟨rfl, rfl, rfl⟩ <;> simp
theorem rot.ne {x y z p q r : Nat} (h : rot x y z p q r) (h1 : x ≠ y) (h2 : y ≠ z) (h3 : x ≠ z) : p ≠ q ∧ q ≠ r ∧ p ≠ r := by
  rcases h with ⟨rfl, rfl, rfl⟩ | ⟨rfl, rfl, rfl⟩ | ⟨rfl, rfl, rfl⟩
  · exact ⟨h1, h2, h3⟩
  · exact ⟨h2, Ne.symm h3, Ne.symm h1⟩
  · exact ⟨Ne.symm h3, h1, Ne.symm h2⟩
def rEd (M : ma_H) (e p q r : Nat) (fp fq fr : Nat → Int32) : Prop := M e = some (.inl (2, [.ref p, .ref q, .ref r])) ∧ M p = some (.inr (.int, arrL 17 fp)) ∧ M q = some (.inr (.int, arrL 17 fq)) ∧ M r = some (.inr (.int, arrL 17 fr))
theorem nI_sub2 {k : Nat} (h : 0 < k) : nI (k + 1) - 2 = nI (k - 1) := by
  obtain ⟨m, rfl⟩ : ∃ m, k = m + 1 := ⟨k - 1, by omega⟩
  rw [show (2 : Int32) = 1 + 1 from rfl, show nI (m + 1 + 1) - (1 + 1) = nI (m + 1 + 1) - 1 - 1 by grind, nI_sub1 (by omega), nI_sub1 (by omega)]
  rfl

set_option maxHeartbeats 4000000 in
set_option maxRecDepth 100000 in
theorem ct_Ed_init (l : Launch) (D : ma_D) (s0 : State) (a : Nat) (M : ma_H) (ha : M a = some (.inl (2, [.null, .null, .null]))) : Ct l D s0 y_Ed_init c_Ed_init 1 none 1 3 51 20 [.ref a] M (fun q => q = a) (fun r M' => r = none ∧ ∃ p q r, M p = none ∧ M q = none ∧ M r = none ∧ p ≠ q ∧ q ≠ r ∧ p ≠ r ∧ rEd M' a p q r (fun _ => 0) (fun _ => 0) (fun _ => 0)) := by
  refine Ct_v 0 [some (.ref a)] (by decide +kernel) (Nat.le_of_ble_eq_true rfl) rfl ?_
  intro G e1 e2 e3 C hw hI Rt
  subst e1; subst e2; subst e3
  refine m_aload_n C d_Ed_init_0 rfl rfl ?_
  refine m_obj C d_Ed_init_1 ml_Ed_3 mi_obj mc_obj (by decide) (Nat.le_of_ble_eq_true rfl) ?_
  refine m_aload_n C d_Ed_init_4 rfl rfl ?_
  refine m_bipush (v := 17) C d_Ed_init_5 (by decide) ?_
  refine m_newaE (N := 17) C d_Ed_init_7 rfl kt_int ac_int (fun _ h => by cases h) (by decide) (by decide) (by decide) (by decide) (by decide) (fun p M1 M1n M1w M1a0 M1o => ?_)
  have M1_a : M1 a = some (.inl (2, [.null, .null, .null])) := (M1o a (ma_nef ha M1n)).trans ha
  have M1_p : M1 p = some (.inr (.int, List.replicate 17 (.int 0))) := M1a0
  refine m_putE C fp_Ed_9 d_Ed_init_9 (hw _ rfl) M1_a rfl rfl (fun M2 M2a0 M2o => ?_)
  have M2_p : M2 p = some (.inr (.int, List.replicate 17 (.int 0))) := (M2o p (Ne.symm (ma_ne2 M1_a M1_p))).trans M1_p
  have M2_a : M2 a = some (.inl (2, [.ref p, .null, .null])) := M2a0
  refine m_aload_n C d_Ed_init_12 rfl rfl ?_
  refine m_bipush (v := 17) C d_Ed_init_13 (by decide) ?_
  refine m_newaE (N := 17) C d_Ed_init_15 rfl kt_int ac_int (fun _ h => by cases h) (by decide) (by decide) (by decide) (by decide) (by decide) (fun q M3 M3n M3w M3a0 M3o => ?_)
  have M3_p : M3 p = some (.inr (.int, List.replicate 17 (.int 0))) := (M3o p (ma_nef M2_p M3n)).trans M2_p
  have M3_a : M3 a = some (.inl (2, [.ref p, .null, .null])) := (M3o a (ma_nef M2_a M3n)).trans M2_a
  have M3_q : M3 q = some (.inr (.int, List.replicate 17 (.int 0))) := M3a0
  have n1 : p ≠ q := ma_nef M2_p M3n
  refine m_putE C fp_Ed_15 d_Ed_init_17 (hw _ rfl) M3_a rfl rfl (fun M4 M4a0 M4o => ?_)
  have M4_p : M4 p = some (.inr (.int, List.replicate 17 (.int 0))) := (M4o p (Ne.symm (ma_ne2 M3_a M3_p))).trans M3_p
  have M4_q : M4 q = some (.inr (.int, List.replicate 17 (.int 0))) := (M4o q (Ne.symm (ma_ne2 M3_a M3_q))).trans M3_q
  have M4_a : M4 a = some (.inl (2, [.ref p, .ref q, .null])) := M4a0
  refine m_aload_n C d_Ed_init_20 rfl rfl ?_
  refine m_bipush (v := 17) C d_Ed_init_21 (by decide) ?_
  refine m_newaE (N := 17) C d_Ed_init_23 rfl kt_int ac_int (fun _ h => by cases h) (by decide) (by decide) (by decide) (by decide) (by decide) (fun r M5 M5n M5w M5a0 M5o => ?_)
  have M5_p : M5 p = some (.inr (.int, List.replicate 17 (.int 0))) := (M5o p (ma_nef M4_p M5n)).trans M4_p
  have M5_q : M5 q = some (.inr (.int, List.replicate 17 (.int 0))) := (M5o q (ma_nef M4_q M5n)).trans M4_q
  have M5_a : M5 a = some (.inl (2, [.ref p, .ref q, .null])) := (M5o a (ma_nef M4_a M5n)).trans M4_a
  have M5_r : M5 r = some (.inr (.int, List.replicate 17 (.int 0))) := M5a0
  have n2 : q ≠ r := ma_nef M4_q M5n
  have n3 : p ≠ r := ma_nef M4_p M5n
  refine m_putE C fp_Ed_18 d_Ed_init_25 (hw _ rfl) M5_a rfl rfl (fun M6 M6a0 M6o => ?_)
  have M6_p : M6 p = some (.inr (.int, List.replicate 17 (.int 0))) := (M6o p (Ne.symm (ma_ne2 M5_a M5_p))).trans M5_p
  have M6_q : M6 q = some (.inr (.int, List.replicate 17 (.int 0))) := (M6o q (Ne.symm (ma_ne2 M5_a M5_q))).trans M5_q
  have M6_r : M6 r = some (.inr (.int, List.replicate 17 (.int 0))) := (M6o r (Ne.symm (ma_ne2 M5_a M5_r))).trans M5_r
  have M6_a : M6 a = some (.inl (2, [.ref p, .ref q, .ref r])) := M6a0
  have m1 : M q = none := by rw [← M1o q (Ne.symm n1), ← M2o q (Ne.symm (ma_nef M2_a M3n))]; exact M3n
  have q2 : M2 r = none := by rw [← M3o r (Ne.symm n2), ← M4o r (Ne.symm (ma_nef M4_a M5n))]; exact M5n
  have m2 : M r = none := by rw [← M1o r (Ne.symm n3), ← M2o r (Ne.symm (ma_nef M2_a q2))]; exact q2
  exact Rt _ _ _ _ _ (by decide) (by decide) d_Ed_init_28 (⟨rfl, p, q, r, M1n, m1, m2, n1, n2, n3, M6_a, by rw [← arrL_rep]; exact M6_p, by rw [← arrL_rep]; exact M6_q, by rw [← arrL_rep]; exact M6_r⟩)

set_option maxHeartbeats 4000000 in
set_option maxRecDepth 100000 in
theorem ct_Ed_turnRows (l : Launch) (D : ma_D) (s0 : State) (e p q r : Nat) (M : ma_H) (ha : M e = some (.inl (2, [.ref p, .ref q, .ref r]))) : Ct l D s0 y_Ed_turnRows c_Ed_turnRows 2 none 0 0 0 0 [.ref e] M (fun q => q = e) (fun v M' => v = none ∧ M' e = some (.inl (2, [.ref q, .ref r, .ref p])) ∧ ∀ z, z ≠ e → M' z = M z) := by
  refine Ct_v 1 [some (.ref e), none] (by decide +kernel) (Nat.le_of_ble_eq_true rfl) rfl ?_
  intro G e1 e2 e3 C hw hI Rt
  subst e1; subst e2; subst e3
  refine m_aload_n C d_Ed_turnRows_0 rfl rfl ?_
  refine m_get C fg_Ed_9 d_Ed_turnRows_1 ha rfl ?_
  refine m_astore_n (L' := [some (.ref e), some (.ref p)]) C d_Ed_turnRows_4 rfl (by decide) rfl ?_
  refine m_aload_n C d_Ed_turnRows_5 rfl rfl ?_
  refine m_aload_n C d_Ed_turnRows_6 rfl rfl ?_
  refine m_get C fg_Ed_15 d_Ed_turnRows_7 ha rfl ?_
  refine m_putE C fp_Ed_9 d_Ed_turnRows_10 (hw _ rfl) ha rfl rfl (fun M1 M1a0 M1o => ?_)
  have M1_e : M1 e = some (.inl (2, [.ref q, .ref q, .ref r])) := M1a0
  refine m_aload_n C d_Ed_turnRows_13 rfl rfl ?_
  refine m_aload_n C d_Ed_turnRows_14 rfl rfl ?_
  refine m_get C fg_Ed_18 d_Ed_turnRows_15 M1_e rfl ?_
  refine m_putE C fp_Ed_15 d_Ed_turnRows_18 (hw _ rfl) M1_e rfl rfl (fun M2 M2a0 M2o => ?_)
  have M2_e : M2 e = some (.inl (2, [.ref q, .ref r, .ref r])) := M2a0
  refine m_aload_n C d_Ed_turnRows_21 rfl rfl ?_
  refine m_aload_n C d_Ed_turnRows_22 rfl rfl ?_
  refine m_putE C fp_Ed_18 d_Ed_turnRows_23 (hw _ rfl) M2_e rfl rfl (fun M3 M3a0 M3o => ?_)
  have M3_e : M3 e = some (.inl (2, [.ref q, .ref r, .ref p])) := M3a0
  exact Rt _ _ _ _ _ (by decide) (by decide) d_Ed_turnRows_26 (⟨rfl, M3_e, fun z hz => by rw [M3o z hz, M2o z hz, M1o z hz]⟩)

set_option maxHeartbeats 4000000 in
set_option maxRecDepth 100000 in
theorem ct_Ed_fillRow (l : Launch) (D : ma_D) (s0 : State) (e p q r : Nat) (fp fq f0 : Nat → Int32) (b ch : Nat) (lb : List Value) (bs : List Int32) (i1 sg bf : Int32) (M : ma_H) (he : rEd M e p q r fp fq f0) (hpr : p ≠ r) (hqr : q ≠ r) (hb : rNa M b ch lb bs) : Ct l D s0 y_Ed_fillRow c_Ed_fillRow 10 none 1 0 0 22 [.ref e, .int i1, .int sg, .int bf, .ref b] M (fun q => q = r) (fun v M' => v = none ∧ ∃ f, M' r = some (.inr (.int, arrL 17 f)) ∧ ∀ j, j ≤ bs.length → f j = odr sg bf (lsf bs) i1 fq fp j) := by
  refine Ct_v 5 [some (.ref e), some (.int i1), some (.int sg), some (.int bf), some (.ref b), none, none, none, none, none] (by decide +kernel) (Nat.le_of_ble_eq_true rfl) rfl ?_
  intro G e1 e2 e3 C hw hI Rt
  subst e1; subst e2; subst e3
  obtain ⟨h1, h2, h3, h4⟩ := he
  have hbl := hb.2.2.2.1
  have hb0 := hb
  obtain ⟨g1, g2, -, -, -⟩ := hb0
  have hall : ∀ (k : Nat), k < bs.length → lb[k]? = some (.int (lsf bs k)) := fun k hk => hb.at hk
  refine m_aload C d_Ed_fillRow_0 rfl ?_
  refine m_get C fg_Ed_34 d_Ed_fillRow_2 g1 rfl ?_
  refine m_astore (L' := [some (.ref e), some (.int i1), some (.int sg), some (.int bf), some (.ref b), some (.ref ch), none, none, none, none]) C d_Ed_fillRow_5 (by decide) rfl ?_
  refine m_aload_n C d_Ed_fillRow_7 rfl rfl ?_
  refine m_get C fg_Ed_18 d_Ed_fillRow_8 h1 rfl ?_
  refine m_iconst (v := 0) C d_Ed_fillRow_11 (by decide) ?_
  refine m_iload_n C d_Ed_fillRow_12 rfl rfl ?_
  have e00 : (0 : Int32) = nI 0 := rfl
  refine m_iastE C d_Ed_fillRow_13 (hw _ rfl) h4 kt_int (by decide) (by rw [arrL_len]; decide) (fun M1 M1a9 M1o => ?_)
  have M1r : M1 r = some (.inr (.int, arrL 17 (fu f0 0 i1))) := by rw [M1a9, arrL_set]; rfl
  refine m_iconst (v := 1) C d_Ed_fillRow_14 (by decide) ?_
  refine m_istore (L' := [some (.ref e), some (.int i1), some (.int sg), some (.int bf), some (.ref b), some (.ref ch), some (.int 1), none, none, none]) C d_Ed_fillRow_15 (by decide) rfl ?_
  have loop : ∀ (rk : Nat) (M2 : ma_H) (k : Nat) (f : Nat → Int32), bs.length - k = rk → k ≤ bs.length → M2 r = some (.inr (.int, arrL 17 f)) → (∀ z, z ≠ r → M2 z = M z) → (∀ j, j ≤ k → f j = odr sg bf (lsf bs) i1 fq fp j) → mj G 10 0 0 M2 17 [some (.ref e), some (.int i1), some (.int sg), some (.int bf), some (.ref b), some (.ref ch), some (.int (nI (k + 1))), none, none, none] [] := by
    intro rk
    induction rk using Nat.strongRecOn with
    | ind rk ih =>
      intro M2 k f hr hk kr ko kf
      have k1 : M2 e = some (.inl (2, [.ref p, .ref q, .ref r])) := (ko e (ma_ne2 h1 h4)).trans h1
      have k2 : M2 p = some (.inr (.int, arrL 17 fp)) := (ko p hpr).trans h2
      have k3 : M2 q = some (.inr (.int, arrL 17 fq)) := (ko q hqr).trans h3
      have k4 : M2 b = some (.inl (5, [.ref ch, .int (nI bs.length)])) := (ko b (ma_ne2 g1 h4)).trans g1
      have k5 : M2 ch = some (.inr (.char, lb)) := (ko ch (ma_ne3 g2 h4 (by decide))).trans g2
      refine m_iload C d_Ed_fillRow_17 rfl ?_
      refine m_aload C d_Ed_fillRow_19 rfl ?_
      refine m_get C fg_Ed_21 d_Ed_fillRow_21 k4 rfl ?_
      have e1 : nI bs.length < nI (k + 1) ↔ bs.length ≤ k := by rw [nI_ltI (by omega) (by omega)]; omega
      refine m_icmp_gt (tgt := 148) C d_Ed_fillRow_24 (by decide) (fun h9 => ?_) (fun h9 => ?_)
      · rw [e1] at h9
        obtain rfl : k = bs.length := by omega
        exact Rt _ _ _ _ _ (by decide) (by decide) d_Ed_fillRow_148 (⟨rfl, f, kr, kf⟩)
      · rw [e1] at h9
        have sk1 : nI (k + 1) - 1 = nI k := by rw [nI_sub1 (by omega)]; rfl
        have fin : ∀ v9 : Int32, v9 = odr sg bf (lsf bs) i1 fq fp (k + 1) → mj G 10 0 0 M2 133 [some (.ref e), some (.int i1), some (.int sg), some (.int bf), some (.ref b), some (.ref ch), some (.int (nI (k + 1))), none, none, some (.int v9)] [] := by
          intro v9 hv9
          refine m_aload_n C d_Ed_fillRow_133 rfl rfl ?_
          refine m_get C fg_Ed_18 d_Ed_fillRow_134 k1 rfl ?_
          refine m_iload C d_Ed_fillRow_137 rfl ?_
          refine m_iload C d_Ed_fillRow_139 rfl ?_
          refine m_iastE C d_Ed_fillRow_141 (hw _ rfl) kr kt_int (nI_pos (by omega)) (by rw [nI_clamp (by omega), arrL_len]; omega) (fun M3 M3a9 M3o => ?_)
          have M3a0 : M3 r = some (.inr (.int, arrL 17 (fu f (k + 1) (v9)))) := by rw [M3a9, nI_clamp (by omega), arrL_set]
          have M3_r : M3 r = some (.inr (.int, arrL 17 (fu f (k + 1) (v9)))) := M3a0
          refine m_iinc (v := (nI (k + 1 + 1))) (L' := [some (.ref e), some (.int i1), some (.int sg), some (.int bf), some (.ref b), some (.ref ch), some (.int (nI (k + 1 + 1))), none, none, some (.int v9)]) C d_Ed_fillRow_142 rfl (nI_1 (k + 1)) (by decide) rfl ?_
          refine m_goto (tgt := 17) C d_Ed_fillRow_145 (by decide) ?_
          refine mj_L (L' := [some (.ref e), some (.int i1), some (.int sg), some (.int bf), some (.ref b), some (.ref ch), some (.int (nI (k + 1 + 1))), none, none, none]) (fun q v hv => by rcases q with _ | _ | _ | _ | _ | _ | _ | _ | _ | _ | q <;> simp_all) (ih (bs.length - (k + 1)) (by omega) M3 (k + 1) (fu f (k + 1) v9) rfl (by omega) M3_r (fun z hz => (M3o z hz).trans (ko z hz)) ?_)
          intro j hj
          by_cases hjk : j = k + 1
          · rw [hjk, fu, if_pos rfl]; exact hv9
          · rw [fu, if_neg hjk]; exact kf j (by omega)
        have mid : ∀ x7 : Int32, x7 = fq k + (if sg = lsf bs k then 0 else 1) → mj G 10 0 0 M2 53 [some (.ref e), some (.int i1), some (.int sg), some (.int bf), some (.ref b), some (.ref ch), some (.int (nI (k + 1))), none, none, none] [.int x7] := by
          intro x7 hx7
          refine m_istore (L' := [some (.ref e), some (.int i1), some (.int sg), some (.int bf), some (.ref b), some (.ref ch), some (.int (nI (k + 1))), some (.int x7), none, none]) C d_Ed_fillRow_53 (by decide) rfl ?_
          refine m_aload_n C d_Ed_fillRow_55 rfl rfl ?_
          refine m_get C fg_Ed_15 d_Ed_fillRow_56 k1 rfl ?_
          refine m_iload C d_Ed_fillRow_59 rfl ?_
          refine m_iald (v := .int (fq (k + 1))) C d_Ed_fillRow_61 k3 kt_int (nI_pos (by omega)) (by rw [nI_clamp (by omega)]; exact arrL_get (by omega)) ?_
          refine m_aload_n C d_Ed_fillRow_62 rfl rfl ?_
          refine m_get C fg_Ed_18 d_Ed_fillRow_63 k1 rfl ?_
          refine m_iload C d_Ed_fillRow_66 rfl ?_
          refine m_iconst (v := 1) C d_Ed_fillRow_68 (by decide) ?_
          refine m_isub C d_Ed_fillRow_69 ?_
          rw [sk1]
          refine m_iald (v := .int (f k)) C d_Ed_fillRow_70 kr kt_int (nI_pos (by omega)) (by rw [nI_clamp (by omega)]; exact arrL_get (by omega)) ?_
          refine m_min C d_Ed_fillRow_71 ml_Ed_38 (by decide) (Nat.le_of_ble_eq_true rfl) (by decide) (by decide) ?_
          show mj G 10 0 0 M2 74 [some (.ref e), some (.int i1), some (.int sg), some (.int bf), some (.ref b), some (.ref ch), some (.int (nI (k + 1))), some (.int x7), none, none] [.int (i_mn ((fq (k + 1))) ((f k)))]
          refine m_iconst (v := 1) C d_Ed_fillRow_74 (by decide) ?_
          refine m_iadd C d_Ed_fillRow_75 ?_
          refine m_istore (L' := [some (.ref e), some (.int i1), some (.int sg), some (.int bf), some (.ref b), some (.ref ch), some (.int (nI (k + 1))), some (.int x7), some (.int (((i_mn ((fq (k + 1))) ((f k)))) + 1)), none]) C d_Ed_fillRow_76 (by decide) rfl ?_
          refine m_iload C d_Ed_fillRow_78 rfl ?_
          refine m_iload C d_Ed_fillRow_80 rfl ?_
          refine m_min C d_Ed_fillRow_82 ml_Ed_38 (by decide) (Nat.le_of_ble_eq_true rfl) (by decide) (by decide) ?_
          show mj G 10 0 0 M2 85 [some (.ref e), some (.int i1), some (.int sg), some (.int bf), some (.ref b), some (.ref ch), some (.int (nI (k + 1))), some (.int x7), some (.int (((i_mn ((fq (k + 1))) ((f k)))) + 1)), none] [.int (i_mn x7 ((((i_mn ((fq (k + 1))) ((f k)))) + 1)))]
          refine m_istore (L' := [some (.ref e), some (.int i1), some (.int sg), some (.int bf), some (.ref b), some (.ref ch), some (.int (nI (k + 1))), some (.int x7), some (.int (((i_mn ((fq (k + 1))) ((f k)))) + 1)), some (.int (i_mn x7 ((((i_mn ((fq (k + 1))) ((f k)))) + 1))))]) C d_Ed_fillRow_85 (by decide) rfl ?_
          refine m_iload C d_Ed_fillRow_87 rfl ?_
          refine m_iconst (v := 1) C d_Ed_fillRow_89 (by decide) ?_
          have e5 : nI (k + 1) ≤ 1 ↔ ¬ 0 < k := by rw [show (1 : Int32) = nI 1 from rfl, nI_leI (by omega) (by decide)]; omega
          have ef := kf k (Nat.le_refl _)
          refine m_icmp_le (tgt := 133) C d_Ed_fillRow_90 (by decide) (fun h8 => ?_) (fun h8 => ?_)
          · refine mj_L (L' := [some (.ref e), some (.int i1), some (.int sg), some (.int bf), some (.ref b), some (.ref ch), some (.int (nI (k + 1))), none, none, some (.int (i_mn x7 ((((i_mn ((fq (k + 1))) ((f k)))) + 1))))]) (fun q v hv => by rcases q with _ | _ | _ | _ | _ | _ | _ | _ | _ | _ | q <;> simp_all) (fin _ ?_)
            rw [odr, if_neg (fun z => e5.mp h8 z.1), hx7, ef]
          · rw [e5, Classical.not_not] at h8
            refine m_iload_n C d_Ed_fillRow_93 rfl rfl ?_
            refine m_aload C d_Ed_fillRow_94 rfl ?_
            refine m_iload C d_Ed_fillRow_96 rfl ?_
            refine m_iconst (v := 2) C d_Ed_fillRow_98 (by decide) ?_
            refine m_isub C d_Ed_fillRow_99 ?_
            rw [nI_sub2 h8]
            refine m_cald (v := .int (lsf bs (k - 1))) C d_Ed_fillRow_100 k5 kt_char (nI_pos (by omega)) (by rw [nI_clamp (by omega)]; exact hall _ (by omega)) ?_
            refine m_icmp_ne (tgt := 133) C d_Ed_fillRow_101 (by decide) (fun h7 => ?_) (fun h7 => ?_)
            · refine mj_L (L' := [some (.ref e), some (.int i1), some (.int sg), some (.int bf), some (.ref b), some (.ref ch), some (.int (nI (k + 1))), none, none, some (.int (i_mn x7 ((((i_mn ((fq (k + 1))) ((f k)))) + 1))))]) (fun q v hv => by rcases q with _ | _ | _ | _ | _ | _ | _ | _ | _ | _ | q <;> simp_all) (fin _ ?_)
              rw [odr, if_neg (fun z => h7 z.2.1), hx7, ef]
            · refine m_iload_n C d_Ed_fillRow_104 rfl rfl ?_
              refine m_aload C d_Ed_fillRow_105 rfl ?_
              refine m_iload C d_Ed_fillRow_107 rfl ?_
              refine m_iconst (v := 1) C d_Ed_fillRow_109 (by decide) ?_
              refine m_isub C d_Ed_fillRow_110 ?_
              rw [sk1]
              refine m_cald (v := .int (lsf bs (k))) C d_Ed_fillRow_111 k5 kt_char (nI_pos (by omega)) (by rw [nI_clamp (by omega)]; exact hall _ (by omega)) ?_
              refine m_icmp_ne (tgt := 133) C d_Ed_fillRow_112 (by decide) (fun h6 => ?_) (fun h6 => ?_)
              · refine mj_L (L' := [some (.ref e), some (.int i1), some (.int sg), some (.int bf), some (.ref b), some (.ref ch), some (.int (nI (k + 1))), none, none, some (.int (i_mn x7 ((((i_mn ((fq (k + 1))) ((f k)))) + 1))))]) (fun q v hv => by rcases q with _ | _ | _ | _ | _ | _ | _ | _ | _ | _ | q <;> simp_all) (fin _ ?_)
                rw [odr, if_neg (fun z => h6 z.2.2), hx7, ef]
              · refine m_iload C d_Ed_fillRow_115 rfl ?_
                refine m_aload_n C d_Ed_fillRow_117 rfl rfl ?_
                refine m_get C fg_Ed_9 d_Ed_fillRow_118 k1 rfl ?_
                refine m_iload C d_Ed_fillRow_121 rfl ?_
                refine m_iconst (v := 2) C d_Ed_fillRow_123 (by decide) ?_
                refine m_isub C d_Ed_fillRow_124 ?_
                rw [nI_sub2 h8]
                refine m_iald (v := .int (fp (k - 1))) C d_Ed_fillRow_125 k2 kt_int (nI_pos (by omega)) (by rw [nI_clamp (by omega)]; exact arrL_get (by omega)) ?_
                refine m_iconst (v := 1) C d_Ed_fillRow_126 (by decide) ?_
                refine m_iadd C d_Ed_fillRow_127 ?_
                refine m_min C d_Ed_fillRow_128 ml_Ed_38 (by decide) (Nat.le_of_ble_eq_true rfl) (by decide) (by decide) ?_
                show mj G 10 0 0 M2 131 [some (.ref e), some (.int i1), some (.int sg), some (.int bf), some (.ref b), some (.ref ch), some (.int (nI (k + 1))), some (.int x7), some (.int (((i_mn ((fq (k + 1))) ((f k)))) + 1)), some (.int (i_mn x7 ((((i_mn ((fq (k + 1))) ((f k)))) + 1))))] [.int (i_mn ((i_mn x7 ((((i_mn ((fq (k + 1))) ((f k)))) + 1)))) ((((fp (k - 1))) + 1)))]
                refine m_istore (L' := [some (.ref e), some (.int i1), some (.int sg), some (.int bf), some (.ref b), some (.ref ch), some (.int (nI (k + 1))), some (.int x7), some (.int (((i_mn ((fq (k + 1))) ((f k)))) + 1)), some (.int (i_mn ((i_mn x7 ((((i_mn ((fq (k + 1))) ((f k)))) + 1)))) ((((fp (k - 1))) + 1))))]) C d_Ed_fillRow_131 (by decide) rfl ?_
                refine mj_L (L' := [some (.ref e), some (.int i1), some (.int sg), some (.int bf), some (.ref b), some (.ref ch), some (.int (nI (k + 1))), none, none, some (.int (i_mn ((i_mn x7 ((((i_mn ((fq (k + 1))) ((f k)))) + 1)))) ((((fp (k - 1))) + 1))))]) (fun q v hv => by rcases q with _ | _ | _ | _ | _ | _ | _ | _ | _ | _ | q <;> simp_all) (fin _ ?_)
                rw [odr, if_pos ⟨h8, h7, h6⟩, hx7, ef]
        refine m_aload_n C d_Ed_fillRow_27 rfl rfl ?_
        refine m_get C fg_Ed_15 d_Ed_fillRow_28 k1 rfl ?_
        refine m_iload C d_Ed_fillRow_31 rfl ?_
        refine m_iconst (v := 1) C d_Ed_fillRow_33 (by decide) ?_
        refine m_isub C d_Ed_fillRow_34 ?_
        rw [sk1]
        refine m_iald (v := .int (fq k)) C d_Ed_fillRow_35 k3 kt_int (nI_pos (by omega)) (by rw [nI_clamp (by omega)]; exact arrL_get (by omega)) ?_
        refine m_iload_n C d_Ed_fillRow_36 rfl rfl ?_
        refine m_aload C d_Ed_fillRow_37 rfl ?_
        refine m_iload C d_Ed_fillRow_39 rfl ?_
        refine m_iconst (v := 1) C d_Ed_fillRow_41 (by decide) ?_
        refine m_isub C d_Ed_fillRow_42 ?_
        rw [sk1]
        refine m_cald (v := .int (lsf bs (k))) C d_Ed_fillRow_43 k5 kt_char (nI_pos (by omega)) (by rw [nI_clamp (by omega)]; exact hall _ (by omega)) ?_
        refine m_icmp_ne (tgt := 51) C d_Ed_fillRow_44 (by decide) (fun h8 => ?_) (fun h8 => ?_)
        · refine m_iconst (v := 1) C d_Ed_fillRow_51 (by decide) ?_
          refine m_iadd C d_Ed_fillRow_52 ?_
          exact mid _ (by rw [if_neg h8])
        · refine m_iconst (v := 0) C d_Ed_fillRow_47 (by decide) ?_
          refine m_goto (tgt := 52) C d_Ed_fillRow_48 (by decide) ?_
          refine m_iadd C d_Ed_fillRow_52 ?_
          exact mid _ (by rw [if_pos h8])
  exact loop _ M1 0 (fu f0 0 i1) rfl (Nat.zero_le _) M1r M1o (fun j hj => by rw [Nat.le_zero.mp hj]; rfl)

set_option maxHeartbeats 4000000 in
set_option maxRecDepth 100000 in
theorem ct_Ed_count (l : Launch) (D : ma_D) (s0 : State) (e x y z p q r : Nat) (fp fq fr : Nat → Int32) (sg : Nat) (fs : Nat → Int32) (st wl : Nat) (b ch : Nat) (lb : List Value) (bs : List Int32) (M : ma_H) (he : rEd M e p q r fp fq fr) (hro : rot x y z p q r) (hxy : x ≠ y) (hyz : y ≠ z) (hxz : x ≠ z) (hs : M sg = some (.inr (.char, arrL 40 fs))) (hst : st + wl ≤ 40) (hb : rNa M b ch lb bs) (hb32 : ∀ k, k < bs.length → lsf bs k ≠ 32) : Ct l D s0 y_Ed_count c_Ed_count 7 (some .int) 2 0 0 51 [.ref e, .ref sg, .int (nI st), .int (nI wl), .ref b] M (fun q => q = e ∨ q = x ∨ q = y ∨ q = z) (fun v M' => v = some (.int (od (fun i => fs (st + i)) (lsf bs) wl bs.length)) ∧ ∃ p q r fp fq fr, rot x y z p q r ∧ rEd M' e p q r fp fq fr) := by
  refine Ct_i 2 [some (.ref e), some (.ref sg), some (.int (nI st)), some (.int (nI wl)), some (.ref b), none, none] (by decide +kernel) (Nat.le_of_ble_eq_true rfl) rfl ?_
  intro G e1 e2 e3 C hw Rt
  subst e1; subst e2; subst e3
  have hbl := hb.2.2.2.1
  have hb0 := hb
  obtain ⟨g1, g2, -, -, -⟩ := hb0
  have hwr : ∀ {p q r : Nat}, rot x y z p q r → ma_Wr G r := fun h => hw _ (Or.inr h.mem)
  refine m_iconst (v := 0) C d_Ed_count_0 (by decide) ?_
  refine m_istore (L' := [some (.ref e), some (.ref sg), some (.int (nI st)), some (.int (nI wl)), some (.ref b), some (.int 0), none]) C d_Ed_count_1 (by decide) rfl ?_
  have loop2 : ∀ (rk : Nat) (M2 : ma_H) (i : Nat) (p : Nat) (q : Nat) (r : Nat) (fp : Nat → Int32) (fq : Nat → Int32) (fr : Nat → Int32), wl - i = rk → i ≤ wl → rot x y z p q r → rEd M2 e p q r fp fq fr → M2 sg = some (.inr (.char, arrL 40 fs)) → rNa M2 b ch lb bs → (∀ j, j ≤ bs.length → fr j = (od2 (fun i => fs (st + i)) (lsf bs) i).1 j) → (0 < i → ∀ j, j ≤ bs.length → fq j = (od2 (fun i => fs (st + i)) (lsf bs) i).2 j) → mj G 7 0 0 M2 31 [some (.ref e), some (.ref sg), some (.int (nI st)), some (.int (nI wl)), some (.ref b), some (.int (nI i)), none] [] := by
    intro rk
    induction rk using Nat.strongRecOn with
    | ind rk ih =>
      intro M2 i p q r fp fq fr hr hi hro hE hS hB hr1 hr2
      obtain ⟨n1, n2, n3⟩ := hro.ne hxy hyz hxz
      obtain ⟨h1, h2, h3, h4⟩ := hE
      obtain ⟨k1, k2, -, -, -⟩ := id hB
      refine m_iload C d_Ed_count_31 rfl ?_
      refine m_iload_n C d_Ed_count_33 rfl rfl ?_
      have e1 : nI wl ≤ nI i ↔ wl ≤ i := nI_leI (by omega) (by omega)
      refine m_icmp_ge (tgt := 85) C d_Ed_count_34 (by decide) (fun h9 => ?_) (fun h9 => ?_)
      · rw [e1] at h9
        obtain rfl : i = wl := by omega
        refine m_aload_n C d_Ed_count_85 rfl rfl ?_
        refine m_get C fg_Ed_18 d_Ed_count_86 h1 rfl ?_
        refine m_aload C d_Ed_count_89 rfl ?_
        refine m_get C fg_Ed_21 d_Ed_count_91 k1 rfl ?_
        refine m_iald (v := .int (fr bs.length)) C d_Ed_count_94 h4 kt_int (nI_pos (by omega)) (by rw [nI_clamp (by omega)]; exact arrL_get (by omega)) ?_
        exact Rt _ _ _ _ _ _ (by decide) (by decide) d_Ed_count_95 (⟨by rw [hr1 _ (Nat.le_refl _)]; rfl, p, q, r, fp, fq, fr, hro, h1, h2, h3, h4⟩)
      · rw [e1] at h9
        refine m_aload_n C d_Ed_count_37 rfl rfl ?_
        refine m_callV (ci := 2) C d_Ed_count_38 mw_Ed_27 mi_Ed_turnRows se_Ed_turnRows rfl (ct_Ed_turnRows _ _ _ e p q r M2 h1) (fun q h => hw q (Or.inl h)) rfl rfl (Nat.le_of_ble_eq_true rfl) h1 (by decide) (fun v9 M9 hp h5 h6 => ?_)
        obtain ⟨rfl, t1, to⟩ := hp
        show mj G 7 0 0 M9 41 [some (.ref e), some (.ref sg), some (.int (nI st)), some (.int (nI wl)), some (.ref b), some (.int (nI i)), none] []
        have t2 : M9 p = some (.inr (.int, arrL 17 fp)) := (to p (Ne.symm (ma_ne2 h1 h2))).trans h2
        have t3 : M9 q = some (.inr (.int, arrL 17 fq)) := (to q (Ne.symm (ma_ne2 h1 h3))).trans h3
        have t4 : M9 r = some (.inr (.int, arrL 17 fr)) := (to r (Ne.symm (ma_ne2 h1 h4))).trans h4
        have tS : M9 sg = some (.inr (.char, arrL 40 fs)) := (to sg (Ne.symm (ma_ne2 h1 hS))).trans hS
        have tB : rNa M9 b ch lb bs := hB.kept (to b (ma_ne1 k1 h1 (by decide))) (to ch (Ne.symm (ma_ne2 h1 k2)))
        have mid : ∀ bf : Int32, bf = (if i = 0 then 32 else fs (st + (i - 1))) → mj G 7 0 0 M9 61 [some (.ref e), some (.ref sg), some (.int (nI st)), some (.int (nI wl)), some (.ref b), some (.int (nI i)), some (.int bf)] [] := by
          intro bf hbf
          refine m_aload_n C d_Ed_count_61 rfl rfl ?_
          refine m_iload C d_Ed_count_62 rfl ?_
          refine m_iconst (v := 1) C d_Ed_count_64 (by decide) ?_
          refine m_iadd C d_Ed_count_65 ?_
          rw [nI_1]
          refine m_aload_n C d_Ed_count_66 rfl rfl ?_
          refine m_iload_n C d_Ed_count_67 rfl rfl ?_
          refine m_iload C d_Ed_count_68 rfl ?_
          refine m_iadd C d_Ed_count_70 ?_
          rw [nI_add]
          refine m_cald (v := .int (fs (st + i))) C d_Ed_count_71 tS kt_char (nI_pos (by omega)) (by rw [nI_clamp (by omega)]; exact arrL_get (by omega)) ?_
          refine m_iload C d_Ed_count_72 rfl ?_
          refine m_aload C d_Ed_count_74 rfl ?_
          refine m_callV (ci := 2) C d_Ed_count_76 mw_Ed_30 mi_Ed_fillRow se_Ed_fillRow rfl (ct_Ed_fillRow _ _ _ e q r p fq fr fp b ch lb bs (nI (i + 1)) (fs (st + i)) bf M9 ⟨t1, t3, t4, t2⟩ (Ne.symm n1) (Ne.symm n3) tB) (fun q h => by rw [h]; exact hwr hro.next) rfl rfl (Nat.le_of_ble_eq_true rfl) t1 (by decide) (fun v8 M8 hp h5 h6 => ?_)
          obtain ⟨rfl, f, hf1, hf2⟩ := hp
          show mj G 7 0 0 M8 79 [some (.ref e), some (.ref sg), some (.int (nI st)), some (.int (nI wl)), some (.ref b), some (.int (nI i)), some (.int bf)] []
          have ne1 : ∀ {z c}, M9 z = some c → z ≠ p → M8 z = some c := fun hz hn => (h5 _ (by rw [hz]; simp) hn).trans hz
          refine m_iinc (v := (nI (i + 1))) (L' := [some (.ref e), some (.ref sg), some (.int (nI st)), some (.int (nI wl)), some (.ref b), some (.int (nI (i + 1))), some (.int bf)]) C d_Ed_count_79 rfl (nI_1 i) (by decide) rfl ?_
          refine m_goto (tgt := 31) C d_Ed_count_82 (by decide) ?_
          refine mj_L (L' := [some (.ref e), some (.ref sg), some (.int (nI st)), some (.int (nI wl)), some (.ref b), some (.int (nI (i + 1))), none]) (fun q v hv => by rcases q with _ | _ | _ | _ | _ | _ | _ | q <;> simp_all) (ih (wl - (i + 1)) (by omega) M8 (i + 1) q r p fq fr f rfl (by omega) hro.next ⟨ne1 t1 (ma_ne2 t1 t2), ne1 t3 (Ne.symm n1), ne1 t4 (Ne.symm n3), hf1⟩ (ne1 tS (ma_ne3 tS t2 (by decide))) (tB.kept ((ne1 tB.1 (ma_ne2 tB.1 t2)).trans tB.1.symm) ((ne1 tB.2.1 (ma_ne3 tB.2.1 t2 (by decide))).trans tB.2.1.symm)) ?_ (fun _ => hr1))
          intro j hj
          rw [hf2 j hj, od2, hbf]
          by_cases h0 : i = 0
          · rw [if_pos h0]; exact odr_congr hr1 (Or.inr (fun j hj => Ne.symm (hb32 j hj))) j hj
          · rw [if_neg h0]; exact odr_congr hr1 (Or.inl (hr2 (by omega))) j hj
        refine m_iload C d_Ed_count_41 rfl ?_
        have e5 : nI i ≤ 0 ↔ i = 0 := by rw [show (0 : Int32) = nI 0 from rfl, nI_leI (by omega) (by decide)]; omega
        refine m_if_le (tgt := 57) C d_Ed_count_43 (by decide) (fun h8 => ?_) (fun h8 => ?_)
        · refine m_bipush (v := 32) C d_Ed_count_57 (by decide) ?_
          refine m_istore (L' := [some (.ref e), some (.ref sg), some (.int (nI st)), some (.int (nI wl)), some (.ref b), some (.int (nI i)), some (.int 32)]) C d_Ed_count_59 (by decide) rfl ?_
          exact mid 32 (by rw [if_pos (e5.mp h8)])
        · rw [e5] at h8
          refine m_aload_n C d_Ed_count_46 rfl rfl ?_
          refine m_iload_n C d_Ed_count_47 rfl rfl ?_
          refine m_iload C d_Ed_count_48 rfl ?_
          refine m_iadd C d_Ed_count_50 ?_
          refine m_iconst (v := 1) C d_Ed_count_51 (by decide) ?_
          refine m_isub C d_Ed_count_52 ?_
          rw [nI_add, nI_sub1 (by omega)]
          refine m_cald (v := .int (fs (st + i - 1))) C d_Ed_count_53 tS kt_char (nI_pos (by omega)) (by rw [nI_clamp (by omega)]; exact arrL_get (by omega)) ?_
          refine m_goto (tgt := 59) C d_Ed_count_54 (by decide) ?_
          refine m_istore (L' := [some (.ref e), some (.ref sg), some (.int (nI st)), some (.int (nI wl)), some (.ref b), some (.int (nI i)), some (.int (fs (st + i - 1)))]) C d_Ed_count_59 (by decide) rfl ?_
          exact mid _ (by rw [if_neg h8, show st + i - 1 = st + (i - 1) by omega])
  have loop : ∀ (rk : Nat) (M2 : ma_H) (j : Nat) (f : Nat → Int32), bs.length + 1 - j = rk → j ≤ bs.length + 1 → M2 r = some (.inr (.int, arrL 17 f)) → (∀ z, z ≠ r → M2 z = M z) → (∀ i, i < j → f i = nI i) → mj G 7 0 0 M2 3 [some (.ref e), some (.ref sg), some (.int (nI st)), some (.int (nI wl)), some (.ref b), some (.int (nI j)), none] [] := by
    intro rk
    induction rk using Nat.strongRecOn with
    | ind rk ih =>
      intro M2 j f hr hj hR ho hf
      have k1 : M2 e = some (.inl (2, [.ref p, .ref q, .ref r])) := (ho e (ma_ne2 he.1 he.2.2.2)).trans he.1
      have k4 : M2 b = some (.inl (5, [.ref ch, .int (nI bs.length)])) := (ho b (ma_ne2 g1 he.2.2.2)).trans g1
      have k5 : M2 ch = some (.inr (.char, lb)) := (ho ch (ma_ne3 g2 he.2.2.2 (by decide))).trans g2
      refine m_iload C d_Ed_count_3 rfl ?_
      refine m_aload C d_Ed_count_5 rfl ?_
      refine m_get C fg_Ed_21 d_Ed_count_7 k4 rfl ?_
      have e1 : nI bs.length < nI j ↔ bs.length < j := nI_ltI (by omega) (by omega)
      refine m_icmp_gt (tgt := 28) C d_Ed_count_10 (by decide) (fun h9 => ?_) (fun h9 => ?_)
      · rw [e1] at h9
        refine m_iconst (v := 0) C d_Ed_count_28 (by decide) ?_
        refine m_istore (L' := [some (.ref e), some (.ref sg), some (.int (nI st)), some (.int (nI wl)), some (.ref b), some (.int 0), none]) C d_Ed_count_29 (by decide) rfl ?_
        obtain ⟨n1, n2, n3⟩ := hro.ne hxy hyz hxz
        exact loop2 _ M2 0 p q r fp fq f rfl (Nat.zero_le _) hro ⟨k1, (ho p n3).trans he.2.1, (ho q n2).trans he.2.2.1, hR⟩ ((ho sg (ma_ne3 hs he.2.2.2 (by decide))).trans hs) (hb.kept (k4.trans g1.symm) (k5.trans g2.symm)) (fun i hi => hf i (by omega)) (fun h => absurd h (by omega))
      · rw [e1] at h9
        refine m_aload_n C d_Ed_count_13 rfl rfl ?_
        refine m_get C fg_Ed_18 d_Ed_count_14 k1 rfl ?_
        refine m_iload C d_Ed_count_17 rfl ?_
        refine m_iload C d_Ed_count_19 rfl ?_
        refine m_iastE C d_Ed_count_21 (hwr hro) hR kt_int (nI_pos (by omega)) (by rw [nI_clamp (by omega), arrL_len]; omega) (fun M3 M3a9 M3o => ?_)
        have M3a0 : M3 r = some (.inr (.int, arrL 17 (fu f j ((nI j))))) := by rw [M3a9, nI_clamp (by omega), arrL_set]
        have M3_r : M3 r = some (.inr (.int, arrL 17 (fu f j ((nI j))))) := M3a0
        refine m_iinc (v := (nI (j + 1))) (L' := [some (.ref e), some (.ref sg), some (.int (nI st)), some (.int (nI wl)), some (.ref b), some (.int (nI (j + 1))), none]) C d_Ed_count_22 rfl (nI_1 j) (by decide) rfl ?_
        refine m_goto (tgt := 3) C d_Ed_count_25 (by decide) ?_
        refine ih (bs.length + 1 - (j + 1)) (by omega) M3 (j + 1) (fu f j (nI j)) rfl (by omega) M3_r (fun z hz => (M3o z hz).trans (ho z hz)) ?_
        intro i hi
        by_cases hij : i = j
        · rw [hij, fu, if_pos rfl]
        · rw [fu, if_neg hij]; exact hf i (by omega)
  exact loop _ M 0 fr rfl (Nat.zero_le _) he.2.2.2 (fun _ _ => rfl) (fun i h => absurd h (by omega))
