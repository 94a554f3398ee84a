/-! ===== houses: the nearest by ranges, or looked for outwards ===== -/
abbrev onN (w a : Nat) : Prop := w = 2 ∨ a % 2 = w
theorem hs_on_N {w a : Nat} (hw : w ≤ 2) (ha : a < 2 ^ 31) : hs_on (nI w) (nI a) = decide (onN w a) := by
  have e : nI a &&& 1 = nI (a % 2) := pk_andN (by omega) 1 rfl
  rw [hs_on, e, show (2 : Int32) = nI 2 from rfl]
  have e1 : (nI w = nI 2) ↔ w = 2 := nI_eq (by omega) (by decide)
  have e2 : (nI (a % 2) = nI w) ↔ a % 2 = w := nI_eq (by omega) (by omega)
  simp only [e1, e2, onN, ← Bool.decide_or]
theorem iOf_N {w a : Nat} (hw : w ≤ 2) (ha : a < 2 ^ 31) : iOf (nI w) (nI a) = decide (onN w a) := by
  have e : nI a - nI a / 2 * 2 = nI (a % 2) := pk_rem ha (by decide) (by decide)
  rw [iOf, e, show (2 : Int32) = nI 2 from rfl]
  have e1 : (nI w = nI 2) ↔ w = 2 := nI_eq (by omega) (by decide)
  have e2 : (nI (a % 2) = nI w) ↔ a % 2 = w := nI_eq (by omega) (by omega)
  simp only [e1, e2, onN, ← Bool.decide_or]
theorem inn_N {a b c : Nat} (ha : a < 2 ^ 31) (hb : b < 2 ^ 31) (hc : c < 2 ^ 31) : inn (nI a) (nI b) (nI c) = decide (b ≤ a ∧ a ≤ c) := by
  have e1 : (nI b ≤ nI a) ↔ b ≤ a := nI_leI hb ha
  have e2 : (nI a ≤ nI c) ↔ a ≤ c := nI_leI ha hc
  simp only [inn, e1, e2, Bool.decide_and]
theorem inn_nat {x : Int32} {b c : Nat} (hb : b < 2 ^ 31) (hc : c < 2 ^ 31) (h : inn x (nI b) (nI c) = true) : ∃ a : Nat, x = nI a ∧ b ≤ a ∧ a ≤ c := by
  simp only [inn, Bool.and_eq_true, decide_eq_true_eq] at h
  have h0 : ¬ x < 0 := fun z => by
    have h1 : (0 : Int32) ≤ nI b := nI_pos' hb
    exact Int32.lt_irrefl (Int32.lt_of_lt_of_le z (Int32.le_trans h1 h.1))
  obtain ⟨a, ha, rfl⟩ := nI_of h0
  exact ⟨a, rfl, (nI_leI hb ha).mp h.1, (nI_leI ha hc).mp h.2⟩
/-- a range in naturals -/
theorem gdH_N {s lo hi : Int32} (h : gdH s lo hi) : ∃ w l u F L : Nat, s = nI w ∧ lo = nI l ∧ hi = nI u ∧ w ≤ 2 ∧ 1 ≤ l ∧ l ≤ 9999 ∧ 1 ≤ u ∧ u ≤ 9999 ∧ hs_first s lo = nI F ∧ hs_last s hi = nI L ∧ F = (if onN w l then l else l + 1) ∧ L = (if onN w u then u else u - 1) ∧ F ≤ L := by
  obtain ⟨h1, h2, h3, h4⟩ := h
  obtain ⟨w, rfl, _, hw⟩ := inn_nat (b := 0) (c := 2) (by decide) (by decide) h1
  obtain ⟨l, rfl, hl1, hl2⟩ := inn_nat (b := 1) (c := 9999) (by decide) (by decide) h2
  obtain ⟨u, rfl, hu1, hu2⟩ := inn_nat (b := 1) (c := 9999) (by decide) (by decide) h3
  have e1 : hs_first (nI w) (nI l) = nI (if onN w l then l else l + 1) := by
    rw [hs_first, hs_on_N hw (by omega)]
    by_cases z : onN w l
    · simp [z]
    · simp [z, nI_1]
  have e2 : hs_last (nI w) (nI u) = nI (if onN w u then u else u - 1) := by
    rw [hs_last, hs_on_N hw (by omega)]
    by_cases z : onN w u
    · simp [z]
    · simp [z, nI_sub1 (show 0 < u by omega)]
  refine ⟨w, l, u, _, _, rfl, rfl, rfl, hw, hl1, hl2, hu1, hu2, e1, e2, rfl, rfl, ?_⟩
  rw [e1, e2] at h4
  exact (nI_leI (by split <;> omega) (by split <;> omega)).mp h4
def dsN (a h : Nat) : Nat := if h ≤ a then a - h else h - a
theorem near_N {s lo hi : Int32} (h : gdH s lo hi) {hh : Nat} (hb : hh ≤ 9999) : ∃ O : Nat, hs_near s (hs_first s lo) (hs_last s hi) (nI hh) = nI O ∧ (1 ≤ O ∧ O ≤ 9999) ∧ (inn (nI O) lo hi && iOf s (nI O)) = true ∧ ∀ a : Nat, a < 2 ^ 30 → (inn (nI a) lo hi && iOf s (nI a)) = true → dsN O hh < dsN a hh ∨ (dsN O hh = dsN a hh ∧ O ≤ a) := by
  obtain ⟨w, l, u, F, L, rfl, rfl, rfl, hw, hl1, hl2, hu1, hu2, e1, e2, eF, eL, hFL⟩ := gdH_N h
  have hF : F ≤ 10000 := by rw [eF]; split <;> omega
  have hL : L ≤ 9999 := by rw [eL]; split <;> omega
  have hm : ∀ a : Nat, a < 2 ^ 30 → ((inn (nI a) (nI l) (nI u) && iOf (nI w) (nI a)) = true ↔ l ≤ a ∧ a ≤ u ∧ onN w a) := by
    intro a ha
    rw [inn_N (by omega) (by omega) (by omega), iOf_N hw (by omega)]
    simp [and_assoc]
  have hF2 : onN w F ∧ l ≤ F ∧ F ≤ l + 1 ∧ (F ≠ l → ¬ onN w l) := by
    by_cases z : onN w l
    · rw [if_pos z] at eF; subst eF; exact ⟨z, by omega, by omega, fun y => absurd rfl y⟩
    · rw [if_neg z] at eF; subst eF; exact ⟨by unfold onN at *; omega, by omega, by omega, fun _ => z⟩
  have hL2 : onN w L ∧ L ≤ u ∧ u ≤ L + 1 ∧ (L ≠ u → ¬ onN w u) := by
    by_cases z : onN w u
    · rw [if_pos z] at eL; subst eL; exact ⟨z, by omega, by omega, fun y => absurd rfl y⟩
    · rw [if_neg z] at eL; subst eL; exact ⟨by unfold onN at *; omega, by omega, by omega, fun _ => z⟩
  have key : ∃ O : Nat, hs_near (nI w) (nI F) (nI L) (nI hh) = nI O ∧ (O = (if hh ≤ F then F else if L ≤ hh then L else if onN w hh then hh else hh - 1)) := by
    refine ⟨_, ?_, rfl⟩
    rw [hs_near, hs_on_N hw (by omega)]
    have c1 : nI hh ≤ nI F ↔ hh ≤ F := nI_leI (by omega) (by omega)
    have c2 : nI L ≤ nI hh ↔ L ≤ hh := nI_leI (by omega) (by omega)
    by_cases z1 : hh ≤ F
    · rw [if_pos (c1.mpr z1), if_pos z1]
    · rw [if_neg (fun z => z1 (c1.mp z)), if_neg z1]
      by_cases z2 : L ≤ hh
      · rw [if_pos (c2.mpr z2), if_pos z2]
      · rw [if_neg (fun z => z2 (c2.mp z)), if_neg z2]
        by_cases z3 : onN w hh
        · simp [z3]
        · simp [z3, nI_sub1 (show 0 < hh by omega)]
  obtain ⟨O, hO, eO⟩ := key
  rw [e1, e2]
  refine ⟨O, hO, ?_⟩
  clear hO h e1 e2
  have hO1 : (1 ≤ O ∧ O ≤ 9999) ∧ l ≤ O ∧ O ≤ u ∧ onN w O ∧ ∀ a, l ≤ a → a ≤ u → onN w a → dsN O hh < dsN a hh ∨ (dsN O hh = dsN a hh ∧ O ≤ a) := by
    clear hm eF eL
    split at eO
    · subst eO
      unfold onN dsN at *
      refine ⟨by omega, by omega, by omega, by omega, fun a _ _ _ => ?_⟩
      split <;> split <;> omega
    · split at eO
      · subst eO
        unfold onN dsN at *
        refine ⟨by omega, by omega, by omega, by omega, fun a _ _ _ => ?_⟩
        split <;> split <;> omega
      · split at eO
        · subst eO
          unfold onN dsN at *
          refine ⟨by omega, by omega, by omega, by omega, fun a _ _ _ => ?_⟩
          split <;> split <;> omega
        · subst eO
          unfold onN dsN at *
          refine ⟨by omega, by omega, by omega, by omega, fun a _ _ _ => ?_⟩
          split <;> split <;> omega
  exact ⟨hO1.1, (hm O (by omega)).mpr ⟨hO1.2.1, hO1.2.2.1, hO1.2.2.2.1⟩, fun a ha z => by
    have z2 := (hm a ha).mp z
    exact hO1.2.2.2.2 a z2.1 z2.2.1 z2.2.2⟩
theorem hs_less_N {h o n : Nat} (hh : h < 2 ^ 30) (ho : o < 2 ^ 30) (hn : n < 2 ^ 30) : hs_less (nI h) (nI o) (nI n) = decide (dsN o h < dsN n h ∨ (dsN o h = dsN n h ∧ o < n)) := by
  have b1 : dsN o h < 2 ^ 31 := by unfold dsN; split <;> omega
  have b2 : dsN n h < 2 ^ 31 := by unfold dsN; split <;> omega
  have e1 : i_abs (nI o - nI h) = nI (dsN o h) := i_abs_nI ho hh
  have e2 : i_abs (nI n - nI h) = nI (dsN n h) := i_abs_nI hn hh
  rw [hs_less, e1, e2]
  have c1 : nI (dsN o h) < nI (dsN n h) ↔ dsN o h < dsN n h := nI_ltI b1 b2
  have c2 : nI (dsN o h) = nI (dsN n h) ↔ dsN o h = dsN n h := nI_eq b1 b2
  have c3 : nI o < nI n ↔ o < n := nI_ltI (by omega) (by omega)
  simp only [c1, c2, c3, Bool.decide_or, Bool.decide_and]
theorem nhF_N {R : mR} {s hh : Nat} (hb : hh ≤ 9999) : ∀ k, (∀ j, j < k → gdH (R 8 (6 * s + j)) (R 9 (6 * s + j)) (R 10 (6 * s + j))) → 0 < k → ∃ O : Nat, nhF (nI hh) (fun j => hs_near (R 8 (6 * s + j)) (rgF R (6 * s + j)) (rgL R (6 * s + j)) (nI hh)) k = nI O ∧ (1 ≤ O ∧ O ≤ 9999) ∧ (∃ j, j < k ∧ (inn (nI O) (R 9 (6 * s + j)) (R 10 (6 * s + j)) && iOf (R 8 (6 * s + j)) (nI O)) = true) ∧ ∀ j a : Nat, j < k → a < 2 ^ 30 → (inn (nI a) (R 9 (6 * s + j)) (R 10 (6 * s + j)) && iOf (R 8 (6 * s + j)) (nI a)) = true → dsN O hh < dsN a hh ∨ (dsN O hh = dsN a hh ∧ O ≤ a) := by
  intro k
  induction k with
  | zero => intro _ h; omega
  | succ k ih =>
    intro hg _
    obtain ⟨Q, q1, q2, q3, q4⟩ := near_N (hg k (by omega)) hb
    have q1' : hs_near (R 8 (6 * s + k)) (rgF R (6 * s + k)) (rgL R (6 * s + k)) (nI hh) = nI Q := q1
    rw [nhF, q1']
    by_cases h0 : k = 0
    · rw [if_pos (Or.inl h0)]
      refine ⟨Q, rfl, q2, ⟨k, by omega, q3⟩, fun j a hj ha z => ?_⟩
      obtain rfl : j = k := by omega
      exact q4 a ha z
    · obtain ⟨O, o1, o2, ⟨j0, hj0, o3⟩, o4⟩ := ih (fun j hj => hg j (by omega)) (by omega)
      rw [o1, hs_less_N (by omega) (by omega) (by omega)]
      by_cases hc : dsN Q hh < dsN O hh ∨ (dsN Q hh = dsN O hh ∧ Q < O)
      · rw [if_pos (Or.inr (decide_eq_true hc))]
        refine ⟨Q, rfl, q2, ⟨k, by omega, q3⟩, fun j a hj ha z => ?_⟩
        by_cases hjk : j = k
        · subst hjk; exact q4 a ha z
        · have := o4 j a (by omega) ha z
          omega
      · rw [if_neg (by simp [h0, hc])]
        refine ⟨O, rfl, o2, ⟨j0, by omega, o3⟩, fun j a hj ha z => ?_⟩
        by_cases hjk : j = k
        · subst hjk
          have := q4 a ha z
          omega
        · exact o4 j a (by omega) ha z
theorem isH_neg {R : mR} {s : Nat} (hg : ∀ j, j < tn (R 7 s) → gdH (R 8 (6 * s + j)) (R 9 (6 * s + j)) (R 10 (6 * s + j))) {x : Int32} (hx : x < 0) : isH R s x = false := by
  rw [isH, decide_eq_false_iff_not]
  rintro ⟨j, hj, z⟩
  obtain ⟨_, h2, _, _⟩ := hg j hj
  simp only [inn, Bool.and_eq_true, decide_eq_true_eq] at z h2
  have h3 : (1 : Int32) ≤ x := Int32.le_trans h2.1 z.1.1
  have h4 : (1 : Int32) < 0 := Int32.lt_of_le_of_lt h3 hx
  exact absurd h4 (by decide)
theorem nhM_N {R : mR} {s hh O : Nat} (hb : hh ≤ 9999) (hg : ∀ j, j < tn (R 7 s) → gdH (R 8 (6 * s + j)) (R 9 (6 * s + j)) (R 10 (6 * s + j))) (hO : O ≤ 9999) (hm : isH R s (nI O) = true) (hbest : ∀ a : Nat, a < 2 ^ 30 → isH R s (nI a) = true → dsN O hh < dsN a hh ∨ (dsN O hh = dsN a hh ∧ O ≤ a)) : ∀ f d, d + f = 10000 → d ≤ dsN O hh → nhM R s (nI hh) f d = nI O := by
  have hD : dsN O hh < 10000 := by unfold dsN; split <;> omega
  intro f
  induction f with
  | zero => intro d h1 h2; omega
  | succ f ih =>
    intro d h1 h2
    rw [nhM, nI_add]
    by_cases hd : d = dsN O hh
    · by_cases hle : d ≤ hh ∧ O = hh - d
      · rw [pk_sub hle.1, ← hle.2, if_pos hm]
      · have hO2 : O = hh + d ∧ 0 < d := by unfold dsN at hd; split at hd <;> omega
        have hno : ¬ isH R s (nI hh - nI d) = true := by
          by_cases z : d ≤ hh
          · rw [pk_sub z]
            intro z2
            have := hbest (hh - d) (by omega) z2
            unfold dsN at this; split at this <;> split at this <;> omega
          · rw [isH_neg hg (pk_sneg (by omega) (by omega))]; simp
        rw [if_neg hno, ← hO2.1, if_pos hm]
    · have hno : ¬ isH R s (nI hh - nI d) = true := by
        by_cases z : d ≤ hh
        · rw [pk_sub z]
          intro z2
          have := hbest (hh - d) (by omega) z2
          have e : dsN (hh - d) hh = d := by unfold dsN; split <;> omega
          omega
        · rw [isH_neg hg (pk_sneg (by omega) (by omega))]; simp
      have hno2 : ¬ isH R s (nI (hh + d)) = true := by
        intro z2
        have := hbest (hh + d) (by omega) z2
        have e : dsN (hh + d) hh = d := by unfold dsN; split <;> omega
        omega
      rw [if_neg hno, if_neg hno2]
      exact ih (d + 1) (by omega) (by omega)
theorem ho_M {R : mR} (hw : WfS R) {s : Nat} (hs : s < nS R) {h : Int32} (hh : inn h 0 9999 = true) : hoT R s h = nhR R s h ∧ hoI R s h = isH R s h := by
  obtain ⟨hb, _, h7, _, _, _, _, _, hg, _⟩ := hw
  obtain ⟨n, rfl, _, hn⟩ := inn_nat (b := 0) (c := 9999) (by decide) (by decide) hh
  have hg' := hg s
  have e7 := (h7 s hs).2
  have l7 := (hb.2 s hs).2.1
  by_cases h0 : tn (R 7 s) = 0
  · have e70 : R 7 s = 0 := by rw [e7, h0]; rfl
    refine ⟨by rw [hoT, h0, nhR, if_pos e70]; rfl, ?_⟩
    rw [hoI, isH, decide_eq_decide, h0]
    exact ⟨fun z => by omega, fun ⟨j, hj, _⟩ => by omega⟩
  · have e70 : ¬ R 7 s = 0 := by rw [e7]; exact nI_ne0 (by omega) (by omega)
    obtain ⟨O, o1, o2, ⟨j0, hj0, o3⟩, o4⟩ := nhF_N (R := R) (s := s) hn (tn (R 7 s)) (fun j hj => hg' j hs hj) (by omega)
    have o1' : hoT R s (nI n) = nI O := o1
    have hm : isH R s (nI O) = true := decide_eq_true ⟨j0, hj0, o3⟩
    have hbest : ∀ a : Nat, a < 2 ^ 30 → isH R s (nI a) = true → dsN O n < dsN a n ∨ (dsN O n = dsN a n ∧ O ≤ a) := by
      intro a ha z
      rw [isH, decide_eq_true_eq] at z
      obtain ⟨j, hj, z⟩ := z
      exact o4 j a hj ha z
    refine ⟨?_, ?_⟩
    · rw [o1', nhR, if_neg e70, nhM_N hn (fun j hj => hg' j hs hj) (by omega) hm hbest 10000 0 rfl (Nat.zero_le _)]
    · rw [hoI, o1']
      by_cases z : isH R s (nI n) = true
      · rw [z]
        have := hbest n (by omega) z
        have e : dsN n n = 0 := by unfold dsN; split <;> omega
        have e2 : O = n := by rw [e] at this; unfold dsN at this; split at this <;> omega
        rw [e2]
        exact decide_eq_true ⟨by omega, rfl⟩
      · rw [show isH R s (nI n) = false by simpa using z, decide_eq_false_iff_not]
        rintro ⟨_, z2⟩
        rw [z2] at hm
        exact z hm
theorem pl_T {R : mR} (hw : WfS R) {p w : Nat} : plM R p w = tell R p w := by
  have h31 : inn (R 31 0) 0 9999 = true := hw.2.2.2.2.2.2.2.2.2.2.1
  rw [plM, tell]
  by_cases hp : p < nS R
  · rw [if_pos hp, if_pos hp, tlS, (ho_M hw hp h31).1, (ho_M hw hp h31).2]
  · rw [if_neg hp, if_neg hp]
