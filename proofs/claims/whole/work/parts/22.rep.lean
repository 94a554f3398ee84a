/-! ===== the state, by the fields of the model: R k i is the place i of its field number k; how the heap of the other holds it ===== -/
abbrev mR : Type := Nat → Nat → Int32
def uR (R : mR) (k i : Nat) (v : Int32) : mR := fun k' => if k' = k then fu (R k) i v else R k'
theorem uR_s {R : mR} {k i : Nat} {v : Int32} : uR R k i v k = fu (R k) i v := if_pos rfl
theorem uR_n {R : mR} {k k' i : Nat} {v : Int32} (h : k' ≠ k) : uR R k i v k' = R k' := if_neg h
theorem fu_s {f : Nat → Int32} {i : Nat} {v : Int32} : fu f i v i = v := if_pos rfl
theorem fu_n {f : Nat → Int32} {i j : Nat} {v : Int32} (h : j ≠ i) : fu f i v j = f j := if_neg h
abbrev nS (R : mR) : Nat := tn (R 1 0)
abbrev nL (R : mR) : Nat := tn (R 16 0)
abbrev nC (R : mR) : Nat := tn (R 21 0)
abbrev nW (R : mR) : Nat := tn (R 26 0)
abbrev nF (R : mR) : Nat := tn (R 28 0)
/-- the letters of the name number k (three a street), of the landmark m -/
def nmL (R : mR) (k : Nat) : List Int32 := (List.range (tn (R 5 k))).map fun c => R 6 (16 * k + c)
def lmL (R : mR) (m : Nat) : List Int32 := (List.range (tn (R 19 m))).map fun c => R 20 (8 * m + c)
theorem nmL_len {R : mR} {k : Nat} : (nmL R k).length = tn (R 5 k) := by simp [nmL]
theorem lmL_len {R : mR} {k : Nat} : (lmL R k).length = tn (R 19 k) := by simp [lmL]
def rgF (R : mR) (k : Nat) : Int32 := hs_first (R 8 k) (R 9 k)
def rgL (R : mR) (k : Nat) : Int32 := hs_last (R 8 k) (R 10 k)
/-- the house told of the street s for the house h -/
def hoT (R : mR) (s : Nat) (h : Int32) : Int32 := nhF h (fun j => hs_near (R 8 (6 * s + j)) (rgF R (6 * s + j)) (rgL R (6 * s + j)) h) (tn (R 7 s))
def hoI (R : mR) (s : Nat) (h : Int32) : Bool := decide (0 < tn (R 7 s) ∧ hoT R s h = h)
/-- what is told of the candidate p: by streets ahead of landmarks -/
def tlS (R : mR) (p w : Nat) : Int32 := if w = 0 then nI p else if w = 1 then (if R 31 0 = 0 then 0 else hoT R p (R 31 0)) else if w = 2 then (if R 31 0 = 0 then 2 else if hoI R p (R 31 0) then 0 else 1) + (if R 3 p = 0 then 0 else 10) else if w = 3 then R 30 p else if w = 4 then R 2 p else -1
def tlM (R : mR) (p m w : Nat) : Int32 := if w = 0 then R 17 m else if w = 1 then R 18 m else if w = 2 then 3 + (if R 3 (tn (R 17 m)) = 0 then 0 else 10) else if w = 3 then R 30 p else if w = 4 then R 2 (tn (R 17 m)) else nI m
def tell (R : mR) (p w : Nat) : Int32 := if p < nS R then tlS R p w else tlM R p (p - nS R) w
abbrev mAd : Type := Nat → Nat → Nat → Nat
def lvB (R : mR) (k : Nat) : Nat := if k < 16 then 1 else if k = 16 then 10 else if k < 23 then nS R else if k < 26 then nL R else if k = 26 then nC R else 0
def lvJ (R : mR) (k i : Nat) : Nat := if k = 20 ∨ k = 21 then 3 else if k = 22 then tn (R 7 i) else 1
/-- the cells that there are -/
def lv (R : mR) (k i j : Nat) : Prop := i < lvB R k ∧ j < lvJ R k i
def okC (R : mR) (ad : mAd) (k i j : Nat) (c : Option ma_E) : Prop := match k with
  | 0 => c = some (.inl (0, [.ref (ad 1 0 0), .int (nI (nS R)), .ref (ad 2 0 0), .int (nI (nL R)), .ref (ad 3 0 0), .int (nI (nC R)), .ref (ad 5 0 0), .ref (ad 9 0 0), .ref (ad 13 0 0), .ref (ad 4 0 0), .int (nI (nF R))]))
  | 1 => ∃ l, c = some (.inr (.object R_St, l)) ∧ l.length = 30 ∧ ∀ q, q < nS R → l[q]? = some (.ref (ad 17 q 0))
  | 2 => ∃ l, c = some (.inr (.object R_LM, l)) ∧ l.length = 20 ∧ ∀ q, q < nL R → l[q]? = some (.ref (ad 23 q 0))
  | 3 => ∃ l, c = some (.inr (.object R_Co, l)) ∧ l.length = 40 ∧ ∀ q, q < nC R → l[q]? = some (.ref (ad 26 q 0))
  | 4 => ∃ l, c = some (.inr (.object R_Pl, l)) ∧ l.length = 10 ∧ ∀ q, q < 10 → l[q]? = some (.ref (ad 16 q 0))
  | 5 => ∃ s : saT, c = some (.inl (8, saF (ad 6 0 0) (nW R) (ad 7 0 0) (ad 8 0 0) s))
  | 6 => ∃ f, c = some (.inr (.char, arrL 40 f)) ∧ ∀ q, q < nW R → f q = R 27 q
  | 7 => ∃ f, c = some (.inr (.int, arrL 20 f))
  | 8 => ∃ f, c = some (.inr (.int, arrL 20 f))
  | 9 => ∃ p q r, rot (ad 10 0 0) (ad 11 0 0) (ad 12 0 0) p q r ∧ c = some (.inl (2, [.ref p, .ref q, .ref r]))
  | 10 => ∃ f, c = some (.inr (.int, arrL 17 f))
  | 11 => ∃ f, c = some (.inr (.int, arrL 17 f))
  | 12 => ∃ f, c = some (.inr (.int, arrL 17 f))
  | 13 => ∃ k sz : Nat, c = some (.inl (7, [.ref (ad 14 0 0), .ref (ad 15 0 0), .int (nI k), .int (nI sz)]))
  | 14 => ∃ f, c = some (.inr (.int, arrL 10 f))
  | 15 => ∃ f, c = some (.inr (.int, arrL 10 f))
  | 16 => ∃ f : Nat → Int32, c = some (.inl (6, [.int (f 0), .int (f 1), .int (f 2), .int (f 3), .int (f 4), .int (f 5)])) ∧ (i < nF R → ∀ w, w < 6 → f w = tell R (tn (R 29 i)) w)
  | 17 => c = some (.inl (9, stF (R 2 i) (ad 18 i 0) (tn (R 4 i)) (ad 19 i 0) (tn (R 7 i)) (R 11 i) (R 12 i) (R 11 i + R 13 i) (R 12 i + R 14 i) (R 15 i) (R 3 i)))
  | 18 => ∃ l, c = some (.inr (.object R_Na, l)) ∧ l.length = 3 ∧ ∀ q, q < 3 → l[q]? = some (.ref (ad 20 i q))
  | 19 => ∃ l, c = some (.inr (.object R_HR, l)) ∧ l.length = 6 ∧ ∀ q, q < tn (R 7 i) → l[q]? = some (.ref (ad 22 i q))
  | 20 => c = some (.inl (5, [.ref (ad 21 i j), .int (nI (nmL R (3 * i + j)).length)]))
  | 21 => ∃ l, c = some (.inr (.char, l)) ∧ l.length = 16 ∧ (nmL R (3 * i + j)).length ≤ 16 ∧ ∀ (q : Nat) (x : Int32), (nmL R (3 * i + j))[q]? = some x → l[q]? = some (.int x)
  | 22 => c = some (.inl (3, [.int (R 8 (6 * i + j)), .int (rgF R (6 * i + j)), .int (rgL R (6 * i + j))]))
  | 23 => c = some (.inl (4, [.int (R 17 i), .int (R 18 i), .ref (ad 24 i 0)]))
  | 24 => c = some (.inl (5, [.ref (ad 25 i 0), .int (nI (lmL R i).length)]))
  | 25 => ∃ l, c = some (.inr (.char, l)) ∧ l.length = 16 ∧ (lmL R i).length ≤ 16 ∧ ∀ (q : Nat) (x : Int32), (lmL R i)[q]? = some x → l[q]? = some (.int x)
  | 26 => c = some (.inl (1, [.int (R 22 i), .int (R 23 i), .int (R 24 i), .int (R 25 i)]))
  | _ => False
def adI (R : mR) (ad : mAd) : Prop := ∀ k i j k' i' j' : Nat, lv R k i j → lv R k' i' j' → ad k i j = ad k' i' j' → k = k' ∧ i = i' ∧ j = j'
def RepC (R : mR) (ad : mAd) (M : ma_H) : Prop := (∀ k i j : Nat, lv R k i j → okC R ad k i j (M (ad k i j))) ∧ adI R ad
/-- the addresses of its cells -/
def foot (R : mR) (ad : mAd) (q : Nat) : Prop := ∃ k i j, lv R k i j ∧ ad k i j = q
theorem okC_some {R : mR} {ad : mAd} {k i j : Nat} {c : Option ma_E} (hl : lv R k i j) (h : okC R ad k i j c) : c ≠ none := by
  rintro rfl
  by_cases hk : k ≤ 26
  · have h9 : k = 0 ∨ k = 1 ∨ k = 2 ∨ k = 3 ∨ k = 4 ∨ k = 5 ∨ k = 6 ∨ k = 7 ∨ k = 8 ∨ k = 9 ∨ k = 10 ∨ k = 11 ∨ k = 12 ∨ k = 13 ∨ k = 14 ∨ k = 15 ∨ k = 16 ∨ k = 17 ∨ k = 18 ∨ k = 19 ∨ k = 20 ∨ k = 21 ∨ k = 22 ∨ k = 23 ∨ k = 24 ∨ k = 25 ∨ k = 26 := by omega
    rcases h9 with rfl | rfl | rfl | rfl | rfl | rfl | rfl | rfl | rfl | rfl | rfl | rfl | rfl | rfl | rfl | rfl | rfl | rfl | rfl | rfl | rfl | rfl | rfl | rfl | rfl | rfl | rfl <;> simp [okC] at h
  · have h2 : lvB R k = 0 := by simp only [lvB]; rw [if_neg (by omega), if_neg (by omega), if_neg (by omega), if_neg (by omega), if_neg (by omega)]
    have h3 := hl.1
    rw [h2] at h3
    omega
theorem RepC.ne0 {R : mR} {ad : mAd} {M : ma_H} (h : RepC R ad M) {k i j : Nat} (hl : lv R k i j) : M (ad k i j) ≠ none := okC_some hl (h.1 k i j hl)
theorem lv_le {R : mR} {k i j : Nat} (h : lv R k i j) : k ≤ 26 := by
  apply Classical.byContradiction
  intro hk
  have h2 : lvB R k = 0 := by simp only [lvB]; rw [if_neg (by omega), if_neg (by omega), if_neg (by omega), if_neg (by omega), if_neg (by omega)]
  have h3 := h.1
  rw [h2] at h3
  omega
theorem RepC.ne {R : mR} {ad : mAd} {M : ma_H} (h : RepC R ad M) {k i j k' i' j' : Nat} (hl : lv R k i j) (hl' : lv R k' i' j') (hn : ¬ (k = k' ∧ i = i' ∧ j = j')) : ad k i j ≠ ad k' i' j' := fun e => hn (h.2 k i j k' i' j' hl hl' e)
/-- a new picture over the old one: the cells of W are shown anew, the others hold what they held -/
theorem RepC.upd {R R' : mR} {ad : mAd} {M M' : ma_H} (h : RepC R ad M) (W : Nat → Nat → Nat → Prop) (hl : ∀ k i j, lv R' k i j → lv R k i j) (hag : ∀ k i j, lv R k i j → ¬ W k i j → M' (ad k i j) = M (ad k i j)) (hmo : ∀ k i j, lv R' k i j → ¬ W k i j → ∀ c, okC R ad k i j c → okC R' ad k i j c) (hW : ∀ k i j, lv R' k i j → W k i j → okC R' ad k i j (M' (ad k i j))) : RepC R' ad M' := by
  refine ⟨fun k i j hv => ?_, fun k i j k' i' j' h1 h2 => h.2 k i j k' i' j' (hl k i j h1) (hl k' i' j' h2)⟩
  by_cases hw : W k i j
  · exact hW k i j hv hw
  · rw [hag k i j (hl k i j hv) hw]
    exact hmo k i j hv hw _ (h.1 k i j (hl k i j hv))
theorem RepC.kept {R : mR} {ad : mAd} {M M' : ma_H} (h : RepC R ad M) (hag : ∀ k i j, lv R k i j → M' (ad k i j) = M (ad k i j)) : RepC R ad M' := h.upd (fun _ _ _ => False) (fun _ _ _ z => z) (fun k i j z _ => hag k i j z) (fun _ _ _ _ _ _ z => z) (fun _ _ _ _ z => z.elim)
section
variable {R : mR} {ad : mAd} {M : ma_H}
theorem lv_o {k : Nat} (hk : k < 16) : lv R k 0 0 := ⟨by rw [lvB, if_pos hk]; decide, by rw [lvJ, if_neg (by omega), if_neg (by omega)]; decide⟩
theorem lv_p {i : Nat} (hi : i < 10) : lv R 16 i 0 := ⟨hi, Nat.one_pos⟩
theorem lv_s {k i : Nat} (hk : 17 ≤ k ∧ k ≤ 19) (hi : i < nS R) : lv R k i 0 := ⟨by rw [lvB, if_neg (by omega), if_neg (by omega), if_pos (by omega)]; exact hi, by rw [lvJ, if_neg (by omega), if_neg (by omega)]; decide⟩
theorem lv_n {k i j : Nat} (hk : k = 20 ∨ k = 21) (hi : i < nS R) (hj : j < 3) : lv R k i j := ⟨by rw [lvB, if_neg (by omega), if_neg (by omega), if_pos (by omega)]; exact hi, by rw [lvJ, if_pos hk]; exact hj⟩
theorem lv_r {i j : Nat} (hi : i < nS R) (hj : j < tn (R 7 i)) : lv R 22 i j := ⟨hi, hj⟩
theorem lv_m {k i : Nat} (hk : 23 ≤ k ∧ k ≤ 25) (hi : i < nL R) : lv R k i 0 := ⟨by rw [lvB, if_neg (by omega), if_neg (by omega), if_neg (by omega), if_pos (by omega)]; exact hi, by rw [lvJ, if_neg (by omega), if_neg (by omega)]; decide⟩
theorem lv_c {i : Nat} (hi : i < nC R) : lv R 26 i 0 := ⟨hi, Nat.one_pos⟩
theorem RepC.root (h : RepC R ad M) : M (ad 0 0 0) = some (.inl (0, [.ref (ad 1 0 0), .int (nI (nS R)), .ref (ad 2 0 0), .int (nI (nL R)), .ref (ad 3 0 0), .int (nI (nC R)), .ref (ad 5 0 0), .ref (ad 9 0 0), .ref (ad 13 0 0), .ref (ad 4 0 0), .int (nI (nF R))])) := h.1 0 0 0 (lv_o (by decide))
theorem RepC.sts (h : RepC R ad M) : ∃ l, M (ad 1 0 0) = some (.inr (.object R_St, l)) ∧ l.length = 30 ∧ ∀ q, q < nS R → l[q]? = some (.ref (ad 17 q 0)) := h.1 1 0 0 (lv_o (by decide))
theorem RepC.lms (h : RepC R ad M) : ∃ l, M (ad 2 0 0) = some (.inr (.object R_LM, l)) ∧ l.length = 20 ∧ ∀ q, q < nL R → l[q]? = some (.ref (ad 23 q 0)) := h.1 2 0 0 (lv_o (by decide))
theorem RepC.cos (h : RepC R ad M) : ∃ l, M (ad 3 0 0) = some (.inr (.object R_Co, l)) ∧ l.length = 40 ∧ ∀ q, q < nC R → l[q]? = some (.ref (ad 26 q 0)) := h.1 3 0 0 (lv_o (by decide))
theorem RepC.pls (h : RepC R ad M) : ∃ l, M (ad 4 0 0) = some (.inr (.object R_Pl, l)) ∧ l.length = 10 ∧ ∀ q, q < 10 → l[q]? = some (.ref (ad 16 q 0)) := h.1 4 0 0 (lv_o (by decide))
theorem RepC.st (h : RepC R ad M) {i : Nat} (hi : i < nS R) : M (ad 17 i 0) = some (.inl (9, stF (R 2 i) (ad 18 i 0) (tn (R 4 i)) (ad 19 i 0) (tn (R 7 i)) (R 11 i) (R 12 i) (R 11 i + R 13 i) (R 12 i + R 14 i) (R 15 i) (R 3 i))) := h.1 17 i 0 (lv_s (by decide) hi)
theorem RepC.nms (h : RepC R ad M) {i : Nat} (hi : i < nS R) : ∃ l, M (ad 18 i 0) = some (.inr (.object R_Na, l)) ∧ l.length = 3 ∧ ∀ q, q < 3 → l[q]? = some (.ref (ad 20 i q)) := h.1 18 i 0 (lv_s (by decide) hi)
theorem RepC.nm (h : RepC R ad M) {i j : Nat} (hi : i < nS R) (hj : j < 3) : ∃ l, rNa M (ad 20 i j) (ad 21 i j) l (nmL R (3 * i + j)) := by
  obtain ⟨l, h2⟩ := h.1 21 i j (lv_n (Or.inr rfl) hi hj)
  exact ⟨l, h.1 20 i j (lv_n (Or.inl rfl) hi hj), h2⟩
theorem RepC.rNs (h : RepC R ad M) {i nc : Nat} (hi : i < nS R) (hn : nc ≤ 3) : rNs M (ad 18 i 0) (fun j => ad 20 i j) (fun j => ad 21 i j) (fun j => nmL R (3 * i + j)) nc := by
  obtain ⟨l, h1, h2, h3⟩ := h.nms hi
  exact ⟨⟨l, h1, fun q hq => h3 q (by omega)⟩, fun q hq => h.nm hi (by omega)⟩
theorem RepC.rRs (h : RepC R ad M) {i : Nat} (hi : i < nS R) : rRs M (ad 19 i 0) (fun j => ad 22 i j) (fun j => R 8 (6 * i + j)) (fun j => rgF R (6 * i + j)) (fun j => rgL R (6 * i + j)) (tn (R 7 i)) := by
  obtain ⟨l, h1, h2, h3⟩ := h.1 19 i 0 (lv_s (by decide) hi)
  exact ⟨⟨l, h1, h3⟩, fun q hq => h.1 22 i q (lv_r hi hq)⟩
theorem RepC.lm (h : RepC R ad M) {i : Nat} (hi : i < nL R) : M (ad 23 i 0) = some (.inl (4, [.int (R 17 i), .int (R 18 i), .ref (ad 24 i 0)])) := h.1 23 i 0 (lv_m (by decide) hi)
theorem RepC.ln (h : RepC R ad M) {i : Nat} (hi : i < nL R) : ∃ l, rNa M (ad 24 i 0) (ad 25 i 0) l (lmL R i) := by
  obtain ⟨l, h2⟩ := h.1 25 i 0 (lv_m (by decide) hi)
  exact ⟨l, h.1 24 i 0 (lv_m (by decide) hi), h2⟩
theorem RepC.co (h : RepC R ad M) {i : Nat} (hi : i < nC R) : M (ad 26 i 0) = some (.inl (1, [.int (R 22 i), .int (R 23 i), .int (R 24 i), .int (R 25 i)])) := h.1 26 i 0 (lv_c hi)
end
