/-! ===== distances: no less than the lengths' difference ===== -/
theorem i_mn_nI {a b : Nat} (ha : a < 2 ^ 31) (hb : b < 2 ^ 31) : i_mn (nI a) (nI b) = nI (min a b) := by
  rw [i_mn]
  by_cases h : b < a
  · rw [if_pos ((nI_ltI hb ha).mpr h), Nat.min_eq_right (by omega)]
  · rw [if_neg (fun z => h ((nI_ltI hb ha).mp z)), Nat.min_eq_left (by omega)]
theorem od_bd {a b : Nat → Int32} {m : Nat} (hb : ∀ k, k < m → b k ≠ 32) : ∀ s i j, i + j = s → s < 2 ^ 30 → j ≤ m → ∃ d : Nat, od a b i j = nI d ∧ d ≤ i + j ∧ i ≤ j + d ∧ j ≤ i + d := by
  intro s
  induction s using Nat.strongRecOn with
  | ind s ih =>
    intro i j hs hl hj
    cases i with
    | zero => exact ⟨j, od_0 a b j, by omega, by omega, by omega⟩
    | succ i =>
      cases j with
      | zero => exact ⟨i + 1, od_k0 a b (i + 1), by omega, by omega, by omega⟩
      | succ k =>
        rw [od_s (hb k (by omega))]
        obtain ⟨d1, e1, b1⟩ := ih (i + k) (by omega) i k rfl (by omega) (by omega)
        obtain ⟨d2, e2, b2⟩ := ih (i + (k + 1)) (by omega) i (k + 1) rfl (by omega) hj
        obtain ⟨d3, e3, b3⟩ := ih (i + 1 + k) (by omega) (i + 1) k rfl (by omega) (by omega)
        obtain ⟨c, hc, ec⟩ : ∃ c : Nat, c ≤ 1 ∧ od a b i k + (if a i = b k then 0 else 1) = nI (d1 + c) := by
          by_cases h : a i = b k
          · exact ⟨0, by omega, by rw [if_pos h, e1]; exact nI_add d1 0⟩
          · exact ⟨1, by omega, by rw [if_neg h, e1, nI_1]⟩
        rw [ec, e2, e3, i_mn_nI (by omega) (by omega), nI_1, i_mn_nI (by omega) (by omega)]
        split
        · rename_i h
          obtain ⟨d4, e4, b4⟩ := ih (i - 1 + (k - 1)) (by omega) (i - 1) (k - 1) rfl (by omega) (by omega)
          rw [e4, nI_1, i_mn_nI (by omega) (by omega)]
          exact ⟨_, rfl, by omega, by omega, by omega⟩
        · exact ⟨_, rfl, by omega, by omega, by omega⟩
theorem i_abs_nI {x y : Nat} (hx : x < 2 ^ 30) (hy : y < 2 ^ 30) : i_abs (nI x - nI y) = nI (if y ≤ x then x - y else y - x) := by
  rw [i_abs]
  by_cases h : y ≤ x
  · rw [pk_sub h, if_pos (nI_pos' (by omega)), if_pos h]
  · rw [if_neg (Int32.not_le.mpr (pk_sneg hy (by omega))), if_neg h]
    have := pk_sub (show x ≤ y by omega)
    rw [← this]; grind
/-- the least of L and the words' distances -/
def mdN (sg b : Nat → Int32) (n L : Nat) : List (Nat × Nat) → Nat
  | [] => L
  | w :: t => min (mdN sg b n L t) (tn (od (fun c => sg (w.1 + c)) b w.2 n))
theorem mdN_le (sg b : Nat → Int32) (n L : Nat) : ∀ l, mdN sg b n L l ≤ L := by
  intro l
  induction l with
  | nil => exact Nat.le_refl _
  | cons w t ih => rw [mdN]; omega
theorem mdN_mn (sg b : Nat → Int32) (n : Nat) {L K : Nat} (h : L ≤ K) : ∀ l, mdN sg b n L l = min L (mdN sg b n K l) := by
  intro l
  induction l with
  | nil => rw [mdN, mdN]; omega
  | cons w t ih => rw [mdN, mdN, ih]; omega
theorem od_tn {a b : Nat → Int32} {n m : Nat} (hb : ∀ k, k < m → b k ≠ 32) (h : n + m < 2 ^ 30) : ∃ d : Nat, od a b n m = nI d ∧ tn (od a b n m) = d ∧ d < 2 ^ 30 ∧ n ≤ m + d ∧ m ≤ n + d := by
  obtain ⟨d, e, h1, h2, h3⟩ := od_bd (a := a) hb (n + m) n m rfl h (Nat.le_refl _)
  exact ⟨d, e, by rw [e]; exact tn_nI (by omega), by omega, h2, h3⟩
theorem mdF_N {sg b : Nat → Int32} {n : Nat} (hn : n ≤ 100) (hb : ∀ k, k < n → b k ≠ 32) : ∀ l : List (Nat × Nat), (∀ w ∈ l, w.1 + w.2 ≤ 100) → mdF sg b n l = nI (mdN sg b n 99 l) := by
  intro l
  induction l with
  | nil => intro _; rfl
  | cons w t ih =>
    intro h
    have hw := h w List.mem_cons_self
    have h1 := ih (fun v hv => h v (List.mem_cons_of_mem _ hv))
    obtain ⟨d, e, e2, hd, _, _⟩ := od_tn (a := fun c => sg (w.1 + c)) (n := w.2) hb (by omega)
    have h2 := mdN_le sg b n 99 t
    rw [mdF, mdN, h1, e2, e, i_mn_nI (by omega) (by omega)]
theorem ndk_N {fs : Nat → Int32} {s : saT} {bs : List Int32} {L : Nat} (hL : L ≤ 99) (hn : bs.length ≤ 100) (hb : ∀ k, k < bs.length → lsf bs k ≠ 32) : ∀ l : List (Nat × Nat), (∀ w ∈ l, w.1 + w.2 ≤ 100) → wOk s.2.2.2.2.1 s.2.2.2.2.2 l → ndk fs s bs (nI L) l.length = nI (mdN fs (lsf bs) bs.length L l) := by
  intro l
  induction l with
  | nil => intro _ _; rfl
  | cons w t ih =>
    intro h hw9
    have hw := h w List.mem_cons_self
    have h1 := ih (fun v hv => h v (List.mem_cons_of_mem _ hv)) hw9.2
    obtain ⟨d, e, e2, hd, b1, b2⟩ := od_tn (a := fun c => fs (w.1 + c)) (n := w.2) hb (by omega)
    have h2 := mdN_le fs (lsf bs) bs.length L t
    rw [List.length_cons, ndk, mdN, h1, hw9.1.1, hw9.1.2, tn_nI (by omega), tn_nI (by omega), e2, e, i_abs_nI (by omega) (by omega)]
    by_cases h3 : (if bs.length ≤ w.2 then w.2 - bs.length else bs.length - w.2) < mdN fs (lsf bs) bs.length L t
    · rw [if_pos ((nI_ltI (by split <;> omega) (by omega)).mpr h3), i_mn_nI (by omega) (by omega)]
    · rw [if_neg (fun z => h3 ((nI_ltI (by split <;> omega) (by omega)).mp z)), Nat.min_eq_left (by split at h3 <;> omega)]
theorem wdL_100 {sg : Nat → Int32} {n : Nat} (hn : n ≤ 40) : ∀ w ∈ wdL sg n, w.1 + w.2 ≤ 100 := fun w hw => by have := wdL_bd hw; omega
theorem mdN_cg {a a' b b' : Nat → Int32} {m L n : Nat} (ha : ∀ c, c < n → a c = a' c) (hb : ∀ c, c < m → b c = b' c) : ∀ l : List (Nat × Nat), (∀ w ∈ l, w.1 + w.2 ≤ n) → mdN a b m L l = mdN a' b' m L l := by
  intro l
  induction l with
  | nil => intro _; rfl
  | cons w t ih =>
    intro h
    have hw := h w List.mem_cons_self
    rw [mdN, mdN, ih (fun v hv => h v (List.mem_cons_of_mem _ hv)), od_cg (a' := fun c => a' (w.1 + c)) (fun c hc => ha _ (by omega)) hb]
theorem nmL_lsf {R : mR} {k c : Nat} (h : c < tn (R 5 k)) : lsf (nmL R k) c = R 6 (16 * k + c) := by
  simp [lsf, nmL, List.getD, List.getElem?_range h]
theorem nmL_ln {R : mR} {k : Nat} : (nmL R k).length = tn (R 5 k) := by simp [nmL]
theorem lmL_lsf {R : mR} {k c : Nat} (h : c < tn (R 19 k)) : lsf (lmL R k) c = R 20 (8 * k + c) := by
  simp [lsf, lmL, List.getD, List.getElem?_range h]
theorem lmL_ln {R : mR} {k : Nat} : (lmL R k).length = tn (R 19 k) := by simp [lmL]
theorem WfS_Ltr {R : mR} (h : WfS R) : Ltr R := by
  obtain ⟨hb, _, _, h5, _, _, ⟨hl, hm⟩, _⟩ := h
  refine ⟨fun i j hi hj k hk => ?_, fun m hm9 k hk => ?_⟩
  · rw [nmL_ln] at hk
    rw [nmL_lsf hk]
    exact fun z => by have := hl (3 * i + j) k (by have := hb.1.1; omega) hk; rw [z] at this; exact absurd this (by decide)
  · rw [lmL_ln] at hk
    rw [lmL_lsf hk]
    exact fun z => by have := hm m k hm9 hk; rw [z] at this; exact absurd this (by decide)
/-- one name against the words said -/
theorem nrD_N {R : mR} {fs f0 g0 b : Nat → Int32} {bs : List Int32} {L : Nat} (hW : nW R ≤ 40) (hq : ∀ q, q < nW R → fs q = R 27 q) (hL : L ≤ 99) (hn : bs.length ≤ 16) (h0 : bs.length ≠ 0) (hb : ∀ k, k < bs.length → lsf bs k = b k) (h32 : ∀ k, k < bs.length → b k ≠ 32) : nrD fs (sa_k fs f0 g0 (nW R)) bs (nI L) = i_mn (nI L) (mdF (R 27) b bs.length (wdL (R 27) (nW R))) := by
  obtain ⟨h1, h2⟩ := sa_wd fs f0 g0 (nW R) hW
  have e1 := wdL_cg hq
  have hl := wdL_100 (sg := R 27) hW
  rw [nrD, if_neg h0, h1, ndk_N hL (by omega) (fun k hk => by rw [hb k hk]; exact h32 k hk) _ (by rw [e1]; exact hl) h2, e1]
  have h3 := mdN_le (R 27) b bs.length 99 (wdL (R 27) (nW R))
  rw [mdF_N (by omega) h32 _ hl, i_mn_nI (by omega) (by omega), mdN_cg hq hb _ (fun w hw => wdL_bd hw), mdN_mn _ _ _ (show L ≤ 99 from hL)]
theorem asM_N {R : mR} (h : WfS R) {s : Nat} (hs : s < nS R) : ∀ j, j ≤ tn (R 4 s) → ∃ d : Nat, d ≤ 99 ∧ asM R s j = nI d := by
  obtain ⟨hb, _, _, h5, _, _, ⟨hl, hm⟩, _⟩ := h
  intro j
  induction j with
  | zero => intro _; exact ⟨99, by omega, rfl⟩
  | succ j ih =>
    intro hj
    have h3 := (hb.2 s hs).1.2
    have h30 := hb.1.1
    obtain ⟨d, hd, e⟩ := ih (by omega)
    rw [asM]
    split
    · exact ⟨d, hd, e⟩
    · have h16 := (h5 (3 * s + j) (by omega)).2
      rw [e, mdF_N (by omega) (fun k hk z => by have := hl (3 * s + j) k (by omega) hk; rw [z] at this; exact absurd this (by decide)) _ (wdL_100 hb.1.2.2.2.1)]
      have h4 := mdN_le (R 27) (fun c => R 6 (16 * (3 * s + j) + c)) (tn (R 5 (3 * s + j))) 99 (wdL (R 27) (nW R))
      rw [i_mn_nI (by omega) (by omega)]
      exact ⟨_, by omega, rfl⟩
theorem dsk_M {R : mR} (h : WfS R) {fs f0 g0 : Nat → Int32} (hq : ∀ q, q < nW R → fs q = R 27 q) {s : Nat} (hs : s < nS R) : ∀ j, j ≤ tn (R 4 s) → dsk R fs (sa_k fs f0 g0 (nW R)) s j = asM R s j := by
  have hN := asM_N h hs
  obtain ⟨hb, _, _, h5, _, _, ⟨hl, hm⟩, _⟩ := h
  have h3 := (hb.2 s hs).1.2
  have h30 := hb.1.1
  intro j
  induction j with
  | zero => intro _; rfl
  | succ j ih =>
    intro hj
    obtain ⟨d, hd, e⟩ := hN j (by omega)
    rw [dsk, asM, ih (by omega), e]
    have h16 := (h5 (3 * s + j) (by omega)).2
    by_cases h0 : tn (R 5 (3 * s + j)) = 0
    · rw [if_pos h0, nrD, if_pos (by rw [nmL_ln]; exact h0)]
    · rw [if_neg h0, nrD_N (b := fun c => R 6 (16 * (3 * s + j) + c)) hb.1.2.2.2.1 hq hd (by rw [nmL_ln]; exact h16) (by rw [nmL_ln]; exact h0) (fun k hk => nmL_lsf (by rw [nmL_ln] at hk; exact hk)) (fun k hk z => by
        rw [nmL_ln] at hk
        have := hl (3 * s + j) k (by omega) hk; rw [z] at this; exact absurd this (by decide)), nmL_ln]
theorem nrD_M {R : mR} (h : WfS R) {fs f0 g0 : Nat → Int32} (hq : ∀ q, q < nW R → fs q = R 27 q) {k : Nat} (hk : k < nL R) : nrD fs (sa_k fs f0 g0 (nW R)) (lmL R k) 99 = amM R k := by
  obtain ⟨hb, _, _, _, h19, _, ⟨_, hm⟩, _⟩ := h
  have h1 := (h19 k hk).1
  have h32 : ∀ c, c < tn (R 19 k) → R 20 (8 * k + c) ≠ 32 := fun c hc z => by have := hm k c hk hc; rw [z] at this; exact absurd this (by decide)
  rw [show (99 : Int32) = nI 99 from rfl, nrD_N (b := fun c => R 20 (8 * k + c)) hb.1.2.2.2.1 hq (Nat.le_refl _) (by rw [lmL_ln]; omega) (by rw [lmL_ln]; omega) (fun c hc => lmL_lsf (by rw [lmL_ln] at hc; exact hc)) (fun c hc => h32 c (by rw [lmL_ln] at hc; exact hc)), lmL_ln, amM]
  rw [mdF_N (by omega) h32 _ (wdL_100 hb.1.2.2.2.1)]
  have h4 := mdN_le (R 27) (fun c => R 20 (8 * k + c)) (tn (R 19 k)) 99 (wdL (R 27) (nW R))
  rw [i_mn_nI (by omega) (by omega), Nat.min_eq_right h4]
