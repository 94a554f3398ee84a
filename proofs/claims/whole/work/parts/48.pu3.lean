/-! ===== ranking: put in where it belongs, or picked one by one ===== -/
/-- the nearest of the first n that are not yet found, the first of equals; -1 if there is none -/
def bsI (ap : Nat → Int32) (fl : Nat → Bool) : Nat → Int32
  | 0 => -1
  | i + 1 => if fl i = false ∧ (bsI ap fl i < 0 ∨ ap i < ap (tn (bsI ap fl i))) then nI i else bsI ap fl i
/-- the first r that are found, the newest first -/
def sqL (ap : Nat → Int32) (T : Nat) : Nat → List Nat
  | 0 => []
  | r + 1 => tn (bsI ap (fun i => decide (i ∈ sqL ap T r)) T) :: sqL ap T r
def psq (ap : Nat → Int32) (T t : Nat) : Nat := tn (bsI ap (fun i => decide (i ∈ sqL ap T t)) T)
def SelP (ap : Nat → Int32) (T r : Nat) (p : Nat → Nat) : Prop := ∀ t, t < r → p t < T ∧ (∀ u, u < t → p u ≠ p t) ∧ ∀ i, i < T → (∀ u, u < t → p u ≠ i) → ap (p t) < ap i ∨ (ap (p t) = ap i ∧ p t ≤ i)
theorem bsI_sp (ap : Nat → Int32) (fl : Nat → Bool) : ∀ n, n < 2 ^ 31 → (bsI ap fl n = -1 ∧ ∀ i, i < n → fl i = true) ∨ ∃ p, p < n ∧ bsI ap fl n = nI p ∧ fl p = false ∧ ∀ i, i < n → fl i = false → ap p < ap i ∨ (ap p = ap i ∧ p ≤ i) := by
  intro n
  induction n with
  | zero => intro _; exact Or.inl ⟨rfl, fun i hi => by omega⟩
  | succ n ih =>
    intro hn
    rw [bsI]
    rcases ih (by omega) with ⟨e, h⟩ | ⟨p, hp, e, h1, h2⟩
    · rw [e]
      cases hf : fl n with
      | true =>
        rw [if_neg (by simp)]
        refine Or.inl ⟨rfl, fun i hi => ?_⟩
        by_cases h3 : i = n
        · rw [h3]; exact hf
        · exact h i (by omega)
      | false =>
        rw [if_pos ⟨rfl, Or.inl (by decide)⟩]
        refine Or.inr ⟨n, by omega, rfl, hf, fun i hi hi2 => ?_⟩
        by_cases h3 : i = n
        · rw [h3]; exact Or.inr ⟨rfl, Nat.le_refl _⟩
        · rw [h i (by omega)] at hi2; cases hi2
    · rw [e, tn_nI (by omega)]
      by_cases hc : fl n = false ∧ (nI p < 0 ∨ ap n < ap p)
      · rw [if_pos hc]
        have hlt : ap n < ap p := by
          rcases hc.2 with z | z
          · exact absurd z (nI_pos (by omega))
          · exact z
        refine Or.inr ⟨n, by omega, rfl, hc.1, fun i hi hi2 => ?_⟩
        by_cases h3 : i = n
        · rw [h3]; exact Or.inr ⟨rfl, Nat.le_refl _⟩
        · rcases h2 i (by omega) hi2 with z | z
          · exact Or.inl (Int32.lt_trans hlt z)
          · exact Or.inl (by rw [← z.1]; exact hlt)
      · rw [if_neg hc]
        refine Or.inr ⟨p, by omega, rfl, h1, fun i hi hi2 => ?_⟩
        by_cases h3 : i = n
        · subst h3
          have hge : ¬ ap i < ap p := fun z => hc ⟨hi2, Or.inr z⟩
          by_cases he : ap p = ap i
          · exact Or.inr ⟨he, by omega⟩
          · refine Or.inl ?_
            rw [Int32.not_lt] at hge
            rcases Int32.lt_or_eq_of_le hge with z | z
            · exact z
            · exact absurd z he
        · exact h2 i (by omega) hi2
theorem sel_sq {ap : Nat → Int32} {T r : Nat} {q : Nat → Nat} (hT : T < 2 ^ 31) (h : SelP ap T r q) : ∀ t, t ≤ r → (∀ i, i ∈ sqL ap T t ↔ ∃ u, u < t ∧ q u = i) ∧ ∀ u, u < t → psq ap T u = q u := by
  intro t
  induction t with
  | zero => intro _; exact ⟨fun i => ⟨fun z => (by cases z), fun ⟨u, hu, _⟩ => by omega⟩, fun u hu => by omega⟩
  | succ t ih =>
    intro ht
    obtain ⟨h1, h2⟩ := ih (by omega)
    obtain ⟨a1, a2, a3⟩ := h t (by omega)
    have hfl : ∀ i, (fun i => decide (i ∈ sqL ap T t)) i = false ↔ ∀ u, u < t → q u ≠ i := by
      intro i
      simp only [decide_eq_false_iff_not, h1]
      exact ⟨fun z u hu e => z ⟨u, hu, e⟩, fun z ⟨u, hu, e⟩ => z u hu e⟩
    have hp : psq ap T t = q t := by
      rw [psq]
      rcases bsI_sp ap (fun i => decide (i ∈ sqL ap T t)) T hT with ⟨_, b⟩ | ⟨p, b1, b2, b3, b4⟩
      · have c := b (q t) a1
        have d := (hfl (q t)).mpr a2
        exact absurd (c.symm.trans d) (by decide)
      · rw [b2, tn_nI (by omega)]
        have c1 := b4 (q t) a1 ((hfl (q t)).mpr a2)
        have c2 := a3 p b1 ((hfl p).mp b3)
        rcases c1 with c1 | c1
        · rcases c2 with c2 | c2
          · exact (Int32.lt_irrefl (Int32.lt_trans c1 c2)).elim
          · rw [c2.1] at c1; exact (Int32.lt_irrefl c1).elim
        · rcases c2 with c2 | c2
          · rw [c1.1] at c2; exact (Int32.lt_irrefl c2).elim
          · omega
    refine ⟨fun i => ?_, fun u hu => ?_⟩
    · rw [sqL, List.mem_cons, h1]
      show i = psq ap T t ∨ _ ↔ _
      rw [hp]
      constructor
      · rintro (e | ⟨u, hu, e⟩)
        · exact ⟨t, by omega, e.symm⟩
        · exact ⟨u, by omega, e⟩
      · rintro ⟨u, hu, e⟩
        by_cases h3 : u = t
        · subst h3; exact Or.inl e.symm
        · exact Or.inr ⟨u, by omega, e⟩
    · by_cases h3 : u = t
      · subst h3; exact hp
      · exact h2 u (by omega)
theorem ra_at_sp (d : Int32) (fd : Nat → Int32) : ∀ n, (∀ j, ra_at d fd n ≤ j → j < n → d < fd j) ∧ (0 < ra_at d fd n → ¬ d < fd (ra_at d fd n - 1)) := by
  intro n
  induction n with
  | zero => exact ⟨fun j _ hj => by omega, fun h => by rw [ra_at] at h; omega⟩
  | succ n ih =>
    rw [ra_at]
    split
    · rename_i h
      refine ⟨fun j h1 h2 => ?_, ih.2⟩
      by_cases h3 : j = n
      · rw [h3]; exact h
      · exact ih.1 j h1 (by omega)
    · rename_i h
      exact ⟨fun j h1 h2 => by omega, fun _ => h⟩
theorem sel_ins {ap : Nat → Int32} {t r k a : Nat} {q : Nat → Nat} (hS : SelP ap t r q) (hC : r < k → ∀ i, i < t → ∃ u, u < r ∧ q u = i) (ha : a ≤ r) (hk : a < k) (hlo : ∀ j, j < a → ap (q j) ≤ ap t) (hhi : ∀ j, a ≤ j → j < r → ap t < ap (q j)) : SelP ap (t + 1) (if r < k then r + 1 else r) (fun j => if j = a then t else if a < j then q (j - 1) else q j) := by
  have hr2 : (if r < k then r + 1 else r) ≤ r + 1 ∧ (¬ r < k → (if r < k then r + 1 else r) = r) := by
    split
    · exact ⟨Nat.le_refl _, fun z => absurd ‹r < k› z⟩
    · exact ⟨by omega, fun _ => rfl⟩
  generalize (if r < k then r + 1 else r) = r' at hr2 ⊢
  intro j hj
  show (if j = a then t else if a < j then q (j - 1) else q j) < t + 1 ∧ (∀ u, u < j → (if u = a then t else if a < u then q (u - 1) else q u) ≠ (if j = a then t else if a < j then q (j - 1) else q j)) ∧ ∀ i, i < t + 1 → (∀ u, u < j → (if u = a then t else if a < u then q (u - 1) else q u) ≠ i) → ap (if j = a then t else if a < j then q (j - 1) else q j) < ap i ∨ (ap (if j = a then t else if a < j then q (j - 1) else q j) = ap i ∧ (if j = a then t else if a < j then q (j - 1) else q j) ≤ i)
  rcases Nat.lt_trichotomy j a with h | h | h
  · obtain ⟨b1, b2, b3⟩ := hS j (by omega)
    rw [if_neg (by omega : ¬ j = a), if_neg (by omega : ¬ a < j)]
    refine ⟨by omega, fun u hu => ?_, fun i hi hn => ?_⟩
    · rw [if_neg (by omega), if_neg (by omega)]; exact b2 u hu
    · by_cases e : i = t
      · subst e
        rcases Int32.lt_or_eq_of_le (hlo j h) with z | z
        · exact Or.inl z
        · exact Or.inr ⟨z, by omega⟩
      · refine b3 i (by omega) (fun u hu => ?_)
        have := hn u hu
        rw [if_neg (by omega), if_neg (by omega)] at this
        exact this
  · subst h
    rw [if_pos rfl]
    refine ⟨by omega, fun u hu => ?_, fun i hi hn => ?_⟩
    · rw [if_neg (by omega), if_neg (by omega)]
      have := (hS u (by omega)).1
      omega
    · by_cases e : i = t
      · subst e; exact Or.inr ⟨rfl, Nat.le_refl _⟩
      · have hn2 : ∀ u, u < j → q u ≠ i := fun u hu => by
          have := hn u hu
          rw [if_neg (by omega), if_neg (by omega)] at this
          exact this
        by_cases h2 : j < r
        · have h3 := hhi j (Nat.le_refl _) h2
          rcases (hS j h2).2.2 i (by omega) hn2 with z | z
          · exact Or.inl (Int32.lt_trans h3 z)
          · exact Or.inl (by rw [← z.1]; exact h3)
        · obtain ⟨u, hu, e2⟩ := hC (by omega) i (by omega)
          exact absurd e2 (hn2 u (by omega))
  · obtain ⟨b1, b2, b3⟩ := hS (j - 1) (by omega)
    rw [if_neg (by omega : ¬ j = a), if_pos h]
    refine ⟨by omega, fun u hu => ?_, fun i hi hn => ?_⟩
    · by_cases e1 : u = a
      · rw [if_pos e1]; omega
      · rw [if_neg e1]
        by_cases e2 : a < u
        · rw [if_pos e2]; exact b2 (u - 1) (by omega)
        · rw [if_neg e2]; exact b2 u (by omega)
    · have hit : i ≠ t := by
        have := hn a h
        rw [if_pos rfl] at this
        exact fun z => this z.symm
      refine b3 i (by omega) (fun u hu => ?_)
      by_cases e2 : a ≤ u
      · have := hn (u + 1) (by omega)
        rw [if_neg (by omega), if_pos (by omega)] at this
        exact this
      · have := hn u (by omega)
        rw [if_neg (by omega), if_neg (by omega)] at this
        exact this
theorem rk_sel (R : mR) (fs : Nat → Int32) (s : saT) (k : Nat) (f0 g0 : Nat → Int32) : ∀ t, (rkS R fs s k f0 g0 t).1 = min k t ∧ ∃ q : Nat → Nat, SelP (fun i => (rkO R fs s i).2) t (min k t) q ∧ (min k t < k → ∀ i, i < t → ∃ u, u < min k t ∧ q u = i) ∧ ∀ u, u < min k t → (rkS R fs s k f0 g0 t).2.1 u = (rkO R fs s (q u)).1 ∧ (rkS R fs s k f0 g0 t).2.2 u = (rkO R fs s (q u)).2 := by
  intro t
  induction t with
  | zero => exact ⟨by rw [rkS]; simp, fun _ => 0, fun t ht => by omega, fun _ i hi => by omega, fun u hu => by omega⟩
  | succ t ih =>
    obtain ⟨h1, q, hS, hC, hV⟩ := ih
    rw [rkS]
    generalize hs9 : rkS R fs s k f0 g0 t = st at h1 hV
    obtain ⟨sz, fc, fd⟩ := st
    simp only at h1 hV
    generalize hap : (fun i => (rkO R fs s i).2) = ap at hS
    have hap' : ∀ i, (rkO R fs s i).2 = ap i := fun i => by rw [← hap]
    simp only [hap'] at hV ⊢
    generalize hct : (rkO R fs s t).1 = ct
    have hle := ra_at_le (ap t) fd sz
    have hsp := ra_at_sp (ap t) fd sz
    rw [ra_of]
    simp only
    generalize ra_at (ap t) fd sz = a at hle hsp
    subst h1
    by_cases hka : k ≤ a
    · rw [if_pos hka]
      have hk9 : min k t = k := by omega
      have hk8 : min k (t + 1) = k := by omega
      rw [hk8]
      rw [hk9] at hS hV hle hsp
      refine ⟨hk9, q, fun j hj => ?_, fun z => absurd z (Nat.lt_irrefl _), hV⟩
      obtain ⟨b1, b2, b3⟩ := hS j hj
      refine ⟨by omega, b2, fun i hi hn => ?_⟩
      by_cases e : i = t
      · subst e
        have h4 : ¬ ap i < fd (a - 1) := hsp.2 (by omega)
        have ea : a = k := by omega
        subst ea
        rw [(hV (a - 1) (by omega)).2, Int32.not_lt] at h4
        have h5 : ap (q j) ≤ ap (q (a - 1)) := by
          by_cases e3 : j = a - 1
          · rw [e3]; exact Int32.le_refl _
          · have c := hS (a - 1) (by omega)
            rcases b3 (q (a - 1)) c.1 (fun u hu => c.2.1 u (by omega)) with z | z
            · exact Int32.le_of_lt z
            · rw [z.1]; exact Int32.le_refl _
        rcases Int32.lt_or_eq_of_le (Int32.le_trans h5 h4) with z | z
        · exact Or.inl z
        · exact Or.inr ⟨z, by omega⟩
      · exact b3 i (by omega) hn
    · rw [if_neg hka]
      simp only
      have hsz : (if min k t < k then min k t + 1 else min k t) = min k (t + 1) := by split <;> omega
      have hlo : ∀ j, j < a → ap (q j) ≤ ap t := by
        intro j hj
        have h4 := hsp.2 (by omega)
        rw [(hV (a - 1) (by omega)).2, Int32.not_lt] at h4
        refine Int32.le_trans ?_ h4
        by_cases e3 : j = a - 1
        · rw [e3]; exact Int32.le_refl _
        · have c := hS (a - 1) (by omega)
          rcases (hS j (by omega)).2.2 (q (a - 1)) c.1 (fun u hu => c.2.1 u (by omega)) with z | z
          · exact Int32.le_of_lt z
          · rw [z.1]; exact Int32.le_refl _
      have hhi : ∀ j, a ≤ j → j < min k t → ap t < ap (q j) := fun j h4 h5 => by rw [← (hV j h5).2]; exact hsp.1 j h4 h5
      have hN := sel_ins hS hC hle (by omega) hlo hhi
      rw [hsz] at hN ⊢
      refine ⟨rfl, _, hN, fun h4 i hi => ?_, fun u hu => ?_⟩
      · by_cases e : i = t
        · exact ⟨a, by omega, by simp [e]⟩
        · obtain ⟨u, hu, e2⟩ := hC (by omega) i (by omega)
          by_cases h6 : a ≤ u
          · exact ⟨u + 1, by omega, by simp only [if_neg (show ¬ u + 1 = a by omega), if_pos (show a < u + 1 by omega)]; exact e2⟩
          · exact ⟨u, by omega, by simp only [if_neg (show ¬ u = a by omega), if_neg (show ¬ a < u by omega)]; exact e2⟩
      · rw [ra_in, ra_in]
        by_cases e1 : u = a
        · simp only [if_pos e1]; exact ⟨hct.symm, trivial⟩
        · by_cases e2 : a < u
          · simp only [if_neg e1, if_pos e2, if_pos (show a < u ∧ u < min k (t + 1) from ⟨e2, hu⟩)]
            exact hV (u - 1) (by omega)
          · simp only [if_neg e1, if_neg e2, if_neg (show ¬ (a < u ∧ u < min k (t + 1)) from fun z => e2 z.1)]
            exact hV u (by omega)
/-- how far the candidate i is from the words said -/
def apF (R : mR) (i : Nat) : Int32 := if i < nS R then asM R i (tn (R 4 i)) else amM R (i - nS R)
/-- what finding leaves -/
def fdR (R : mR) (k : Nat) : mR := setF (setF (uR (uR R 28 0 (nI (min k (nS R + nL R)))) 31 0 (hsM (R 27) (nW R))) 29 (fun t => if t < min k (nS R + nL R) then nI (psq (apF R) (nS R + nL R) t) else R 29 t)) 30 (fun i => if i < nS R + nL R then apF R i else R 30 i)
theorem fdR_29 (R : mR) (k : Nat) : fdR R k 29 = fun t => if t < min k (nS R + nL R) then nI (psq (apF R) (nS R + nL R) t) else R 29 t := rfl
theorem fdR_30 (R : mR) (k : Nat) : fdR R k 30 = fun i => if i < nS R + nL R then apF R i else R 30 i := rfl
theorem fdR_28 (R : mR) (k : Nat) : fdR R k 28 0 = nI (min k (nS R + nL R)) := rfl
theorem fdR_31 (R : mR) (k : Nat) : fdR R k 31 0 = hsM (R 27) (nW R) := rfl
theorem fdR_o (R : mR) (k : Nat) {f : Nat} (h : f ∉ [28, 29, 30, 31]) : fdR R k f = R f := by
  simp only [List.mem_cons, List.not_mem_nil, or_false, not_or] at h
  simp only [fdR, setF, uR, if_neg h.1, if_neg h.2.1, if_neg h.2.2.1, if_neg h.2.2.2]
theorem fd_C {R : mR} (h : WfS R) (k : Nat) (fs f0 g0 fc fd : Nat → Int32) (hq : ∀ q, q < nW R → fs q = R 27 q) : FndC R (sa_k fs f0 g0 (nW R)) (rkS R fs (sa_k fs f0 g0 (nW R)) k fc fd (nS R + nL R)) (fdR R k) := by
  have hb := h.1.1
  obtain ⟨h1, q, hS, hC, hV⟩ := rk_sel R fs (sa_k fs f0 g0 (nW R)) k fc fd (nS R + nL R)
  have hap : ∀ i, i < nS R + nL R → (rkO R fs (sa_k fs f0 g0 (nW R)) i).2 = apF R i := by
    intro i hi
    rw [rkO, apF]
    by_cases hS9 : i < nS R
    · rw [if_pos hS9, if_pos hS9]; exact dsk_M h hq hS9 _ (Nat.le_refl _)
    · rw [if_neg hS9, if_neg hS9]; exact nrD_M h hq (by omega)
  have hS2 : SelP (apF R) (nS R + nL R) (min k (nS R + nL R)) q := by
    intro t ht
    obtain ⟨a1, a2, a3⟩ := hS t ht
    refine ⟨a1, a2, fun i hi hn => ?_⟩
    have := a3 i hi hn
    simp only [hap _ a1, hap i hi] at this
    exact this
  have hp := (sel_sq (by omega) hS2 _ (Nat.le_refl _)).2
  refine ⟨sa_okW hb.2.2.2.1, fun f hf => fdR_o R k (fun z => hf ?_), by rw [h1]; rfl, ?_, fun i hi => ?_⟩
  · simp only [List.mem_cons, List.not_mem_nil, or_false] at z ⊢
    omega
  · rw [fdR_31, sa_house, hsM_cg hq]
  · rw [h1] at hi
    have e1 : tn (fdR R k 29 i) = q i := by
      rw [fdR_29]
      simp only [if_pos hi, hp i hi]
      exact tn_nI (by have := (hS2 i hi).1; omega)
    have e2 := (hS2 i hi).1
    rw [e1, fdR_30]
    simp only [if_pos e2]
    refine ⟨e2, ?_, ?_⟩
    · rw [(hV i hi).1, rkO]
      by_cases h9 : q i < nS R
      · rw [if_pos h9, if_pos h9]
      · rw [if_neg h9, if_neg h9]
    · rw [(hV i hi).2, hap _ e2]
theorem psq_lt {R : mR} (h : WfS R) (k t : Nat) (ht : t < min k (nS R + nL R)) : psq (apF R) (nS R + nL R) t < nS R + nL R := by
  have h1 := (fd_C h k (R 27) (R 27) (R 27) (R 27) (R 27) (fun _ _ => rfl)).2.2.2.2 t
  rw [(rk_sel R (R 27) _ k _ _ _).1, fdR_29] at h1
  simp only [if_pos ht] at h1
  have h2 := (h1 ht).1
  obtain ⟨h0, q, hS, _⟩ := rk_sel R (R 27) (sa_k (R 27) (R 27) (R 27) (nW R)) k (R 27) (R 27) (nS R + nL R)
  have hb := h.1.1
  have h3 : psq (apF R) (nS R + nL R) t < 2 ^ 31 := by
    rw [psq]; unfold tn
    rcases bsI_sp (apF R) (fun i => decide (i ∈ sqL (apF R) (nS R + nL R) t)) (nS R + nL R) (by omega) with ⟨e, _⟩ | ⟨p, hp, e, _⟩
    · rw [e]; decide
    · rw [e, nI_clamp (by omega)]; omega
  rw [tn_nI h3] at h2
  exact h2
