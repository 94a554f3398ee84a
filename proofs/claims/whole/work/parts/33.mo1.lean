/-! ===== the other one: its state in the heap ===== -/
def mln (k : Nat) : Nat := [0, 0, 30, 30, 30, 90, 1440, 30, 180, 180, 180, 30, 30, 30, 30, 30, 0, 20, 20, 20, 160, 0, 40, 40, 40, 40, 0, 40, 0, 10, 50, 0, 40, 16, 697].getD k 0
def mty (k : Nat) : FieldType := if k = 3 then .boolean else .int
abbrev moF (R : mR) (mr : Nat → Nat) : List Value := [.int (R 0 0), .int (R 1 0), .ref (mr 2), .ref (mr 3), .ref (mr 4), .ref (mr 5), .ref (mr 6), .ref (mr 7), .ref (mr 8), .ref (mr 9), .ref (mr 10), .ref (mr 11), .ref (mr 12), .ref (mr 13), .ref (mr 14), .ref (mr 15), .int (R 16 0), .ref (mr 17), .ref (mr 18), .ref (mr 19), .ref (mr 20), .int (R 21 0), .ref (mr 22), .ref (mr 23), .ref (mr 24), .ref (mr 25), .int (R 26 0), .ref (mr 27), .int (R 28 0), .ref (mr 29), .ref (mr 30), .int (R 31 0), .ref (mr 32), .ref (mr 33), .ref (mr 34)]
def RepM (R : mR) (m : Nat) (mr : Nat → Nat) (M : ma_H) : Prop := M m = some (.inl (10, moF R mr)) ∧ (∀ k, mln k ≠ 0 → M (mr k) = some (.inr (mty k, arrL (mln k) (R k)))) ∧ ∀ k k', mln k ≠ 0 → mln k' ≠ 0 → mr k = mr k' → k = k'
section
variable {R : mR} {m : Nat} {mr : Nat → Nat} {M M1 : ma_H}
theorem RepM.a2 (h : RepM R m mr M) : M (mr 2) = some (.inr (.int, arrL 30 (R 2))) := h.2.1 2 (by decide)
theorem RepM.a3 (h : RepM R m mr M) : M (mr 3) = some (.inr (.boolean, arrL 30 (R 3))) := h.2.1 3 (by decide)
theorem RepM.a4 (h : RepM R m mr M) : M (mr 4) = some (.inr (.int, arrL 30 (R 4))) := h.2.1 4 (by decide)
theorem RepM.a5 (h : RepM R m mr M) : M (mr 5) = some (.inr (.int, arrL 90 (R 5))) := h.2.1 5 (by decide)
theorem RepM.a6 (h : RepM R m mr M) : M (mr 6) = some (.inr (.int, arrL 1440 (R 6))) := h.2.1 6 (by decide)
theorem RepM.a7 (h : RepM R m mr M) : M (mr 7) = some (.inr (.int, arrL 30 (R 7))) := h.2.1 7 (by decide)
theorem RepM.a8 (h : RepM R m mr M) : M (mr 8) = some (.inr (.int, arrL 180 (R 8))) := h.2.1 8 (by decide)
theorem RepM.a9 (h : RepM R m mr M) : M (mr 9) = some (.inr (.int, arrL 180 (R 9))) := h.2.1 9 (by decide)
theorem RepM.a10 (h : RepM R m mr M) : M (mr 10) = some (.inr (.int, arrL 180 (R 10))) := h.2.1 10 (by decide)
theorem RepM.a11 (h : RepM R m mr M) : M (mr 11) = some (.inr (.int, arrL 30 (R 11))) := h.2.1 11 (by decide)
theorem RepM.a12 (h : RepM R m mr M) : M (mr 12) = some (.inr (.int, arrL 30 (R 12))) := h.2.1 12 (by decide)
theorem RepM.a13 (h : RepM R m mr M) : M (mr 13) = some (.inr (.int, arrL 30 (R 13))) := h.2.1 13 (by decide)
theorem RepM.a14 (h : RepM R m mr M) : M (mr 14) = some (.inr (.int, arrL 30 (R 14))) := h.2.1 14 (by decide)
theorem RepM.a15 (h : RepM R m mr M) : M (mr 15) = some (.inr (.int, arrL 30 (R 15))) := h.2.1 15 (by decide)
theorem RepM.a17 (h : RepM R m mr M) : M (mr 17) = some (.inr (.int, arrL 20 (R 17))) := h.2.1 17 (by decide)
theorem RepM.a18 (h : RepM R m mr M) : M (mr 18) = some (.inr (.int, arrL 20 (R 18))) := h.2.1 18 (by decide)
theorem RepM.a19 (h : RepM R m mr M) : M (mr 19) = some (.inr (.int, arrL 20 (R 19))) := h.2.1 19 (by decide)
theorem RepM.a20 (h : RepM R m mr M) : M (mr 20) = some (.inr (.int, arrL 160 (R 20))) := h.2.1 20 (by decide)
theorem RepM.a22 (h : RepM R m mr M) : M (mr 22) = some (.inr (.int, arrL 40 (R 22))) := h.2.1 22 (by decide)
theorem RepM.a23 (h : RepM R m mr M) : M (mr 23) = some (.inr (.int, arrL 40 (R 23))) := h.2.1 23 (by decide)
theorem RepM.a24 (h : RepM R m mr M) : M (mr 24) = some (.inr (.int, arrL 40 (R 24))) := h.2.1 24 (by decide)
theorem RepM.a25 (h : RepM R m mr M) : M (mr 25) = some (.inr (.int, arrL 40 (R 25))) := h.2.1 25 (by decide)
theorem RepM.a27 (h : RepM R m mr M) : M (mr 27) = some (.inr (.int, arrL 40 (R 27))) := h.2.1 27 (by decide)
theorem RepM.a29 (h : RepM R m mr M) : M (mr 29) = some (.inr (.int, arrL 10 (R 29))) := h.2.1 29 (by decide)
theorem RepM.a30 (h : RepM R m mr M) : M (mr 30) = some (.inr (.int, arrL 50 (R 30))) := h.2.1 30 (by decide)
theorem RepM.a32 (h : RepM R m mr M) : M (mr 32) = some (.inr (.int, arrL 40 (R 32))) := h.2.1 32 (by decide)
theorem RepM.a33 (h : RepM R m mr M) : M (mr 33) = some (.inr (.int, arrL 16 (R 33))) := h.2.1 33 (by decide)
theorem RepM.a34 (h : RepM R m mr M) : M (mr 34) = some (.inr (.int, arrL 697 (R 34))) := h.2.1 34 (by decide)
theorem RepM.set {k e : Nat} {v : Int32} (h : RepM R m mr M) (hk : mln k ≠ 0) (hs : ∀ s ∈ [0, 1, 16, 21, 26, 28, 31], s ≠ k) (h1 : M1 (mr k) = some (.inr (mty k, arrL (mln k) (fu (R k) e v)))) (ho : ∀ q, q ≠ mr k → M1 q = M q) : RepM (uR R k e v) m mr M1 := by
  refine ⟨?_, fun k' hk' => ?_, h.2.2⟩
  · rw [ho m (ma_ne2 h.1 (h.2.1 k hk)), h.1]
    simp only [moF, uR_n (hs 0 (by decide)), uR_n (hs 1 (by decide)), uR_n (hs 16 (by decide)), uR_n (hs 21 (by decide)), uR_n (hs 26 (by decide)), uR_n (hs 28 (by decide)), uR_n (hs 31 (by decide))]
  · by_cases e9 : k' = k
    · subst e9; rw [uR_s]; exact h1
    · rw [uR_n e9, ho _ (fun z => e9 (h.2.2 k' k hk' hk z))]; exact h.2.1 k' hk'
theorem RepM.put0 {v : Int32} (h : RepM R m mr M) (h1 : M1 m = some (.inl (10, (moF R mr).set 0 (.int v)))) (ho : ∀ q, q ≠ m → M1 q = M q) : RepM (uR R 0 0 v) m mr M1 := by
  refine ⟨?_, fun k' hk' => ?_, h.2.2⟩
  · rw [h1]
    simp only [moF, uR_s, fu_s, uR_n (show (1 : Nat) ≠ 0 by decide), uR_n (show (16 : Nat) ≠ 0 by decide), uR_n (show (21 : Nat) ≠ 0 by decide), uR_n (show (26 : Nat) ≠ 0 by decide), uR_n (show (28 : Nat) ≠ 0 by decide), uR_n (show (31 : Nat) ≠ 0 by decide)]
    rfl
  · rw [uR_n (fun z => hk' (by rw [z]; rfl)), ho _ (Ne.symm (ma_ne2 h.1 (h.2.1 k' hk')))]; exact h.2.1 k' hk'
theorem RepM.put1 {v : Int32} (h : RepM R m mr M) (h1 : M1 m = some (.inl (10, (moF R mr).set 1 (.int v)))) (ho : ∀ q, q ≠ m → M1 q = M q) : RepM (uR R 1 0 v) m mr M1 := by
  refine ⟨?_, fun k' hk' => ?_, h.2.2⟩
  · rw [h1]
    simp only [moF, uR_n (show (0 : Nat) ≠ 1 by decide), uR_s, fu_s, uR_n (show (16 : Nat) ≠ 1 by decide), uR_n (show (21 : Nat) ≠ 1 by decide), uR_n (show (26 : Nat) ≠ 1 by decide), uR_n (show (28 : Nat) ≠ 1 by decide), uR_n (show (31 : Nat) ≠ 1 by decide)]
    rfl
  · rw [uR_n (fun z => hk' (by rw [z]; rfl)), ho _ (Ne.symm (ma_ne2 h.1 (h.2.1 k' hk')))]; exact h.2.1 k' hk'
theorem RepM.put16 {v : Int32} (h : RepM R m mr M) (h1 : M1 m = some (.inl (10, (moF R mr).set 16 (.int v)))) (ho : ∀ q, q ≠ m → M1 q = M q) : RepM (uR R 16 0 v) m mr M1 := by
  refine ⟨?_, fun k' hk' => ?_, h.2.2⟩
  · rw [h1]
    simp only [moF, uR_n (show (0 : Nat) ≠ 16 by decide), uR_n (show (1 : Nat) ≠ 16 by decide), uR_s, fu_s, uR_n (show (21 : Nat) ≠ 16 by decide), uR_n (show (26 : Nat) ≠ 16 by decide), uR_n (show (28 : Nat) ≠ 16 by decide), uR_n (show (31 : Nat) ≠ 16 by decide)]
    rfl
  · rw [uR_n (fun z => hk' (by rw [z]; rfl)), ho _ (Ne.symm (ma_ne2 h.1 (h.2.1 k' hk')))]; exact h.2.1 k' hk'
theorem RepM.put21 {v : Int32} (h : RepM R m mr M) (h1 : M1 m = some (.inl (10, (moF R mr).set 21 (.int v)))) (ho : ∀ q, q ≠ m → M1 q = M q) : RepM (uR R 21 0 v) m mr M1 := by
  refine ⟨?_, fun k' hk' => ?_, h.2.2⟩
  · rw [h1]
    simp only [moF, uR_n (show (0 : Nat) ≠ 21 by decide), uR_n (show (1 : Nat) ≠ 21 by decide), uR_n (show (16 : Nat) ≠ 21 by decide), uR_s, fu_s, uR_n (show (26 : Nat) ≠ 21 by decide), uR_n (show (28 : Nat) ≠ 21 by decide), uR_n (show (31 : Nat) ≠ 21 by decide)]
    rfl
  · rw [uR_n (fun z => hk' (by rw [z]; rfl)), ho _ (Ne.symm (ma_ne2 h.1 (h.2.1 k' hk')))]; exact h.2.1 k' hk'
theorem RepM.put26 {v : Int32} (h : RepM R m mr M) (h1 : M1 m = some (.inl (10, (moF R mr).set 26 (.int v)))) (ho : ∀ q, q ≠ m → M1 q = M q) : RepM (uR R 26 0 v) m mr M1 := by
  refine ⟨?_, fun k' hk' => ?_, h.2.2⟩
  · rw [h1]
    simp only [moF, uR_n (show (0 : Nat) ≠ 26 by decide), uR_n (show (1 : Nat) ≠ 26 by decide), uR_n (show (16 : Nat) ≠ 26 by decide), uR_n (show (21 : Nat) ≠ 26 by decide), uR_s, fu_s, uR_n (show (28 : Nat) ≠ 26 by decide), uR_n (show (31 : Nat) ≠ 26 by decide)]
    rfl
  · rw [uR_n (fun z => hk' (by rw [z]; rfl)), ho _ (Ne.symm (ma_ne2 h.1 (h.2.1 k' hk')))]; exact h.2.1 k' hk'
theorem RepM.put28 {v : Int32} (h : RepM R m mr M) (h1 : M1 m = some (.inl (10, (moF R mr).set 28 (.int v)))) (ho : ∀ q, q ≠ m → M1 q = M q) : RepM (uR R 28 0 v) m mr M1 := by
  refine ⟨?_, fun k' hk' => ?_, h.2.2⟩
  · rw [h1]
    simp only [moF, uR_n (show (0 : Nat) ≠ 28 by decide), uR_n (show (1 : Nat) ≠ 28 by decide), uR_n (show (16 : Nat) ≠ 28 by decide), uR_n (show (21 : Nat) ≠ 28 by decide), uR_n (show (26 : Nat) ≠ 28 by decide), uR_s, fu_s, uR_n (show (31 : Nat) ≠ 28 by decide)]
    rfl
  · rw [uR_n (fun z => hk' (by rw [z]; rfl)), ho _ (Ne.symm (ma_ne2 h.1 (h.2.1 k' hk')))]; exact h.2.1 k' hk'
theorem RepM.put31 {v : Int32} (h : RepM R m mr M) (h1 : M1 m = some (.inl (10, (moF R mr).set 31 (.int v)))) (ho : ∀ q, q ≠ m → M1 q = M q) : RepM (uR R 31 0 v) m mr M1 := by
  refine ⟨?_, fun k' hk' => ?_, h.2.2⟩
  · rw [h1]
    simp only [moF, uR_n (show (0 : Nat) ≠ 31 by decide), uR_n (show (1 : Nat) ≠ 31 by decide), uR_n (show (16 : Nat) ≠ 31 by decide), uR_n (show (21 : Nat) ≠ 31 by decide), uR_n (show (26 : Nat) ≠ 31 by decide), uR_n (show (28 : Nat) ≠ 31 by decide), uR_s, fu_s]
    rfl
  · rw [uR_n (fun z => hk' (by rw [z]; rfl)), ho _ (Ne.symm (ma_ne2 h.1 (h.2.1 k' hk')))]; exact h.2.1 k' hk'
theorem RepM.kept (h : RepM R m mr M) (h1 : M1 m = M m) (h2 : ∀ k, mln k ≠ 0 → M1 (mr k) = M (mr k)) : RepM R m mr M1 := ⟨h1.trans h.1, fun k hk => (h2 k hk).trans (h.2.1 k hk), h.2.2⟩
end
def thN (kinds : Int32) : Nat → Nat
  | 0 => 0
  | j + 1 => thN kinds j + (if 0 < kinds &&& nI (2 ^ j) then 1 else 0)
theorem thN_le (kinds : Int32) : ∀ j, thN kinds j ≤ j := by
  intro j
  induction j with
  | zero => exact Nat.le_refl _
  | succ j ih => rw [thN]; split <;> omega
def gbN (p q r s : Bool) : Nat := if p = false then 1 else if q = false then 2 else if r = false then 3 else if s = false then 4 else 0
def gbV (n : Nat) : Int32 := if n = 0 then 0 else nI (2 ^ (n - 1))
theorem gbN_le (p q r s : Bool) : gbN p q r s ≤ 4 := by cases p <;> cases q <;> cases r <;> cases s <;> decide
theorem inn_p (x a b : Int32) : inn x a b = (!decide (x < a) && !decide (b < x)) := by
  simp only [inn]
  by_cases h1 : x < a <;> by_cases h2 : b < x
  · simp [h1, h2, Int32.not_le.mpr h1]
  · simp [h1, Int32.not_le.mpr h1]
  · simp [h1, h2, Int32.not_le.mpr h2]
  · simp [h1, h2, Int32.not_lt.mp h1, Int32.not_lt.mp h2]
theorem is_l_inn (c : Int32) : inn c 97 122 = is_l c := by rw [inn_p, is_l]
theorem is_d_inn (c : Int32) : inn c 48 57 = is_d c := by rw [inn_p, is_d]
theorem sgn_val2 (p : Int64) {k : Nat} (hk : k ≤ 56) : (p >>> ((nI k).toInt64 &&& 63)).toInt32 &&& 255 = nI (p.toBitVec.toNat / 2 ^ k % 256) := by
  rw [wb_c k (by omega)]
  apply Int32.toBitVec_inj.mp
  have e1 : (p >>> lN k).toBitVec = p.toBitVec.sshiftRight k := by
    show p.toBitVec.sshiftRight' ((lN k).toBitVec.smod 64) = _
    rw [wb_tb, wb_sm k (by omega)]
    simp [BitVec.sshiftRight', Nat.mod_eq_of_lt (show k < 18446744073709551616 by omega)]
  apply BitVec.eq_of_getLsbD_eq
  intro i hi
  have e2 : ((p >>> lN k).toInt32 &&& 255).toBitVec.getLsbD i = (((p >>> lN k).toBitVec.signExtend 32).getLsbD i && (255#32).getLsbD i) := by
    rw [Int32.toBitVec_and, BitVec.getLsbD_and]; rfl
  rw [e2, e1]
  have e3 : (nI (p.toBitVec.toNat / 2 ^ k % 256)).toBitVec.getLsbD i = (p.toBitVec.toNat / 2 ^ k % 256).testBit i := by
    show (BitVec.ofNat 32 _).getLsbD i = _
    rw [BitVec.getLsbD_ofNat]; simp [hi]
  rw [e3, show (256 : Nat) = 2 ^ 8 from rfl, Nat.testBit_mod_two_pow, Nat.testBit_div_two_pow]
  have e4 : (255#32).getLsbD i = decide (i < 8) := by
    have : ∀ i, i < 32 → (255#32).getLsbD i = decide (i < 8) := by decide
    exact this i hi
  rw [e4, BitVec.getLsbD_signExtend, BitVec.getLsbD_sshiftRight]
  by_cases h8 : i < 8
  · simp [h8, hi, show i < 64 by omega, show k + i < 64 by omega, show ¬ 64 ≤ i by omega, BitVec.getLsbD, Nat.add_comm]
  · simp [h8]
theorem b2i_ne0 (b : Bool) : ¬ b2i b = 0 ↔ b = true := by cases b <;> simp [b2i]
theorem uR_uR (R : mR) (k i : Nat) (v v' : Int32) : uR (uR R k i v) k i v' = uR R k i v' := by
  funext k' i'
  by_cases h : k' = k
  · subst h; rw [uR_s, uR_s, uR_s]; by_cases h2 : i' = i
    · subst h2; rw [fu_s, fu_s]
    · rw [fu_n h2, fu_n h2, fu_n h2]
  · rw [uR_n h, uR_n h, uR_n h]
theorem gbV_lt {j g : Nat} (h : j ≤ g) (hg : g ≤ 4) : gbV g < nI (2 ^ j) ↔ j = g := by
  have : ∀ g, g < 5 → ∀ j, j < 5 → j ≤ g → (gbV g < nI (2 ^ j) ↔ j = g) := by decide
  exact this g (by omega) j (by omega) h
theorem gbV_0 {g : Nat} (hg : g ≤ 4) : gbV g = 0 ↔ g = 0 := by
  have : ∀ g, g < 5 → (gbV g = 0 ↔ g = 0) := by decide
  exact this g (by omega)
theorem nI_2p {j : Nat} (h : j < 5) : 2 * nI (2 ^ j) = nI (2 ^ (j + 1)) := by
  have : ∀ j, j < 5 → 2 * nI (2 ^ j) = nI (2 ^ (j + 1)) := by decide
  exact this j h
theorem kn_inn {R : mR} (hS : R 1 0 = nI (nS R)) (h30 : nS R ≤ 30) (s : Int32) : inn s 0 (R 1 0 - 1) = kn R s := by
  rw [hS]
  simp only [inn, kn]
  by_cases h : 0 ≤ s
  · have h1 := tn_of h
    rw [h1.1]
    by_cases h0 : nS R = 0
    · rw [h0]
      have e1 : ¬ nI (tn s) ≤ nI 0 - 1 := fun z => by
        have e2 := Int32.le_trans (nI_pos' h1.2) z
        exact absurd e2 (by decide)
      have e3 : ¬ nI (tn s) < nI 0 := fun z => nI_pos h1.2 z
      simp [e1, e3]
    · rw [nI_sub1 (by omega)]
      have e1 : nI (tn s) ≤ nI (nS R - 1) ↔ nI (tn s) < nI (nS R) := by rw [nI_leI h1.2 (by omega), nI_ltI h1.2 (by omega)]; omega
      simp only [e1]
  · simp [h]

set_option maxHeartbeats 4000000 in
set_option maxRecDepth 100000 in
theorem ct_Mo_thrown (l : Launch) (D : ma_D) (s0 : State) (R : mR) (m : Nat) (mr : Nat → Nat) (M : ma_H) (hM : RepM R m mr M) : Ct l D s0 y_Mo_thrown c_Mo_thrown 1 (some .int) 0 0 0 0 [.ref m] M (fun _ => False) (pI (R 0 0) M) := by
  refine Ct_i 0 [some (.ref m)] (by decide +kernel) (Nat.le_of_ble_eq_true rfl) rfl ?_
  intro G e1 e2 e3 C hw Rt
  subst e1; subst e2; subst e3
  refine m_aload_n C d_Mo_thrown_0 rfl rfl ?_
  refine m_get C fg_Mo_95 d_Mo_thrown_1 hM.1 rfl ?_
  exact Rt _ _ _ _ _ _ (by decide) (by decide) d_Mo_thrown_4 (⟨by rfl, rfl⟩)

set_option maxHeartbeats 4000000 in
set_option maxRecDepth 100000 in
theorem ct_Mo_in (l : Launch) (D : ma_D) (s0 : State) (x a b : Int32) (M : ma_H) : Ct l D s0 y_Mo_in c_Mo_in 3 (some .boolean) 0 0 0 0 [.int x, .int a, .int b] M (fun _ => False) (pI (b2i (inn x a b)) M) := by
  refine Ct_z 0 [some (.int x), some (.int a), some (.int b)] (by decide +kernel) (Nat.le_of_ble_eq_true rfl) rfl ?_
  intro G e1 e2 e3 C hw Rt
  subst e1; subst e2; subst e3
  refine m_iload_n C d_Mo_in_0 rfl rfl ?_
  refine m_iload_n C d_Mo_in_1 rfl rfl ?_
  refine m_icmp_lt (tgt := 14) C d_Mo_in_2 (by decide) (fun h1 => ?_) (fun h1 => ?_)
  · refine m_iconst (v := 0) C d_Mo_in_14 (by decide) ?_
    exact Rt _ _ _ _ _ _ (by decide) (by decide) (by decide) d_Mo_in_15 (⟨by rw [inn_p]; simp [h1, b2i], rfl⟩)
  · refine m_iload_n C d_Mo_in_5 rfl rfl ?_
    refine m_iload_n C d_Mo_in_6 rfl rfl ?_
    refine m_icmp_gt (tgt := 14) C d_Mo_in_7 (by decide) (fun h2 => ?_) (fun h2 => ?_)
    · refine m_iconst (v := 0) C d_Mo_in_14 (by decide) ?_
      exact Rt _ _ _ _ _ _ (by decide) (by decide) (by decide) d_Mo_in_15 (⟨by rw [inn_p]; simp [h2, b2i], rfl⟩)
    · refine m_iconst (v := 1) C d_Mo_in_10 (by decide) ?_
      refine m_goto (tgt := 15) C d_Mo_in_11 (by decide) ?_
      exact Rt _ _ _ _ _ _ (by decide) (by decide) (by decide) d_Mo_in_15 (⟨by rw [inn_p]; simp [h1, h2, b2i], rfl⟩)

set_option maxHeartbeats 4000000 in
set_option maxRecDepth 100000 in
theorem ct_Mo_goes (l : Launch) (D : ma_D) (s0 : State) (R : mR) (m : Nat) (mr : Nat → Nat) (kinds : Int32) (p q r s : Bool) (M : ma_H) (hM : RepM R m mr M) : Ct l D s0 y_Mo_goes c_Mo_goes 8 (some .boolean) 0 0 0 0 [.ref m, .int kinds, .int (b2i p), .int (b2i q), .int (b2i r), .int (b2i s)] M (fun q => q = m ∨ ∃ k, mln k ≠ 0 ∧ q = mr k) (fun v M' => v = some (.int (b2i (decide (gbN p q r s = 0)))) ∧ RepM (uR R 0 0 (nI (thN kinds (gbN p q r s)))) m mr M') := by
  refine Ct_z 2 [some (.ref m), some (.int kinds), some (.int (b2i p)), some (.int (b2i q)), some (.int (b2i r)), some (.int (b2i s)), none, none] (by decide +kernel) (Nat.le_of_ble_eq_true rfl) rfl ?_
  intro G e1 e2 e3 C hw Rt
  subst e1; subst e2; subst e3
  have hg4 := gbN_le p q r s
  have jn : ∀ x6 : Int32, x6 = gbV (gbN p q r s) → mj G 8 0 0 M 36 [some (.ref m), some (.int kinds), some (.int (b2i p)), some (.int (b2i q)), some (.int (b2i r)), some (.int (b2i s)), none, none] [.int x6] := by
    intro x6 hx6
    refine m_istore (L' := [some (.ref m), some (.int kinds), some (.int (b2i p)), some (.int (b2i q)), some (.int (b2i r)), some (.int (b2i s)), some (.int x6), none]) C d_Mo_goes_36 (by decide) rfl ?_
    refine m_aload_n C d_Mo_goes_38 rfl rfl ?_
    refine m_iconst (v := 0) C d_Mo_goes_39 (by decide) ?_
    refine m_putE C fp_Mo_95 d_Mo_goes_40 (hw _ (Or.inl rfl)) hM.1 rfl rfl (fun M1 M1a9 M1o => ?_)
    obtain ⟨R1, hR1⟩ : ∃ R1, R1 = uR R 0 0 0 := ⟨_, rfl⟩
    have hM1 : RepM R1 m mr M1 := by rw [hR1]; exact hM.put0 M1a9 M1o
    subst hx6
    refine m_iconst (v := 1) C d_Mo_goes_43 (by decide) ?_
    refine m_istore (L' := [some (.ref m), some (.int kinds), some (.int (b2i p)), some (.int (b2i q)), some (.int (b2i r)), some (.int (b2i s)), some (.int (gbV (gbN p q r s))), some (.int 1)]) C d_Mo_goes_44 (by decide) rfl ?_
    have loop : ∀ (lq9 : Nat) (M2 : ma_H) (j : Nat), 4 - j = lq9 → j ≤ gbN p q r s → RepM (uR R 0 0 (nI (thN kinds j))) m mr M2 → mj G 8 0 0 M2 46 [some (.ref m), some (.int kinds), some (.int (b2i p)), some (.int (b2i q)), some (.int (b2i r)), some (.int (b2i s)), some (.int (gbV (gbN p q r s))), some (.int (nI (2 ^ j)))] [] := by
      intro lq9
      induction lq9 using Nat.strongRecOn with
      | ind lq9 ih =>
        intro M2 j hr hj hM2
        refine m_iload C d_Mo_goes_46 rfl ?_
        refine m_iload C d_Mo_goes_48 rfl ?_
        have e1 : gbV (gbN p q r s) < nI (2 ^ j) ↔ j = gbN p q r s := gbV_lt hj hg4
        refine m_icmp_gt (tgt := 79) C d_Mo_goes_50 (by decide) (fun h9 => ?_) (fun h9 => ?_)
        · rw [e1] at h9
          refine m_iload C d_Mo_goes_79 rfl ?_
          have e2 : gbV (gbN p q r s) = 0 ↔ gbN p q r s = 0 := gbV_0 hg4
          refine m_if_ne (tgt := 88) C d_Mo_goes_81 (by decide) (fun h8 => ?_) (fun h8 => ?_)
          · refine m_iconst (v := 0) C d_Mo_goes_88 (by decide) ?_
            exact Rt _ _ _ _ _ _ (by decide) (by decide) (by decide) d_Mo_goes_89 (⟨by rw [e2] at h8; simp [h8, b2i], by rw [← h9]; exact hM2⟩)
          · refine m_iconst (v := 1) C d_Mo_goes_84 (by decide) ?_
            refine m_goto (tgt := 89) C d_Mo_goes_85 (by decide) ?_
            exact Rt _ _ _ _ _ _ (by decide) (by decide) (by decide) d_Mo_goes_89 (⟨by rw [e2] at h8; simp [h8, b2i], by rw [← h9]; exact hM2⟩)
        · rw [e1] at h9
          refine m_iload_n C d_Mo_goes_53 rfl rfl ?_
          refine m_iload C d_Mo_goes_54 rfl ?_
          refine m_iand C d_Mo_goes_56 ?_
          refine m_if_le (tgt := 70) C d_Mo_goes_57 (by decide) (fun h8 => ?_) (fun h8 => ?_)
          · refine m_iconst (v := 2) C d_Mo_goes_70 (by decide) ?_
            refine m_iload C d_Mo_goes_71 rfl ?_
            refine m_imul C d_Mo_goes_73 ?_
            rw [nI_2p (by omega : j < 5)]
            refine m_istore (L' := [some (.ref m), some (.int kinds), some (.int (b2i p)), some (.int (b2i q)), some (.int (b2i r)), some (.int (b2i s)), some (.int (gbV (gbN p q r s))), some (.int (nI (2 ^ (j + 1))))]) C d_Mo_goes_74 (by decide) rfl ?_
            refine m_goto (tgt := 46) C d_Mo_goes_76 (by decide) ?_
            exact ih (4 - (j + 1)) (by omega) M2 (j + 1) rfl (by omega) (by rw [thN, if_neg (Int32.not_lt.mpr h8)]; exact hM2)
          · refine m_aload_n C d_Mo_goes_60 rfl rfl ?_
            refine m_dup C d_Mo_goes_61 rfl ?_
            refine m_get C fg_Mo_95 d_Mo_goes_62 hM2.1 rfl ?_
            refine m_iconst (v := 1) C d_Mo_goes_65 (by decide) ?_
            refine m_iadd C d_Mo_goes_66 ?_
            have e4 : uR R 0 0 (nI (thN kinds j)) 0 0 = nI (thN kinds j) := by rw [uR_s, fu_s]
            rw [e4, nI_1]
            refine m_putE C fp_Mo_95 d_Mo_goes_67 (hw _ (Or.inl rfl)) hM2.1 rfl rfl (fun M3 M3a9 M3o => ?_)
            obtain ⟨R3, hR3⟩ : ∃ R3, R3 = uR ((uR R 0 0 (nI (thN kinds j)))) 0 0 ((nI (thN kinds j + 1))) := ⟨_, rfl⟩
            have hM3 : RepM R3 m mr M3 := by rw [hR3]; exact hM2.put0 M3a9 M3o
            refine m_iconst (v := 2) C d_Mo_goes_70 (by decide) ?_
            refine m_iload C d_Mo_goes_71 rfl ?_
            refine m_imul C d_Mo_goes_73 ?_
            rw [nI_2p (by omega : j < 5)]
            refine m_istore (L' := [some (.ref m), some (.int kinds), some (.int (b2i p)), some (.int (b2i q)), some (.int (b2i r)), some (.int (b2i s)), some (.int (gbV (gbN p q r s))), some (.int (nI (2 ^ (j + 1))))]) C d_Mo_goes_74 (by decide) rfl ?_
            refine m_goto (tgt := 46) C d_Mo_goes_76 (by decide) ?_
            exact ih (4 - (j + 1)) (by omega) M3 (j + 1) rfl (by omega) (by rw [thN, if_pos (Int32.not_le.mp h8), show uR R 0 0 (nI (thN kinds j + 1)) = R3 by rw [hR3]; exact (uR_uR _ _ _ _ _).symm]; exact hM3)
    exact loop _ M1 0 rfl (Nat.zero_le _) (by rw [show uR R 0 0 (nI (thN kinds 0)) = R1 from hR1.symm]; exact hM1)
  refine m_iload_n C d_Mo_goes_0 rfl rfl ?_
  refine m_if_ne (tgt := 8) C d_Mo_goes_1 (by decide) (fun h_p => ?_) (fun h_p => ?_)
  · rw [b2i_ne0] at h_p
    refine m_iload_n C d_Mo_goes_8 rfl rfl ?_
    refine m_if_ne (tgt := 16) C d_Mo_goes_9 (by decide) (fun h_q => ?_) (fun h_q => ?_)
    · rw [b2i_ne0] at h_q
      refine m_iload C d_Mo_goes_16 rfl ?_
      refine m_if_ne (tgt := 25) C d_Mo_goes_18 (by decide) (fun h_r => ?_) (fun h_r => ?_)
      · rw [b2i_ne0] at h_r
        refine m_iload C d_Mo_goes_25 rfl ?_
        refine m_if_ne (tgt := 35) C d_Mo_goes_27 (by decide) (fun h_s => ?_) (fun h_s => ?_)
        · rw [b2i_ne0] at h_s
          refine m_iconst (v := 0) C d_Mo_goes_35 (by decide) ?_
          exact jn _ (by rw [h_p, h_q, h_r, h_s]; rfl)
        · rw [b2i_eq0] at h_s
          refine m_bipush (v := 8) C d_Mo_goes_30 (by decide) ?_
          refine m_goto (tgt := 36) C d_Mo_goes_32 (by decide) ?_
          exact jn _ (by simp only [gbN, h_p, h_q, h_r, h_s]; rfl)
      · rw [b2i_eq0] at h_r
        refine m_iconst (v := 4) C d_Mo_goes_21 (by decide) ?_
        refine m_goto (tgt := 36) C d_Mo_goes_22 (by decide) ?_
        exact jn _ (by simp only [gbN, h_p, h_q, h_r]; rfl)
    · rw [b2i_eq0] at h_q
      refine m_iconst (v := 2) C d_Mo_goes_12 (by decide) ?_
      refine m_goto (tgt := 36) C d_Mo_goes_13 (by decide) ?_
      exact jn _ (by simp only [gbN, h_p, h_q]; rfl)
  · rw [b2i_eq0] at h_p
    refine m_iconst (v := 1) C d_Mo_goes_4 (by decide) ?_
    refine m_goto (tgt := 36) C d_Mo_goes_5 (by decide) ?_
    exact jn _ (by simp only [gbN, h_p]; rfl)

set_option maxHeartbeats 4000000 in
set_option maxRecDepth 100000 in
theorem ct_Mo_isStreet (l : Launch) (D : ma_D) (s0 : State) (R : mR) (m : Nat) (mr : Nat → Nat) (s : Int32) (M : ma_H) (hM : RepM R m mr M) (hS : R 1 0 = nI (nS R)) (h30 : nS R ≤ 30) : Ct l D s0 y_Mo_isStreet c_Mo_isStreet 2 (some .boolean) 1 0 0 22 [.ref m, .int s] M (fun _ => False) (pI (b2i (kn R s)) M) := by
  refine Ct_z 0 [some (.ref m), some (.int s)] (by decide +kernel) (Nat.le_of_ble_eq_true rfl) rfl ?_
  intro G e1 e2 e3 C hw Rt
  subst e1; subst e2; subst e3
  refine m_iload_n C d_Mo_isStreet_0 rfl rfl ?_
  refine m_iconst (v := 0) C d_Mo_isStreet_1 (by decide) ?_
  refine m_aload_n C d_Mo_isStreet_2 rfl rfl ?_
  refine m_get C fg_Mo_99 d_Mo_isStreet_3 hM.1 rfl ?_
  refine m_iconst (v := 1) C d_Mo_isStreet_6 (by decide) ?_
  refine m_isub C d_Mo_isStreet_7 ?_
  refine m_callS C d_Mo_isStreet_8 mw_Mo_102 mst_Mo_in (ct_Mo_in _ _ _ s 0 (R 1 0 - 1) M) (fun _ h => h.elim) rfl rfl (Nat.le_of_ble_eq_true rfl) (by decide) (fun v9 M9 hp h5 h6 => ?_)
  obtain ⟨rfl, hM9⟩ := hp; rw [hM9]
  show mj G 2 0 0 M 11 [some (.ref m), some (.int s)] [.int (b2i (inn s 0 (R 1 0 - 1)))]
  exact Rt _ _ _ _ _ _ (by decide) (by decide) (b2i_01 _) d_Mo_isStreet_11 (⟨by rw [kn_inn hS h30], rfl⟩)

set_option maxHeartbeats 4000000 in
set_option maxRecDepth 100000 in
theorem ct_Mo_byteOf (l : Launch) (D : ma_D) (s0 : State) (p : Int64) (n i : Nat) (hn : n ≤ 8) (hi : i < n) (M : ma_H) : Ct l D s0 y_Mo_byteOf c_Mo_byteOf 4 (some .int) 0 0 0 0 [.long p, .int (nI n), .int (nI i)] M (fun _ => False) (pI (sgn p n i) M) := by
  refine Ct_i 0 [some (.long p), none, some (.int (nI n)), some (.int (nI i))] (by decide +kernel) (Nat.le_of_ble_eq_true rfl) rfl ?_
  intro G e1 e2 e3 C hw Rt
  subst e1; subst e2; subst e3
  refine m_lload_n C d_Mo_byteOf_0 rfl rfl ?_
  refine m_bipush (v := 8) C d_Mo_byteOf_1 (by decide) ?_
  refine m_iload_n C d_Mo_byteOf_3 rfl rfl ?_
  refine m_iconst (v := 1) C d_Mo_byteOf_4 (by decide) ?_
  refine m_isub C d_Mo_byteOf_5 ?_
  refine m_iload_n C d_Mo_byteOf_6 rfl rfl ?_
  refine m_isub C d_Mo_byteOf_7 ?_
  refine m_imul C d_Mo_byteOf_8 ?_
  rw [sgn_arg hn hi]
  refine m_lshr C d_Mo_byteOf_9 ?_
  refine m_l2i C d_Mo_byteOf_10 ?_
  refine m_sipush (v := 255) C d_Mo_byteOf_11 (by decide) ?_
  refine m_iand C d_Mo_byteOf_14 ?_
  exact Rt _ _ _ _ _ _ (by decide) (by decide) d_Mo_byteOf_15 (⟨by rw [sgn_val2 p (by omega)]; rfl, rfl⟩)

set_option maxHeartbeats 4000000 in
set_option maxRecDepth 100000 in
theorem ct_Mo_areLetters (l : Launch) (D : ma_D) (s0 : State) (p : Int64) (n : Nat) (hn : n ≤ 8) (M : ma_H) : Ct l D s0 y_Mo_areLetters c_Mo_areLetters 4 (some .boolean) 1 0 0 23 [.long p, .int (nI n)] M (fun _ => False) (pI (b2i (decide (∀ i, i < n → is_l (sgn p n i) = true))) M) := by
  refine Ct_z 1 [some (.long p), none, some (.int (nI n)), none] (by decide +kernel) (Nat.le_of_ble_eq_true rfl) rfl ?_
  intro G e1 e2 e3 C hw Rt
  subst e1; subst e2; subst e3
  refine m_iconst (v := 0) C d_Mo_areLetters_0 (by decide) ?_
  refine m_istore_n (L' := [some (.long p), none, some (.int (nI n)), some (.int 0)]) C d_Mo_areLetters_1 rfl (by decide) rfl ?_
  have loop : ∀ (lq9 : Nat) (i : Nat), n - i = lq9 → i ≤ n → (∀ j, j < i → is_l (sgn p n j) = true) → mj G 4 0 0 M 2 [some (.long p), none, some (.int (nI n)), some (.int (nI i))] [] := by
    intro lq9
    induction lq9 using Nat.strongRecOn with
    | ind lq9 ih =>
      intro i hr hi hj
      refine m_iload_n C d_Mo_areLetters_2 rfl rfl ?_
      refine m_iload_n C d_Mo_areLetters_3 rfl rfl ?_
      have e1 : nI n ≤ nI i ↔ n ≤ i := nI_leI (by omega) (by omega)
      refine m_icmp_ge (tgt := 31) C d_Mo_areLetters_4 (by decide) (fun h9 => ?_) (fun h9 => ?_)
      · refine m_iconst (v := 1) C d_Mo_areLetters_31 (by decide) ?_
        exact Rt _ _ _ _ _ _ (by decide) (by decide) (by decide) d_Mo_areLetters_32 (⟨by rw [e1] at h9; have : ∀ i, i < n → is_l (sgn p n i) = true := fun j q => hj j (by omega); rw [decide_eq_true this]; rfl, rfl⟩)
      · rw [e1] at h9
        refine m_lload_n C d_Mo_areLetters_7 rfl rfl ?_
        refine m_iload_n C d_Mo_areLetters_8 rfl rfl ?_
        refine m_iload_n C d_Mo_areLetters_9 rfl rfl ?_
        refine m_callS C d_Mo_areLetters_10 mw_Mo_106 mst_Mo_byteOf (ct_Mo_byteOf _ _ _ p n i hn (by omega) M) (fun _ h => h.elim) rfl rfl (Nat.le_of_ble_eq_true rfl) (by decide) (fun v9 M9 hp h5 h6 => ?_)
        obtain ⟨rfl, hM9⟩ := hp; rw [hM9]
        show mj G 4 0 0 M 13 [some (.long p), none, some (.int (nI n)), some (.int (nI i))] [.int (sgn p n i)]
        refine m_bipush (v := 97) C d_Mo_areLetters_13 (by decide) ?_
        refine m_bipush (v := 122) C d_Mo_areLetters_15 (by decide) ?_
        refine m_callS C d_Mo_areLetters_17 mw_Mo_102 mst_Mo_in (ct_Mo_in _ _ _ (sgn p n i) 97 122 M) (fun _ h => h.elim) rfl rfl (Nat.le_of_ble_eq_true rfl) (by decide) (fun v9 M9 hp h5 h6 => ?_)
        obtain ⟨rfl, hM9⟩ := hp; rw [hM9]
        show mj G 4 0 0 M 20 [some (.long p), none, some (.int (nI n)), some (.int (nI i))] [.int (b2i (inn (sgn p n i) 97 122))]
        rw [is_l_inn]
        refine m_if_ne (tgt := 25) C d_Mo_areLetters_20 (by decide) (fun h8 => ?_) (fun h8 => ?_)
        · rw [b2i_ne0] at h8
          refine m_iinc (v := (nI (i + 1))) (L' := [some (.long p), none, some (.int (nI n)), some (.int (nI (i + 1)))]) C d_Mo_areLetters_25 rfl (nI_1 i) (by decide) rfl ?_
          refine m_goto (tgt := 2) C d_Mo_areLetters_28 (by decide) ?_
          exact ih (n - (i + 1)) (by omega) (i + 1) rfl (by omega) (fun j hj9 => by by_cases q : j = i; rw [q]; exact h8; exact hj j (by omega))
        · rw [b2i_eq0] at h8
          refine m_iconst (v := 0) C d_Mo_areLetters_23 (by decide) ?_
          exact Rt _ _ _ _ _ _ (by decide) (by decide) (by decide) d_Mo_areLetters_24 (⟨by have : ¬ ∀ i, i < n → is_l (sgn p n i) = true := fun z => (by rw [z i (by omega)] at h8; cases h8); rw [decide_eq_false this]; rfl, rfl⟩)
  exact loop _ 0 rfl (Nat.zero_le _) (fun j h => absurd h (by omega))

set_option maxHeartbeats 4000000 in
set_option maxRecDepth 100000 in
theorem ct_Mo_isPlace (l : Launch) (D : ma_D) (s0 : State) (x : Int32) (M : ma_H) : Ct l D s0 y_Mo_isPlace c_Mo_isPlace 1 (some .boolean) 1 0 0 22 [.int x] M (fun _ => False) (pI (b2i (inn x (-9999) 9999)) M) := by
  refine Ct_z 0 [some (.int x)] (by decide +kernel) (Nat.le_of_ble_eq_true rfl) rfl ?_
  intro G e1 e2 e3 C hw Rt
  subst e1; subst e2; subst e3
  refine m_iload_n C d_Mo_isPlace_0 rfl rfl ?_
  refine m_sipush (v := (-9999)) C d_Mo_isPlace_1 (by decide) ?_
  refine m_sipush (v := 9999) C d_Mo_isPlace_4 (by decide) ?_
  refine m_callS C d_Mo_isPlace_7 mw_Mo_102 mst_Mo_in (ct_Mo_in _ _ _ x (-9999) 9999 M) (fun _ h => h.elim) rfl rfl (Nat.le_of_ble_eq_true rfl) (by decide) (fun v9 M9 hp h5 h6 => ?_)
  obtain ⟨rfl, hM9⟩ := hp; rw [hM9]
  show mj G 1 0 0 M 10 [some (.int x)] [.int (b2i (inn x (-9999) 9999))]
  exact Rt _ _ _ _ _ _ (by decide) (by decide) (b2i_01 _) d_Mo_isPlace_10 (⟨by rfl, rfl⟩)

set_option maxHeartbeats 4000000 in
set_option maxRecDepth 100000 in
theorem ct_Mo_least (l : Launch) (D : ma_D) (s0 : State) (x y : Int32) (M : ma_H) : Ct l D s0 y_Mo_least c_Mo_least 2 (some .int) 0 0 0 0 [.int x, .int y] M (fun _ => False) (pI (i_mn x y) M) := by
  refine Ct_i 0 [some (.int x), some (.int y)] (by decide +kernel) (Nat.le_of_ble_eq_true rfl) rfl ?_
  intro G e1 e2 e3 C hw Rt
  subst e1; subst e2; subst e3
  refine m_iload_n C d_Mo_least_0 rfl rfl ?_
  refine m_iload_n C d_Mo_least_1 rfl rfl ?_
  refine m_icmp_ge (tgt := 9) C d_Mo_least_2 (by decide) (fun h1 => ?_) (fun h1 => ?_)
  · refine m_iload_n C d_Mo_least_9 rfl rfl ?_
    exact Rt _ _ _ _ _ _ (by decide) (by decide) d_Mo_least_10 (⟨by rw [i_mn]; by_cases h2 : y < x; rw [if_pos h2]; rw [if_neg h2, Int32.le_antisymm h1 (Int32.not_lt.mp h2)], rfl⟩)
  · refine m_iload_n C d_Mo_least_5 rfl rfl ?_
    refine m_goto (tgt := 10) C d_Mo_least_6 (by decide) ?_
    exact Rt _ _ _ _ _ _ (by decide) (by decide) d_Mo_least_10 (⟨by rw [i_mn, if_neg (fun z => h1 (Int32.le_of_lt z))], rfl⟩)
