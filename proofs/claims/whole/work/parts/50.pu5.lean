/-! ===== roots, posts, the nearest start ===== -/
theorem inn_I {x : Int32} (h : inn x (-9999) 9999 = true) : -9999 ≤ x.toInt ∧ x.toInt ≤ 9999 := by
  simp only [inn, Bool.and_eq_true, decide_eq_true_eq, Int32.le_iff_toInt_le] at h
  have e1 : (-9999 : Int32).toInt = -9999 := rfl
  have e2 : (9999 : Int32).toInt = 9999 := rfl
  omega
theorem sub_I {a b : Int32} (ha : inn a (-9999) 9999 = true) (hb : inn b (-9999) 9999 = true) : (a - b).toInt = a.toInt - b.toInt ∧ -19998 ≤ a.toInt - b.toInt ∧ a.toInt - b.toInt ≤ 19998 := by
  have h1 := inn_I ha
  have h2 := inn_I hb
  refine ⟨?_, by omega, by omega⟩
  rw [Int32.toInt_sub, Int.bmod_eq_of_le (by omega) (by omega)]
theorem sq_abs {z : Int} (h1 : -19998 ≤ z) (h2 : z ≤ 19998) : z * z = ((z.natAbs * z.natAbs : Nat) : Int) ∧ z.natAbs * z.natAbs ≤ 399920004 := by
  refine ⟨(Int.natAbs_mul_self (a := z)).symm, ?_⟩
  have : z.natAbs ≤ 19998 := by omega
  exact Nat.le_trans (Nat.mul_le_mul this this) (by decide)
theorem sq_32 {u v : Int32} (hu : -19998 ≤ u.toInt ∧ u.toInt ≤ 19998) (hv : -19998 ≤ v.toInt ∧ v.toInt ≤ 19998) : ∃ S : Nat, S ≤ 799840008 ∧ u * u + v * v = nI S ∧ sq2 u v = lN S := by
  obtain ⟨e1, b1⟩ := sq_abs hu.1 hu.2
  obtain ⟨e2, b2⟩ := sq_abs hv.1 hv.2
  refine ⟨u.toInt.natAbs * u.toInt.natAbs + v.toInt.natAbs * v.toInt.natAbs, by omega, ?_, ?_⟩
  · apply Int32.toInt_inj.mp
    rw [Int32.toInt_add, Int32.toInt_mul, Int32.toInt_mul, e1, e2, nI_toInt (by omega)]
    rw [Int.bmod_eq_of_le (n := ((u.toInt.natAbs * u.toInt.natAbs : Nat) : Int)) (by omega) (by omega), Int.bmod_eq_of_le (n := ((v.toInt.natAbs * v.toInt.natAbs : Nat) : Int)) (by omega) (by omega), Int.bmod_eq_of_le (by omega) (by omega)]
    omega
  · apply Int64.toInt_inj.mp
    rw [sq2, Int64.toInt_add, Int64.toInt_mul, Int64.toInt_mul, Int32.toInt_toInt64, Int32.toInt_toInt64, e1, e2, pk_lT (by omega)]
    rw [Int.bmod_eq_of_le (n := ((u.toInt.natAbs * u.toInt.natAbs : Nat) : Int)) (by omega) (by omega), Int.bmod_eq_of_le (n := ((v.toInt.natAbs * v.toInt.natAbs : Nat) : Int)) (by omega) (by omega), Int.bmod_eq_of_le (by omega) (by omega)]
    omega
def wrN (S : Nat) : Nat → Nat → Nat
  | 0, r => r
  | k + 1, r => wrN S k (if (r + 2 ^ k) * (r + 2 ^ k) ≤ S then r + 2 ^ k else r)
theorem wrN_lt (S : Nat) : ∀ k r, wrN S k r < r + 2 ^ k := by
  intro k
  induction k with
  | zero => intro r; rw [wrN]; omega
  | succ k ih =>
    intro r
    rw [wrN, Nat.pow_succ]
    split
    · have := ih (r + 2 ^ k); omega
    · have := ih r; omega
theorem wr_32 {S : Nat} (hS : S < 2 ^ 30) : ∀ k r, r + 2 ^ k ≤ 2 ^ 15 → wr_k (nI S) k (nI r) = nI (wrN S k r) ∧ wr2 (lN S) k (nI r) = nI (wrN S k r) := by
  intro k
  induction k with
  | zero => intro r _; exact ⟨rfl, rfl⟩
  | succ k ih =>
    intro r hr
    rw [Nat.pow_succ] at hr
    have hp := Nat.two_pow_pos k
    have hq : (r + 2 ^ k) * (r + 2 ^ k) ≤ 2 ^ 15 * 2 ^ 15 := Nat.mul_le_mul (by omega) (by omega)
    have hq2 : 2 ^ 15 * 2 ^ 15 = 2 ^ 30 := by decide
    rw [wr_k, wr2, wrN, nI_add, pk_mul, nI_l (by omega), lN_mul]
    have c1 : nI ((r + 2 ^ k) * (r + 2 ^ k)) ≤ nI S ↔ (r + 2 ^ k) * (r + 2 ^ k) ≤ S := nI_leI (by omega) (by omega)
    have c2 : lN ((r + 2 ^ k) * (r + 2 ^ k)) ≤ lN S ↔ (r + 2 ^ k) * (r + 2 ^ k) ≤ S := pk_lLE (by omega) (by omega)
    by_cases h : (r + 2 ^ k) * (r + 2 ^ k) ≤ S
    · rw [if_pos (c1.mpr h), if_pos (c2.mpr h), if_pos h]
      exact ih (r + 2 ^ k) (by omega)
    · rw [if_neg (fun z => h (c1.mp z)), if_neg (fun z => h (c2.mp z)), if_neg h]
      exact ih r (by omega)
theorem rt_eq {u v : Int32} (hu : -19998 ≤ u.toInt ∧ u.toInt ≤ 19998) (hv : -19998 ≤ v.toInt ∧ v.toInt ≤ 19998) : rt2 u v = w_root (u * u + v * v) ∧ ∃ r : Nat, r ≤ 32767 ∧ w_root (u * u + v * v) = nI r := by
  obtain ⟨S, hS, e1, e2⟩ := sq_32 hu hv
  have h := wr_32 (S := S) (by omega) 15 0 (by decide)
  have hl := wrN_lt S 15 0
  rw [w_root, e1, rt2, e2, show (0 : Int32) = nI 0 from rfl, h.1]
  refine ⟨?_, _, by omega, rfl⟩
  show wr2 (lN S) 15 (if (nI 0 + nI (2 ^ 15)).toInt64 * (nI 0 + nI (2 ^ 15)).toInt64 ≤ lN S then nI 0 + nI (2 ^ 15) else nI 0) = _
  rw [if_neg, h.2]
  rw [nI_add, nI_l (by decide), lN_mul, pk_lLE (by decide) (by omega)]
  omega
theorem root_eq {x y tx ty : Int32} (h1 : inn x (-9999) 9999 = true) (h2 : inn y (-9999) 9999 = true) (h3 : inn tx (-9999) 9999 = true) (h4 : inn ty (-9999) 9999 = true) : rt2 (tx - x) (ty - y) = w_root (sq_way x y tx ty) ∧ 0 ≤ w_root (sq_way x y tx ty) ∧ w_root (sq_way x y tx ty) ≤ 32768 := by
  have a := sub_I h3 h1
  have b := sub_I h4 h2
  obtain ⟨e, r, hr, e2⟩ := rt_eq (u := tx - x) (v := ty - y) (by omega) (by omega)
  refine ⟨e, ?_⟩
  rw [sq_way, e2, show (0 : Int32) = nI 0 from rfl, show (32768 : Int32) = nI 32768 from rfl, nI_leI (by decide) (by omega), nI_leI (by omega) (by decide)]
  omega
theorem tdiv_fl {n d : Int} (hd : 0 < d) : n.tdiv d = n / d + (if 0 ≤ n ∨ n % d = 0 then 0 else 1) := by
  rw [Int.tdiv_eq_ediv, Int.sign_eq_one_of_pos hd]
  have : d ∣ n ↔ n % d = 0 := Int.dvd_iff_emod_eq_zero
  simp only [this]
theorem fdiv_a {n d : Int} (hd : 0 < d) : (if n - n.tdiv d * d < 0 then n.tdiv d - 1 else n.tdiv d) = n / d := by
  have h2 := Int.emod_nonneg n (show d ≠ 0 by omega)
  have h3 := Int.emod_lt_of_pos n hd
  have h4 := Int.mul_ediv_add_emod n d
  rw [Int.mul_comm] at h4
  rw [tdiv_fl hd]
  by_cases h : 0 ≤ n ∨ n % d = 0
  · rw [if_pos h, Int.add_zero, if_neg (by omega)]
  · rw [if_neg h, Int.add_mul, if_pos (by omega)]; omega
theorem fdiv_b {n d : Int} (hd : 0 < d) : (if 0 ≤ n then n.tdiv d else if n.tdiv d * d = n then n.tdiv d else n.tdiv d - 1) = n / d := by
  have h2 := Int.emod_nonneg n (show d ≠ 0 by omega)
  have h3 := Int.emod_lt_of_pos n hd
  have h4 := Int.mul_ediv_add_emod n d
  rw [Int.mul_comm] at h4
  rw [tdiv_fl hd]
  by_cases h : 0 ≤ n
  · rw [if_pos h, if_pos (Or.inl h), Int.add_zero]
  · rw [if_neg h]
    by_cases h5 : n % d = 0
    · rw [if_pos (Or.inr h5), Int.add_zero, if_pos (by omega)]
    · rw [if_neg (show ¬ (0 ≤ n ∨ n % d = 0) by omega), Int.add_mul, if_neg (by omega)]; omega
theorem xor_sg {x y : Int32} (hy : 0 ≤ y.toInt) : 0 ≤ x ^^^ y ↔ 0 ≤ x.toInt := by
  have e0 : ∀ z : Int32, z.toBitVec.msb = decide (z.toInt < 0) := fun z => BitVec.msb_eq_toInt
  have e1 := e0 (x ^^^ y)
  rw [Int32.toBitVec_xor, BitVec.msb_xor, e0 x, e0 y, show decide (y.toInt < 0) = false from decide_eq_false (by omega), Bool.xor_false, decide_eq_decide] at e1
  rw [Int32.le_iff_toInt_le, show (0 : Int32).toInt = 0 from rfl]
  omega
theorem tdiv_bd {n d : Int} (hd : 0 < d) (hb : -2147483648 < n ∧ n < 2147483648) : (-2147483648 < n.tdiv d ∧ n.tdiv d < 2147483648) ∧ -2147483648 < n.tdiv d * d ∧ n.tdiv d * d < 2147483648 := by
  have h1 := Int.tdiv_mul_add_tmod n d
  have h6 := Int.tmod_lt_of_pos n hd
  have h7 := Int.lt_tmod_of_pos n hd
  have ha : (n.tdiv d).natAbs ≤ n.natAbs := by
    rw [Int.natAbs_tdiv]; exact Nat.div_le_self _ _
  have hm : (n.tdiv d * d).natAbs ≤ n.natAbs := by
    rw [Int.natAbs_mul, Int.natAbs_tdiv]; exact Nat.div_mul_le_self _ _
  omega
theorem f_div_I {x y : Int32} (hy : 0 < y.toInt) (hx : -2147483648 < x.toInt) : (f_div x y).toInt = x.toInt / y.toInt := by
  have hx2 := x.toInt_lt
  have hy2 := y.toInt_lt
  obtain ⟨⟨b1, b2⟩, b3, b4⟩ := tdiv_bd hy ⟨hx, by omega⟩
  have e1 : (x / y).toInt = x.toInt.tdiv y.toInt := by rw [Int32.toInt_div, Int.bmod_eq_of_le (by omega) (by omega)]
  have e2 : (x / y * y).toInt = x.toInt.tdiv y.toInt * y.toInt := by rw [Int32.toInt_mul, e1, Int.bmod_eq_of_le (by omega) (by omega)]
  have e4 : x / y * y = x ↔ x.toInt.tdiv y.toInt * y.toInt = x.toInt := by rw [← Int32.toInt_inj, e2]
  rw [f_div, ← fdiv_b hy]
  by_cases h : 0 ≤ x.toInt
  · rw [if_pos ((xor_sg (by omega)).mpr h), if_pos h, e1]
  · rw [if_neg (fun z => h ((xor_sg (by omega)).mp z)), if_neg h]
    by_cases h5 : x.toInt.tdiv y.toInt * y.toInt = x.toInt
    · rw [if_pos (e4.mpr h5), if_pos h5, e1]
    · rw [if_neg (fun z => h5 (e4.mp z)), if_neg h5, Int32.toInt_sub, e1, show (1 : Int32).toInt = 1 from rfl, Int.bmod_eq_of_le (by omega) (by omega)]
theorem mul_bd {d m : Int} (hd : -19998 ≤ d ∧ d ≤ 19998) (hm : 0 ≤ m ∧ m ≤ 32768) : -655294464 ≤ d * m ∧ d * m ≤ 655294464 := by
  have h1 : (d * m).natAbs ≤ 19998 * 32768 := by
    rw [Int.natAbs_mul]; exact Nat.mul_le_mul (by omega) (by omega)
  omega
theorem pt_eq {d m a : Int32} (hd : -19998 ≤ d.toInt ∧ d.toInt ≤ 19998) (hm : 0 ≤ m.toInt ∧ m.toInt ≤ 32768) (ha : 0 < a.toInt ∧ a.toInt ≤ 32768) : f_div (2 * d * m + a) (2 * a) = ptF d m a := by
  have hb := mul_bd hd hm
  have e0 : (2 : Int32).toInt = 2 := rfl
  have e0' : (2 : Int64).toInt = 2 := rfl
  have c1 : (2 * d * m + a).toInt = 2 * (d.toInt * m.toInt) + a.toInt := by
    have : (2 * d).toInt = 2 * d.toInt := by rw [Int32.toInt_mul, e0, Int.bmod_eq_of_le (by omega) (by omega)]
    have h2 : (2 * d * m).toInt = 2 * (d.toInt * m.toInt) := by rw [Int32.toInt_mul, this, Int.mul_assoc, Int.bmod_eq_of_le (by omega) (by omega)]
    rw [Int32.toInt_add, h2, Int.bmod_eq_of_le (by omega) (by omega)]
  have c2 : (2 * a).toInt = 2 * a.toInt := by rw [Int32.toInt_mul, e0, Int.bmod_eq_of_le (by omega) (by omega)]
  have c3 : (2 * d.toInt64 * m.toInt64 + a.toInt64).toInt = 2 * (d.toInt * m.toInt) + a.toInt := by
    have : (2 * d.toInt64).toInt = 2 * d.toInt := by rw [Int64.toInt_mul, e0', Int32.toInt_toInt64, Int.bmod_eq_of_le (by omega) (by omega)]
    have h2 : (2 * d.toInt64 * m.toInt64).toInt = 2 * (d.toInt * m.toInt) := by rw [Int64.toInt_mul, this, Int32.toInt_toInt64, Int.mul_assoc, Int.bmod_eq_of_le (by omega) (by omega)]
    rw [Int64.toInt_add, h2, Int32.toInt_toInt64, Int.bmod_eq_of_le (by omega) (by omega)]
  have c4 : (2 * a.toInt64).toInt = 2 * a.toInt := by rw [Int64.toInt_mul, e0', Int32.toInt_toInt64, Int.bmod_eq_of_le (by omega) (by omega)]
  apply Int32.toInt_inj.mp
  rw [f_div_I (by omega) (by omega), c1, c2, ptF]
  generalize 2 * d.toInt64 * m.toInt64 + a.toInt64 = X at c3
  generalize 2 * a.toInt64 = Y at c4
  have hn : -1400000000 ≤ 2 * (d.toInt * m.toInt) + a.toInt ∧ 2 * (d.toInt * m.toInt) + a.toInt ≤ 1400000000 := by omega
  generalize 2 * (d.toInt * m.toInt) + a.toInt = n at c3 c1 hn
  have hY : 0 < 2 * a.toInt := by omega
  generalize 2 * a.toInt = D at c4 hY c2
  obtain ⟨⟨b1, b2⟩, b3, b4⟩ := tdiv_bd (n := n) hY ⟨by omega, by omega⟩
  have e1 : (X / Y).toInt = n.tdiv D := by rw [Int64.toInt_div, c3, c4, Int.bmod_eq_of_le (by omega) (by omega)]
  have e2 : (X / Y * Y).toInt = n.tdiv D * D := by rw [Int64.toInt_mul, e1, c4, Int.bmod_eq_of_le (by omega) (by omega)]
  have e3 : (X - X / Y * Y).toInt = n - n.tdiv D * D := by rw [Int64.toInt_sub, e2, c3, Int.bmod_eq_of_le (by omega) (by omega)]
  have e4 : X - X / Y * Y < 0 ↔ n - n.tdiv D * D < 0 := by rw [Int64.lt_iff_toInt_lt, e3]; exact Iff.rfl
  rw [← fdiv_a hY]
  by_cases h : n - n.tdiv D * D < 0
  · rw [if_pos h, if_pos (e4.mpr h), Int64.toInt_toInt32, Int64.toInt_sub, e1, show (1 : Int64).toInt = 1 from rfl]
    have h9 := tdiv_fl (n := n) hY
    have h10 : n.tdiv D ≥ -1400000000 ∧ n.tdiv D ≤ 1400000000 := by
      have ha : (n.tdiv D).natAbs ≤ n.natAbs := by
        rw [Int.natAbs_tdiv]; exact Nat.div_le_self _ _
      omega
    rw [Int.bmod_eq_of_le (n := n.tdiv D - 1) (by omega) (by omega), Int.bmod_eq_of_le (by omega) (by omega)]
  · rw [if_neg h, if_neg (fun z => h (e4.mp z)), Int64.toInt_toInt32, e1, Int.bmod_eq_of_le (by omega) (by omega)]
theorem bt_eq {ln fr d m : Int32} (hln : 0 ≤ ln ∧ ln ≤ 32768) (hm : inn m 0 ln = true) (hf : inn fr (-9999) 9999 = true) (ht : inn (fr + d) (-9999) 9999 = true) : btw ln fr (fr + d) m = btM ln fr d m := by
  have e : fr + d - fr = d := by grind
  have a := sub_I ht hf
  rw [e] at a
  rw [btw, btM, e]
  by_cases h : ln = 0
  · rw [if_pos h, if_pos h]
  · rw [if_neg h, if_neg h]
    simp only [inn, Bool.and_eq_true, decide_eq_true_eq, Int32.le_iff_toInt_le] at hm hln
    have e1 : (0 : Int32).toInt = 0 := rfl
    have e2 : (32768 : Int32).toInt = 32768 := rfl
    have h0 : ln.toInt ≠ 0 := fun z => h (Int32.toInt_inj.mp (by omega))
    rw [pt_eq (by omega) (by omega) (by omega)]
theorem po_eq {R : mR} (hw : WfS R) {s : Nat} (hs : s < nS R) {m : Int32} (hm : inn m 0 (R 15 s) = true) : poF R s m = 20000 * ((btM (R 15 s) (R 11 s) (R 13 s) m) + 10000) + (btM (R 15 s) (R 12 s) (R 14 s) m) + 10000 := by
  have h1 := (hw.2.2.2.2.2.2.2.1 s hs).1
  have h2 := (hw.1.2 s hs).2.2
  rw [poF, bt_eq h2 hm h1.1 h1.2.2.1, bt_eq h2 hm h1.2.1 h1.2.2.2]
theorem nea_eq {R : mR} (hw : WfS R) {x y : Int32} (hx : inn x (-9999) 9999 = true) (hy : inn y (-9999) 9999 = true) : ∀ k, k ≤ nS R → (neF R x y k).1 = (ne2 R x y k).1 ∧ ((k = 0 ∧ (neF R x y k).1 = -1) ∨ ∃ p S : Nat, p < k ∧ (neF R x y k).1 = nI p ∧ S < 2 ^ 30 ∧ (neF R x y k).2 = nI S ∧ (ne2 R x y k).2 = lN S) := by
  have hb := hw.1.1.1
  intro k
  induction k with
  | zero => intro _; exact ⟨rfl, Or.inl ⟨rfl, rfl⟩⟩
  | succ k ih =>
    intro hk
    have h1 := (hw.2.2.2.2.2.2.2.1 k (by omega)).1
    have a := sub_I h1.1 hx
    have b := sub_I h1.2.1 hy
    obtain ⟨S, hS, s1, s2⟩ := sq_32 (u := R 11 k - x) (v := R 12 k - y) (by omega) (by omega)
    have s1' : sq_way x y (R 11 k) (R 12 k) = nI S := s1
    obtain ⟨i1, i2⟩ := ih (by omega)
    rw [neF, ne2, s1', s2, ← i1]
    rcases i2 with ⟨rfl, e⟩ | ⟨p, Q, hp, e1, hQ, e2, e3⟩
    · rw [if_pos (Or.inl e), if_pos (Or.inl (by rw [e]; decide))]
      exact ⟨rfl, Or.inr ⟨0, S, by omega, rfl, by omega, rfl, rfl⟩⟩
    · rw [e1, e2, e3]
      have c1 : ¬ nI p = -1 := m1_ne (by omega)
      have c2 : ¬ nI p < 0 := nI_pos (by omega)
      have c3 : nI S < nI Q ↔ S < Q := nI_ltI (by omega) (by omega)
      have c4 : lN S < lN Q ↔ S < Q := pk_lLT (by omega) (by omega)
      by_cases h : S < Q
      · rw [if_pos (Or.inr (c3.mpr h)), if_pos (Or.inr (c4.mpr h))]
        exact ⟨rfl, Or.inr ⟨k, S, by omega, rfl, by omega, rfl, rfl⟩⟩
      · rw [if_neg (fun z => z.elim c1 (fun z => h (c3.mp z))), if_neg (fun z => z.elim c2 (fun z => h (c4.mp z)))]
        exact ⟨i1, Or.inr ⟨p, Q, by omega, e1, hQ, e2, e3⟩⟩
