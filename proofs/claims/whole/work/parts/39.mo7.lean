/-! ===== the model's line, post, near, houseSaid ===== -/
def wr2 (sq : Int64) : Nat → Int32 → Int32
  | 0, r => r
  | k + 1, r => wr2 sq k (if (r + nI (2 ^ k)).toInt64 * (r + nI (2 ^ k)).toInt64 ≤ sq then r + nI (2 ^ k) else r)
def sq2 (dx dy : Int32) : Int64 := dx.toInt64 * dx.toInt64 + dy.toInt64 * dy.toInt64
def rt2 (dx dy : Int32) : Int32 := wr2 (sq2 dx dy) 16 0
def ptF (d m a : Int32) : Int32 := if (2 * d.toInt64 * m.toInt64 + a.toInt64) - (2 * d.toInt64 * m.toInt64 + a.toInt64) / (2 * a.toInt64) * (2 * a.toInt64) < 0 then ((2 * d.toInt64 * m.toInt64 + a.toInt64) / (2 * a.toInt64) - 1).toInt32 else ((2 * d.toInt64 * m.toInt64 + a.toInt64) / (2 * a.toInt64)).toInt32
def btM (ln fr d m : Int32) : Int32 := if ln = 0 then fr else fr + ptF d m ln
def ne2 (R : mR) (x y : Int32) : Nat → Int32 × Int64
  | 0 => (-1, 0)
  | k + 1 => if (ne2 R x y k).1 < 0 ∨ sq2 (R 11 k - x) (R 12 k - y) < (ne2 R x y k).2 then (nI k, sq2 (R 11 k - x) (R 12 k - y)) else ne2 R x y k
def fdI (sg : Nat → Int32) : Nat → Nat → Nat
  | 0, k => k
  | f + 1, k => if is_d (sg k) = true then k else fdI sg f (k + 1)
def fdV (sg : Nat → Int32) : Nat → Nat → Nat → Int32 → Int32
  | 0, _, dg, v => if 4 < dg then 9999 else v
  | f + 1, k, dg, v => if is_d (sg k) = true then fdV sg f (k + 1) (dg + 1) (if dg < 4 then 10 * v + sg k - 48 else v) else (if 4 < dg then 9999 else v)
def hsM (sg : Nat → Int32) (n : Nat) : Int32 := fdV sg (n - fdI sg n 0) (fdI sg n 0) 0 0
theorem nI_h2 {q : Nat} (h : q < 16) : nI (2 ^ q) / 2 = nI (2 ^ q / 2) := by
  have : ∀ q, q < 16 → nI (2 ^ q) / 2 = nI (2 ^ q / 2) := by decide
  exact this q h
theorem tw64 {a : Int32} (h0 : 0 ≤ a) (h1 : ¬ a = 0) : ¬ (2 : Int64) * a.toInt64 = 0 := by
  intro z
  have h2 : ((2 : Int64) * a.toInt64).toInt = 0 := by rw [z]; rfl
  rw [Int64.toInt_mul, Int32.toInt_toInt64] at h2
  have e1 : (2 : Int64).toInt = 2 := rfl
  rw [Int32.le_iff_toInt_le] at h0
  have e3 : (0 : Int32).toInt = 0 := rfl
  have h4 := a.toInt_lt
  rw [e1, Int.bmod_eq_of_le (by omega) (by omega)] at h2
  exact h1 (Int32.toInt_inj.mp (by omega))

set_option maxHeartbeats 4000000 in
set_option maxRecDepth 100000 in
theorem ct_Mo_line (l : Launch) (D : ma_D) (s0 : State) (R : mR) (m : Nat) (mr : Nat → Nat) (s x y tx ty : Int32) (M : ma_H) (hM : RepM R m mr M) (hwf : WfS R) : Ct l D s0 y_Mo_line c_Mo_line 10 (some .int) 2 0 0 43 [.ref m, .int s, .int x, .int y, .int tx, .int ty] M (fun q => q = m ∨ ∃ k, mln k ≠ 0 ∧ q = mr k) (fun v M' => ((gbN (kn R s) ((inn x (-9999) 9999 && inn y (-9999) 9999 && inn tx (-9999) 9999 && inn ty (-9999) 9999)) (true) (true)) = 0 → v = some (.int (rt2 (tx - x) (ty - y))) ∧ RepM (uR (uR (uR (uR (uR (uR (uR R 0 0 0) 11 (tn s) x) 12 (tn s) y) 13 (tn s) (tx - x)) 14 (tn s) (ty - y)) 15 (tn s) (rt2 (tx - x) (ty - y))) 28 0 0) m mr M') ∧ (¬ (gbN (kn R s) ((inn x (-9999) 9999 && inn y (-9999) 9999 && inn tx (-9999) 9999 && inn ty (-9999) 9999)) (true) (true)) = 0 → v = some (.int 0) ∧ RepM (uR R 0 0 (nI (thN 3 (gbN (kn R s) ((inn x (-9999) 9999 && inn y (-9999) 9999 && inn tx (-9999) 9999 && inn ty (-9999) 9999)) (true) (true))))) m mr M')) := by
  refine Ct_i 4 [some (.ref m), some (.int s), some (.int x), some (.int y), some (.int tx), some (.int ty), none, none, none, none] (by decide +kernel) (Nat.le_of_ble_eq_true rfl) rfl ?_
  intro G e1 e2 e3 C hw Rt
  subst e1; subst e2; subst e3
  obtain ⟨⟨⟨hbS, hbL, hbC, hbW, hbF⟩, hbi⟩, ⟨hS, hLm, hCo, hWd, hFn⟩, hst, hln, hmk, hz, hlt, hxy, hrg, hpl, hak, hcn⟩ := id hwf
  refine m_aload_n C d_Mo_line_0 rfl rfl ?_
  refine m_iconst (v := 3) C d_Mo_line_1 (by decide) ?_
  refine m_aload_n C d_Mo_line_2 rfl rfl ?_
  refine m_iload_n C d_Mo_line_3 rfl rfl ?_
  refine m_callV (ci := 10) C d_Mo_line_4 mw_Mo_117 mi_Mo_isStreet se_Mo_isStreet rfl (ct_Mo_isStreet _ _ _ R m mr s M hM hS hbS) (fun _ h => h.elim) rfl rfl (Nat.le_of_ble_eq_true rfl) hM.1 (by decide) (fun v9 M9 hp h5 h6 => ?_)
  obtain ⟨rfl, hM9⟩ := hp; rw [hM9]
  show mj G 10 0 0 M 7 [some (.ref m), some (.int s), some (.int x), some (.int y), some (.int tx), some (.int ty), none, none, none, none] [.int (b2i (kn R s)), .int 3, .ref m]
  have jnq : ∀ xq : Int32, xq = b2i (inn x (-9999) 9999 && inn y (-9999) 9999 && inn tx (-9999) 9999 && inn ty (-9999) 9999) → mj G 10 0 0 M 42 [some (.ref m), some (.int s), some (.int x), some (.int y), some (.int tx), some (.int ty), none, none, none, none] [.int xq, .int (b2i (kn R s)), .int 3, .ref m] := by
    intro xq hxq
    subst hxq
    refine m_iconst (v := 1) C d_Mo_line_42 (by decide) ?_
    refine m_iconst (v := 1) C d_Mo_line_43 (by decide) ?_
    refine m_callV (ci := 10) C d_Mo_line_44 mw_Mo_110 mi_Mo_goes se_Mo_goes rfl (ct_Mo_goes _ _ _ R m mr 3 (kn R s) ((inn x (-9999) 9999 && inn y (-9999) 9999 && inn tx (-9999) 9999 && inn ty (-9999) 9999)) (true) (true) M hM) (fun q h => hw q h) rfl rfl (Nat.le_of_ble_eq_true rfl) hM.1 (by decide) (fun v9 Mg hp g5 g6 => ?_)
    obtain ⟨rfl, hMg⟩ := hp
    show mj G 10 0 0 Mg 47 [some (.ref m), some (.int s), some (.int x), some (.int y), some (.int tx), some (.int ty), none, none, none, none] [.int (b2i (decide ((gbN (kn R s) ((inn x (-9999) 9999 && inn y (-9999) 9999 && inn tx (-9999) 9999 && inn ty (-9999) 9999)) (true) (true)) = 0)))]
    refine m_if_ne (tgt := 52) C d_Mo_line_47 (by decide) (fun hgo => ?_) (fun hgo => ?_)
    · rw [b2i_ne0, decide_eq_true_eq] at hgo
      have hMg0 : RepM (uR R 0 0 0) m mr Mg := by rw [hgo] at hMg; exact hMg
      obtain ⟨hp9, hq9, hr9, hs9⟩ := gbN_0 hgo
      obtain ⟨Rg, hRg⟩ : ∃ Rg, Rg = uR R 0 0 0 := ⟨_, rfl⟩
      have hg : ∀ f, f ≠ 0 → Rg f = R f := fun f hf => by rw [hRg, uR_n hf]
      have hMr : RepM Rg m mr Mg := by rw [hRg]; exact hMg0
      obtain ⟨i0, hi, rfl, ht⟩ := kn_i hwf.1 hp9
      refine m_aload_n C d_Mo_line_52 rfl rfl ?_
      refine m_get C fg_Mo_38 d_Mo_line_53 hMr.1 rfl ?_
      refine m_iload_n C d_Mo_line_56 rfl rfl ?_
      refine m_iload_n C d_Mo_line_57 rfl rfl ?_
      refine m_iastE C d_Mo_line_58 (hw _ (Or.inr ⟨11, by decide, rfl⟩)) (hMr.a11) kt_int (nI_pos (by omega)) (by rw [nI_clamp (by omega), arrL_len]; omega) (fun M1 M1a9 M1o => ?_)
      rw [nI_clamp (by omega), arrL_set] at M1a9
      obtain ⟨R1, hR1⟩ : ∃ R1, R1 = uR Rg 11 i0 x := ⟨_, rfl⟩
      have hM1 : RepM R1 m mr M1 := by rw [hR1]; exact hMr.set (k := 11) (by decide) (by decide) M1a9 M1o
      refine m_aload_n C d_Mo_line_59 rfl rfl ?_
      refine m_get C fg_Mo_41 d_Mo_line_60 hM1.1 rfl ?_
      refine m_iload_n C d_Mo_line_63 rfl rfl ?_
      refine m_iload_n C d_Mo_line_64 rfl rfl ?_
      refine m_iastE C d_Mo_line_65 (hw _ (Or.inr ⟨12, by decide, rfl⟩)) (hM1.a12) kt_int (nI_pos (by omega)) (by rw [nI_clamp (by omega), arrL_len]; omega) (fun M2 M2a9 M2o => ?_)
      rw [nI_clamp (by omega), arrL_set] at M2a9
      obtain ⟨R2, hR2⟩ : ∃ R2, R2 = uR R1 12 i0 y := ⟨_, rfl⟩
      have hM2 : RepM R2 m mr M2 := by rw [hR2]; exact hM1.set (k := 12) (by decide) (by decide) M2a9 M2o
      refine m_aload_n C d_Mo_line_66 rfl rfl ?_
      refine m_get C fg_Mo_44 d_Mo_line_67 hM2.1 rfl ?_
      refine m_iload_n C d_Mo_line_70 rfl rfl ?_
      refine m_iload C d_Mo_line_71 rfl ?_
      refine m_iload_n C d_Mo_line_73 rfl rfl ?_
      refine m_isub C d_Mo_line_74 ?_
      refine m_iastE C d_Mo_line_75 (hw _ (Or.inr ⟨13, by decide, rfl⟩)) (hM2.a13) kt_int (nI_pos (by omega)) (by rw [nI_clamp (by omega), arrL_len]; omega) (fun M3 M3a9 M3o => ?_)
      rw [nI_clamp (by omega), arrL_set] at M3a9
      obtain ⟨R3, hR3⟩ : ∃ R3, R3 = uR R2 13 i0 ((tx - x)) := ⟨_, rfl⟩
      have hM3 : RepM R3 m mr M3 := by rw [hR3]; exact hM2.set (k := 13) (by decide) (by decide) M3a9 M3o
      refine m_aload_n C d_Mo_line_76 rfl rfl ?_
      refine m_get C fg_Mo_47 d_Mo_line_77 hM3.1 rfl ?_
      refine m_iload_n C d_Mo_line_80 rfl rfl ?_
      refine m_iload C d_Mo_line_81 rfl ?_
      refine m_iload_n C d_Mo_line_83 rfl rfl ?_
      refine m_isub C d_Mo_line_84 ?_
      refine m_iastE C d_Mo_line_85 (hw _ (Or.inr ⟨14, by decide, rfl⟩)) (hM3.a14) kt_int (nI_pos (by omega)) (by rw [nI_clamp (by omega), arrL_len]; omega) (fun M4 M4a9 M4o => ?_)
      rw [nI_clamp (by omega), arrL_set] at M4a9
      obtain ⟨R4, hR4⟩ : ∃ R4, R4 = uR R3 14 i0 ((ty - y)) := ⟨_, rfl⟩
      have hM4 : RepM R4 m mr M4 := by rw [hR4]; exact hM3.set (k := 14) (by decide) (by decide) M4a9 M4o
      have q13 : R4 13 i0 = tx - x := by rw [hR4, uR_n (by decide), hR3, uR_s, fu_s]
      have q14 : R4 14 i0 = ty - y := by rw [hR4, uR_s, fu_s]
      refine m_aload_n C d_Mo_line_86 rfl rfl ?_
      refine m_get C fg_Mo_44 d_Mo_line_87 hM4.1 rfl ?_
      refine m_iload_n C d_Mo_line_90 rfl rfl ?_
      refine m_iald (v := .int ((R4 13) i0)) C d_Mo_line_91 (hM4.a13) kt_int (nI_pos (by omega)) (by rw [nI_clamp (by omega)]; exact arrL_get (by omega)) ?_
      rw [q13]
      refine m_i2l C d_Mo_line_92 ?_
      refine m_aload_n C d_Mo_line_93 rfl rfl ?_
      refine m_get C fg_Mo_44 d_Mo_line_94 hM4.1 rfl ?_
      refine m_iload_n C d_Mo_line_97 rfl rfl ?_
      refine m_iald (v := .int ((R4 13) i0)) C d_Mo_line_98 (hM4.a13) kt_int (nI_pos (by omega)) (by rw [nI_clamp (by omega)]; exact arrL_get (by omega)) ?_
      rw [q13]
      refine m_i2l C d_Mo_line_99 ?_
      refine m_lmul C d_Mo_line_100 ?_
      refine m_aload_n C d_Mo_line_101 rfl rfl ?_
      refine m_get C fg_Mo_47 d_Mo_line_102 hM4.1 rfl ?_
      refine m_iload_n C d_Mo_line_105 rfl rfl ?_
      refine m_iald (v := .int ((R4 14) i0)) C d_Mo_line_106 (hM4.a14) kt_int (nI_pos (by omega)) (by rw [nI_clamp (by omega)]; exact arrL_get (by omega)) ?_
      rw [q14]
      refine m_i2l C d_Mo_line_107 ?_
      refine m_aload_n C d_Mo_line_108 rfl rfl ?_
      refine m_get C fg_Mo_47 d_Mo_line_109 hM4.1 rfl ?_
      refine m_iload_n C d_Mo_line_112 rfl rfl ?_
      refine m_iald (v := .int ((R4 14) i0)) C d_Mo_line_113 (hM4.a14) kt_int (nI_pos (by omega)) (by rw [nI_clamp (by omega)]; exact arrL_get (by omega)) ?_
      rw [q14]
      refine m_i2l C d_Mo_line_114 ?_
      refine m_lmul C d_Mo_line_115 ?_
      refine m_ladd C d_Mo_line_116 ?_
      show mj G 10 0 0 M4 117 [some (.ref m), some (.int (nI i0)), some (.int x), some (.int y), some (.int tx), some (.int ty), none, none, none, none] [.long (sq2 (tx - x) (ty - y))]
      refine m_lstore (L' := [some (.ref m), some (.int (nI i0)), some (.int x), some (.int y), some (.int tx), some (.int ty), some (.long (sq2 (tx - x) (ty - y))), none, none, none]) C d_Mo_line_117 (by decide) rfl ?_
      refine m_iconst (v := 0) C d_Mo_line_119 (by decide) ?_
      refine m_istore (L' := [some (.ref m), some (.int (nI i0)), some (.int x), some (.int y), some (.int tx), some (.int ty), some (.long (sq2 (tx - x) (ty - y))), none, some (.int 0), none]) C d_Mo_line_120 (by decide) rfl ?_
      refine m_ldc (v := 32768) C d_Mo_line_122 kc_Mo_132 ?_
      refine m_istore (L' := [some (.ref m), some (.int (nI i0)), some (.int x), some (.int y), some (.int tx), some (.int ty), some (.long (sq2 (tx - x) (ty - y))), none, some (.int 0), some (.int 32768)]) C d_Mo_line_124 (by decide) rfl ?_
      have loop : ∀ (lq9 : Nat) (j : Nat) (r : Int32), j = lq9 → j ≤ 16 → wr2 (sq2 (tx - x) (ty - y)) j r = rt2 (tx - x) (ty - y) → mj G 10 0 0 M4 126 [some (.ref m), some (.int (nI i0)), some (.int x), some (.int y), some (.int tx), some (.int ty), some (.long (sq2 (tx - x) (ty - y))), none, some (.int r), some (.int (nI (2 ^ j / 2)))] [] := by
        intro lq9
        induction lq9 using Nat.strongRecOn with
        | ind lq9 ih =>
          intro j r hr hj he
          have hp : 2 ^ j ≤ 2 ^ 16 := Nat.pow_le_pow_right (by decide) hj
          have e0 : nI (2 ^ j / 2) ≤ 0 ↔ j = 0 := by
            rw [show (0 : Int32) = nI 0 from rfl, nI_leI (by omega) (by decide)]
            constructor
            · intro h; cases j with
              | zero => rfl
              | succ q => rw [Nat.pow_succ] at h; have := Nat.pow_pos (n := q) (show 0 < 2 by decide); omega
            · intro h; subst h; decide
          refine m_iload C d_Mo_line_126 rfl ?_
          refine m_if_le (tgt := 166) C d_Mo_line_128 (by decide) (fun h1 => ?_) (fun h1 => ?_)
          · rw [e0] at h1
            subst h1
            have hr9 : r = rt2 (tx - x) (ty - y) := he
            subst hr9
            refine m_aload_n C d_Mo_line_166 rfl rfl ?_
            refine m_get C fg_Mo_50 d_Mo_line_167 hM4.1 rfl ?_
            refine m_iload_n C d_Mo_line_170 rfl rfl ?_
            refine m_iload C d_Mo_line_171 rfl ?_
            refine m_iastE C d_Mo_line_173 (hw _ (Or.inr ⟨15, by decide, rfl⟩)) (hM4.a15) kt_int (nI_pos (by omega)) (by rw [nI_clamp (by omega), arrL_len]; omega) (fun M5 M5a9 M5o => ?_)
            rw [nI_clamp (by omega), arrL_set] at M5a9
            obtain ⟨R5, hR5⟩ : ∃ R5, R5 = uR R4 15 i0 ((rt2 (tx - x) (ty - y))) := ⟨_, rfl⟩
            have hM5 : RepM R5 m mr M5 := by rw [hR5]; exact hM4.set (k := 15) (by decide) (by decide) M5a9 M5o
            refine m_aload_n C d_Mo_line_174 rfl rfl ?_
            refine m_iconst (v := 0) C d_Mo_line_175 (by decide) ?_
            refine m_putE C fp_Mo_114 d_Mo_line_176 (hw _ (Or.inl rfl)) hM5.1 rfl rfl (fun M6 M6a9 M6o => ?_)
            obtain ⟨R6, hR6⟩ : ∃ R6, R6 = uR R5 28 0 0 := ⟨_, rfl⟩
            have hM6 : RepM R6 m mr M6 := by rw [hR6]; exact hM5.put28 M6a9 M6o
            refine m_iload C d_Mo_line_179 rfl ?_
            exact Rt _ _ _ _ _ _ (by decide) (by decide) d_Mo_line_181 (⟨fun _ => ⟨rfl, by rw [ht, ← hRg, ← hR1, ← hR2, ← hR3, ← hR4, ← hR5, ← hR6]; exact hM6⟩, fun z => absurd hgo z⟩)
          · rw [e0] at h1
            obtain ⟨q, rfl⟩ : ∃ q, j = q + 1 := ⟨j - 1, by omega⟩
            have e2 : 2 ^ (q + 1) / 2 = 2 ^ q := by rw [Nat.pow_succ]; omega
            rw [e2]
            refine m_iload C d_Mo_line_131 rfl ?_
            refine m_iload C d_Mo_line_133 rfl ?_
            refine m_iadd C d_Mo_line_135 ?_
            refine m_i2l C d_Mo_line_136 ?_
            refine m_iload C d_Mo_line_137 rfl ?_
            refine m_iload C d_Mo_line_139 rfl ?_
            refine m_iadd C d_Mo_line_141 ?_
            refine m_i2l C d_Mo_line_142 ?_
            refine m_lmul C d_Mo_line_143 ?_
            refine m_lload C d_Mo_line_144 rfl ?_
            refine m_lcmp C d_Mo_line_146 ?_
            have e3 := lg_cmp_le ((r + nI (2 ^ q)).toInt64 * (r + nI (2 ^ q)).toInt64) (sq2 (tx - x) (ty - y))
            refine m_if_gt (tgt := 157) C d_Mo_line_147 (by decide) (fun h2 => ?_) (fun h2 => ?_)
            · refine m_iload C d_Mo_line_157 rfl ?_
              refine m_iconst (v := 2) C d_Mo_line_159 (by decide) ?_
              refine m_idiv C d_Mo_line_160 (by decide) ?_
              rw [nI_h2 (by omega)]
              refine m_istore (L' := [some (.ref m), some (.int (nI i0)), some (.int x), some (.int y), some (.int tx), some (.int ty), some (.long (sq2 (tx - x) (ty - y))), none, some (.int r), some (.int (nI (2 ^ q / 2)))]) C d_Mo_line_161 (by decide) rfl ?_
              refine m_goto (tgt := 126) C d_Mo_line_163 (by decide) ?_
              exact ih q (by omega) q r rfl (by omega) (by rw [← he, wr2, if_neg (fun z => Int32.not_le.mpr h2 (e3.mpr z))])
            · refine m_iload C d_Mo_line_150 rfl ?_
              refine m_iload C d_Mo_line_152 rfl ?_
              refine m_iadd C d_Mo_line_154 ?_
              refine m_istore (L' := [some (.ref m), some (.int (nI i0)), some (.int x), some (.int y), some (.int tx), some (.int ty), some (.long (sq2 (tx - x) (ty - y))), none, some (.int (r + ((nI (2 ^ q))))), some (.int (nI (2 ^ q)))]) C d_Mo_line_155 (by decide) rfl ?_
              refine m_iload C d_Mo_line_157 rfl ?_
              refine m_iconst (v := 2) C d_Mo_line_159 (by decide) ?_
              refine m_idiv C d_Mo_line_160 (by decide) ?_
              rw [nI_h2 (by omega)]
              refine m_istore (L' := [some (.ref m), some (.int (nI i0)), some (.int x), some (.int y), some (.int tx), some (.int ty), some (.long (sq2 (tx - x) (ty - y))), none, some (.int (r + ((nI (2 ^ q))))), some (.int (nI (2 ^ q / 2)))]) C d_Mo_line_161 (by decide) rfl ?_
              refine m_goto (tgt := 126) C d_Mo_line_163 (by decide) ?_
              exact ih q (by omega) q (r + nI (2 ^ q)) rfl (by omega) (by rw [← he, wr2, if_pos (e3.mp (Int32.not_lt.mp h2))])
      exact loop _ 16 0 rfl (Nat.le_refl _) rfl
    · rw [b2i_eq0, decide_eq_false_iff_not] at hgo
      refine m_iconst (v := 0) C d_Mo_line_50 (by decide) ?_
      exact Rt _ _ _ _ _ _ (by decide) (by decide) d_Mo_line_51 (⟨fun z => absurd z hgo, fun _ => ⟨rfl, hMg⟩⟩)
  refine m_iload_n C d_Mo_line_7 rfl rfl ?_
  refine m_callS C d_Mo_line_8 mw_Mo_129 mst_Mo_isPlace (ct_Mo_isPlace _ _ _ x M) (fun _ h => h.elim) rfl rfl (Nat.le_of_ble_eq_true rfl) (by decide) (fun v9 M9 hp h5 h6 => ?_)
  obtain ⟨rfl, hM9⟩ := hp; rw [hM9]
  show mj G 10 0 0 M 11 [some (.ref m), some (.int s), some (.int x), some (.int y), some (.int tx), some (.int ty), none, none, none, none] [.int (b2i (inn x (-9999) 9999)), .int (b2i (kn R s)), .int 3, .ref m]
  refine m_if_eq (tgt := 41) C d_Mo_line_11 (by decide) (fun c0 => ?_) (fun c0 => ?_)
  · refine m_iconst (v := 0) C d_Mo_line_41 (by decide) ?_
    rw [b2i_eq0] at c0
    exact jnq _ (by rw [c0]; rfl)
  · rw [b2i_eq0, Bool.not_eq_false] at c0
    refine m_iload_n C d_Mo_line_14 rfl rfl ?_
    refine m_callS C d_Mo_line_15 mw_Mo_129 mst_Mo_isPlace (ct_Mo_isPlace _ _ _ y M) (fun _ h => h.elim) rfl rfl (Nat.le_of_ble_eq_true rfl) (by decide) (fun v9 M9 hp h5 h6 => ?_)
    obtain ⟨rfl, hM9⟩ := hp; rw [hM9]
    show mj G 10 0 0 M 18 [some (.ref m), some (.int s), some (.int x), some (.int y), some (.int tx), some (.int ty), none, none, none, none] [.int (b2i (inn y (-9999) 9999)), .int (b2i (kn R s)), .int 3, .ref m]
    refine m_if_eq (tgt := 41) C d_Mo_line_18 (by decide) (fun c1 => ?_) (fun c1 => ?_)
    · refine m_iconst (v := 0) C d_Mo_line_41 (by decide) ?_
      rw [b2i_eq0] at c1
      exact jnq _ (by rw [c0, c1]; rfl)
    · rw [b2i_eq0, Bool.not_eq_false] at c1
      refine m_iload C d_Mo_line_21 rfl ?_
      refine m_callS C d_Mo_line_23 mw_Mo_129 mst_Mo_isPlace (ct_Mo_isPlace _ _ _ tx M) (fun _ h => h.elim) rfl rfl (Nat.le_of_ble_eq_true rfl) (by decide) (fun v9 M9 hp h5 h6 => ?_)
      obtain ⟨rfl, hM9⟩ := hp; rw [hM9]
      show mj G 10 0 0 M 26 [some (.ref m), some (.int s), some (.int x), some (.int y), some (.int tx), some (.int ty), none, none, none, none] [.int (b2i (inn tx (-9999) 9999)), .int (b2i (kn R s)), .int 3, .ref m]
      refine m_if_eq (tgt := 41) C d_Mo_line_26 (by decide) (fun c2 => ?_) (fun c2 => ?_)
      · refine m_iconst (v := 0) C d_Mo_line_41 (by decide) ?_
        rw [b2i_eq0] at c2
        exact jnq _ (by rw [c0, c1, c2]; rfl)
      · rw [b2i_eq0, Bool.not_eq_false] at c2
        refine m_iload C d_Mo_line_29 rfl ?_
        refine m_callS C d_Mo_line_31 mw_Mo_129 mst_Mo_isPlace (ct_Mo_isPlace _ _ _ ty M) (fun _ h => h.elim) rfl rfl (Nat.le_of_ble_eq_true rfl) (by decide) (fun v9 M9 hp h5 h6 => ?_)
        obtain ⟨rfl, hM9⟩ := hp; rw [hM9]
        show mj G 10 0 0 M 34 [some (.ref m), some (.int s), some (.int x), some (.int y), some (.int tx), some (.int ty), none, none, none, none] [.int (b2i (inn ty (-9999) 9999)), .int (b2i (kn R s)), .int 3, .ref m]
        refine m_if_eq (tgt := 41) C d_Mo_line_34 (by decide) (fun c3 => ?_) (fun c3 => ?_)
        · refine m_iconst (v := 0) C d_Mo_line_41 (by decide) ?_
          rw [b2i_eq0] at c3
          exact jnq _ (by rw [c0, c1, c2, c3]; rfl)
        · rw [b2i_eq0, Bool.not_eq_false] at c3
          refine m_iconst (v := 1) C d_Mo_line_37 (by decide) ?_
          refine m_goto (tgt := 42) C d_Mo_line_38 (by decide) ?_
          exact jnq _ (by rw [c0, c1, c2, c3]; rfl)

set_option maxHeartbeats 4000000 in
set_option maxRecDepth 100000 in
theorem ct_Mo_part (l : Launch) (D : ma_D) (s0 : State) (d e a : Int32) (hy : ¬ (2 : Int64) * a.toInt64 = 0) (M : ma_H) : Ct l D s0 y_Mo_part c_Mo_part 7 (some .int) 0 0 0 0 [.int d, .int e, .int a] M (fun _ => False) (pI (ptF d e a) M) := by
  refine Ct_i 4 [some (.int d), some (.int e), some (.int a), none, none, none, none] (by decide +kernel) (Nat.le_of_ble_eq_true rfl) rfl ?_
  intro G e1 e2 e3 C hw Rt
  subst e1; subst e2; subst e3
  refine m_ldc2 (v := 2) C d_Mo_part_0 kc_Mo_146 ?_
  refine m_iload_n C d_Mo_part_3 rfl rfl ?_
  refine m_i2l C d_Mo_part_4 ?_
  refine m_lmul C d_Mo_part_5 ?_
  refine m_iload_n C d_Mo_part_6 rfl rfl ?_
  refine m_i2l C d_Mo_part_7 ?_
  refine m_lmul C d_Mo_part_8 ?_
  refine m_iload_n C d_Mo_part_9 rfl rfl ?_
  refine m_i2l C d_Mo_part_10 ?_
  refine m_ladd C d_Mo_part_11 ?_
  refine m_lstore_n (L' := [some (.int d), some (.int e), some (.int a), some (.long (((((2 * d.toInt64)) * e.toInt64)) + a.toInt64)), none, none, none]) C d_Mo_part_12 rfl (by decide) rfl ?_
  refine m_lload_n C d_Mo_part_13 rfl rfl ?_
  refine m_ldc2 (v := 2) C d_Mo_part_14 kc_Mo_146 ?_
  refine m_iload_n C d_Mo_part_17 rfl rfl ?_
  refine m_i2l C d_Mo_part_18 ?_
  refine m_lmul C d_Mo_part_19 ?_
  refine m_ldiv C d_Mo_part_20 hy ?_
  show mj G 7 0 0 M 21 [some (.int d), some (.int e), some (.int a), some (.long (2 * d.toInt64 * e.toInt64 + a.toInt64)), none, none, none] [.long ((2 * d.toInt64 * e.toInt64 + a.toInt64) / (2 * a.toInt64))]
  refine m_lstore (L' := [some (.int d), some (.int e), some (.int a), some (.long (2 * d.toInt64 * e.toInt64 + a.toInt64)), none, some (.long ((2 * d.toInt64 * e.toInt64 + a.toInt64) / (2 * a.toInt64))), none]) C d_Mo_part_21 (by decide) rfl ?_
  refine m_lload_n C d_Mo_part_23 rfl rfl ?_
  refine m_ldc2 (v := 2) C d_Mo_part_24 kc_Mo_146 ?_
  refine m_iload_n C d_Mo_part_27 rfl rfl ?_
  refine m_i2l C d_Mo_part_28 ?_
  refine m_lmul C d_Mo_part_29 ?_
  refine m_lrem C d_Mo_part_30 hy ?_
  refine m_lconst (v := 0) C d_Mo_part_31 (by decide) ?_
  refine m_lcmp C d_Mo_part_32 ?_
  have e3 := lg_cmp_ge ((2 * d.toInt64 * e.toInt64 + a.toInt64) - (2 * d.toInt64 * e.toInt64 + a.toInt64) / (2 * a.toInt64) * (2 * a.toInt64)) 0
  refine m_if_ge (tgt := 43) C d_Mo_part_33 (by decide) (fun h1 => ?_) (fun h1 => ?_)
  · refine m_lload C d_Mo_part_43 rfl ?_
    refine m_l2i C d_Mo_part_45 ?_
    exact Rt _ _ _ _ _ _ (by decide) (by decide) d_Mo_part_46 (⟨by rw [ptF, if_neg (Int64.not_lt.mpr (e3.mp h1))], rfl⟩)
  · refine m_lload C d_Mo_part_36 rfl ?_
    refine m_lconst (v := 1) C d_Mo_part_38 (by decide) ?_
    refine m_lsub C d_Mo_part_39 ?_
    refine m_goto (tgt := 45) C d_Mo_part_40 (by decide) ?_
    refine m_l2i C d_Mo_part_45 ?_
    exact Rt _ _ _ _ _ _ (by decide) (by decide) d_Mo_part_46 (⟨by rw [ptF, if_pos (Int64.not_le.mp (fun q => h1 (e3.mpr q)))], rfl⟩)

set_option maxHeartbeats 4000000 in
set_option maxRecDepth 100000 in
theorem ct_Mo_houseSaid (l : Launch) (D : ma_D) (s0 : State) (R : mR) (m : Nat) (mr : Nat → Nat) (M : ma_H) (hM : RepM R m mr M) (hWd : R 26 0 = nI (nW R)) (hbW : nW R ≤ 40) : Ct l D s0 y_Mo_houseSaid c_Mo_houseSaid 4 (some .int) 1 0 0 22 [.ref m] M (fun _ => False) (pI (hsM (R 27) (nW R)) M) := by
  refine Ct_i 3 [some (.ref m), none, none, none] (by decide +kernel) (Nat.le_of_ble_eq_true rfl) rfl ?_
  intro G e1 e2 e3 C hw Rt
  subst e1; subst e2; subst e3
  have loop2 : ∀ (lq9 : Nat) (k : Nat) (g : Nat) (x : Int32), nW R - k = lq9 → k ≤ nW R → g ≤ k → fdV (R 27) (nW R - k) k g x = hsM (R 27) (nW R) → mj G 4 0 0 M 36 [some (.ref m), some (.int (nI k)), some (.int (nI g)), some (.int x)] [] := by
    intro lq9
    induction lq9 using Nat.strongRecOn with
    | ind lq9 ih =>
      intro k g x hr hk hg he
      have fin : (if 4 < g then 9999 else x) = hsM (R 27) (nW R) → mj G 4 0 0 M 89 [some (.ref m), some (.int (nI k)), some (.int (nI g)), some (.int x)] [] := by
        intro hf
        refine m_iload_n C d_Mo_houseSaid_89 rfl rfl ?_
        refine m_iconst (v := 4) C d_Mo_houseSaid_90 (by decide) ?_
        have e4 : nI g ≤ 4 ↔ ¬ 4 < g := by rw [show (4 : Int32) = nI 4 from rfl, nI_leI (by omega) (by decide)]; omega
        refine m_icmp_le (tgt := 100) C d_Mo_houseSaid_91 (by decide) (fun h8 => ?_) (fun h8 => ?_)
        · refine m_iload_n C d_Mo_houseSaid_100 rfl rfl ?_
          exact Rt _ _ _ _ _ _ (by decide) (by decide) d_Mo_houseSaid_101 (⟨by rw [e4] at h8; rw [← hf, if_neg h8], rfl⟩)
        · refine m_sipush (v := 9999) C d_Mo_houseSaid_94 (by decide) ?_
          refine m_goto (tgt := 101) C d_Mo_houseSaid_97 (by decide) ?_
          exact Rt _ _ _ _ _ _ (by decide) (by decide) d_Mo_houseSaid_101 (⟨by rw [e4, Classical.not_not] at h8; rw [← hf, if_pos h8], rfl⟩)
      refine m_iload_n C d_Mo_houseSaid_36 rfl rfl ?_
      refine m_aload_n C d_Mo_houseSaid_37 rfl rfl ?_
      refine m_get C fg_Mo_155 d_Mo_houseSaid_38 hM.1 rfl ?_
      rw [hWd]
      have e1 : nI (nW R) ≤ nI k ↔ nW R ≤ k := nI_leI (by omega) (by omega)
      refine m_icmp_ge (tgt := 89) C d_Mo_houseSaid_41 (by decide) (fun h9 => ?_) (fun h9 => ?_)
      · rw [e1] at h9
        exact fin (by rw [← he, show nW R - k = 0 by omega]; rfl)
      · rw [e1] at h9
        obtain ⟨f, hf⟩ : ∃ f, nW R - k = f + 1 := ⟨nW R - k - 1, by omega⟩
        rw [hf, fdV] at he
        refine m_aload_n C d_Mo_houseSaid_44 rfl rfl ?_
        refine m_get C fg_Mo_77 d_Mo_houseSaid_45 hM.1 rfl ?_
        refine m_iload_n C d_Mo_houseSaid_48 rfl rfl ?_
        refine m_iald (v := .int ((R 27) k)) C d_Mo_houseSaid_49 (hM.a27) kt_int (nI_pos (by omega)) (by rw [nI_clamp (by omega)]; exact arrL_get (by omega)) ?_
        refine m_bipush (v := 48) C d_Mo_houseSaid_50 (by decide) ?_
        refine m_bipush (v := 57) C d_Mo_houseSaid_52 (by decide) ?_
        refine m_callS C d_Mo_houseSaid_54 mw_Mo_102 mst_Mo_in (ct_Mo_in _ _ _ (R 27 k) 48 57 M) (fun _ h => h.elim) rfl rfl (Nat.le_of_ble_eq_true rfl) (by decide) (fun v9 M9 hp h5 h6 => ?_)
        obtain ⟨rfl, hM9⟩ := hp; rw [hM9]
        show mj G 4 0 0 M 57 [some (.ref m), some (.int (nI k)), some (.int (nI g)), some (.int x)] [.int (b2i (inn (R 27 k) 48 57))]
        rw [is_d_inn]
        refine m_if_eq (tgt := 89) C d_Mo_houseSaid_57 (by decide) (fun h8 => ?_) (fun h8 => ?_)
        · rw [b2i_eq0] at h8
          rw [if_neg (by rw [h8]; simp : ¬ is_d (R 27 k) = true)] at he
          exact fin he
        · rw [b2i_eq0, Bool.not_eq_false] at h8
          rw [if_pos h8] at he
          refine m_iload_n C d_Mo_houseSaid_60 rfl rfl ?_
          refine m_iconst (v := 4) C d_Mo_houseSaid_61 (by decide) ?_
          have e4 : (4 : Int32) ≤ nI g ↔ ¬ g < 4 := by rw [show (4 : Int32) = nI 4 from rfl, nI_leI (by decide) (by omega)]; omega
          refine m_icmp_ge (tgt := 80) C d_Mo_houseSaid_62 (by decide) (fun h7 => ?_) (fun h7 => ?_)
          · rw [e4] at h7
            refine m_iinc (v := (nI (g + 1))) (L' := [some (.ref m), some (.int (nI k)), some (.int (nI (g + 1))), some (.int x)]) C d_Mo_houseSaid_80 rfl (nI_1 g) (by decide) rfl ?_
            refine m_iinc (v := (nI (k + 1))) (L' := [some (.ref m), some (.int (nI (k + 1))), some (.int (nI (g + 1))), some (.int x)]) C d_Mo_houseSaid_83 rfl (nI_1 k) (by decide) rfl ?_
            refine m_goto (tgt := 36) C d_Mo_houseSaid_86 (by decide) ?_
            exact ih (nW R - (k + 1)) (by omega) (k + 1) (g + 1) x rfl (by omega) (by omega) (by rw [← he, if_neg h7, show nW R - (k + 1) = f by omega])
          · rw [e4, Classical.not_not] at h7
            refine m_bipush (v := 10) C d_Mo_houseSaid_65 (by decide) ?_
            refine m_iload_n C d_Mo_houseSaid_67 rfl rfl ?_
            refine m_imul C d_Mo_houseSaid_68 ?_
            refine m_aload_n C d_Mo_houseSaid_69 rfl rfl ?_
            refine m_get C fg_Mo_77 d_Mo_houseSaid_70 hM.1 rfl ?_
            refine m_iload_n C d_Mo_houseSaid_73 rfl rfl ?_
            refine m_iald (v := .int ((R 27) k)) C d_Mo_houseSaid_74 (hM.a27) kt_int (nI_pos (by omega)) (by rw [nI_clamp (by omega)]; exact arrL_get (by omega)) ?_
            refine m_iadd C d_Mo_houseSaid_75 ?_
            refine m_bipush (v := 48) C d_Mo_houseSaid_76 (by decide) ?_
            refine m_isub C d_Mo_houseSaid_78 ?_
            refine m_istore_n (L' := [some (.ref m), some (.int (nI k)), some (.int (nI g)), some (.int (((((10 * x)) + (((R 27) k)))) - 48))]) C d_Mo_houseSaid_79 rfl (by decide) rfl ?_
            refine m_iinc (v := (nI (g + 1))) (L' := [some (.ref m), some (.int (nI k)), some (.int (nI (g + 1))), some (.int (((((10 * x)) + (((R 27) k)))) - 48))]) C d_Mo_houseSaid_80 rfl (nI_1 g) (by decide) rfl ?_
            refine m_iinc (v := (nI (k + 1))) (L' := [some (.ref m), some (.int (nI (k + 1))), some (.int (nI (g + 1))), some (.int (((((10 * x)) + (((R 27) k)))) - 48))]) C d_Mo_houseSaid_83 rfl (nI_1 k) (by decide) rfl ?_
            refine m_goto (tgt := 36) C d_Mo_houseSaid_86 (by decide) ?_
            exact ih (nW R - (k + 1)) (by omega) (k + 1) (g + 1) (10 * x + R 27 k - 48) rfl (by omega) (by omega) (by rw [← he, if_pos h7, show nW R - (k + 1) = f by omega])
  refine m_iconst (v := 0) C d_Mo_houseSaid_0 (by decide) ?_
  refine m_istore_n (L' := [some (.ref m), some (.int 0), none, none]) C d_Mo_houseSaid_1 rfl (by decide) rfl ?_
  have loop : ∀ (lq9 : Nat) (k : Nat), nW R - k = lq9 → k ≤ nW R → fdI (R 27) (nW R - k) k = fdI (R 27) (nW R) 0 → mj G 4 0 0 M 2 [some (.ref m), some (.int (nI k)), none, none] [] := by
    intro lq9
    induction lq9 using Nat.strongRecOn with
    | ind lq9 ih =>
      intro k hr hk he
      have fin : k = fdI (R 27) (nW R) 0 → mj G 4 0 0 M 32 [some (.ref m), some (.int (nI k)), none, none] [] := by
        intro hf
        refine m_iconst (v := 0) C d_Mo_houseSaid_32 (by decide) ?_
        refine m_istore_n (L' := [some (.ref m), some (.int (nI k)), some (.int 0), none]) C d_Mo_houseSaid_33 rfl (by decide) rfl ?_
        refine m_iconst (v := 0) C d_Mo_houseSaid_34 (by decide) ?_
        refine m_istore_n (L' := [some (.ref m), some (.int (nI k)), some (.int 0), some (.int 0)]) C d_Mo_houseSaid_35 rfl (by decide) rfl ?_
        exact loop2 _ k 0 0 rfl hk (Nat.zero_le _) (by rw [hsM, ← hf])
      refine m_iload_n C d_Mo_houseSaid_2 rfl rfl ?_
      refine m_aload_n C d_Mo_houseSaid_3 rfl rfl ?_
      refine m_get C fg_Mo_155 d_Mo_houseSaid_4 hM.1 rfl ?_
      rw [hWd]
      have e1 : nI (nW R) ≤ nI k ↔ nW R ≤ k := nI_leI (by omega) (by omega)
      refine m_icmp_ge (tgt := 32) C d_Mo_houseSaid_7 (by decide) (fun h9 => ?_) (fun h9 => ?_)
      · rw [e1] at h9
        exact fin (by rw [← he, show nW R - k = 0 by omega]; rfl)
      · rw [e1] at h9
        obtain ⟨f, hf⟩ : ∃ f, nW R - k = f + 1 := ⟨nW R - k - 1, by omega⟩
        rw [hf, fdI] at he
        refine m_aload_n C d_Mo_houseSaid_10 rfl rfl ?_
        refine m_get C fg_Mo_77 d_Mo_houseSaid_11 hM.1 rfl ?_
        refine m_iload_n C d_Mo_houseSaid_14 rfl rfl ?_
        refine m_iald (v := .int ((R 27) k)) C d_Mo_houseSaid_15 (hM.a27) kt_int (nI_pos (by omega)) (by rw [nI_clamp (by omega)]; exact arrL_get (by omega)) ?_
        refine m_bipush (v := 48) C d_Mo_houseSaid_16 (by decide) ?_
        refine m_bipush (v := 57) C d_Mo_houseSaid_18 (by decide) ?_
        refine m_callS C d_Mo_houseSaid_20 mw_Mo_102 mst_Mo_in (ct_Mo_in _ _ _ (R 27 k) 48 57 M) (fun _ h => h.elim) rfl rfl (Nat.le_of_ble_eq_true rfl) (by decide) (fun v9 M9 hp h5 h6 => ?_)
        obtain ⟨rfl, hM9⟩ := hp; rw [hM9]
        show mj G 4 0 0 M 23 [some (.ref m), some (.int (nI k)), none, none] [.int (b2i (inn (R 27 k) 48 57))]
        rw [is_d_inn]
        refine m_if_ne (tgt := 32) C d_Mo_houseSaid_23 (by decide) (fun h8 => ?_) (fun h8 => ?_)
        · rw [b2i_ne0] at h8
          rw [if_pos h8] at he
          exact fin he
        · rw [b2i_eq0] at h8
          rw [if_neg (by rw [h8]; simp)] at he
          refine m_iinc (v := (nI (k + 1))) (L' := [some (.ref m), some (.int (nI (k + 1))), none, none]) C d_Mo_houseSaid_26 rfl (nI_1 k) (by decide) rfl ?_
          refine m_goto (tgt := 2) C d_Mo_houseSaid_29 (by decide) ?_
          exact ih (nW R - (k + 1)) (by omega) (k + 1) rfl (by omega) (by rw [← he, show nW R - (k + 1) = f by omega])
  exact loop _ 0 rfl (Nat.zero_le _) rfl
