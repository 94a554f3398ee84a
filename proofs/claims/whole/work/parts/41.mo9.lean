/-! ===== the model's near, isSame, share, twice, isFound, place ===== -/
theorem ne2_cg {R R' : mR} {x y : Int32} (h1 : R' 11 = R 11) (h2 : R' 12 = R 12) : ∀ k, ne2 R' x y k = ne2 R x y k := by
  intro k
  induction k with
  | zero => rfl
  | succ k ih => rw [ne2, ne2, ih, h1, h2]
def smB (R : mR) (k o : Nat) : Bool := decide (nmL R o = nmL R k ∧ (nmL R k).length ≠ 0)
theorem nm_eq {R : mR} {k o : Nat} : nmL R o = nmL R k ↔ tn (R 5 o) = tn (R 5 k) ∧ ∀ c, c < tn (R 5 k) → R 6 (16 * k + c) = R 6 (16 * o + c) := by
  constructor
  · intro h
    have h1 : tn (R 5 o) = tn (R 5 k) := by rw [← nmL_len, h, nmL_len]
    refine ⟨h1, fun c hc => ?_⟩
    have h2 : (nmL R o)[c]? = (nmL R k)[c]? := by rw [h]
    simp only [nmL, List.getElem?_map, h1, List.getElem?_range hc, Option.map_some, Option.some.injEq] at h2
    exact h2.symm
  · rintro ⟨h1, h2⟩
    simp only [nmL, h1]
    exact List.map_congr_left fun c hc => (h2 c (List.mem_range.mp hc)).symm
theorem shB_sm (R : mR) (i o : Nat) : shB R i o = decide (∃ a, a < tn (R 4 i) ∧ ∃ b, b < tn (R 4 o) ∧ smB R (3 * i + a) (3 * o + b) = true) := by
  rw [shB]
  congr 1
  apply propext
  constructor
  · rintro ⟨a, h1, h2, b, h3, h4⟩; exact ⟨a, h1, b, h3, by rw [smB, decide_eq_true ⟨h4, h2⟩]⟩
  · rintro ⟨a, h1, b, h3, h4⟩; rw [smB, decide_eq_true_eq] at h4; exact ⟨a, h1, h4.2, b, h3, h4.1⟩
def plM (R : mR) (p w : Nat) : Int32 := if p < nS R then (if w = 0 then nI p else if w = 1 then (if R 31 0 = 0 then 0 else nhR R p (R 31 0)) else if w = 2 then (if R 31 0 = 0 then 2 else if isH R p (R 31 0) then 0 else 1) + (if R 3 p = 0 then 0 else 10) else if w = 3 then R 30 p else if w = 4 then R 2 p else -1) else tlM R p (p - nS R) w

set_option maxHeartbeats 4000000 in
set_option maxRecDepth 100000 in
theorem ct_Mo_near (l : Launch) (D : ma_D) (s0 : State) (R : mR) (m : Nat) (mr : Nat → Nat) (x y : Int32) (M : ma_H) (hM : RepM R m mr M) (hwf : WfS R) : Ct l D s0 y_Mo_near c_Mo_near 13 (some .int) 2 0 0 42 [.ref m, .int x, .int y] M (fun q => q = m ∨ ∃ k, mln k ≠ 0 ∧ q = mr k) (fun v M' => ((gbN (true) ((inn x (-9999) 9999 && inn y (-9999) 9999)) (true) (true)) = 0 → v = some (.int (ne2 R x y (nS R)).1) ∧ RepM (uR R 0 0 0) m mr M') ∧ (¬ (gbN (true) ((inn x (-9999) 9999 && inn y (-9999) 9999)) (true) (true)) = 0 → v = some (.int 0) ∧ RepM (uR R 0 0 (nI (thN 2 (gbN (true) ((inn x (-9999) 9999 && inn y (-9999) 9999)) (true) (true))))) m mr M')) := by
  refine Ct_i 10 [some (.ref m), some (.int x), some (.int y), none, none, none, none, none, none, none, none, none, none] (by decide +kernel) (Nat.le_of_ble_eq_true rfl) rfl ?_
  intro G e1 e2 e3 C hw Rt
  subst e1; subst e2; subst e3
  obtain ⟨⟨⟨hbS, hbL, hbC, hbW, hbF⟩, hbi⟩, ⟨hS, hLm, hCo, hWd, hFn⟩, hst, hln, hmk, hz, hlt, hxy, hrg, hpl, hak, hcn⟩ := id hwf
  refine m_aload_n C d_Mo_near_0 rfl rfl ?_
  refine m_iconst (v := 2) C d_Mo_near_1 (by decide) ?_
  refine m_iconst (v := 1) C d_Mo_near_2 (by decide) ?_
  refine m_iload_n C d_Mo_near_3 rfl rfl ?_
  have jnq : ∀ xq : Int32, xq = b2i (inn x (-9999) 9999 && inn y (-9999) 9999) → mj G 13 0 0 M 22 [some (.ref m), some (.int x), some (.int y), none, none, none, none, none, none, none, none, none, none] [.int xq, .int 1, .int 2, .ref m] := by
    intro xq hxq
    subst hxq
    refine m_iconst (v := 1) C d_Mo_near_22 (by decide) ?_
    refine m_iconst (v := 1) C d_Mo_near_23 (by decide) ?_
    refine m_callV (ci := 10) C d_Mo_near_24 mw_Mo_110 mi_Mo_goes se_Mo_goes rfl (ct_Mo_goes _ _ _ R m mr 2 (true) ((inn x (-9999) 9999 && inn y (-9999) 9999)) (true) (true) M hM) (fun q h => hw q h) rfl rfl (Nat.le_of_ble_eq_true rfl) hM.1 (by decide) (fun v9 Mg hp g5 g6 => ?_)
    obtain ⟨rfl, hMg⟩ := hp
    show mj G 13 0 0 Mg 27 [some (.ref m), some (.int x), some (.int y), none, none, none, none, none, none, none, none, none, none] [.int (b2i (decide ((gbN (true) ((inn x (-9999) 9999 && inn y (-9999) 9999)) (true) (true)) = 0)))]
    refine m_if_ne (tgt := 32) C d_Mo_near_27 (by decide) (fun hgo => ?_) (fun hgo => ?_)
    · rw [b2i_ne0, decide_eq_true_eq] at hgo
      have hMg0 : RepM (uR R 0 0 0) m mr Mg := by rw [hgo] at hMg; exact hMg
      obtain ⟨hp9, hq9, hr9, hs9⟩ := gbN_0 hgo
      obtain ⟨Rg, hRg⟩ : ∃ Rg, Rg = uR R 0 0 0 := ⟨_, rfl⟩
      have hg : ∀ f, f ≠ 0 → Rg f = R f := fun f hf => by rw [hRg, uR_n hf]
      have hMr : RepM Rg m mr Mg := by rw [hRg]; exact hMg0
      have q9_1 : Rg 1 = R 1 := by rw [hg 1 (by decide)]
      have q9_2 : Rg 11 = R 11 := by rw [hg 11 (by decide)]
      have q9_3 : Rg 12 = R 12 := by rw [hg 12 (by decide)]
      refine m_iconst (v := (-1)) C d_Mo_near_32 (by decide) ?_
      refine m_istore_n (L' := [some (.ref m), some (.int x), some (.int y), some (.int (-1)), none, none, none, none, none, none, none, none, none]) C d_Mo_near_33 rfl (by decide) rfl ?_
      refine m_lconst (v := 0) C d_Mo_near_34 (by decide) ?_
      refine m_lstore (L' := [some (.ref m), some (.int x), some (.int y), some (.int (-1)), some (.long 0), none, none, none, none, none, none, none, none]) C d_Mo_near_35 (by decide) rfl ?_
      refine m_iconst (v := 0) C d_Mo_near_37 (by decide) ?_
      refine m_istore (L' := [some (.ref m), some (.int x), some (.int y), some (.int (-1)), some (.long 0), none, some (.int 0), none, none, none, none, none, none]) C d_Mo_near_38 (by decide) rfl ?_
      have loop : ∀ (lq9 : Nat) (i : Nat), nS R - i = lq9 → i ≤ nS R → mj G 13 0 0 Mg 40 [some (.ref m), some (.int x), some (.int y), some (.int (ne2 R x y i).1), some (.long (ne2 R x y i).2), none, some (.int (nI i)), none, none, none, none, none, none] [] := by
        intro lq9
        induction lq9 using Nat.strongRecOn with
        | ind lq9 ih =>
          intro i hr hi
          refine m_iload C d_Mo_near_40 rfl ?_
          refine m_aload_n C d_Mo_near_42 rfl rfl ?_
          refine m_get C fg_Mo_99 d_Mo_near_43 hMr.1 rfl ?_
          rw [q9_1, hS]
          have e1 : nI (nS R) ≤ nI i ↔ nS R ≤ i := nI_leI (by omega) (by omega)
          refine m_icmp_ge (tgt := 114) C d_Mo_near_46 (by decide) (fun h9 => ?_) (fun h9 => ?_)
          · rw [e1] at h9
            obtain rfl : i = nS R := by omega
            refine m_iload_n C d_Mo_near_114 rfl rfl ?_
            exact Rt _ _ _ _ _ _ (by decide) (by decide) d_Mo_near_115 (⟨fun _ => ⟨rfl, by rw [← hRg]; exact hMr⟩, fun z => absurd hgo z⟩)
          · rw [e1] at h9
            refine m_aload_n C d_Mo_near_49 rfl rfl ?_
            refine m_get C fg_Mo_38 d_Mo_near_50 hMr.1 rfl ?_
            refine m_iload C d_Mo_near_53 rfl ?_
            refine m_iald (v := .int ((Rg 11) i)) C d_Mo_near_55 (hMr.a11) kt_int (nI_pos (by omega)) (by rw [nI_clamp (by omega)]; exact arrL_get (by omega)) ?_
            rw [q9_2]
            refine m_iload_n C d_Mo_near_56 rfl rfl ?_
            refine m_isub C d_Mo_near_57 ?_
            refine m_i2l C d_Mo_near_58 ?_
            refine m_lstore (L' := [some (.ref m), some (.int x), some (.int y), some (.int (ne2 R x y i).1), some (.long (ne2 R x y i).2), none, some (.int (nI i)), some (.long ((((R 11 i)) - x)).toInt64), none, none, none, none, none]) C d_Mo_near_59 (by decide) rfl ?_
            refine m_aload_n C d_Mo_near_61 rfl rfl ?_
            refine m_get C fg_Mo_41 d_Mo_near_62 hMr.1 rfl ?_
            refine m_iload C d_Mo_near_65 rfl ?_
            refine m_iald (v := .int ((Rg 12) i)) C d_Mo_near_67 (hMr.a12) kt_int (nI_pos (by omega)) (by rw [nI_clamp (by omega)]; exact arrL_get (by omega)) ?_
            rw [q9_3]
            refine m_iload_n C d_Mo_near_68 rfl rfl ?_
            refine m_isub C d_Mo_near_69 ?_
            refine m_i2l C d_Mo_near_70 ?_
            refine m_lstore (L' := [some (.ref m), some (.int x), some (.int y), some (.int (ne2 R x y i).1), some (.long (ne2 R x y i).2), none, some (.int (nI i)), some (.long ((((R 11 i)) - x)).toInt64), none, some (.long ((((R 12 i)) - y)).toInt64), none, none, none]) C d_Mo_near_71 (by decide) rfl ?_
            refine m_lload C d_Mo_near_73 rfl ?_
            refine m_lload C d_Mo_near_75 rfl ?_
            refine m_lmul C d_Mo_near_77 ?_
            refine m_lload C d_Mo_near_78 rfl ?_
            refine m_lload C d_Mo_near_80 rfl ?_
            refine m_lmul C d_Mo_near_82 ?_
            refine m_ladd C d_Mo_near_83 ?_
            show mj G 13 0 0 Mg 84 [some (.ref m), some (.int x), some (.int y), some (.int (ne2 R x y i).1), some (.long (ne2 R x y i).2), none, some (.int (nI i)), some (.long ((((R 11 i)) - x)).toInt64), none, some (.long ((((R 12 i)) - y)).toInt64), none, none, none] [.long (sq2 (R 11 i - x) (R 12 i - y))]
            refine m_lstore (L' := [some (.ref m), some (.int x), some (.int y), some (.int (ne2 R x y i).1), some (.long (ne2 R x y i).2), none, some (.int (nI i)), some (.long ((((R 11 i)) - x)).toInt64), none, some (.long ((((R 12 i)) - y)).toInt64), none, some (.long (sq2 (R 11 i - x) (R 12 i - y))), none]) C d_Mo_near_84 (by decide) rfl ?_
            refine m_iload_n C d_Mo_near_86 rfl rfl ?_
            refine m_if_lt (tgt := 101) C d_Mo_near_87 (by decide) (fun h8 => ?_) (fun h8 => ?_)
            · refine m_iload C d_Mo_near_101 rfl ?_
              refine m_istore_n (L' := [some (.ref m), some (.int x), some (.int y), some (.int (nI i)), some (.long (ne2 R x y i).2), none, some (.int (nI i)), some (.long ((((R 11 i)) - x)).toInt64), none, some (.long ((((R 12 i)) - y)).toInt64), none, some (.long (sq2 (R 11 i - x) (R 12 i - y))), none]) C d_Mo_near_103 rfl (by decide) rfl ?_
              refine m_lload C d_Mo_near_104 rfl ?_
              refine m_lstore (L' := [some (.ref m), some (.int x), some (.int y), some (.int (nI i)), some (.long (sq2 (R 11 i - x) (R 12 i - y))), none, some (.int (nI i)), some (.long ((((R 11 i)) - x)).toInt64), none, some (.long ((((R 12 i)) - y)).toInt64), none, some (.long (sq2 (R 11 i - x) (R 12 i - y))), none]) C d_Mo_near_106 (by decide) rfl ?_
              refine m_iinc (v := (nI (i + 1))) (L' := [some (.ref m), some (.int x), some (.int y), some (.int (nI i)), some (.long (sq2 (R 11 i - x) (R 12 i - y))), none, some (.int (nI (i + 1))), some (.long ((((R 11 i)) - x)).toInt64), none, some (.long ((((R 12 i)) - y)).toInt64), none, some (.long (sq2 (R 11 i - x) (R 12 i - y))), none]) C d_Mo_near_108 rfl (nI_1 i) (by decide) rfl ?_
              refine m_goto (tgt := 40) C d_Mo_near_111 (by decide) ?_
              have h7 := ih (nS R - (i + 1)) (by omega) (i + 1) rfl (by omega)
              rw [ne2, if_pos (Or.inl h8)] at h7
              exact mj_L (fun q v hv => by rcases q with _ | _ | _ | _ | _ | _ | _ | _ | _ | _ | _ | _ | _ | q <;> first | exact hv | exact absurd (Option.some.inj hv) (by simp)) h7
            · refine m_lload C d_Mo_near_90 rfl ?_
              refine m_lload C d_Mo_near_92 rfl ?_
              refine m_lcmp C d_Mo_near_94 ?_
              have e3 := lg_cmp_lt (sq2 (R 11 i - x) (R 12 i - y)) (ne2 R x y i).2
              refine m_if_lt (tgt := 101) C d_Mo_near_95 (by decide) (fun h6 => ?_) (fun h6 => ?_)
              · refine m_iload C d_Mo_near_101 rfl ?_
                refine m_istore_n (L' := [some (.ref m), some (.int x), some (.int y), some (.int (nI i)), some (.long (ne2 R x y i).2), none, some (.int (nI i)), some (.long ((((R 11 i)) - x)).toInt64), none, some (.long ((((R 12 i)) - y)).toInt64), none, some (.long (sq2 (R 11 i - x) (R 12 i - y))), none]) C d_Mo_near_103 rfl (by decide) rfl ?_
                refine m_lload C d_Mo_near_104 rfl ?_
                refine m_lstore (L' := [some (.ref m), some (.int x), some (.int y), some (.int (nI i)), some (.long (sq2 (R 11 i - x) (R 12 i - y))), none, some (.int (nI i)), some (.long ((((R 11 i)) - x)).toInt64), none, some (.long ((((R 12 i)) - y)).toInt64), none, some (.long (sq2 (R 11 i - x) (R 12 i - y))), none]) C d_Mo_near_106 (by decide) rfl ?_
                refine m_iinc (v := (nI (i + 1))) (L' := [some (.ref m), some (.int x), some (.int y), some (.int (nI i)), some (.long (sq2 (R 11 i - x) (R 12 i - y))), none, some (.int (nI (i + 1))), some (.long ((((R 11 i)) - x)).toInt64), none, some (.long ((((R 12 i)) - y)).toInt64), none, some (.long (sq2 (R 11 i - x) (R 12 i - y))), none]) C d_Mo_near_108 rfl (nI_1 i) (by decide) rfl ?_
                refine m_goto (tgt := 40) C d_Mo_near_111 (by decide) ?_
                have h7 := ih (nS R - (i + 1)) (by omega) (i + 1) rfl (by omega)
                rw [ne2, if_pos (Or.inr (e3.mp h6))] at h7
                exact mj_L (fun q v hv => by rcases q with _ | _ | _ | _ | _ | _ | _ | _ | _ | _ | _ | _ | _ | q <;> first | exact hv | exact absurd (Option.some.inj hv) (by simp)) h7
              · refine m_goto (tgt := 108) C d_Mo_near_98 (by decide) ?_
                refine m_iinc (v := (nI (i + 1))) (L' := [some (.ref m), some (.int x), some (.int y), some (.int (ne2 R x y i).1), some (.long (ne2 R x y i).2), none, some (.int (nI (i + 1))), some (.long ((((R 11 i)) - x)).toInt64), none, some (.long ((((R 12 i)) - y)).toInt64), none, some (.long (sq2 (R 11 i - x) (R 12 i - y))), none]) C d_Mo_near_108 rfl (nI_1 i) (by decide) rfl ?_
                refine m_goto (tgt := 40) C d_Mo_near_111 (by decide) ?_
                have h7 := ih (nS R - (i + 1)) (by omega) (i + 1) rfl (by omega)
                rw [ne2, if_neg (fun z => z.elim h8 (fun z => h6 (e3.mpr z)))] at h7
                exact mj_L (fun q v hv => by rcases q with _ | _ | _ | _ | _ | _ | _ | _ | _ | _ | _ | _ | _ | q <;> first | exact hv | exact absurd (Option.some.inj hv) (by simp)) h7
      exact loop _ 0 rfl (Nat.zero_le _)
    · rw [b2i_eq0, decide_eq_false_iff_not] at hgo
      refine m_iconst (v := 0) C d_Mo_near_30 (by decide) ?_
      exact Rt _ _ _ _ _ _ (by decide) (by decide) d_Mo_near_31 (⟨fun z => absurd z hgo, fun _ => ⟨rfl, hMg⟩⟩)
  refine m_callS C d_Mo_near_4 mw_Mo_129 mst_Mo_isPlace (ct_Mo_isPlace _ _ _ x M) (fun _ h => h.elim) rfl rfl (Nat.le_of_ble_eq_true rfl) (by decide) (fun v9 M9 hp h5 h6 => ?_)
  obtain ⟨rfl, hM9⟩ := hp; rw [hM9]
  show mj G 13 0 0 M 7 [some (.ref m), some (.int x), some (.int y), none, none, none, none, none, none, none, none, none, none] [.int (b2i (inn x (-9999) 9999)), .int 1, .int 2, .ref m]
  refine m_if_eq (tgt := 21) C d_Mo_near_7 (by decide) (fun c0 => ?_) (fun c0 => ?_)
  · refine m_iconst (v := 0) C d_Mo_near_21 (by decide) ?_
    rw [b2i_eq0] at c0
    exact jnq _ (by rw [c0]; rfl)
  · rw [b2i_eq0, Bool.not_eq_false] at c0
    refine m_iload_n C d_Mo_near_10 rfl rfl ?_
    refine m_callS C d_Mo_near_11 mw_Mo_129 mst_Mo_isPlace (ct_Mo_isPlace _ _ _ y M) (fun _ h => h.elim) rfl rfl (Nat.le_of_ble_eq_true rfl) (by decide) (fun v9 M9 hp h5 h6 => ?_)
    obtain ⟨rfl, hM9⟩ := hp; rw [hM9]
    show mj G 13 0 0 M 14 [some (.ref m), some (.int x), some (.int y), none, none, none, none, none, none, none, none, none, none] [.int (b2i (inn y (-9999) 9999)), .int 1, .int 2, .ref m]
    refine m_if_eq (tgt := 21) C d_Mo_near_14 (by decide) (fun c1 => ?_) (fun c1 => ?_)
    · refine m_iconst (v := 0) C d_Mo_near_21 (by decide) ?_
      rw [b2i_eq0] at c1
      exact jnq _ (by rw [c0, c1]; rfl)
    · rw [b2i_eq0, Bool.not_eq_false] at c1
      refine m_iconst (v := 1) C d_Mo_near_17 (by decide) ?_
      refine m_goto (tgt := 22) C d_Mo_near_18 (by decide) ?_
      exact jnq _ (by rw [c0, c1]; rfl)

set_option maxHeartbeats 4000000 in
set_option maxRecDepth 100000 in
theorem ct_Mo_isSame (l : Launch) (D : ma_D) (s0 : State) (R : mR) (m : Nat) (mr : Nat → Nat) (k o : Nat) (hk : k < 90) (ho : o < 90) (M : ma_H) (hM : RepM R m mr M) (hwf : WfS R) : Ct l D s0 y_Mo_isSame c_Mo_isSame 5 (some .boolean) 0 0 0 0 [.ref m, .int (nI k), .int (nI o)] M (fun _ => False) (pI (b2i (smB R k o)) M) := by
  refine Ct_z 2 [some (.ref m), some (.int (nI k)), some (.int (nI o)), none, none] (by decide +kernel) (Nat.le_of_ble_eq_true rfl) rfl ?_
  intro G e1 e2 e3 C hw Rt
  subst e1; subst e2; subst e3
  obtain ⟨⟨⟨hbS, hbL, hbC, hbW, hbF⟩, hbi⟩, ⟨hS, hLm, hCo, hWd, hFn⟩, hst, hln, hmk, hz, hlt, hxy, hrg, hpl, hak, hcn⟩ := id hwf
  have h5k := hln k hk
  have h5o := hln o ho
  have inner : ∀ (lq9 : Nat) (c : Nat) (g : Bool), tn (R 5 k) - c = lq9 → c ≤ tn (R 5 k) → (g = true → (tn (R 5 o) = tn (R 5 k) ∧ tn (R 5 k) ≠ 0) ∧ ∀ j, j < c → R 6 (16 * k + j) = R 6 (16 * o + j)) → (g = false → smB R k o = false) → mj G 5 0 0 M 33 [some (.ref m), some (.int (nI k)), some (.int (nI o)), some (.int (b2i g)), some (.int (nI c))] [] := by
    intro lq9
    induction lq9 using Nat.strongRecOn with
    | ind lq9 ih =>
      intro c g hr hc hg1 hg2
      refine m_iload C d_Mo_isSame_33 rfl ?_
      refine m_aload_n C d_Mo_isSame_35 rfl rfl ?_
      refine m_get C fg_Mo_20 d_Mo_isSame_36 hM.1 rfl ?_
      refine m_iload_n C d_Mo_isSame_39 rfl rfl ?_
      refine m_iald (v := .int ((R 5) k)) C d_Mo_isSame_40 (hM.a5) kt_int (nI_pos (by omega)) (by rw [nI_clamp (by omega)]; exact arrL_get (by omega)) ?_
      rw [h5k.1]
      have e2 : nI (tn (R 5 k)) ≤ nI c ↔ tn (R 5 k) ≤ c := nI_leI (by omega) (by omega)
      refine m_icmp_ge (tgt := 87) C d_Mo_isSame_41 (by decide) (fun h8 => ?_) (fun h8 => ?_)
      · rw [e2] at h8
        refine m_iload_n C d_Mo_isSame_87 rfl rfl ?_
        exact Rt _ _ _ _ _ _ (by decide) (by decide) (b2i_01 _) d_Mo_isSame_88 (⟨by cases g with | true => rw [smB, decide_eq_true ⟨nm_eq.mpr ⟨(hg1 rfl).1.1, fun j hj9 => (hg1 rfl).2 j (by omega)⟩, by rw [nmL_len]; exact (hg1 rfl).1.2⟩] | false => rw [hg2 rfl], rfl⟩)
      · rw [e2] at h8
        refine m_iload_n C d_Mo_isSame_44 rfl rfl ?_
        refine m_if_eq (tgt := 87) C d_Mo_isSame_45 (by decide) (fun h7 => ?_) (fun h7 => ?_)
        · rw [b2i_eq0] at h7
          refine m_iload_n C d_Mo_isSame_87 rfl rfl ?_
          exact Rt _ _ _ _ _ _ (by decide) (by decide) (b2i_01 _) d_Mo_isSame_88 (⟨by rw [h7, hg2 h7], rfl⟩)
        · rw [b2i_eq0, Bool.not_eq_false] at h7
          refine m_aload_n C d_Mo_isSame_48 rfl rfl ?_
          refine m_get C fg_Mo_23 d_Mo_isSame_49 hM.1 rfl ?_
          refine m_iload_n C d_Mo_isSame_52 rfl rfl ?_
          refine m_bipush (v := 16) C d_Mo_isSame_53 (by decide) ?_
          refine m_imul C d_Mo_isSame_55 ?_
          rw [mulN 16 (b := 16) rfl]
          refine m_iload C d_Mo_isSame_56 rfl ?_
          refine m_iadd C d_Mo_isSame_58 ?_
          rw [nI_add]
          refine m_iald (v := .int ((R 6) (16 * k + c))) C d_Mo_isSame_59 (hM.a6) kt_int (nI_pos (by omega)) (by rw [nI_clamp (by omega)]; exact arrL_get (by omega)) ?_
          refine m_aload_n C d_Mo_isSame_60 rfl rfl ?_
          refine m_get C fg_Mo_23 d_Mo_isSame_61 hM.1 rfl ?_
          refine m_iload_n C d_Mo_isSame_64 rfl rfl ?_
          refine m_bipush (v := 16) C d_Mo_isSame_65 (by decide) ?_
          refine m_imul C d_Mo_isSame_67 ?_
          rw [mulN 16 (b := 16) rfl]
          refine m_iload C d_Mo_isSame_68 rfl ?_
          refine m_iadd C d_Mo_isSame_70 ?_
          rw [nI_add]
          refine m_iald (v := .int ((R 6) (16 * o + c))) C d_Mo_isSame_71 (hM.a6) kt_int (nI_pos (by omega)) (by rw [nI_clamp (by omega)]; exact arrL_get (by omega)) ?_
          refine m_icmp_ne (tgt := 79) C d_Mo_isSame_72 (by decide) (fun h6 => ?_) (fun h6 => ?_)
          · refine m_iconst (v := 0) C d_Mo_isSame_79 (by decide) ?_
            refine m_istore_n (L' := [some (.ref m), some (.int (nI k)), some (.int (nI o)), some (.int 0), some (.int (nI c))]) C d_Mo_isSame_80 rfl (by decide) rfl ?_
            refine m_iinc (v := (nI (c + 1))) (L' := [some (.ref m), some (.int (nI k)), some (.int (nI o)), some (.int 0), some (.int (nI (c + 1)))]) C d_Mo_isSame_81 rfl (nI_1 c) (by decide) rfl ?_
            refine m_goto (tgt := 33) C d_Mo_isSame_84 (by decide) ?_
            exact ih (tn (R 5 k) - (c + 1)) (by omega) (c + 1) false rfl (by omega) (fun h => by cases h) (fun _ => by rw [smB, decide_eq_false (fun z => h6 ((nm_eq.mp z.1).2 c (by omega)))])
          · refine m_iconst (v := 1) C d_Mo_isSame_75 (by decide) ?_
            refine m_goto (tgt := 80) C d_Mo_isSame_76 (by decide) ?_
            refine m_istore_n (L' := [some (.ref m), some (.int (nI k)), some (.int (nI o)), some (.int 1), some (.int (nI c))]) C d_Mo_isSame_80 rfl (by decide) rfl ?_
            refine m_iinc (v := (nI (c + 1))) (L' := [some (.ref m), some (.int (nI k)), some (.int (nI o)), some (.int 1), some (.int (nI (c + 1)))]) C d_Mo_isSame_81 rfl (nI_1 c) (by decide) rfl ?_
            refine m_goto (tgt := 33) C d_Mo_isSame_84 (by decide) ?_
            exact ih (tn (R 5 k) - (c + 1)) (by omega) (c + 1) true rfl (by omega) (fun _ => ⟨(hg1 h7).1, fun j hj9 => by by_cases q : j = c; rw [q]; exact h6; exact (hg1 h7).2 j (by omega)⟩) (fun h => by cases h)
  refine m_aload_n C d_Mo_isSame_0 rfl rfl ?_
  refine m_get C fg_Mo_20 d_Mo_isSame_1 hM.1 rfl ?_
  refine m_iload_n C d_Mo_isSame_4 rfl rfl ?_
  refine m_iald (v := .int ((R 5) k)) C d_Mo_isSame_5 (hM.a5) kt_int (nI_pos (by omega)) (by rw [nI_clamp (by omega)]; exact arrL_get (by omega)) ?_
  refine m_aload_n C d_Mo_isSame_6 rfl rfl ?_
  refine m_get C fg_Mo_20 d_Mo_isSame_7 hM.1 rfl ?_
  refine m_iload_n C d_Mo_isSame_10 rfl rfl ?_
  refine m_iald (v := .int ((R 5) o)) C d_Mo_isSame_11 (hM.a5) kt_int (nI_pos (by omega)) (by rw [nI_clamp (by omega)]; exact arrL_get (by omega)) ?_
  rw [h5k.1, h5o.1]
  have e3 : nI (tn (R 5 k)) = nI (tn (R 5 o)) ↔ tn (R 5 k) = tn (R 5 o) := nI_eq (by omega) (by omega)
  refine m_icmp_ne (tgt := 28) C d_Mo_isSame_12 (by decide) (fun h9 => ?_) (fun h9 => ?_)
  · refine m_iconst (v := 0) C d_Mo_isSame_28 (by decide) ?_
    refine m_istore_n (L' := [some (.ref m), some (.int (nI k)), some (.int (nI o)), some (.int 0), none]) C d_Mo_isSame_29 rfl (by decide) rfl ?_
    refine m_iconst (v := 0) C d_Mo_isSame_30 (by decide) ?_
    refine m_istore (L' := [some (.ref m), some (.int (nI k)), some (.int (nI o)), some (.int 0), some (.int 0)]) C d_Mo_isSame_31 (by decide) rfl ?_
    exact inner _ 0 false rfl (Nat.zero_le _) (fun h => by cases h) (fun _ => by rw [smB, decide_eq_false (fun z => h9 (e3.mpr (nm_eq.mp z.1).1.symm))])
  · rw [e3] at h9
    refine m_aload_n C d_Mo_isSame_15 rfl rfl ?_
    refine m_get C fg_Mo_20 d_Mo_isSame_16 hM.1 rfl ?_
    refine m_iload_n C d_Mo_isSame_19 rfl rfl ?_
    refine m_iald (v := .int ((R 5) k)) C d_Mo_isSame_20 (hM.a5) kt_int (nI_pos (by omega)) (by rw [nI_clamp (by omega)]; exact arrL_get (by omega)) ?_
    rw [h5k.1]
    have e4 : nI (tn (R 5 k)) ≤ 0 ↔ tn (R 5 k) = 0 := by rw [show (0 : Int32) = nI 0 from rfl, nI_leI (by omega) (by decide)]; omega
    refine m_if_le (tgt := 28) C d_Mo_isSame_21 (by decide) (fun h8 => ?_) (fun h8 => ?_)
    · refine m_iconst (v := 0) C d_Mo_isSame_28 (by decide) ?_
      refine m_istore_n (L' := [some (.ref m), some (.int (nI k)), some (.int (nI o)), some (.int 0), none]) C d_Mo_isSame_29 rfl (by decide) rfl ?_
      refine m_iconst (v := 0) C d_Mo_isSame_30 (by decide) ?_
      refine m_istore (L' := [some (.ref m), some (.int (nI k)), some (.int (nI o)), some (.int 0), some (.int 0)]) C d_Mo_isSame_31 (by decide) rfl ?_
      exact inner _ 0 false rfl (Nat.zero_le _) (fun h => by cases h) (fun _ => by rw [smB, decide_eq_false (fun z => z.2 (by rw [nmL_len]; exact e4.mp h8))])
    · refine m_iconst (v := 1) C d_Mo_isSame_24 (by decide) ?_
      refine m_goto (tgt := 29) C d_Mo_isSame_25 (by decide) ?_
      refine m_istore_n (L' := [some (.ref m), some (.int (nI k)), some (.int (nI o)), some (.int 1), none]) C d_Mo_isSame_29 rfl (by decide) rfl ?_
      refine m_iconst (v := 0) C d_Mo_isSame_30 (by decide) ?_
      refine m_istore (L' := [some (.ref m), some (.int (nI k)), some (.int (nI o)), some (.int 1), some (.int 0)]) C d_Mo_isSame_31 (by decide) rfl ?_
      exact inner _ 0 true rfl (Nat.zero_le _) (fun _ => ⟨⟨h9.symm, fun z => h8 (e4.mpr z)⟩, fun j h => absurd h (by omega)⟩) (fun h => by cases h)

set_option maxHeartbeats 4000000 in
set_option maxRecDepth 100000 in
theorem ct_Mo_share (l : Launch) (D : ma_D) (s0 : State) (R : mR) (m : Nat) (mr : Nat → Nat) (i o : Nat) (hi : i < nS R) (ho : o < nS R) (M : ma_H) (hM : RepM R m mr M) (hwf : WfS R) : Ct l D s0 y_Mo_share c_Mo_share 5 (some .boolean) 1 0 0 24 [.ref m, .int (nI i), .int (nI o)] M (fun _ => False) (pI (b2i (shB R i o)) M) := by
  refine Ct_z 2 [some (.ref m), some (.int (nI i)), some (.int (nI o)), none, none] (by decide +kernel) (Nat.le_of_ble_eq_true rfl) rfl ?_
  intro G e1 e2 e3 C hw Rt
  subst e1; subst e2; subst e3
  obtain ⟨⟨⟨hbS, hbL, hbC, hbW, hbF⟩, hbi⟩, ⟨hS, hLm, hCo, hWd, hFn⟩, hst, hln, hmk, hz, hlt, hxy, hrg, hpl, hak, hcn⟩ := id hwf
  have h4i := (hst i hi).1
  have h4o := (hst o ho).1
  have b4i := (hbi i hi).1
  have b4o := (hbi o ho).1
  rw [shB_sm] at Rt
  refine m_iconst (v := 0) C d_Mo_share_0 (by decide) ?_
  refine m_istore_n (L' := [some (.ref m), some (.int (nI i)), some (.int (nI o)), some (.int 0), none]) C d_Mo_share_1 rfl (by decide) rfl ?_
  have loop : ∀ (lq9 : Nat) (a : Nat), tn (R 4 i) - a = lq9 → a ≤ tn (R 4 i) → (∀ j, j < a → ∀ b, b < tn (R 4 o) → ¬ smB R (3 * i + j) (3 * o + b) = true) → mj G 5 0 0 M 2 [some (.ref m), some (.int (nI i)), some (.int (nI o)), some (.int (nI a)), none] [] := by
    intro lq9
    induction lq9 using Nat.strongRecOn with
    | ind lq9 ih =>
      have ih9 := ih
      intro a hr ha hj
      refine m_iload_n C d_Mo_share_2 rfl rfl ?_
      refine m_aload_n C d_Mo_share_3 rfl rfl ?_
      refine m_get C fg_Mo_17 d_Mo_share_4 hM.1 rfl ?_
      refine m_iload_n C d_Mo_share_7 rfl rfl ?_
      refine m_iald (v := .int ((R 4) i)) C d_Mo_share_8 (hM.a4) kt_int (nI_pos (by omega)) (by rw [nI_clamp (by omega)]; exact arrL_get (by omega)) ?_
      rw [h4i]
      have e1 : nI (tn (R 4 i)) ≤ nI a ↔ tn (R 4 i) ≤ a := nI_leI (by omega) (by omega)
      refine m_icmp_ge (tgt := 58) C d_Mo_share_9 (by decide) (fun h9 => ?_) (fun h9 => ?_)
      · refine m_iconst (v := 0) C d_Mo_share_58 (by decide) ?_
        exact Rt _ _ _ _ _ _ (by decide) (by decide) (by decide) d_Mo_share_59 (⟨by rw [e1] at h9; have : ¬ (∃ a, a < tn (R 4 i) ∧ ∃ b, b < tn (R 4 o) ∧ smB R (3 * i + a) (3 * o + b) = true) := fun ⟨j, q1, b, q2, q3⟩ => hj j (by omega) b q2 q3; rw [decide_eq_false this]; rfl, rfl⟩)
      · rw [e1] at h9
        refine m_iconst (v := 0) C d_Mo_share_12 (by decide) ?_
        refine m_istore (L' := [some (.ref m), some (.int (nI i)), some (.int (nI o)), some (.int (nI a)), some (.int 0)]) C d_Mo_share_13 (by decide) rfl ?_
        have inner : ∀ (lq9 : Nat) (b : Nat), tn (R 4 o) - b = lq9 → b ≤ tn (R 4 o) → (∀ j, j < b → ¬ smB R (3 * i + a) (3 * o + j) = true) → mj G 5 0 0 M 15 [some (.ref m), some (.int (nI i)), some (.int (nI o)), some (.int (nI a)), some (.int (nI b))] [] := by
          intro lq9
          induction lq9 using Nat.strongRecOn with
          | ind lq9 ih =>
            intro b hr hb hjb
            refine m_iload C d_Mo_share_15 rfl ?_
            refine m_aload_n C d_Mo_share_17 rfl rfl ?_
            refine m_get C fg_Mo_17 d_Mo_share_18 hM.1 rfl ?_
            refine m_iload_n C d_Mo_share_21 rfl rfl ?_
            refine m_iald (v := .int ((R 4) o)) C d_Mo_share_22 (hM.a4) kt_int (nI_pos (by omega)) (by rw [nI_clamp (by omega)]; exact arrL_get (by omega)) ?_
            rw [h4o]
            have e2 : nI (tn (R 4 o)) ≤ nI b ↔ tn (R 4 o) ≤ b := nI_leI (by omega) (by omega)
            refine m_icmp_ge (tgt := 52) C d_Mo_share_23 (by decide) (fun h8 => ?_) (fun h8 => ?_)
            · rw [e2] at h8
              refine m_iinc (v := (nI (a + 1))) (L' := [some (.ref m), some (.int (nI i)), some (.int (nI o)), some (.int (nI (a + 1))), some (.int (nI b))]) C d_Mo_share_52 rfl (nI_1 a) (by decide) rfl ?_
              refine m_goto (tgt := 2) C d_Mo_share_55 (by decide) ?_
              exact mj_L (L' := [some (.ref m), some (.int (nI i)), some (.int (nI o)), some (.int (nI (a + 1))), none]) (fun q v hv => by rcases q with _ | _ | _ | _ | _ | q <;> first | exact hv | exact absurd (Option.some.inj hv) (by simp)) (ih9 (tn (R 4 i) - (a + 1)) (by omega) (a + 1) rfl (by omega) (fun j hj9 => by by_cases q : j = a; rw [q]; exact fun b hb => hjb b (by omega); exact hj j (by omega)))
            · rw [e2] at h8
              refine m_aload_n C d_Mo_share_26 rfl rfl ?_
              refine m_iload_n C d_Mo_share_27 rfl rfl ?_
              refine m_iconst (v := 3) C d_Mo_share_28 (by decide) ?_
              refine m_imul C d_Mo_share_29 ?_
              rw [mulN 3 (b := 3) rfl]
              refine m_iload_n C d_Mo_share_30 rfl rfl ?_
              refine m_iadd C d_Mo_share_31 ?_
              rw [nI_add]
              refine m_iload_n C d_Mo_share_32 rfl rfl ?_
              refine m_iconst (v := 3) C d_Mo_share_33 (by decide) ?_
              refine m_imul C d_Mo_share_34 ?_
              rw [mulN 3 (b := 3) rfl]
              refine m_iload C d_Mo_share_35 rfl ?_
              refine m_iadd C d_Mo_share_37 ?_
              rw [nI_add]
              refine m_callV (ci := 10) C d_Mo_share_38 mw_Mo_193 mi_Mo_isSame se_Mo_isSame rfl (ct_Mo_isSame _ _ _ R m mr (3 * i + a) (3 * o + b) (by omega) (by omega) M hM hwf) (fun _ h => h.elim) rfl rfl (Nat.le_of_ble_eq_true rfl) hM.1 (by decide) (fun v9 M9 hp h5 h6 => ?_)
              obtain ⟨rfl, hM9⟩ := hp; rw [hM9]
              show mj G 5 0 0 M 41 [some (.ref m), some (.int (nI i)), some (.int (nI o)), some (.int (nI a)), some (.int (nI b))] [.int (b2i (smB R (3 * i + a) (3 * o + b)))]
              refine m_if_eq (tgt := 46) C d_Mo_share_41 (by decide) (fun h7 => ?_) (fun h7 => ?_)
              · rw [b2i_eq0] at h7
                refine m_iinc (v := (nI (b + 1))) (L' := [some (.ref m), some (.int (nI i)), some (.int (nI o)), some (.int (nI a)), some (.int (nI (b + 1)))]) C d_Mo_share_46 rfl (nI_1 b) (by decide) rfl ?_
                refine m_goto (tgt := 15) C d_Mo_share_49 (by decide) ?_
                exact ih (tn (R 4 o) - (b + 1)) (by omega) (b + 1) rfl (by omega) (fun j hj9 => by by_cases q : j = b; rw [q, h7]; simp; exact hjb j (by omega))
              · rw [b2i_eq0, Bool.not_eq_false] at h7
                refine m_iconst (v := 1) C d_Mo_share_44 (by decide) ?_
                exact Rt _ _ _ _ _ _ (by decide) (by decide) (by decide) d_Mo_share_45 (⟨by have : (∃ a, a < tn (R 4 i) ∧ ∃ b, b < tn (R 4 o) ∧ smB R (3 * i + a) (3 * o + b) = true) := ⟨a, by omega, b, by omega, h7⟩; rw [decide_eq_true this]; rfl, rfl⟩)
        exact inner _ 0 rfl (Nat.zero_le _) (fun j h => absurd h (by omega))
  exact loop _ 0 rfl (Nat.zero_le _) (fun j h => absurd h (by omega))
