/-! ===== the model's landmark ===== -/
theorem lm_eq {R : mR} {k n8 : Nat} {p : Int64} : lmL R k = sgns p n8 n8 ↔ tn (R 19 k) = n8 ∧ ∀ c, c < n8 → R 20 (8 * k + c) = sgn p n8 c := by
  constructor
  · intro h
    have h1 : tn (R 19 k) = n8 := by rw [← lmL_len, h, sgns_len]
    refine ⟨h1, fun c hc => ?_⟩
    have h2 : (lmL R k)[c]? = (sgns p n8 n8)[c]? := by rw [h]
    simp only [lmL, sgns, List.getElem?_map, h1, List.getElem?_range hc, Option.map_some, Option.some.injEq] at h2
    exact h2
  · rintro ⟨h1, h2⟩
    simp only [lmL, sgns, h1]
    exact List.map_congr_left fun c hc => h2 c (List.mem_range.mp hc)

set_option maxHeartbeats 4000000 in
set_option maxRecDepth 100000 in
theorem ct_Mo_hasMark (l : Launch) (D : ma_D) (s0 : State) (R : mR) (m : Nat) (mr : Nat → Nat) (p : Int64) (n8 : Nat) (hn8 : n8 ≤ 8) (M : ma_H) (hM : RepM R m mr M) (hwf : WfS R) : Ct l D s0 y_Mo_hasMark c_Mo_hasMark 7 (some .boolean) 1 0 0 23 [.ref m, .long p, .int (nI n8)] M (fun _ => False) (pI (b2i (decide (∃ k, k < nL R ∧ lmL R k = sgns p n8 n8))) M) := by
  refine Ct_z 3 [some (.ref m), some (.long p), none, some (.int (nI n8)), none, none, none] (by decide +kernel) (Nat.le_of_ble_eq_true rfl) rfl ?_
  intro G e1 e2 e3 C hw Rt
  subst e1; subst e2; subst e3
  obtain ⟨⟨⟨hbS, hbL, hbC, hbW, hbF⟩, hbi⟩, ⟨hS, hLm, hCo, hWd, hFn⟩, hst, hln, hmk, hz, hlt, hxy, hrg, hpl, hak, hcn⟩ := id hwf
  refine m_iconst (v := 0) C d_Mo_hasMark_0 (by decide) ?_
  refine m_istore (L' := [some (.ref m), some (.long p), none, some (.int (nI n8)), some (.int 0), none, none]) C d_Mo_hasMark_1 (by decide) rfl ?_
  have loop : ∀ (lq9 : Nat) (k : Nat), nL R - k = lq9 → k ≤ nL R → (∀ j, j < k → lmL R j ≠ sgns p n8 n8) → mj G 7 0 0 M 3 [some (.ref m), some (.long p), none, some (.int (nI n8)), some (.int (nI k)), none, none] [] := by
    intro lq9
    induction lq9 using Nat.strongRecOn with
    | ind lq9 ih =>
      intro k hr hk hj
      refine m_iload C d_Mo_hasMark_3 rfl ?_
      refine m_aload_n C d_Mo_hasMark_5 rfl rfl ?_
      refine m_get C fg_Mo_133 d_Mo_hasMark_6 hM.1 rfl ?_
      rw [hLm]
      have e1 : nI (nL R) ≤ nI k ↔ nL R ≤ k := nI_leI (by omega) (by omega)
      refine m_icmp_ge (tgt := 93) C d_Mo_hasMark_9 (by decide) (fun h9 => ?_) (fun h9 => ?_)
      · refine m_iconst (v := 0) C d_Mo_hasMark_93 (by decide) ?_
        exact Rt _ _ _ _ _ _ (by decide) (by decide) (by decide) d_Mo_hasMark_94 (⟨by rw [e1] at h9; have : ¬ ∃ k, k < nL R ∧ lmL R k = sgns p n8 n8 := fun ⟨j, q1, q2⟩ => hj j (by omega) q2; rw [decide_eq_false this]; rfl, rfl⟩)
      · rw [e1] at h9
        have hkl : k < nL R := by omega
        have h19 := (hmk k hkl).1
        have fin : ∀ x5 : Int32, x5 = b2i (decide (lmL R k = sgns p n8 n8)) → mj G 7 0 0 M 80 [some (.ref m), some (.long p), none, some (.int (nI n8)), some (.int (nI k)), some (.int x5), none] [] := by
          intro x5 hx5
          subst hx5
          refine m_iload C d_Mo_hasMark_80 rfl ?_
          refine m_if_eq (tgt := 87) C d_Mo_hasMark_82 (by decide) (fun h8 => ?_) (fun h8 => ?_)
          · rw [b2i_eq0, decide_eq_false_iff_not] at h8
            refine m_iinc (v := (nI (k + 1))) (L' := [some (.ref m), some (.long p), none, some (.int (nI n8)), some (.int (nI (k + 1))), some (.int (b2i (decide (lmL R k = sgns p n8 n8)))), none]) C d_Mo_hasMark_87 rfl (nI_1 k) (by decide) rfl ?_
            refine m_goto (tgt := 3) C d_Mo_hasMark_90 (by decide) ?_
            exact mj_L (L' := [some (.ref m), some (.long p), none, some (.int (nI n8)), some (.int (nI (k + 1))), none, none]) (fun q v hv => by rcases q with _ | _ | _ | _ | _ | _ | _ | q <;> first | exact hv | exact absurd (Option.some.inj hv) (by simp)) (ih (nL R - (k + 1)) (by omega) (k + 1) rfl (by omega) (fun j hj9 => by by_cases q : j = k; rw [q]; exact h8; exact hj j (by omega)))
          · rw [b2i_eq0, Bool.not_eq_false, decide_eq_true_eq] at h8
            refine m_iconst (v := 1) C d_Mo_hasMark_85 (by decide) ?_
            exact Rt _ _ _ _ _ _ (by decide) (by decide) (by decide) d_Mo_hasMark_86 (⟨by have : ∃ k, k < nL R ∧ lmL R k = sgns p n8 n8 := ⟨k, hkl, h8⟩; rw [decide_eq_true this]; rfl, rfl⟩)
        have inner : ∀ (lq9 : Nat) (c : Nat) (g : Bool), n8 - c = lq9 → c ≤ n8 → (g = true → tn (R 19 k) = n8 ∧ ∀ j, j < c → R 20 (8 * k + j) = sgn p n8 j) → (g = false → lmL R k ≠ sgns p n8 n8) → mj G 7 0 0 M 33 [some (.ref m), some (.long p), none, some (.int (nI n8)), some (.int (nI k)), some (.int (b2i g)), some (.int (nI c))] [] := by
          intro lq9
          induction lq9 using Nat.strongRecOn with
          | ind lq9 ih =>
            intro c g hr hc hg1 hg2
            refine m_iload C d_Mo_hasMark_33 rfl ?_
            refine m_iload_n C d_Mo_hasMark_35 rfl rfl ?_
            have e2 : nI n8 ≤ nI c ↔ n8 ≤ c := nI_leI (by omega) (by omega)
            refine m_icmp_ge (tgt := 80) C d_Mo_hasMark_36 (by decide) (fun h8 => ?_) (fun h8 => ?_)
            · rw [e2] at h8
              exact mj_L (L' := [some (.ref m), some (.long p), none, some (.int (nI n8)), some (.int (nI k)), some (.int (b2i g)), none]) (fun q v hv => by rcases q with _ | _ | _ | _ | _ | _ | _ | q <;> first | exact hv | exact absurd (Option.some.inj hv) (by simp)) (fin _ (by cases g with | true => rw [decide_eq_true (lm_eq.mpr ⟨(hg1 rfl).1, fun j hj9 => (hg1 rfl).2 j (by omega)⟩)] | false => rw [decide_eq_false (hg2 rfl)]))
            · rw [e2] at h8
              refine m_iload C d_Mo_hasMark_39 rfl ?_
              refine m_if_eq (tgt := 80) C d_Mo_hasMark_41 (by decide) (fun h7 => ?_) (fun h7 => ?_)
              · rw [b2i_eq0] at h7
                exact mj_L (L' := [some (.ref m), some (.long p), none, some (.int (nI n8)), some (.int (nI k)), some (.int (b2i g)), none]) (fun q v hv => by rcases q with _ | _ | _ | _ | _ | _ | _ | q <;> first | exact hv | exact absurd (Option.some.inj hv) (by simp)) (fin _ (by rw [h7, decide_eq_false (hg2 h7)]))
              · rw [b2i_eq0, Bool.not_eq_false] at h7
                refine m_aload_n C d_Mo_hasMark_44 rfl rfl ?_
                refine m_get C fg_Mo_62 d_Mo_hasMark_45 hM.1 rfl ?_
                refine m_iload C d_Mo_hasMark_48 rfl ?_
                refine m_bipush (v := 8) C d_Mo_hasMark_50 (by decide) ?_
                refine m_imul C d_Mo_hasMark_52 ?_
                rw [show nI k * 8 = nI (8 * k) by rw [show (8 : Int32) = nI 8 from rfl, nI_mul, Nat.mul_comm]]
                refine m_iload C d_Mo_hasMark_53 rfl ?_
                refine m_iadd C d_Mo_hasMark_55 ?_
                rw [nI_add]
                refine m_iald (v := .int ((R 20) (8 * k + c))) C d_Mo_hasMark_56 (hM.a20) kt_int (nI_pos (by omega)) (by rw [nI_clamp (by omega)]; exact arrL_get (by omega)) ?_
                refine m_lload_n C d_Mo_hasMark_57 rfl rfl ?_
                refine m_iload_n C d_Mo_hasMark_58 rfl rfl ?_
                refine m_iload C d_Mo_hasMark_59 rfl ?_
                refine m_callS C d_Mo_hasMark_61 mw_Mo_106 mst_Mo_byteOf (ct_Mo_byteOf _ _ _ p n8 c hn8 (by omega) M) (fun _ h => h.elim) rfl rfl (Nat.le_of_ble_eq_true rfl) (by decide) (fun v9 M9 hp h5 h6 => ?_)
                obtain ⟨rfl, hM9⟩ := hp; rw [hM9]
                show mj G 7 0 0 M 64 [some (.ref m), some (.long p), none, some (.int (nI n8)), some (.int (nI k)), some (.int (b2i g)), some (.int (nI c))] [.int (sgn p n8 c), .int ((R 20) (8 * k + c))]
                refine m_icmp_ne (tgt := 71) C d_Mo_hasMark_64 (by decide) (fun h6 => ?_) (fun h6 => ?_)
                · refine m_iconst (v := 0) C d_Mo_hasMark_71 (by decide) ?_
                  refine m_istore (L' := [some (.ref m), some (.long p), none, some (.int (nI n8)), some (.int (nI k)), some (.int 0), some (.int (nI c))]) C d_Mo_hasMark_72 (by decide) rfl ?_
                  refine m_iinc (v := (nI (c + 1))) (L' := [some (.ref m), some (.long p), none, some (.int (nI n8)), some (.int (nI k)), some (.int 0), some (.int (nI (c + 1)))]) C d_Mo_hasMark_74 rfl (nI_1 c) (by decide) rfl ?_
                  refine m_goto (tgt := 33) C d_Mo_hasMark_77 (by decide) ?_
                  exact ih (n8 - (c + 1)) (by omega) (c + 1) false rfl (by omega) (fun h => by cases h) (fun _ h => h6 ((lm_eq.mp h).2 c (by omega)))
                · refine m_iconst (v := 1) C d_Mo_hasMark_67 (by decide) ?_
                  refine m_goto (tgt := 72) C d_Mo_hasMark_68 (by decide) ?_
                  refine m_istore (L' := [some (.ref m), some (.long p), none, some (.int (nI n8)), some (.int (nI k)), some (.int 1), some (.int (nI c))]) C d_Mo_hasMark_72 (by decide) rfl ?_
                  refine m_iinc (v := (nI (c + 1))) (L' := [some (.ref m), some (.long p), none, some (.int (nI n8)), some (.int (nI k)), some (.int 1), some (.int (nI (c + 1)))]) C d_Mo_hasMark_74 rfl (nI_1 c) (by decide) rfl ?_
                  refine m_goto (tgt := 33) C d_Mo_hasMark_77 (by decide) ?_
                  exact ih (n8 - (c + 1)) (by omega) (c + 1) true rfl (by omega) (fun _ => ⟨(hg1 h7).1, fun j hj9 => by by_cases q : j = c; rw [q]; exact h6; exact (hg1 h7).2 j (by omega)⟩) (fun h => by cases h)
        refine m_aload_n C d_Mo_hasMark_12 rfl rfl ?_
        refine m_get C fg_Mo_59 d_Mo_hasMark_13 hM.1 rfl ?_
        refine m_iload C d_Mo_hasMark_16 rfl ?_
        refine m_iald (v := .int ((R 19) k)) C d_Mo_hasMark_18 (hM.a19) kt_int (nI_pos (by omega)) (by rw [nI_clamp (by omega)]; exact arrL_get (by omega)) ?_
        rw [h19.1]
        refine m_iload_n C d_Mo_hasMark_19 rfl rfl ?_
        have e3 : nI (tn (R 19 k)) = nI n8 ↔ tn (R 19 k) = n8 := nI_eq (by omega) (by omega)
        refine m_icmp_ne (tgt := 27) C d_Mo_hasMark_20 (by decide) (fun h8 => ?_) (fun h8 => ?_)
        · refine m_iconst (v := 0) C d_Mo_hasMark_27 (by decide) ?_
          refine m_istore (L' := [some (.ref m), some (.long p), none, some (.int (nI n8)), some (.int (nI k)), some (.int 0), none]) C d_Mo_hasMark_28 (by decide) rfl ?_
          refine m_iconst (v := 0) C d_Mo_hasMark_30 (by decide) ?_
          refine m_istore (L' := [some (.ref m), some (.long p), none, some (.int (nI n8)), some (.int (nI k)), some (.int 0), some (.int 0)]) C d_Mo_hasMark_31 (by decide) rfl ?_
          exact inner _ 0 false rfl (Nat.zero_le _) (fun h => by cases h) (fun _ h => h8 (e3.mpr (lm_eq.mp h).1))
        · refine m_iconst (v := 1) C d_Mo_hasMark_23 (by decide) ?_
          refine m_goto (tgt := 28) C d_Mo_hasMark_24 (by decide) ?_
          refine m_istore (L' := [some (.ref m), some (.long p), none, some (.int (nI n8)), some (.int (nI k)), some (.int 1), none]) C d_Mo_hasMark_28 (by decide) rfl ?_
          refine m_iconst (v := 0) C d_Mo_hasMark_30 (by decide) ?_
          refine m_istore (L' := [some (.ref m), some (.long p), none, some (.int (nI n8)), some (.int (nI k)), some (.int 1), some (.int 0)]) C d_Mo_hasMark_31 (by decide) rfl ?_
          exact inner _ 0 true rfl (Nat.zero_le _) (fun _ => ⟨e3.mp h8, fun j h => absurd h (by omega)⟩) (fun h => by cases h)
  exact loop _ 0 rfl (Nat.zero_le _) (fun j h => absurd h (by omega))

set_option maxHeartbeats 4000000 in
set_option maxRecDepth 100000 in
theorem ct_Mo_landmark (l : Launch) (D : ma_D) (s0 : State) (R : mR) (m : Nat) (mr : Nat → Nat) (s h : Int32) (p : Int64) (n : Int32) (M : ma_H) (hM : RepM R m mr M) (hwf : WfS R) : Ct l D s0 y_Mo_landmark c_Mo_landmark 8 (some .int) 2 0 0 49 [.ref m, .int s, .int h, .long p, .int n] M (fun q => q = m ∨ ∃ k, mln k ≠ 0 ∧ q = mr k) (fun v M' => ((gbN (kn R s) ((inn h 1 9999 && inn n 1 8 && decide (∀ i, i < tn n → is_l (sgn p (tn n) i) = true))) (((inn h 1 9999 && inn n 1 8 && decide (∀ i, i < tn n → is_l (sgn p (tn n) i) = true)) && !decide (∃ k, k < nL R ∧ lmL R k = sgns p (tn n) (tn n)))) (decide (nL R < 20))) = 0 → v = some (.int (nI (nL R))) ∧ RepM (uR (uR (setF (uR (uR (uR (uR R 0 0 0) 17 (nL R) s) 18 (nL R) h) 19 (nL R) (nI (tn n))) 20 (fa (R 20) (8 * nL R) p (tn n) (tn n))) 16 0 (nI (nL R + 1))) 28 0 0) m mr M') ∧ (¬ (gbN (kn R s) ((inn h 1 9999 && inn n 1 8 && decide (∀ i, i < tn n → is_l (sgn p (tn n) i) = true))) (((inn h 1 9999 && inn n 1 8 && decide (∀ i, i < tn n → is_l (sgn p (tn n) i) = true)) && !decide (∃ k, k < nL R ∧ lmL R k = sgns p (tn n) (tn n)))) (decide (nL R < 20))) = 0 → v = some (.int 0) ∧ RepM (uR R 0 0 (nI (thN 15 (gbN (kn R s) ((inn h 1 9999 && inn n 1 8 && decide (∀ i, i < tn n → is_l (sgn p (tn n) i) = true))) (((inn h 1 9999 && inn n 1 8 && decide (∀ i, i < tn n → is_l (sgn p (tn n) i) = true)) && !decide (∃ k, k < nL R ∧ lmL R k = sgns p (tn n) (tn n)))) (decide (nL R < 20)))))) m mr M')) := by
  refine Ct_i 2 [some (.ref m), some (.int s), some (.int h), some (.long p), none, some (.int n), none, none] (by decide +kernel) (Nat.le_of_ble_eq_true rfl) rfl ?_
  intro G e1 e2 e3 C hw Rt
  subst e1; subst e2; subst e3
  obtain ⟨⟨⟨hbS, hbL, hbC, hbW, hbF⟩, hbi⟩, ⟨hS, hLm, hCo, hWd, hFn⟩, hst, hln, hmk, hz, hlt, hxy, hrg, hpl, hak, hcn⟩ := id hwf
  have jnq : ∀ xq : Int32, xq = b2i (inn h 1 9999 && inn n 1 8 && decide (∀ i, i < tn n → is_l (sgn p (tn n) i) = true)) → mj G 8 0 0 M 51 [some (.ref m), some (.int s), some (.int h), some (.long p), none, some (.int n), none, none] [.int xq] := by
    intro xq hxq
    subst hxq
    refine m_istore (L' := [some (.ref m), some (.int s), some (.int h), some (.long p), none, some (.int n), some (.int (b2i (inn h 1 9999 && inn n 1 8 && decide (∀ i, i < tn n → is_l (sgn p (tn n) i) = true)))), none]) C d_Mo_landmark_51 (by decide) rfl ?_
    refine m_aload_n C d_Mo_landmark_53 rfl rfl ?_
    refine m_bipush (v := 15) C d_Mo_landmark_54 (by decide) ?_
    refine m_aload_n C d_Mo_landmark_56 rfl rfl ?_
    refine m_iload_n C d_Mo_landmark_57 rfl rfl ?_
    refine m_callV (ci := 10) C d_Mo_landmark_58 mw_Mo_117 mi_Mo_isStreet se_Mo_isStreet rfl (ct_Mo_isStreet _ _ _ R m mr s M hM hS hbS) (fun _ h => h.elim) rfl rfl (Nat.le_of_ble_eq_true rfl) hM.1 (by decide) (fun v9 M9 hp h5 h6 => ?_)
    obtain ⟨rfl, hM9⟩ := hp; rw [hM9]
    show mj G 8 0 0 M 61 [some (.ref m), some (.int s), some (.int h), some (.long p), none, some (.int n), some (.int (b2i (inn h 1 9999 && inn n 1 8 && decide (∀ i, i < tn n → is_l (sgn p (tn n) i) = true)))), none] [.int (b2i (kn R s)), .int 15, .ref m]
    refine m_iload C d_Mo_landmark_61 rfl ?_
    refine m_iload C d_Mo_landmark_63 rfl ?_
    have jnr : ∀ xr : Int32, xr = b2i ((inn h 1 9999 && inn n 1 8 && decide (∀ i, i < tn n → is_l (sgn p (tn n) i) = true)) && !decide (∃ k, k < nL R ∧ lmL R k = sgns p (tn n) (tn n))) → mj G 8 0 0 M 83 [some (.ref m), some (.int s), some (.int h), some (.long p), none, some (.int n), some (.int (b2i (inn h 1 9999 && inn n 1 8 && decide (∀ i, i < tn n → is_l (sgn p (tn n) i) = true)))), none] [.int xr, .int (b2i (inn h 1 9999 && inn n 1 8 && decide (∀ i, i < tn n → is_l (sgn p (tn n) i) = true))), .int (b2i (kn R s)), .int 15, .ref m] := by
      intro xr hxr
      subst hxr
      refine m_aload_n C d_Mo_landmark_83 rfl rfl ?_
      refine m_get C fg_Mo_133 d_Mo_landmark_84 hM.1 rfl ?_
      rw [hLm]
      have jns : ∀ xs : Int32, xs = b2i (decide (nL R < 20)) → mj G 8 0 0 M 97 [some (.ref m), some (.int s), some (.int h), some (.long p), none, some (.int n), some (.int (b2i (inn h 1 9999 && inn n 1 8 && decide (∀ i, i < tn n → is_l (sgn p (tn n) i) = true)))), none] [.int xs, .int (b2i ((inn h 1 9999 && inn n 1 8 && decide (∀ i, i < tn n → is_l (sgn p (tn n) i) = true)) && !decide (∃ k, k < nL R ∧ lmL R k = sgns p (tn n) (tn n)))), .int (b2i (inn h 1 9999 && inn n 1 8 && decide (∀ i, i < tn n → is_l (sgn p (tn n) i) = true))), .int (b2i (kn R s)), .int 15, .ref m] := by
        intro xs hxs
        subst hxs
        refine m_callV (ci := 10) C d_Mo_landmark_97 mw_Mo_110 mi_Mo_goes se_Mo_goes rfl (ct_Mo_goes _ _ _ R m mr 15 (kn R s) ((inn h 1 9999 && inn n 1 8 && decide (∀ i, i < tn n → is_l (sgn p (tn n) i) = true))) (((inn h 1 9999 && inn n 1 8 && decide (∀ i, i < tn n → is_l (sgn p (tn n) i) = true)) && !decide (∃ k, k < nL R ∧ lmL R k = sgns p (tn n) (tn n)))) (decide (nL R < 20)) M hM) (fun q h => hw q h) rfl rfl (Nat.le_of_ble_eq_true rfl) hM.1 (by decide) (fun v9 Mg hp g5 g6 => ?_)
        obtain ⟨rfl, hMg⟩ := hp
        show mj G 8 0 0 Mg 100 [some (.ref m), some (.int s), some (.int h), some (.long p), none, some (.int n), some (.int (b2i (inn h 1 9999 && inn n 1 8 && decide (∀ i, i < tn n → is_l (sgn p (tn n) i) = true)))), none] [.int (b2i (decide ((gbN (kn R s) ((inn h 1 9999 && inn n 1 8 && decide (∀ i, i < tn n → is_l (sgn p (tn n) i) = true))) (((inn h 1 9999 && inn n 1 8 && decide (∀ i, i < tn n → is_l (sgn p (tn n) i) = true)) && !decide (∃ k, k < nL R ∧ lmL R k = sgns p (tn n) (tn n)))) (decide (nL R < 20))) = 0)))]
        refine m_if_ne (tgt := 105) C d_Mo_landmark_100 (by decide) (fun hgo => ?_) (fun hgo => ?_)
        · rw [b2i_ne0, decide_eq_true_eq] at hgo
          have hMg0 : RepM (uR R 0 0 0) m mr Mg := by rw [hgo] at hMg; exact hMg
          obtain ⟨hp9, hq9, hr9, hs9⟩ := gbN_0 hgo
          obtain ⟨Rg, hRg⟩ : ∃ Rg, Rg = uR R 0 0 0 := ⟨_, rfl⟩
          have hg : ∀ f, f ≠ 0 → Rg f = R f := fun f hf => by rw [hRg, uR_n hf]
          have hMr : RepM Rg m mr Mg := by rw [hRg]; exact hMg0
          rw [decide_eq_true_eq] at hs9
          rw [Bool.and_eq_true, Bool.and_eq_true] at hq9
          obtain ⟨n8, hn8, rfl, htn⟩ := inn18 hq9.1.2
          refine m_aload_n C d_Mo_landmark_105 rfl rfl ?_
          refine m_get C fg_Mo_53 d_Mo_landmark_106 hMr.1 rfl ?_
          refine m_aload_n C d_Mo_landmark_109 rfl rfl ?_
          refine m_get C fg_Mo_133 d_Mo_landmark_110 hMr.1 rfl ?_
          have q9_1 : Rg 16 = R 16 := by rw [hg 16 (by decide)]
          rw [q9_1, hLm]
          refine m_iload_n C d_Mo_landmark_113 rfl rfl ?_
          refine m_iastE C d_Mo_landmark_114 (hw _ (Or.inr ⟨17, by decide, rfl⟩)) (hMr.a17) kt_int (nI_pos (by omega)) (by rw [nI_clamp (by omega), arrL_len]; omega) (fun M1 M1a9 M1o => ?_)
          rw [nI_clamp (by omega), arrL_set] at M1a9
          obtain ⟨R1, hR1⟩ : ∃ R1, R1 = uR Rg 17 (nL R) s := ⟨_, rfl⟩
          have hM1 : RepM R1 m mr M1 := by rw [hR1]; exact hMr.set (k := 17) (by decide) (by decide) M1a9 M1o
          refine m_aload_n C d_Mo_landmark_115 rfl rfl ?_
          refine m_get C fg_Mo_56 d_Mo_landmark_116 hM1.1 rfl ?_
          refine m_aload_n C d_Mo_landmark_119 rfl rfl ?_
          refine m_get C fg_Mo_133 d_Mo_landmark_120 hM1.1 rfl ?_
          have q9_2 : R1 16 = R 16 := by rw [hR1, uR_n (by decide), hg 16 (by decide)]
          rw [q9_2, hLm]
          refine m_iload_n C d_Mo_landmark_123 rfl rfl ?_
          refine m_iastE C d_Mo_landmark_124 (hw _ (Or.inr ⟨18, by decide, rfl⟩)) (hM1.a18) kt_int (nI_pos (by omega)) (by rw [nI_clamp (by omega), arrL_len]; omega) (fun M2 M2a9 M2o => ?_)
          rw [nI_clamp (by omega), arrL_set] at M2a9
          obtain ⟨R2, hR2⟩ : ∃ R2, R2 = uR R1 18 (nL R) h := ⟨_, rfl⟩
          have hM2 : RepM R2 m mr M2 := by rw [hR2]; exact hM1.set (k := 18) (by decide) (by decide) M2a9 M2o
          refine m_aload_n C d_Mo_landmark_125 rfl rfl ?_
          refine m_get C fg_Mo_59 d_Mo_landmark_126 hM2.1 rfl ?_
          refine m_aload_n C d_Mo_landmark_129 rfl rfl ?_
          refine m_get C fg_Mo_133 d_Mo_landmark_130 hM2.1 rfl ?_
          have q9_3 : R2 16 = R 16 := by rw [hR2, uR_n (by decide), hR1, uR_n (by decide), hg 16 (by decide)]
          rw [q9_3, hLm]
          refine m_iload C d_Mo_landmark_133 rfl ?_
          refine m_iastE C d_Mo_landmark_135 (hw _ (Or.inr ⟨19, by decide, rfl⟩)) (hM2.a19) kt_int (nI_pos (by omega)) (by rw [nI_clamp (by omega), arrL_len]; omega) (fun M3 M3a9 M3o => ?_)
          rw [nI_clamp (by omega), arrL_set] at M3a9
          obtain ⟨R3, hR3⟩ : ∃ R3, R3 = uR R2 19 (nL R) ((nI n8)) := ⟨_, rfl⟩
          have hM3 : RepM R3 m mr M3 := by rw [hR3]; exact hM2.set (k := 19) (by decide) (by decide) M3a9 M3o
          have q9_4 : R3 20 = R 20 := by rw [hR3, uR_n (by decide), hR2, uR_n (by decide), hR1, uR_n (by decide), hg 20 (by decide)]
          have q9_5 : R3 16 = R 16 := by rw [hR3, uR_n (by decide), hR2, uR_n (by decide), hR1, uR_n (by decide), hg 16 (by decide)]
          refine m_iconst (v := 0) C d_Mo_landmark_136 (by decide) ?_
          refine m_istore (L' := [some (.ref m), some (.int s), some (.int h), some (.long p), none, some (.int (nI n8)), some (.int (b2i (inn h 1 9999 && inn (nI n8) 1 8 && decide (∀ i, i < tn (nI n8) → is_l (sgn p (tn (nI n8)) i) = true)))), some (.int 0)]) C d_Mo_landmark_137 (by decide) rfl ?_
          have loop : ∀ (lq9 : Nat) (M4 : ma_H) (i : Nat), n8 - i = lq9 → i ≤ n8 → RepM (setF R3 20 (fa (R 20) (8 * nL R) p n8 i)) m mr M4 → mj G 8 0 0 M4 139 [some (.ref m), some (.int s), some (.int h), some (.long p), none, some (.int (nI n8)), some (.int (b2i (inn h 1 9999 && inn (nI n8) 1 8 && decide (∀ i, i < tn (nI n8) → is_l (sgn p (tn (nI n8)) i) = true)))), some (.int (nI i))] [] := by
            intro lq9
            induction lq9 using Nat.strongRecOn with
            | ind lq9 ih =>
              intro M4 i hr hi8 hM4
              have q9a : (setF R3 20 (fa (R 20) (8 * nL R) p n8 i)) 16 0 = nI (nL R) := by rw [setF_n (by decide), q9_5]; exact hLm
              refine m_iload C d_Mo_landmark_139 rfl ?_
              refine m_iload C d_Mo_landmark_141 rfl ?_
              have e1 : nI n8 ≤ nI i ↔ n8 ≤ i := nI_leI (by omega) (by omega)
              refine m_icmp_ge (tgt := 175) C d_Mo_landmark_143 (by decide) (fun h9 => ?_) (fun h9 => ?_)
              · rw [e1] at h9
                obtain rfl : n8 = i := by omega
                refine m_aload_n C d_Mo_landmark_175 rfl rfl ?_
                refine m_dup C d_Mo_landmark_176 rfl ?_
                refine m_get C fg_Mo_133 d_Mo_landmark_177 hM4.1 rfl ?_
                rw [q9a]
                refine m_iconst (v := 1) C d_Mo_landmark_180 (by decide) ?_
                refine m_iadd C d_Mo_landmark_181 ?_
                rw [nI_1]
                refine m_putE C fp_Mo_133 d_Mo_landmark_182 (hw _ (Or.inl rfl)) hM4.1 rfl rfl (fun M5 M5a9 M5o => ?_)
                obtain ⟨R5, hR5⟩ : ∃ R5, R5 = uR ((setF R3 20 (fa (R 20) (8 * nL R) p n8 n8))) 16 0 ((nI (nL R + 1))) := ⟨_, rfl⟩
                have hM5 : RepM R5 m mr M5 := by rw [hR5]; exact hM4.put16 M5a9 M5o
                refine m_aload_n C d_Mo_landmark_185 rfl rfl ?_
                refine m_iconst (v := 0) C d_Mo_landmark_186 (by decide) ?_
                refine m_putE C fp_Mo_114 d_Mo_landmark_187 (hw _ (Or.inl rfl)) hM5.1 rfl rfl (fun M6 M6a9 M6o => ?_)
                obtain ⟨R6, hR6⟩ : ∃ R6, R6 = uR R5 28 0 0 := ⟨_, rfl⟩
                have hM6 : RepM R6 m mr M6 := by rw [hR6]; exact hM5.put28 M6a9 M6o
                refine m_aload_n C d_Mo_landmark_190 rfl rfl ?_
                refine m_get C fg_Mo_133 d_Mo_landmark_191 hM6.1 rfl ?_
                rw [show R6 16 0 = nI (nL R + 1) by rw [hR6, uR_n (by decide), hR5, uR_s, fu_s]]
                refine m_iconst (v := 1) C d_Mo_landmark_194 (by decide) ?_
                refine m_isub C d_Mo_landmark_195 ?_
                rw [nI_sub1 (by omega)]
                exact Rt _ _ _ _ _ _ (by decide) (by decide) d_Mo_landmark_196 (⟨fun _ => ⟨rfl, by rw [htn, ← hRg, ← hR1, ← hR2, ← hR3, ← hR5, ← hR6]; exact hM6⟩, fun z => absurd hgo z⟩)
              · rw [e1] at h9
                refine m_aload_n C d_Mo_landmark_146 rfl rfl ?_
                refine m_get C fg_Mo_62 d_Mo_landmark_147 hM4.1 rfl ?_
                refine m_aload_n C d_Mo_landmark_150 rfl rfl ?_
                refine m_get C fg_Mo_133 d_Mo_landmark_151 hM4.1 rfl ?_
                rw [q9a]
                refine m_bipush (v := 8) C d_Mo_landmark_154 (by decide) ?_
                refine m_imul C d_Mo_landmark_156 ?_
                rw [show nI (nL R) * 8 = nI (8 * nL R) by rw [show (8 : Int32) = nI 8 from rfl, nI_mul, Nat.mul_comm]]
                refine m_iload C d_Mo_landmark_157 rfl ?_
                refine m_iadd C d_Mo_landmark_159 ?_
                rw [nI_add]
                refine m_lload_n C d_Mo_landmark_160 rfl rfl ?_
                refine m_iload C d_Mo_landmark_161 rfl ?_
                refine m_iload C d_Mo_landmark_163 rfl ?_
                refine m_callS C d_Mo_landmark_165 mw_Mo_106 mst_Mo_byteOf (ct_Mo_byteOf _ _ _ p n8 i hn8 (by omega) M4) (fun _ h => h.elim) rfl rfl (Nat.le_of_ble_eq_true rfl) (by decide) (fun v9 M9 hp h5 h6 => ?_)
                obtain ⟨rfl, hM9⟩ := hp; rw [hM9]
                show mj G 8 0 0 M4 168 [some (.ref m), some (.int s), some (.int h), some (.long p), none, some (.int (nI n8)), some (.int (b2i (inn h 1 9999 && inn (nI n8) 1 8 && decide (∀ i, i < tn (nI n8) → is_l (sgn p (tn (nI n8)) i) = true)))), some (.int (nI i))] [.int (sgn p n8 i), .int (nI (8 * nL R + i)), .ref (mr 20)]
                refine m_iastE C d_Mo_landmark_168 (hw _ (Or.inr ⟨20, by decide, rfl⟩)) (hM4.a20) kt_int (nI_pos (by omega)) (by rw [nI_clamp (by omega), arrL_len]; omega) (fun M5 M5a9 M5o => ?_)
                rw [nI_clamp (by omega), arrL_set] at M5a9
                obtain ⟨R5, hR5⟩ : ∃ R5, R5 = uR ((setF R3 20 (fa (R 20) (8 * nL R) p n8 i))) 20 (8 * nL R + i) ((sgn p n8 i)) := ⟨_, rfl⟩
                have hM5 : RepM R5 m mr M5 := by rw [hR5]; exact hM4.set (k := 20) (by decide) (by decide) M5a9 M5o
                refine m_iinc (v := (nI (i + 1))) (L' := [some (.ref m), some (.int s), some (.int h), some (.long p), none, some (.int (nI n8)), some (.int (b2i (inn h 1 9999 && inn (nI n8) 1 8 && decide (∀ i, i < tn (nI n8) → is_l (sgn p (tn (nI n8)) i) = true)))), some (.int (nI (i + 1)))]) C d_Mo_landmark_169 rfl (nI_1 i) (by decide) rfl ?_
                refine m_goto (tgt := 139) C d_Mo_landmark_172 (by decide) ?_
                exact ih (n8 - (i + 1)) (by omega) M5 (i + 1) rfl (by omega) (by rw [← fa_s, ← uR_setF, ← hR5]; exact hM5)
          exact loop _ M3 0 rfl (Nat.zero_le _) (by rw [fa_0, ← q9_4, setF_id]; exact hM3)
        · rw [b2i_eq0, decide_eq_false_iff_not] at hgo
          refine m_iconst (v := 0) C d_Mo_landmark_103 (by decide) ?_
          exact Rt _ _ _ _ _ _ (by decide) (by decide) d_Mo_landmark_104 (⟨fun z => absurd z hgo, fun _ => ⟨rfl, hMg⟩⟩)
      refine m_bipush (v := 20) C d_Mo_landmark_87 (by decide) ?_
      have e1 : (20 : Int32) ≤ nI (nL R) ↔ ¬ nL R < 20 := by rw [show (20 : Int32) = nI 20 from rfl, nI_leI (by decide) (by omega)]; omega
      refine m_icmp_ge (tgt := 96) C d_Mo_landmark_89 (by decide) (fun h9 => ?_) (fun h9 => ?_)
      · refine m_iconst (v := 0) C d_Mo_landmark_96 (by decide) ?_
        exact jns _ (by rw [decide_eq_false (e1.mp h9)]; rfl)
      · refine m_iconst (v := 1) C d_Mo_landmark_92 (by decide) ?_
        refine m_goto (tgt := 97) C d_Mo_landmark_93 (by decide) ?_
        exact jns _ (by rw [decide_eq_true (Classical.not_not.mp (fun q => h9 (e1.mpr q)))]; rfl)
    refine m_if_eq (tgt := 82) C d_Mo_landmark_65 (by decide) (fun h9 => ?_) (fun h9 => ?_)
    · refine m_iconst (v := 0) C d_Mo_landmark_82 (by decide) ?_
      exact jnr _ (by rw [b2i_eq0] at h9; rw [h9]; rfl)
    · rw [b2i_eq0, Bool.not_eq_false] at h9
      have h9a := h9
      rw [Bool.and_eq_true, Bool.and_eq_true] at h9a
      obtain ⟨n8, hn8, hnn, htn⟩ := inn18 h9a.1.2
      refine m_aload_n C d_Mo_landmark_68 rfl rfl ?_
      refine m_lload_n C d_Mo_landmark_69 rfl rfl ?_
      refine m_iload C d_Mo_landmark_70 rfl ?_
      rw [hnn]
      refine m_callV (ci := 10) C d_Mo_landmark_72 mw_Mo_136 mi_Mo_hasMark se_Mo_hasMark rfl (ct_Mo_hasMark _ _ _ R m mr p n8 hn8 M hM hwf) (fun _ h => h.elim) rfl rfl (Nat.le_of_ble_eq_true rfl) hM.1 (by decide) (fun v9 M9 hp h5 h6 => ?_)
      obtain ⟨rfl, hM9⟩ := hp; rw [hM9]
      show mj G 8 0 0 M 75 [some (.ref m), some (.int s), some (.int h), some (.long p), none, some (.int (nI n8)), some (.int (b2i (inn h 1 9999 && inn (nI n8) 1 8 && decide (∀ i, i < tn (nI n8) → is_l (sgn p (tn (nI n8)) i) = true)))), none] [.int (b2i (decide (∃ k, k < nL R ∧ lmL R k = sgns p n8 n8))), .int (b2i (inn h 1 9999 && inn (nI n8) 1 8 && decide (∀ i, i < tn (nI n8) → is_l (sgn p (tn (nI n8)) i) = true))), .int (b2i (kn R s)), .int 15, .ref m]
      rw [hnn] at jnr h9 htn
      refine m_if_ne (tgt := 82) C d_Mo_landmark_75 (by decide) (fun h8 => ?_) (fun h8 => ?_)
      · refine m_iconst (v := 0) C d_Mo_landmark_82 (by decide) ?_
        exact jnr _ (by rw [b2i_ne0] at h8; rw [h9, htn, h8]; rfl)
      · refine m_iconst (v := 1) C d_Mo_landmark_78 (by decide) ?_
        refine m_goto (tgt := 83) C d_Mo_landmark_79 (by decide) ?_
        exact jnr _ (by rw [b2i_eq0] at h8; rw [h9, htn, h8]; rfl)
  refine m_iload_n C d_Mo_landmark_0 rfl rfl ?_
  refine m_iconst (v := 1) C d_Mo_landmark_1 (by decide) ?_
  refine m_sipush (v := 9999) C d_Mo_landmark_2 (by decide) ?_
  refine m_callS C d_Mo_landmark_5 mw_Mo_102 mst_Mo_in (ct_Mo_in _ _ _ h 1 9999 M) (fun _ h => h.elim) rfl rfl (Nat.le_of_ble_eq_true rfl) (by decide) (fun v9 M9 hp h5 h6 => ?_)
  obtain ⟨rfl, hM9⟩ := hp; rw [hM9]
  show mj G 8 0 0 M 8 [some (.ref m), some (.int s), some (.int h), some (.long p), none, some (.int n), none, none] [.int (b2i (inn h 1 9999))]
  refine m_if_eq (tgt := 50) C d_Mo_landmark_8 (by decide) (fun c1 => ?_) (fun c1 => ?_)
  · refine m_iconst (v := 0) C d_Mo_landmark_50 (by decide) ?_
    exact jnq _ (by rw [b2i_eq0] at c1; rw [c1]; rfl)
  · rw [b2i_eq0, Bool.not_eq_false] at c1
    refine m_iload C d_Mo_landmark_11 rfl ?_
    refine m_iconst (v := 1) C d_Mo_landmark_13 (by decide) ?_
    refine m_bipush (v := 8) C d_Mo_landmark_14 (by decide) ?_
    refine m_callS C d_Mo_landmark_16 mw_Mo_102 mst_Mo_in (ct_Mo_in _ _ _ n 1 8 M) (fun _ h => h.elim) rfl rfl (Nat.le_of_ble_eq_true rfl) (by decide) (fun v9 M9 hp h5 h6 => ?_)
    obtain ⟨rfl, hM9⟩ := hp; rw [hM9]
    show mj G 8 0 0 M 19 [some (.ref m), some (.int s), some (.int h), some (.long p), none, some (.int n), none, none] [.int (b2i (inn n 1 8))]
    refine m_if_eq (tgt := 50) C d_Mo_landmark_19 (by decide) (fun c2 => ?_) (fun c2 => ?_)
    · refine m_iconst (v := 0) C d_Mo_landmark_50 (by decide) ?_
      exact jnq _ (by rw [b2i_eq0] at c2; rw [c1, c2]; rfl)
    · rw [b2i_eq0, Bool.not_eq_false] at c2
      refine m_lload_n C d_Mo_landmark_22 rfl rfl ?_
      refine m_iload C d_Mo_landmark_23 rfl ?_
      refine m_iconst (v := 1) C d_Mo_landmark_25 (by decide) ?_
      refine m_bipush (v := 8) C d_Mo_landmark_26 (by decide) ?_
      refine m_callS C d_Mo_landmark_28 mw_Mo_102 mst_Mo_in (ct_Mo_in _ _ _ n 1 8 M) (fun _ h => h.elim) rfl rfl (Nat.le_of_ble_eq_true rfl) (by decide) (fun v9 M9 hp h5 h6 => ?_)
      obtain ⟨rfl, hM9⟩ := hp; rw [hM9]
      show mj G 8 0 0 M 31 [some (.ref m), some (.int s), some (.int h), some (.long p), none, some (.int n), none, none] [.int (b2i (inn n 1 8)), .long p]
      refine m_if_eq (tgt := 39) C d_Mo_landmark_31 (by decide) (fun c3 => ?_) (fun c3 => ?_)
      · rw [b2i_eq0, c2] at c3; cases c3
      · obtain ⟨n8, hn8, hnn, htn⟩ := inn18 c2
        refine m_iload C d_Mo_landmark_34 rfl ?_
        refine m_goto (tgt := 40) C d_Mo_landmark_36 (by decide) ?_
        rw [hnn]
        refine m_callS C d_Mo_landmark_40 mw_Mo_121 mst_Mo_areLetters (ct_Mo_areLetters _ _ _ p n8 hn8 M) (fun _ h => h.elim) rfl rfl (Nat.le_of_ble_eq_true rfl) (by decide) (fun v9 M9 hp h5 h6 => ?_)
        obtain ⟨rfl, hM9⟩ := hp; rw [hM9]
        show mj G 8 0 0 M 43 [some (.ref m), some (.int s), some (.int h), some (.long p), none, some (.int (nI n8)), none, none] [.int (b2i (decide (∀ i, i < n8 → is_l (sgn p n8 i) = true)))]
        rw [hnn] at jnq c2 htn
        refine m_if_eq (tgt := 50) C d_Mo_landmark_43 (by decide) (fun c4 => ?_) (fun c4 => ?_)
        · refine m_iconst (v := 0) C d_Mo_landmark_50 (by decide) ?_
          exact jnq _ (by rw [b2i_eq0] at c4; rw [c1, c2, htn, c4]; rfl)
        · refine m_iconst (v := 1) C d_Mo_landmark_46 (by decide) ?_
          refine m_goto (tgt := 51) C d_Mo_landmark_47 (by decide) ?_
          exact jnq _ (by rw [b2i_eq0, Bool.not_eq_false] at c4; rw [c1, c2, htn, c4]; rfl)
