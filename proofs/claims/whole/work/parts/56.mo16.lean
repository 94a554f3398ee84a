/-! ===== the model's beginning ===== -/
set_option maxHeartbeats 4000000 in
set_option maxRecDepth 100000 in
theorem ct_Mo_init (l : Launch) (D : ma_D) (s0 : State) (x : Nat) (M : ma_H) (hx : M x = some (.inl (10, [.int 0, .int 0, .null, .null, .null, .null, .null, .null, .null, .null, .null, .null, .null, .null, .null, .null, .int 0, .null, .null, .null, .null, .int 0, .null, .null, .null, .null, .int 0, .null, .int 0, .null, .null, .int 0, .null, .null, .null]))) : Ct l D s0 y_Mo_init c_Mo_init 1 none 1 28 3573 20 [.ref x] M (fun q => q = x) (fun r M' => r = none ∧ ∃ mr : Nat → Nat, RepM (fun _ _ => 0) x mr M' ∧ ∀ k, mln k ≠ 0 → M (mr k) = none) := by
  refine Ct_v 0 [some (.ref x)] (by decide +kernel) (Nat.le_of_ble_eq_true rfl) rfl ?_
  intro G e1 e2 e3 C hw hI Rt
  subst e1; subst e2; subst e3
  refine m_aload_n C d_Mo_init_0 rfl rfl ?_
  refine m_obj C d_Mo_init_1 ml_Mo_1 mi_obj mc_obj (by decide) (Nat.le_of_ble_eq_true rfl) ?_
  have N0 : ∀ q, M q = none → M q = none := fun _ h => h
  refine m_aload_n C d_Mo_init_4 rfl rfl ?_
  refine m_bipush (v := 30) C d_Mo_init_5 (by decide) ?_
  refine m_newaE (N := 30) C d_Mo_init_7 rfl kt_int ac_int (fun _ h => by cases h) (by decide) (by decide) (by decide) (Nat.le_of_ble_eq_true rfl) (Nat.le_of_ble_eq_true rfl) (fun a2 A2 A2n A2w A2a0 A2o => ?_)
  have A2_x : A2 x = some (.inl (10, [.int 0, .int 0, .null, .null, .null, .null, .null, .null, .null, .null, .null, .null, .null, .null, .null, .null, .int 0, .null, .null, .null, .null, .int 0, .null, .null, .null, .null, .int 0, .null, .int 0, .null, .null, .int 0, .null, .null, .null])) := (A2o x (ma_nef hx A2n)).trans hx
  have A2_a2 : A2 a2 = some (.inr (.int, List.replicate 30 (.int 0))) := A2a0
  have F2 : M a2 = none := N0 _ A2n
  have N1 : ∀ q, A2 q = none → M q = none := fun q h => N0 q (nn_new A2a0 A2o q h)
  refine m_putFE C (hI rfl) fp_Mo_7 d_Mo_init_9 (hw _ rfl) A2_x rfl rfl (fun B2 B2a0 B2o => ?_)
  have B2_a2 : B2 a2 = some (.inr (.int, List.replicate 30 (.int 0))) := (B2o a2 (Ne.symm (ma_ne2 A2_x A2_a2))).trans A2_a2
  have B2_x : B2 x = some (.inl (10, [.int 0, .int 0, .ref a2, .null, .null, .null, .null, .null, .null, .null, .null, .null, .null, .null, .null, .null, .int 0, .null, .null, .null, .null, .int 0, .null, .null, .null, .null, .int 0, .null, .int 0, .null, .null, .int 0, .null, .null, .null])) := B2a0
  have N2 : ∀ q, B2 q = none → M q = none := fun q h => N1 q (nn_new B2a0 B2o q h)
  refine m_aload_n C d_Mo_init_12 rfl rfl ?_
  refine m_bipush (v := 30) C d_Mo_init_13 (by decide) ?_
  refine m_newaE (N := 30) C d_Mo_init_15 rfl kt_bool ac_boolean (fun _ h => by cases h) (by decide) (by decide) (by decide) (Nat.le_of_ble_eq_true rfl) (Nat.le_of_ble_eq_true rfl) (fun a3 A3 A3n A3w A3a0 A3o => ?_)
  have A3_a2 : A3 a2 = some (.inr (.int, List.replicate 30 (.int 0))) := (A3o a2 (ma_nef B2_a2 A3n)).trans B2_a2
  have A3_x : A3 x = some (.inl (10, [.int 0, .int 0, .ref a2, .null, .null, .null, .null, .null, .null, .null, .null, .null, .null, .null, .null, .null, .int 0, .null, .null, .null, .null, .int 0, .null, .null, .null, .null, .int 0, .null, .int 0, .null, .null, .int 0, .null, .null, .null])) := (A3o x (ma_nef B2_x A3n)).trans B2_x
  have A3_a3 : A3 a3 = some (.inr (.boolean, List.replicate 30 (.int 0))) := A3a0
  have F3 : M a3 = none := N2 _ A3n
  have N3 : ∀ q, A3 q = none → M q = none := fun q h => N2 q (nn_new A3a0 A3o q h)
  refine m_putFE C (hI rfl) fp_Mo_13 d_Mo_init_17 (hw _ rfl) A3_x rfl rfl (fun B3 B3a0 B3o => ?_)
  have B3_a2 : B3 a2 = some (.inr (.int, List.replicate 30 (.int 0))) := (B3o a2 (Ne.symm (ma_ne2 A3_x A3_a2))).trans A3_a2
  have B3_a3 : B3 a3 = some (.inr (.boolean, List.replicate 30 (.int 0))) := (B3o a3 (Ne.symm (ma_ne2 A3_x A3_a3))).trans A3_a3
  have B3_x : B3 x = some (.inl (10, [.int 0, .int 0, .ref a2, .ref a3, .null, .null, .null, .null, .null, .null, .null, .null, .null, .null, .null, .null, .int 0, .null, .null, .null, .null, .int 0, .null, .null, .null, .null, .int 0, .null, .int 0, .null, .null, .int 0, .null, .null, .null])) := B3a0
  have N4 : ∀ q, B3 q = none → M q = none := fun q h => N3 q (nn_new B3a0 B3o q h)
  refine m_aload_n C d_Mo_init_20 rfl rfl ?_
  refine m_bipush (v := 30) C d_Mo_init_21 (by decide) ?_
  refine m_newaE (N := 30) C d_Mo_init_23 rfl kt_int ac_int (fun _ h => by cases h) (by decide) (by decide) (by decide) (Nat.le_of_ble_eq_true rfl) (Nat.le_of_ble_eq_true rfl) (fun a4 A4 A4n A4w A4a0 A4o => ?_)
  have A4_a2 : A4 a2 = some (.inr (.int, List.replicate 30 (.int 0))) := (A4o a2 (ma_nef B3_a2 A4n)).trans B3_a2
  have A4_a3 : A4 a3 = some (.inr (.boolean, List.replicate 30 (.int 0))) := (A4o a3 (ma_nef B3_a3 A4n)).trans B3_a3
  have A4_x : A4 x = some (.inl (10, [.int 0, .int 0, .ref a2, .ref a3, .null, .null, .null, .null, .null, .null, .null, .null, .null, .null, .null, .null, .int 0, .null, .null, .null, .null, .int 0, .null, .null, .null, .null, .int 0, .null, .int 0, .null, .null, .int 0, .null, .null, .null])) := (A4o x (ma_nef B3_x A4n)).trans B3_x
  have A4_a4 : A4 a4 = some (.inr (.int, List.replicate 30 (.int 0))) := A4a0
  have F4 : M a4 = none := N4 _ A4n
  have N5 : ∀ q, A4 q = none → M q = none := fun q h => N4 q (nn_new A4a0 A4o q h)
  refine m_putFE C (hI rfl) fp_Mo_17 d_Mo_init_25 (hw _ rfl) A4_x rfl rfl (fun B4 B4a0 B4o => ?_)
  have B4_a2 : B4 a2 = some (.inr (.int, List.replicate 30 (.int 0))) := (B4o a2 (Ne.symm (ma_ne2 A4_x A4_a2))).trans A4_a2
  have B4_a3 : B4 a3 = some (.inr (.boolean, List.replicate 30 (.int 0))) := (B4o a3 (Ne.symm (ma_ne2 A4_x A4_a3))).trans A4_a3
  have B4_a4 : B4 a4 = some (.inr (.int, List.replicate 30 (.int 0))) := (B4o a4 (Ne.symm (ma_ne2 A4_x A4_a4))).trans A4_a4
  have B4_x : B4 x = some (.inl (10, [.int 0, .int 0, .ref a2, .ref a3, .ref a4, .null, .null, .null, .null, .null, .null, .null, .null, .null, .null, .null, .int 0, .null, .null, .null, .null, .int 0, .null, .null, .null, .null, .int 0, .null, .int 0, .null, .null, .int 0, .null, .null, .null])) := B4a0
  have N6 : ∀ q, B4 q = none → M q = none := fun q h => N5 q (nn_new B4a0 B4o q h)
  refine m_aload_n C d_Mo_init_28 rfl rfl ?_
  refine m_bipush (v := 90) C d_Mo_init_29 (by decide) ?_
  refine m_newaE (N := 90) C d_Mo_init_31 rfl kt_int ac_int (fun _ h => by cases h) (by decide) (by decide) (by decide) (Nat.le_of_ble_eq_true rfl) (Nat.le_of_ble_eq_true rfl) (fun a5 A5 A5n A5w A5a0 A5o => ?_)
  have A5_a2 : A5 a2 = some (.inr (.int, List.replicate 30 (.int 0))) := (A5o a2 (ma_nef B4_a2 A5n)).trans B4_a2
  have A5_a3 : A5 a3 = some (.inr (.boolean, List.replicate 30 (.int 0))) := (A5o a3 (ma_nef B4_a3 A5n)).trans B4_a3
  have A5_a4 : A5 a4 = some (.inr (.int, List.replicate 30 (.int 0))) := (A5o a4 (ma_nef B4_a4 A5n)).trans B4_a4
  have A5_x : A5 x = some (.inl (10, [.int 0, .int 0, .ref a2, .ref a3, .ref a4, .null, .null, .null, .null, .null, .null, .null, .null, .null, .null, .null, .int 0, .null, .null, .null, .null, .int 0, .null, .null, .null, .null, .int 0, .null, .int 0, .null, .null, .int 0, .null, .null, .null])) := (A5o x (ma_nef B4_x A5n)).trans B4_x
  have A5_a5 : A5 a5 = some (.inr (.int, List.replicate 90 (.int 0))) := A5a0
  have F5 : M a5 = none := N6 _ A5n
  have N7 : ∀ q, A5 q = none → M q = none := fun q h => N6 q (nn_new A5a0 A5o q h)
  refine m_putFE C (hI rfl) fp_Mo_20 d_Mo_init_33 (hw _ rfl) A5_x rfl rfl (fun B5 B5a0 B5o => ?_)
  have B5_a2 : B5 a2 = some (.inr (.int, List.replicate 30 (.int 0))) := (B5o a2 (Ne.symm (ma_ne2 A5_x A5_a2))).trans A5_a2
  have B5_a3 : B5 a3 = some (.inr (.boolean, List.replicate 30 (.int 0))) := (B5o a3 (Ne.symm (ma_ne2 A5_x A5_a3))).trans A5_a3
  have B5_a4 : B5 a4 = some (.inr (.int, List.replicate 30 (.int 0))) := (B5o a4 (Ne.symm (ma_ne2 A5_x A5_a4))).trans A5_a4
  have B5_a5 : B5 a5 = some (.inr (.int, List.replicate 90 (.int 0))) := (B5o a5 (Ne.symm (ma_ne2 A5_x A5_a5))).trans A5_a5
  have B5_x : B5 x = some (.inl (10, [.int 0, .int 0, .ref a2, .ref a3, .ref a4, .ref a5, .null, .null, .null, .null, .null, .null, .null, .null, .null, .null, .int 0, .null, .null, .null, .null, .int 0, .null, .null, .null, .null, .int 0, .null, .int 0, .null, .null, .int 0, .null, .null, .null])) := B5a0
  have N8 : ∀ q, B5 q = none → M q = none := fun q h => N7 q (nn_new B5a0 B5o q h)
  refine m_aload_n C d_Mo_init_36 rfl rfl ?_
  refine m_sipush (v := 1440) C d_Mo_init_37 (by decide) ?_
  refine m_newaE (N := 1440) C d_Mo_init_40 rfl kt_int ac_int (fun _ h => by cases h) (by decide) (by decide) (by decide) (Nat.le_of_ble_eq_true rfl) (Nat.le_of_ble_eq_true rfl) (fun a6 A6 A6n A6w A6a0 A6o => ?_)
  have A6_a2 : A6 a2 = some (.inr (.int, List.replicate 30 (.int 0))) := (A6o a2 (ma_nef B5_a2 A6n)).trans B5_a2
  have A6_a3 : A6 a3 = some (.inr (.boolean, List.replicate 30 (.int 0))) := (A6o a3 (ma_nef B5_a3 A6n)).trans B5_a3
  have A6_a4 : A6 a4 = some (.inr (.int, List.replicate 30 (.int 0))) := (A6o a4 (ma_nef B5_a4 A6n)).trans B5_a4
  have A6_a5 : A6 a5 = some (.inr (.int, List.replicate 90 (.int 0))) := (A6o a5 (ma_nef B5_a5 A6n)).trans B5_a5
  have A6_x : A6 x = some (.inl (10, [.int 0, .int 0, .ref a2, .ref a3, .ref a4, .ref a5, .null, .null, .null, .null, .null, .null, .null, .null, .null, .null, .int 0, .null, .null, .null, .null, .int 0, .null, .null, .null, .null, .int 0, .null, .int 0, .null, .null, .int 0, .null, .null, .null])) := (A6o x (ma_nef B5_x A6n)).trans B5_x
  have A6_a6 : A6 a6 = some (.inr (.int, List.replicate 1440 (.int 0))) := A6a0
  have F6 : M a6 = none := N8 _ A6n
  have N9 : ∀ q, A6 q = none → M q = none := fun q h => N8 q (nn_new A6a0 A6o q h)
  refine m_putFE C (hI rfl) fp_Mo_23 d_Mo_init_42 (hw _ rfl) A6_x rfl rfl (fun B6 B6a0 B6o => ?_)
  have B6_a2 : B6 a2 = some (.inr (.int, List.replicate 30 (.int 0))) := (B6o a2 (Ne.symm (ma_ne2 A6_x A6_a2))).trans A6_a2
  have B6_a3 : B6 a3 = some (.inr (.boolean, List.replicate 30 (.int 0))) := (B6o a3 (Ne.symm (ma_ne2 A6_x A6_a3))).trans A6_a3
  have B6_a4 : B6 a4 = some (.inr (.int, List.replicate 30 (.int 0))) := (B6o a4 (Ne.symm (ma_ne2 A6_x A6_a4))).trans A6_a4
  have B6_a5 : B6 a5 = some (.inr (.int, List.replicate 90 (.int 0))) := (B6o a5 (Ne.symm (ma_ne2 A6_x A6_a5))).trans A6_a5
  have B6_a6 : B6 a6 = some (.inr (.int, List.replicate 1440 (.int 0))) := (B6o a6 (Ne.symm (ma_ne2 A6_x A6_a6))).trans A6_a6
  have B6_x : B6 x = some (.inl (10, [.int 0, .int 0, .ref a2, .ref a3, .ref a4, .ref a5, .ref a6, .null, .null, .null, .null, .null, .null, .null, .null, .null, .int 0, .null, .null, .null, .null, .int 0, .null, .null, .null, .null, .int 0, .null, .int 0, .null, .null, .int 0, .null, .null, .null])) := B6a0
  have N10 : ∀ q, B6 q = none → M q = none := fun q h => N9 q (nn_new B6a0 B6o q h)
  refine m_aload_n C d_Mo_init_45 rfl rfl ?_
  refine m_bipush (v := 30) C d_Mo_init_46 (by decide) ?_
  refine m_newaE (N := 30) C d_Mo_init_48 rfl kt_int ac_int (fun _ h => by cases h) (by decide) (by decide) (by decide) (Nat.le_of_ble_eq_true rfl) (Nat.le_of_ble_eq_true rfl) (fun a7 A7 A7n A7w A7a0 A7o => ?_)
  have A7_a2 : A7 a2 = some (.inr (.int, List.replicate 30 (.int 0))) := (A7o a2 (ma_nef B6_a2 A7n)).trans B6_a2
  have A7_a3 : A7 a3 = some (.inr (.boolean, List.replicate 30 (.int 0))) := (A7o a3 (ma_nef B6_a3 A7n)).trans B6_a3
  have A7_a4 : A7 a4 = some (.inr (.int, List.replicate 30 (.int 0))) := (A7o a4 (ma_nef B6_a4 A7n)).trans B6_a4
  have A7_a5 : A7 a5 = some (.inr (.int, List.replicate 90 (.int 0))) := (A7o a5 (ma_nef B6_a5 A7n)).trans B6_a5
  have A7_a6 : A7 a6 = some (.inr (.int, List.replicate 1440 (.int 0))) := (A7o a6 (ma_nef B6_a6 A7n)).trans B6_a6
  have A7_x : A7 x = some (.inl (10, [.int 0, .int 0, .ref a2, .ref a3, .ref a4, .ref a5, .ref a6, .null, .null, .null, .null, .null, .null, .null, .null, .null, .int 0, .null, .null, .null, .null, .int 0, .null, .null, .null, .null, .int 0, .null, .int 0, .null, .null, .int 0, .null, .null, .null])) := (A7o x (ma_nef B6_x A7n)).trans B6_x
  have A7_a7 : A7 a7 = some (.inr (.int, List.replicate 30 (.int 0))) := A7a0
  have F7 : M a7 = none := N10 _ A7n
  have N11 : ∀ q, A7 q = none → M q = none := fun q h => N10 q (nn_new A7a0 A7o q h)
  refine m_putFE C (hI rfl) fp_Mo_26 d_Mo_init_50 (hw _ rfl) A7_x rfl rfl (fun B7 B7a0 B7o => ?_)
  have B7_a2 : B7 a2 = some (.inr (.int, List.replicate 30 (.int 0))) := (B7o a2 (Ne.symm (ma_ne2 A7_x A7_a2))).trans A7_a2
  have B7_a3 : B7 a3 = some (.inr (.boolean, List.replicate 30 (.int 0))) := (B7o a3 (Ne.symm (ma_ne2 A7_x A7_a3))).trans A7_a3
  have B7_a4 : B7 a4 = some (.inr (.int, List.replicate 30 (.int 0))) := (B7o a4 (Ne.symm (ma_ne2 A7_x A7_a4))).trans A7_a4
  have B7_a5 : B7 a5 = some (.inr (.int, List.replicate 90 (.int 0))) := (B7o a5 (Ne.symm (ma_ne2 A7_x A7_a5))).trans A7_a5
  have B7_a6 : B7 a6 = some (.inr (.int, List.replicate 1440 (.int 0))) := (B7o a6 (Ne.symm (ma_ne2 A7_x A7_a6))).trans A7_a6
  have B7_a7 : B7 a7 = some (.inr (.int, List.replicate 30 (.int 0))) := (B7o a7 (Ne.symm (ma_ne2 A7_x A7_a7))).trans A7_a7
  have B7_x : B7 x = some (.inl (10, [.int 0, .int 0, .ref a2, .ref a3, .ref a4, .ref a5, .ref a6, .ref a7, .null, .null, .null, .null, .null, .null, .null, .null, .int 0, .null, .null, .null, .null, .int 0, .null, .null, .null, .null, .int 0, .null, .int 0, .null, .null, .int 0, .null, .null, .null])) := B7a0
  have N12 : ∀ q, B7 q = none → M q = none := fun q h => N11 q (nn_new B7a0 B7o q h)
  refine m_aload_n C d_Mo_init_53 rfl rfl ?_
  refine m_sipush (v := 180) C d_Mo_init_54 (by decide) ?_
  refine m_newaE (N := 180) C d_Mo_init_57 rfl kt_int ac_int (fun _ h => by cases h) (by decide) (by decide) (by decide) (Nat.le_of_ble_eq_true rfl) (Nat.le_of_ble_eq_true rfl) (fun a8 A8 A8n A8w A8a0 A8o => ?_)
  have A8_a2 : A8 a2 = some (.inr (.int, List.replicate 30 (.int 0))) := (A8o a2 (ma_nef B7_a2 A8n)).trans B7_a2
  have A8_a3 : A8 a3 = some (.inr (.boolean, List.replicate 30 (.int 0))) := (A8o a3 (ma_nef B7_a3 A8n)).trans B7_a3
  have A8_a4 : A8 a4 = some (.inr (.int, List.replicate 30 (.int 0))) := (A8o a4 (ma_nef B7_a4 A8n)).trans B7_a4
  have A8_a5 : A8 a5 = some (.inr (.int, List.replicate 90 (.int 0))) := (A8o a5 (ma_nef B7_a5 A8n)).trans B7_a5
  have A8_a6 : A8 a6 = some (.inr (.int, List.replicate 1440 (.int 0))) := (A8o a6 (ma_nef B7_a6 A8n)).trans B7_a6
  have A8_a7 : A8 a7 = some (.inr (.int, List.replicate 30 (.int 0))) := (A8o a7 (ma_nef B7_a7 A8n)).trans B7_a7
  have A8_x : A8 x = some (.inl (10, [.int 0, .int 0, .ref a2, .ref a3, .ref a4, .ref a5, .ref a6, .ref a7, .null, .null, .null, .null, .null, .null, .null, .null, .int 0, .null, .null, .null, .null, .int 0, .null, .null, .null, .null, .int 0, .null, .int 0, .null, .null, .int 0, .null, .null, .null])) := (A8o x (ma_nef B7_x A8n)).trans B7_x
  have A8_a8 : A8 a8 = some (.inr (.int, List.replicate 180 (.int 0))) := A8a0
  have F8 : M a8 = none := N12 _ A8n
  have N13 : ∀ q, A8 q = none → M q = none := fun q h => N12 q (nn_new A8a0 A8o q h)
  refine m_putFE C (hI rfl) fp_Mo_29 d_Mo_init_59 (hw _ rfl) A8_x rfl rfl (fun B8 B8a0 B8o => ?_)
  have B8_a2 : B8 a2 = some (.inr (.int, List.replicate 30 (.int 0))) := (B8o a2 (Ne.symm (ma_ne2 A8_x A8_a2))).trans A8_a2
  have B8_a3 : B8 a3 = some (.inr (.boolean, List.replicate 30 (.int 0))) := (B8o a3 (Ne.symm (ma_ne2 A8_x A8_a3))).trans A8_a3
  have B8_a4 : B8 a4 = some (.inr (.int, List.replicate 30 (.int 0))) := (B8o a4 (Ne.symm (ma_ne2 A8_x A8_a4))).trans A8_a4
  have B8_a5 : B8 a5 = some (.inr (.int, List.replicate 90 (.int 0))) := (B8o a5 (Ne.symm (ma_ne2 A8_x A8_a5))).trans A8_a5
  have B8_a6 : B8 a6 = some (.inr (.int, List.replicate 1440 (.int 0))) := (B8o a6 (Ne.symm (ma_ne2 A8_x A8_a6))).trans A8_a6
  have B8_a7 : B8 a7 = some (.inr (.int, List.replicate 30 (.int 0))) := (B8o a7 (Ne.symm (ma_ne2 A8_x A8_a7))).trans A8_a7
  have B8_a8 : B8 a8 = some (.inr (.int, List.replicate 180 (.int 0))) := (B8o a8 (Ne.symm (ma_ne2 A8_x A8_a8))).trans A8_a8
  have B8_x : B8 x = some (.inl (10, [.int 0, .int 0, .ref a2, .ref a3, .ref a4, .ref a5, .ref a6, .ref a7, .ref a8, .null, .null, .null, .null, .null, .null, .null, .int 0, .null, .null, .null, .null, .int 0, .null, .null, .null, .null, .int 0, .null, .int 0, .null, .null, .int 0, .null, .null, .null])) := B8a0
  have N14 : ∀ q, B8 q = none → M q = none := fun q h => N13 q (nn_new B8a0 B8o q h)
  refine m_aload_n C d_Mo_init_62 rfl rfl ?_
  refine m_sipush (v := 180) C d_Mo_init_63 (by decide) ?_
  refine m_newaE (N := 180) C d_Mo_init_66 rfl kt_int ac_int (fun _ h => by cases h) (by decide) (by decide) (by decide) (Nat.le_of_ble_eq_true rfl) (Nat.le_of_ble_eq_true rfl) (fun a9 A9 A9n A9w A9a0 A9o => ?_)
  have A9_a2 : A9 a2 = some (.inr (.int, List.replicate 30 (.int 0))) := (A9o a2 (ma_nef B8_a2 A9n)).trans B8_a2
  have A9_a3 : A9 a3 = some (.inr (.boolean, List.replicate 30 (.int 0))) := (A9o a3 (ma_nef B8_a3 A9n)).trans B8_a3
  have A9_a4 : A9 a4 = some (.inr (.int, List.replicate 30 (.int 0))) := (A9o a4 (ma_nef B8_a4 A9n)).trans B8_a4
  have A9_a5 : A9 a5 = some (.inr (.int, List.replicate 90 (.int 0))) := (A9o a5 (ma_nef B8_a5 A9n)).trans B8_a5
  have A9_a6 : A9 a6 = some (.inr (.int, List.replicate 1440 (.int 0))) := (A9o a6 (ma_nef B8_a6 A9n)).trans B8_a6
  have A9_a7 : A9 a7 = some (.inr (.int, List.replicate 30 (.int 0))) := (A9o a7 (ma_nef B8_a7 A9n)).trans B8_a7
  have A9_a8 : A9 a8 = some (.inr (.int, List.replicate 180 (.int 0))) := (A9o a8 (ma_nef B8_a8 A9n)).trans B8_a8
  have A9_x : A9 x = some (.inl (10, [.int 0, .int 0, .ref a2, .ref a3, .ref a4, .ref a5, .ref a6, .ref a7, .ref a8, .null, .null, .null, .null, .null, .null, .null, .int 0, .null, .null, .null, .null, .int 0, .null, .null, .null, .null, .int 0, .null, .int 0, .null, .null, .int 0, .null, .null, .null])) := (A9o x (ma_nef B8_x A9n)).trans B8_x
  have A9_a9 : A9 a9 = some (.inr (.int, List.replicate 180 (.int 0))) := A9a0
  have F9 : M a9 = none := N14 _ A9n
  have N15 : ∀ q, A9 q = none → M q = none := fun q h => N14 q (nn_new A9a0 A9o q h)
  refine m_putFE C (hI rfl) fp_Mo_32 d_Mo_init_68 (hw _ rfl) A9_x rfl rfl (fun B9 B9a0 B9o => ?_)
  have B9_a2 : B9 a2 = some (.inr (.int, List.replicate 30 (.int 0))) := (B9o a2 (Ne.symm (ma_ne2 A9_x A9_a2))).trans A9_a2
  have B9_a3 : B9 a3 = some (.inr (.boolean, List.replicate 30 (.int 0))) := (B9o a3 (Ne.symm (ma_ne2 A9_x A9_a3))).trans A9_a3
  have B9_a4 : B9 a4 = some (.inr (.int, List.replicate 30 (.int 0))) := (B9o a4 (Ne.symm (ma_ne2 A9_x A9_a4))).trans A9_a4
  have B9_a5 : B9 a5 = some (.inr (.int, List.replicate 90 (.int 0))) := (B9o a5 (Ne.symm (ma_ne2 A9_x A9_a5))).trans A9_a5
  have B9_a6 : B9 a6 = some (.inr (.int, List.replicate 1440 (.int 0))) := (B9o a6 (Ne.symm (ma_ne2 A9_x A9_a6))).trans A9_a6
  have B9_a7 : B9 a7 = some (.inr (.int, List.replicate 30 (.int 0))) := (B9o a7 (Ne.symm (ma_ne2 A9_x A9_a7))).trans A9_a7
  have B9_a8 : B9 a8 = some (.inr (.int, List.replicate 180 (.int 0))) := (B9o a8 (Ne.symm (ma_ne2 A9_x A9_a8))).trans A9_a8
  have B9_a9 : B9 a9 = some (.inr (.int, List.replicate 180 (.int 0))) := (B9o a9 (Ne.symm (ma_ne2 A9_x A9_a9))).trans A9_a9
  have B9_x : B9 x = some (.inl (10, [.int 0, .int 0, .ref a2, .ref a3, .ref a4, .ref a5, .ref a6, .ref a7, .ref a8, .ref a9, .null, .null, .null, .null, .null, .null, .int 0, .null, .null, .null, .null, .int 0, .null, .null, .null, .null, .int 0, .null, .int 0, .null, .null, .int 0, .null, .null, .null])) := B9a0
  have N16 : ∀ q, B9 q = none → M q = none := fun q h => N15 q (nn_new B9a0 B9o q h)
  refine m_aload_n C d_Mo_init_71 rfl rfl ?_
  refine m_sipush (v := 180) C d_Mo_init_72 (by decide) ?_
  refine m_newaE (N := 180) C d_Mo_init_75 rfl kt_int ac_int (fun _ h => by cases h) (by decide) (by decide) (by decide) (Nat.le_of_ble_eq_true rfl) (Nat.le_of_ble_eq_true rfl) (fun a10 A10 A10n A10w A10a0 A10o => ?_)
  have A10_a2 : A10 a2 = some (.inr (.int, List.replicate 30 (.int 0))) := (A10o a2 (ma_nef B9_a2 A10n)).trans B9_a2
  have A10_a3 : A10 a3 = some (.inr (.boolean, List.replicate 30 (.int 0))) := (A10o a3 (ma_nef B9_a3 A10n)).trans B9_a3
  have A10_a4 : A10 a4 = some (.inr (.int, List.replicate 30 (.int 0))) := (A10o a4 (ma_nef B9_a4 A10n)).trans B9_a4
  have A10_a5 : A10 a5 = some (.inr (.int, List.replicate 90 (.int 0))) := (A10o a5 (ma_nef B9_a5 A10n)).trans B9_a5
  have A10_a6 : A10 a6 = some (.inr (.int, List.replicate 1440 (.int 0))) := (A10o a6 (ma_nef B9_a6 A10n)).trans B9_a6
  have A10_a7 : A10 a7 = some (.inr (.int, List.replicate 30 (.int 0))) := (A10o a7 (ma_nef B9_a7 A10n)).trans B9_a7
  have A10_a8 : A10 a8 = some (.inr (.int, List.replicate 180 (.int 0))) := (A10o a8 (ma_nef B9_a8 A10n)).trans B9_a8
  have A10_a9 : A10 a9 = some (.inr (.int, List.replicate 180 (.int 0))) := (A10o a9 (ma_nef B9_a9 A10n)).trans B9_a9
  have A10_x : A10 x = some (.inl (10, [.int 0, .int 0, .ref a2, .ref a3, .ref a4, .ref a5, .ref a6, .ref a7, .ref a8, .ref a9, .null, .null, .null, .null, .null, .null, .int 0, .null, .null, .null, .null, .int 0, .null, .null, .null, .null, .int 0, .null, .int 0, .null, .null, .int 0, .null, .null, .null])) := (A10o x (ma_nef B9_x A10n)).trans B9_x
  have A10_a10 : A10 a10 = some (.inr (.int, List.replicate 180 (.int 0))) := A10a0
  have F10 : M a10 = none := N16 _ A10n
  have N17 : ∀ q, A10 q = none → M q = none := fun q h => N16 q (nn_new A10a0 A10o q h)
  refine m_putFE C (hI rfl) fp_Mo_35 d_Mo_init_77 (hw _ rfl) A10_x rfl rfl (fun B10 B10a0 B10o => ?_)
  have B10_a2 : B10 a2 = some (.inr (.int, List.replicate 30 (.int 0))) := (B10o a2 (Ne.symm (ma_ne2 A10_x A10_a2))).trans A10_a2
  have B10_a3 : B10 a3 = some (.inr (.boolean, List.replicate 30 (.int 0))) := (B10o a3 (Ne.symm (ma_ne2 A10_x A10_a3))).trans A10_a3
  have B10_a4 : B10 a4 = some (.inr (.int, List.replicate 30 (.int 0))) := (B10o a4 (Ne.symm (ma_ne2 A10_x A10_a4))).trans A10_a4
  have B10_a5 : B10 a5 = some (.inr (.int, List.replicate 90 (.int 0))) := (B10o a5 (Ne.symm (ma_ne2 A10_x A10_a5))).trans A10_a5
  have B10_a6 : B10 a6 = some (.inr (.int, List.replicate 1440 (.int 0))) := (B10o a6 (Ne.symm (ma_ne2 A10_x A10_a6))).trans A10_a6
  have B10_a7 : B10 a7 = some (.inr (.int, List.replicate 30 (.int 0))) := (B10o a7 (Ne.symm (ma_ne2 A10_x A10_a7))).trans A10_a7
  have B10_a8 : B10 a8 = some (.inr (.int, List.replicate 180 (.int 0))) := (B10o a8 (Ne.symm (ma_ne2 A10_x A10_a8))).trans A10_a8
  have B10_a9 : B10 a9 = some (.inr (.int, List.replicate 180 (.int 0))) := (B10o a9 (Ne.symm (ma_ne2 A10_x A10_a9))).trans A10_a9
  have B10_a10 : B10 a10 = some (.inr (.int, List.replicate 180 (.int 0))) := (B10o a10 (Ne.symm (ma_ne2 A10_x A10_a10))).trans A10_a10
  have B10_x : B10 x = some (.inl (10, [.int 0, .int 0, .ref a2, .ref a3, .ref a4, .ref a5, .ref a6, .ref a7, .ref a8, .ref a9, .ref a10, .null, .null, .null, .null, .null, .int 0, .null, .null, .null, .null, .int 0, .null, .null, .null, .null, .int 0, .null, .int 0, .null, .null, .int 0, .null, .null, .null])) := B10a0
  have N18 : ∀ q, B10 q = none → M q = none := fun q h => N17 q (nn_new B10a0 B10o q h)
  refine m_aload_n C d_Mo_init_80 rfl rfl ?_
  refine m_bipush (v := 30) C d_Mo_init_81 (by decide) ?_
  refine m_newaE (N := 30) C d_Mo_init_83 rfl kt_int ac_int (fun _ h => by cases h) (by decide) (by decide) (by decide) (Nat.le_of_ble_eq_true rfl) (Nat.le_of_ble_eq_true rfl) (fun a11 A11 A11n A11w A11a0 A11o => ?_)
  have A11_a2 : A11 a2 = some (.inr (.int, List.replicate 30 (.int 0))) := (A11o a2 (ma_nef B10_a2 A11n)).trans B10_a2
  have A11_a3 : A11 a3 = some (.inr (.boolean, List.replicate 30 (.int 0))) := (A11o a3 (ma_nef B10_a3 A11n)).trans B10_a3
  have A11_a4 : A11 a4 = some (.inr (.int, List.replicate 30 (.int 0))) := (A11o a4 (ma_nef B10_a4 A11n)).trans B10_a4
  have A11_a5 : A11 a5 = some (.inr (.int, List.replicate 90 (.int 0))) := (A11o a5 (ma_nef B10_a5 A11n)).trans B10_a5
  have A11_a6 : A11 a6 = some (.inr (.int, List.replicate 1440 (.int 0))) := (A11o a6 (ma_nef B10_a6 A11n)).trans B10_a6
  have A11_a7 : A11 a7 = some (.inr (.int, List.replicate 30 (.int 0))) := (A11o a7 (ma_nef B10_a7 A11n)).trans B10_a7
  have A11_a8 : A11 a8 = some (.inr (.int, List.replicate 180 (.int 0))) := (A11o a8 (ma_nef B10_a8 A11n)).trans B10_a8
  have A11_a9 : A11 a9 = some (.inr (.int, List.replicate 180 (.int 0))) := (A11o a9 (ma_nef B10_a9 A11n)).trans B10_a9
  have A11_a10 : A11 a10 = some (.inr (.int, List.replicate 180 (.int 0))) := (A11o a10 (ma_nef B10_a10 A11n)).trans B10_a10
  have A11_x : A11 x = some (.inl (10, [.int 0, .int 0, .ref a2, .ref a3, .ref a4, .ref a5, .ref a6, .ref a7, .ref a8, .ref a9, .ref a10, .null, .null, .null, .null, .null, .int 0, .null, .null, .null, .null, .int 0, .null, .null, .null, .null, .int 0, .null, .int 0, .null, .null, .int 0, .null, .null, .null])) := (A11o x (ma_nef B10_x A11n)).trans B10_x
  have A11_a11 : A11 a11 = some (.inr (.int, List.replicate 30 (.int 0))) := A11a0
  have F11 : M a11 = none := N18 _ A11n
  have N19 : ∀ q, A11 q = none → M q = none := fun q h => N18 q (nn_new A11a0 A11o q h)
  refine m_putFE C (hI rfl) fp_Mo_38 d_Mo_init_85 (hw _ rfl) A11_x rfl rfl (fun B11 B11a0 B11o => ?_)
  have B11_a2 : B11 a2 = some (.inr (.int, List.replicate 30 (.int 0))) := (B11o a2 (Ne.symm (ma_ne2 A11_x A11_a2))).trans A11_a2
  have B11_a3 : B11 a3 = some (.inr (.boolean, List.replicate 30 (.int 0))) := (B11o a3 (Ne.symm (ma_ne2 A11_x A11_a3))).trans A11_a3
  have B11_a4 : B11 a4 = some (.inr (.int, List.replicate 30 (.int 0))) := (B11o a4 (Ne.symm (ma_ne2 A11_x A11_a4))).trans A11_a4
  have B11_a5 : B11 a5 = some (.inr (.int, List.replicate 90 (.int 0))) := (B11o a5 (Ne.symm (ma_ne2 A11_x A11_a5))).trans A11_a5
  have B11_a6 : B11 a6 = some (.inr (.int, List.replicate 1440 (.int 0))) := (B11o a6 (Ne.symm (ma_ne2 A11_x A11_a6))).trans A11_a6
  have B11_a7 : B11 a7 = some (.inr (.int, List.replicate 30 (.int 0))) := (B11o a7 (Ne.symm (ma_ne2 A11_x A11_a7))).trans A11_a7
  have B11_a8 : B11 a8 = some (.inr (.int, List.replicate 180 (.int 0))) := (B11o a8 (Ne.symm (ma_ne2 A11_x A11_a8))).trans A11_a8
  have B11_a9 : B11 a9 = some (.inr (.int, List.replicate 180 (.int 0))) := (B11o a9 (Ne.symm (ma_ne2 A11_x A11_a9))).trans A11_a9
  have B11_a10 : B11 a10 = some (.inr (.int, List.replicate 180 (.int 0))) := (B11o a10 (Ne.symm (ma_ne2 A11_x A11_a10))).trans A11_a10
  have B11_a11 : B11 a11 = some (.inr (.int, List.replicate 30 (.int 0))) := (B11o a11 (Ne.symm (ma_ne2 A11_x A11_a11))).trans A11_a11
  have B11_x : B11 x = some (.inl (10, [.int 0, .int 0, .ref a2, .ref a3, .ref a4, .ref a5, .ref a6, .ref a7, .ref a8, .ref a9, .ref a10, .ref a11, .null, .null, .null, .null, .int 0, .null, .null, .null, .null, .int 0, .null, .null, .null, .null, .int 0, .null, .int 0, .null, .null, .int 0, .null, .null, .null])) := B11a0
  have N20 : ∀ q, B11 q = none → M q = none := fun q h => N19 q (nn_new B11a0 B11o q h)
  refine m_aload_n C d_Mo_init_88 rfl rfl ?_
  refine m_bipush (v := 30) C d_Mo_init_89 (by decide) ?_
  refine m_newaE (N := 30) C d_Mo_init_91 rfl kt_int ac_int (fun _ h => by cases h) (by decide) (by decide) (by decide) (Nat.le_of_ble_eq_true rfl) (Nat.le_of_ble_eq_true rfl) (fun a12 A12 A12n A12w A12a0 A12o => ?_)
  have A12_a2 : A12 a2 = some (.inr (.int, List.replicate 30 (.int 0))) := (A12o a2 (ma_nef B11_a2 A12n)).trans B11_a2
  have A12_a3 : A12 a3 = some (.inr (.boolean, List.replicate 30 (.int 0))) := (A12o a3 (ma_nef B11_a3 A12n)).trans B11_a3
  have A12_a4 : A12 a4 = some (.inr (.int, List.replicate 30 (.int 0))) := (A12o a4 (ma_nef B11_a4 A12n)).trans B11_a4
  have A12_a5 : A12 a5 = some (.inr (.int, List.replicate 90 (.int 0))) := (A12o a5 (ma_nef B11_a5 A12n)).trans B11_a5
  have A12_a6 : A12 a6 = some (.inr (.int, List.replicate 1440 (.int 0))) := (A12o a6 (ma_nef B11_a6 A12n)).trans B11_a6
  have A12_a7 : A12 a7 = some (.inr (.int, List.replicate 30 (.int 0))) := (A12o a7 (ma_nef B11_a7 A12n)).trans B11_a7
  have A12_a8 : A12 a8 = some (.inr (.int, List.replicate 180 (.int 0))) := (A12o a8 (ma_nef B11_a8 A12n)).trans B11_a8
  have A12_a9 : A12 a9 = some (.inr (.int, List.replicate 180 (.int 0))) := (A12o a9 (ma_nef B11_a9 A12n)).trans B11_a9
  have A12_a10 : A12 a10 = some (.inr (.int, List.replicate 180 (.int 0))) := (A12o a10 (ma_nef B11_a10 A12n)).trans B11_a10
  have A12_a11 : A12 a11 = some (.inr (.int, List.replicate 30 (.int 0))) := (A12o a11 (ma_nef B11_a11 A12n)).trans B11_a11
  have A12_x : A12 x = some (.inl (10, [.int 0, .int 0, .ref a2, .ref a3, .ref a4, .ref a5, .ref a6, .ref a7, .ref a8, .ref a9, .ref a10, .ref a11, .null, .null, .null, .null, .int 0, .null, .null, .null, .null, .int 0, .null, .null, .null, .null, .int 0, .null, .int 0, .null, .null, .int 0, .null, .null, .null])) := (A12o x (ma_nef B11_x A12n)).trans B11_x
  have A12_a12 : A12 a12 = some (.inr (.int, List.replicate 30 (.int 0))) := A12a0
  have F12 : M a12 = none := N20 _ A12n
  have N21 : ∀ q, A12 q = none → M q = none := fun q h => N20 q (nn_new A12a0 A12o q h)
  refine m_putFE C (hI rfl) fp_Mo_41 d_Mo_init_93 (hw _ rfl) A12_x rfl rfl (fun B12 B12a0 B12o => ?_)
  have B12_a2 : B12 a2 = some (.inr (.int, List.replicate 30 (.int 0))) := (B12o a2 (Ne.symm (ma_ne2 A12_x A12_a2))).trans A12_a2
  have B12_a3 : B12 a3 = some (.inr (.boolean, List.replicate 30 (.int 0))) := (B12o a3 (Ne.symm (ma_ne2 A12_x A12_a3))).trans A12_a3
  have B12_a4 : B12 a4 = some (.inr (.int, List.replicate 30 (.int 0))) := (B12o a4 (Ne.symm (ma_ne2 A12_x A12_a4))).trans A12_a4
  have B12_a5 : B12 a5 = some (.inr (.int, List.replicate 90 (.int 0))) := (B12o a5 (Ne.symm (ma_ne2 A12_x A12_a5))).trans A12_a5
  have B12_a6 : B12 a6 = some (.inr (.int, List.replicate 1440 (.int 0))) := (B12o a6 (Ne.symm (ma_ne2 A12_x A12_a6))).trans A12_a6
  have B12_a7 : B12 a7 = some (.inr (.int, List.replicate 30 (.int 0))) := (B12o a7 (Ne.symm (ma_ne2 A12_x A12_a7))).trans A12_a7
  have B12_a8 : B12 a8 = some (.inr (.int, List.replicate 180 (.int 0))) := (B12o a8 (Ne.symm (ma_ne2 A12_x A12_a8))).trans A12_a8
  have B12_a9 : B12 a9 = some (.inr (.int, List.replicate 180 (.int 0))) := (B12o a9 (Ne.symm (ma_ne2 A12_x A12_a9))).trans A12_a9
  have B12_a10 : B12 a10 = some (.inr (.int, List.replicate 180 (.int 0))) := (B12o a10 (Ne.symm (ma_ne2 A12_x A12_a10))).trans A12_a10
  have B12_a11 : B12 a11 = some (.inr (.int, List.replicate 30 (.int 0))) := (B12o a11 (Ne.symm (ma_ne2 A12_x A12_a11))).trans A12_a11
  have B12_a12 : B12 a12 = some (.inr (.int, List.replicate 30 (.int 0))) := (B12o a12 (Ne.symm (ma_ne2 A12_x A12_a12))).trans A12_a12
  have B12_x : B12 x = some (.inl (10, [.int 0, .int 0, .ref a2, .ref a3, .ref a4, .ref a5, .ref a6, .ref a7, .ref a8, .ref a9, .ref a10, .ref a11, .ref a12, .null, .null, .null, .int 0, .null, .null, .null, .null, .int 0, .null, .null, .null, .null, .int 0, .null, .int 0, .null, .null, .int 0, .null, .null, .null])) := B12a0
  have N22 : ∀ q, B12 q = none → M q = none := fun q h => N21 q (nn_new B12a0 B12o q h)
  refine m_aload_n C d_Mo_init_96 rfl rfl ?_
  refine m_bipush (v := 30) C d_Mo_init_97 (by decide) ?_
  refine m_newaE (N := 30) C d_Mo_init_99 rfl kt_int ac_int (fun _ h => by cases h) (by decide) (by decide) (by decide) (Nat.le_of_ble_eq_true rfl) (Nat.le_of_ble_eq_true rfl) (fun a13 A13 A13n A13w A13a0 A13o => ?_)
  have A13_a2 : A13 a2 = some (.inr (.int, List.replicate 30 (.int 0))) := (A13o a2 (ma_nef B12_a2 A13n)).trans B12_a2
  have A13_a3 : A13 a3 = some (.inr (.boolean, List.replicate 30 (.int 0))) := (A13o a3 (ma_nef B12_a3 A13n)).trans B12_a3
  have A13_a4 : A13 a4 = some (.inr (.int, List.replicate 30 (.int 0))) := (A13o a4 (ma_nef B12_a4 A13n)).trans B12_a4
  have A13_a5 : A13 a5 = some (.inr (.int, List.replicate 90 (.int 0))) := (A13o a5 (ma_nef B12_a5 A13n)).trans B12_a5
  have A13_a6 : A13 a6 = some (.inr (.int, List.replicate 1440 (.int 0))) := (A13o a6 (ma_nef B12_a6 A13n)).trans B12_a6
  have A13_a7 : A13 a7 = some (.inr (.int, List.replicate 30 (.int 0))) := (A13o a7 (ma_nef B12_a7 A13n)).trans B12_a7
  have A13_a8 : A13 a8 = some (.inr (.int, List.replicate 180 (.int 0))) := (A13o a8 (ma_nef B12_a8 A13n)).trans B12_a8
  have A13_a9 : A13 a9 = some (.inr (.int, List.replicate 180 (.int 0))) := (A13o a9 (ma_nef B12_a9 A13n)).trans B12_a9
  have A13_a10 : A13 a10 = some (.inr (.int, List.replicate 180 (.int 0))) := (A13o a10 (ma_nef B12_a10 A13n)).trans B12_a10
  have A13_a11 : A13 a11 = some (.inr (.int, List.replicate 30 (.int 0))) := (A13o a11 (ma_nef B12_a11 A13n)).trans B12_a11
  have A13_a12 : A13 a12 = some (.inr (.int, List.replicate 30 (.int 0))) := (A13o a12 (ma_nef B12_a12 A13n)).trans B12_a12
  have A13_x : A13 x = some (.inl (10, [.int 0, .int 0, .ref a2, .ref a3, .ref a4, .ref a5, .ref a6, .ref a7, .ref a8, .ref a9, .ref a10, .ref a11, .ref a12, .null, .null, .null, .int 0, .null, .null, .null, .null, .int 0, .null, .null, .null, .null, .int 0, .null, .int 0, .null, .null, .int 0, .null, .null, .null])) := (A13o x (ma_nef B12_x A13n)).trans B12_x
  have A13_a13 : A13 a13 = some (.inr (.int, List.replicate 30 (.int 0))) := A13a0
  have F13 : M a13 = none := N22 _ A13n
  have N23 : ∀ q, A13 q = none → M q = none := fun q h => N22 q (nn_new A13a0 A13o q h)
  refine m_putFE C (hI rfl) fp_Mo_44 d_Mo_init_101 (hw _ rfl) A13_x rfl rfl (fun B13 B13a0 B13o => ?_)
  have B13_a2 : B13 a2 = some (.inr (.int, List.replicate 30 (.int 0))) := (B13o a2 (Ne.symm (ma_ne2 A13_x A13_a2))).trans A13_a2
  have B13_a3 : B13 a3 = some (.inr (.boolean, List.replicate 30 (.int 0))) := (B13o a3 (Ne.symm (ma_ne2 A13_x A13_a3))).trans A13_a3
  have B13_a4 : B13 a4 = some (.inr (.int, List.replicate 30 (.int 0))) := (B13o a4 (Ne.symm (ma_ne2 A13_x A13_a4))).trans A13_a4
  have B13_a5 : B13 a5 = some (.inr (.int, List.replicate 90 (.int 0))) := (B13o a5 (Ne.symm (ma_ne2 A13_x A13_a5))).trans A13_a5
  have B13_a6 : B13 a6 = some (.inr (.int, List.replicate 1440 (.int 0))) := (B13o a6 (Ne.symm (ma_ne2 A13_x A13_a6))).trans A13_a6
  have B13_a7 : B13 a7 = some (.inr (.int, List.replicate 30 (.int 0))) := (B13o a7 (Ne.symm (ma_ne2 A13_x A13_a7))).trans A13_a7
  have B13_a8 : B13 a8 = some (.inr (.int, List.replicate 180 (.int 0))) := (B13o a8 (Ne.symm (ma_ne2 A13_x A13_a8))).trans A13_a8
  have B13_a9 : B13 a9 = some (.inr (.int, List.replicate 180 (.int 0))) := (B13o a9 (Ne.symm (ma_ne2 A13_x A13_a9))).trans A13_a9
  have B13_a10 : B13 a10 = some (.inr (.int, List.replicate 180 (.int 0))) := (B13o a10 (Ne.symm (ma_ne2 A13_x A13_a10))).trans A13_a10
  have B13_a11 : B13 a11 = some (.inr (.int, List.replicate 30 (.int 0))) := (B13o a11 (Ne.symm (ma_ne2 A13_x A13_a11))).trans A13_a11
  have B13_a12 : B13 a12 = some (.inr (.int, List.replicate 30 (.int 0))) := (B13o a12 (Ne.symm (ma_ne2 A13_x A13_a12))).trans A13_a12
  have B13_a13 : B13 a13 = some (.inr (.int, List.replicate 30 (.int 0))) := (B13o a13 (Ne.symm (ma_ne2 A13_x A13_a13))).trans A13_a13
  have B13_x : B13 x = some (.inl (10, [.int 0, .int 0, .ref a2, .ref a3, .ref a4, .ref a5, .ref a6, .ref a7, .ref a8, .ref a9, .ref a10, .ref a11, .ref a12, .ref a13, .null, .null, .int 0, .null, .null, .null, .null, .int 0, .null, .null, .null, .null, .int 0, .null, .int 0, .null, .null, .int 0, .null, .null, .null])) := B13a0
  have N24 : ∀ q, B13 q = none → M q = none := fun q h => N23 q (nn_new B13a0 B13o q h)
  refine m_aload_n C d_Mo_init_104 rfl rfl ?_
  refine m_bipush (v := 30) C d_Mo_init_105 (by decide) ?_
  refine m_newaE (N := 30) C d_Mo_init_107 rfl kt_int ac_int (fun _ h => by cases h) (by decide) (by decide) (by decide) (Nat.le_of_ble_eq_true rfl) (Nat.le_of_ble_eq_true rfl) (fun a14 A14 A14n A14w A14a0 A14o => ?_)
  have A14_a2 : A14 a2 = some (.inr (.int, List.replicate 30 (.int 0))) := (A14o a2 (ma_nef B13_a2 A14n)).trans B13_a2
  have A14_a3 : A14 a3 = some (.inr (.boolean, List.replicate 30 (.int 0))) := (A14o a3 (ma_nef B13_a3 A14n)).trans B13_a3
  have A14_a4 : A14 a4 = some (.inr (.int, List.replicate 30 (.int 0))) := (A14o a4 (ma_nef B13_a4 A14n)).trans B13_a4
  have A14_a5 : A14 a5 = some (.inr (.int, List.replicate 90 (.int 0))) := (A14o a5 (ma_nef B13_a5 A14n)).trans B13_a5
  have A14_a6 : A14 a6 = some (.inr (.int, List.replicate 1440 (.int 0))) := (A14o a6 (ma_nef B13_a6 A14n)).trans B13_a6
  have A14_a7 : A14 a7 = some (.inr (.int, List.replicate 30 (.int 0))) := (A14o a7 (ma_nef B13_a7 A14n)).trans B13_a7
  have A14_a8 : A14 a8 = some (.inr (.int, List.replicate 180 (.int 0))) := (A14o a8 (ma_nef B13_a8 A14n)).trans B13_a8
  have A14_a9 : A14 a9 = some (.inr (.int, List.replicate 180 (.int 0))) := (A14o a9 (ma_nef B13_a9 A14n)).trans B13_a9
  have A14_a10 : A14 a10 = some (.inr (.int, List.replicate 180 (.int 0))) := (A14o a10 (ma_nef B13_a10 A14n)).trans B13_a10
  have A14_a11 : A14 a11 = some (.inr (.int, List.replicate 30 (.int 0))) := (A14o a11 (ma_nef B13_a11 A14n)).trans B13_a11
  have A14_a12 : A14 a12 = some (.inr (.int, List.replicate 30 (.int 0))) := (A14o a12 (ma_nef B13_a12 A14n)).trans B13_a12
  have A14_a13 : A14 a13 = some (.inr (.int, List.replicate 30 (.int 0))) := (A14o a13 (ma_nef B13_a13 A14n)).trans B13_a13
  have A14_x : A14 x = some (.inl (10, [.int 0, .int 0, .ref a2, .ref a3, .ref a4, .ref a5, .ref a6, .ref a7, .ref a8, .ref a9, .ref a10, .ref a11, .ref a12, .ref a13, .null, .null, .int 0, .null, .null, .null, .null, .int 0, .null, .null, .null, .null, .int 0, .null, .int 0, .null, .null, .int 0, .null, .null, .null])) := (A14o x (ma_nef B13_x A14n)).trans B13_x
  have A14_a14 : A14 a14 = some (.inr (.int, List.replicate 30 (.int 0))) := A14a0
  have F14 : M a14 = none := N24 _ A14n
  have N25 : ∀ q, A14 q = none → M q = none := fun q h => N24 q (nn_new A14a0 A14o q h)
  refine m_putFE C (hI rfl) fp_Mo_47 d_Mo_init_109 (hw _ rfl) A14_x rfl rfl (fun B14 B14a0 B14o => ?_)
  have B14_a2 : B14 a2 = some (.inr (.int, List.replicate 30 (.int 0))) := (B14o a2 (Ne.symm (ma_ne2 A14_x A14_a2))).trans A14_a2
  have B14_a3 : B14 a3 = some (.inr (.boolean, List.replicate 30 (.int 0))) := (B14o a3 (Ne.symm (ma_ne2 A14_x A14_a3))).trans A14_a3
  have B14_a4 : B14 a4 = some (.inr (.int, List.replicate 30 (.int 0))) := (B14o a4 (Ne.symm (ma_ne2 A14_x A14_a4))).trans A14_a4
  have B14_a5 : B14 a5 = some (.inr (.int, List.replicate 90 (.int 0))) := (B14o a5 (Ne.symm (ma_ne2 A14_x A14_a5))).trans A14_a5
  have B14_a6 : B14 a6 = some (.inr (.int, List.replicate 1440 (.int 0))) := (B14o a6 (Ne.symm (ma_ne2 A14_x A14_a6))).trans A14_a6
  have B14_a7 : B14 a7 = some (.inr (.int, List.replicate 30 (.int 0))) := (B14o a7 (Ne.symm (ma_ne2 A14_x A14_a7))).trans A14_a7
  have B14_a8 : B14 a8 = some (.inr (.int, List.replicate 180 (.int 0))) := (B14o a8 (Ne.symm (ma_ne2 A14_x A14_a8))).trans A14_a8
  have B14_a9 : B14 a9 = some (.inr (.int, List.replicate 180 (.int 0))) := (B14o a9 (Ne.symm (ma_ne2 A14_x A14_a9))).trans A14_a9
  have B14_a10 : B14 a10 = some (.inr (.int, List.replicate 180 (.int 0))) := (B14o a10 (Ne.symm (ma_ne2 A14_x A14_a10))).trans A14_a10
  have B14_a11 : B14 a11 = some (.inr (.int, List.replicate 30 (.int 0))) := (B14o a11 (Ne.symm (ma_ne2 A14_x A14_a11))).trans A14_a11
  have B14_a12 : B14 a12 = some (.inr (.int, List.replicate 30 (.int 0))) := (B14o a12 (Ne.symm (ma_ne2 A14_x A14_a12))).trans A14_a12
  have B14_a13 : B14 a13 = some (.inr (.int, List.replicate 30 (.int 0))) := (B14o a13 (Ne.symm (ma_ne2 A14_x A14_a13))).trans A14_a13
  have B14_a14 : B14 a14 = some (.inr (.int, List.replicate 30 (.int 0))) := (B14o a14 (Ne.symm (ma_ne2 A14_x A14_a14))).trans A14_a14
  have B14_x : B14 x = some (.inl (10, [.int 0, .int 0, .ref a2, .ref a3, .ref a4, .ref a5, .ref a6, .ref a7, .ref a8, .ref a9, .ref a10, .ref a11, .ref a12, .ref a13, .ref a14, .null, .int 0, .null, .null, .null, .null, .int 0, .null, .null, .null, .null, .int 0, .null, .int 0, .null, .null, .int 0, .null, .null, .null])) := B14a0
  have N26 : ∀ q, B14 q = none → M q = none := fun q h => N25 q (nn_new B14a0 B14o q h)
  refine m_aload_n C d_Mo_init_112 rfl rfl ?_
  refine m_bipush (v := 30) C d_Mo_init_113 (by decide) ?_
  refine m_newaE (N := 30) C d_Mo_init_115 rfl kt_int ac_int (fun _ h => by cases h) (by decide) (by decide) (by decide) (Nat.le_of_ble_eq_true rfl) (Nat.le_of_ble_eq_true rfl) (fun a15 A15 A15n A15w A15a0 A15o => ?_)
  have A15_a2 : A15 a2 = some (.inr (.int, List.replicate 30 (.int 0))) := (A15o a2 (ma_nef B14_a2 A15n)).trans B14_a2
  have A15_a3 : A15 a3 = some (.inr (.boolean, List.replicate 30 (.int 0))) := (A15o a3 (ma_nef B14_a3 A15n)).trans B14_a3
  have A15_a4 : A15 a4 = some (.inr (.int, List.replicate 30 (.int 0))) := (A15o a4 (ma_nef B14_a4 A15n)).trans B14_a4
  have A15_a5 : A15 a5 = some (.inr (.int, List.replicate 90 (.int 0))) := (A15o a5 (ma_nef B14_a5 A15n)).trans B14_a5
  have A15_a6 : A15 a6 = some (.inr (.int, List.replicate 1440 (.int 0))) := (A15o a6 (ma_nef B14_a6 A15n)).trans B14_a6
  have A15_a7 : A15 a7 = some (.inr (.int, List.replicate 30 (.int 0))) := (A15o a7 (ma_nef B14_a7 A15n)).trans B14_a7
  have A15_a8 : A15 a8 = some (.inr (.int, List.replicate 180 (.int 0))) := (A15o a8 (ma_nef B14_a8 A15n)).trans B14_a8
  have A15_a9 : A15 a9 = some (.inr (.int, List.replicate 180 (.int 0))) := (A15o a9 (ma_nef B14_a9 A15n)).trans B14_a9
  have A15_a10 : A15 a10 = some (.inr (.int, List.replicate 180 (.int 0))) := (A15o a10 (ma_nef B14_a10 A15n)).trans B14_a10
  have A15_a11 : A15 a11 = some (.inr (.int, List.replicate 30 (.int 0))) := (A15o a11 (ma_nef B14_a11 A15n)).trans B14_a11
  have A15_a12 : A15 a12 = some (.inr (.int, List.replicate 30 (.int 0))) := (A15o a12 (ma_nef B14_a12 A15n)).trans B14_a12
  have A15_a13 : A15 a13 = some (.inr (.int, List.replicate 30 (.int 0))) := (A15o a13 (ma_nef B14_a13 A15n)).trans B14_a13
  have A15_a14 : A15 a14 = some (.inr (.int, List.replicate 30 (.int 0))) := (A15o a14 (ma_nef B14_a14 A15n)).trans B14_a14
  have A15_x : A15 x = some (.inl (10, [.int 0, .int 0, .ref a2, .ref a3, .ref a4, .ref a5, .ref a6, .ref a7, .ref a8, .ref a9, .ref a10, .ref a11, .ref a12, .ref a13, .ref a14, .null, .int 0, .null, .null, .null, .null, .int 0, .null, .null, .null, .null, .int 0, .null, .int 0, .null, .null, .int 0, .null, .null, .null])) := (A15o x (ma_nef B14_x A15n)).trans B14_x
  have A15_a15 : A15 a15 = some (.inr (.int, List.replicate 30 (.int 0))) := A15a0
  have F15 : M a15 = none := N26 _ A15n
  have N27 : ∀ q, A15 q = none → M q = none := fun q h => N26 q (nn_new A15a0 A15o q h)
  refine m_putFE C (hI rfl) fp_Mo_50 d_Mo_init_117 (hw _ rfl) A15_x rfl rfl (fun B15 B15a0 B15o => ?_)
  have B15_a2 : B15 a2 = some (.inr (.int, List.replicate 30 (.int 0))) := (B15o a2 (Ne.symm (ma_ne2 A15_x A15_a2))).trans A15_a2
  have B15_a3 : B15 a3 = some (.inr (.boolean, List.replicate 30 (.int 0))) := (B15o a3 (Ne.symm (ma_ne2 A15_x A15_a3))).trans A15_a3
  have B15_a4 : B15 a4 = some (.inr (.int, List.replicate 30 (.int 0))) := (B15o a4 (Ne.symm (ma_ne2 A15_x A15_a4))).trans A15_a4
  have B15_a5 : B15 a5 = some (.inr (.int, List.replicate 90 (.int 0))) := (B15o a5 (Ne.symm (ma_ne2 A15_x A15_a5))).trans A15_a5
  have B15_a6 : B15 a6 = some (.inr (.int, List.replicate 1440 (.int 0))) := (B15o a6 (Ne.symm (ma_ne2 A15_x A15_a6))).trans A15_a6
  have B15_a7 : B15 a7 = some (.inr (.int, List.replicate 30 (.int 0))) := (B15o a7 (Ne.symm (ma_ne2 A15_x A15_a7))).trans A15_a7
  have B15_a8 : B15 a8 = some (.inr (.int, List.replicate 180 (.int 0))) := (B15o a8 (Ne.symm (ma_ne2 A15_x A15_a8))).trans A15_a8
  have B15_a9 : B15 a9 = some (.inr (.int, List.replicate 180 (.int 0))) := (B15o a9 (Ne.symm (ma_ne2 A15_x A15_a9))).trans A15_a9
  have B15_a10 : B15 a10 = some (.inr (.int, List.replicate 180 (.int 0))) := (B15o a10 (Ne.symm (ma_ne2 A15_x A15_a10))).trans A15_a10
  have B15_a11 : B15 a11 = some (.inr (.int, List.replicate 30 (.int 0))) := (B15o a11 (Ne.symm (ma_ne2 A15_x A15_a11))).trans A15_a11
  have B15_a12 : B15 a12 = some (.inr (.int, List.replicate 30 (.int 0))) := (B15o a12 (Ne.symm (ma_ne2 A15_x A15_a12))).trans A15_a12
  have B15_a13 : B15 a13 = some (.inr (.int, List.replicate 30 (.int 0))) := (B15o a13 (Ne.symm (ma_ne2 A15_x A15_a13))).trans A15_a13
  have B15_a14 : B15 a14 = some (.inr (.int, List.replicate 30 (.int 0))) := (B15o a14 (Ne.symm (ma_ne2 A15_x A15_a14))).trans A15_a14
  have B15_a15 : B15 a15 = some (.inr (.int, List.replicate 30 (.int 0))) := (B15o a15 (Ne.symm (ma_ne2 A15_x A15_a15))).trans A15_a15
  have B15_x : B15 x = some (.inl (10, [.int 0, .int 0, .ref a2, .ref a3, .ref a4, .ref a5, .ref a6, .ref a7, .ref a8, .ref a9, .ref a10, .ref a11, .ref a12, .ref a13, .ref a14, .ref a15, .int 0, .null, .null, .null, .null, .int 0, .null, .null, .null, .null, .int 0, .null, .int 0, .null, .null, .int 0, .null, .null, .null])) := B15a0
  have N28 : ∀ q, B15 q = none → M q = none := fun q h => N27 q (nn_new B15a0 B15o q h)
  refine m_aload_n C d_Mo_init_120 rfl rfl ?_
  refine m_bipush (v := 20) C d_Mo_init_121 (by decide) ?_
  refine m_newaE (N := 20) C d_Mo_init_123 rfl kt_int ac_int (fun _ h => by cases h) (by decide) (by decide) (by decide) (Nat.le_of_ble_eq_true rfl) (Nat.le_of_ble_eq_true rfl) (fun a17 A17 A17n A17w A17a0 A17o => ?_)
  have A17_a2 : A17 a2 = some (.inr (.int, List.replicate 30 (.int 0))) := (A17o a2 (ma_nef B15_a2 A17n)).trans B15_a2
  have A17_a3 : A17 a3 = some (.inr (.boolean, List.replicate 30 (.int 0))) := (A17o a3 (ma_nef B15_a3 A17n)).trans B15_a3
  have A17_a4 : A17 a4 = some (.inr (.int, List.replicate 30 (.int 0))) := (A17o a4 (ma_nef B15_a4 A17n)).trans B15_a4
  have A17_a5 : A17 a5 = some (.inr (.int, List.replicate 90 (.int 0))) := (A17o a5 (ma_nef B15_a5 A17n)).trans B15_a5
  have A17_a6 : A17 a6 = some (.inr (.int, List.replicate 1440 (.int 0))) := (A17o a6 (ma_nef B15_a6 A17n)).trans B15_a6
  have A17_a7 : A17 a7 = some (.inr (.int, List.replicate 30 (.int 0))) := (A17o a7 (ma_nef B15_a7 A17n)).trans B15_a7
  have A17_a8 : A17 a8 = some (.inr (.int, List.replicate 180 (.int 0))) := (A17o a8 (ma_nef B15_a8 A17n)).trans B15_a8
  have A17_a9 : A17 a9 = some (.inr (.int, List.replicate 180 (.int 0))) := (A17o a9 (ma_nef B15_a9 A17n)).trans B15_a9
  have A17_a10 : A17 a10 = some (.inr (.int, List.replicate 180 (.int 0))) := (A17o a10 (ma_nef B15_a10 A17n)).trans B15_a10
  have A17_a11 : A17 a11 = some (.inr (.int, List.replicate 30 (.int 0))) := (A17o a11 (ma_nef B15_a11 A17n)).trans B15_a11
  have A17_a12 : A17 a12 = some (.inr (.int, List.replicate 30 (.int 0))) := (A17o a12 (ma_nef B15_a12 A17n)).trans B15_a12
  have A17_a13 : A17 a13 = some (.inr (.int, List.replicate 30 (.int 0))) := (A17o a13 (ma_nef B15_a13 A17n)).trans B15_a13
  have A17_a14 : A17 a14 = some (.inr (.int, List.replicate 30 (.int 0))) := (A17o a14 (ma_nef B15_a14 A17n)).trans B15_a14
  have A17_a15 : A17 a15 = some (.inr (.int, List.replicate 30 (.int 0))) := (A17o a15 (ma_nef B15_a15 A17n)).trans B15_a15
  have A17_x : A17 x = some (.inl (10, [.int 0, .int 0, .ref a2, .ref a3, .ref a4, .ref a5, .ref a6, .ref a7, .ref a8, .ref a9, .ref a10, .ref a11, .ref a12, .ref a13, .ref a14, .ref a15, .int 0, .null, .null, .null, .null, .int 0, .null, .null, .null, .null, .int 0, .null, .int 0, .null, .null, .int 0, .null, .null, .null])) := (A17o x (ma_nef B15_x A17n)).trans B15_x
  have A17_a17 : A17 a17 = some (.inr (.int, List.replicate 20 (.int 0))) := A17a0
  have F17 : M a17 = none := N28 _ A17n
  have N29 : ∀ q, A17 q = none → M q = none := fun q h => N28 q (nn_new A17a0 A17o q h)
  refine m_putFE C (hI rfl) fp_Mo_53 d_Mo_init_125 (hw _ rfl) A17_x rfl rfl (fun B17 B17a0 B17o => ?_)
  have B17_a2 : B17 a2 = some (.inr (.int, List.replicate 30 (.int 0))) := (B17o a2 (Ne.symm (ma_ne2 A17_x A17_a2))).trans A17_a2
  have B17_a3 : B17 a3 = some (.inr (.boolean, List.replicate 30 (.int 0))) := (B17o a3 (Ne.symm (ma_ne2 A17_x A17_a3))).trans A17_a3
  have B17_a4 : B17 a4 = some (.inr (.int, List.replicate 30 (.int 0))) := (B17o a4 (Ne.symm (ma_ne2 A17_x A17_a4))).trans A17_a4
  have B17_a5 : B17 a5 = some (.inr (.int, List.replicate 90 (.int 0))) := (B17o a5 (Ne.symm (ma_ne2 A17_x A17_a5))).trans A17_a5
  have B17_a6 : B17 a6 = some (.inr (.int, List.replicate 1440 (.int 0))) := (B17o a6 (Ne.symm (ma_ne2 A17_x A17_a6))).trans A17_a6
  have B17_a7 : B17 a7 = some (.inr (.int, List.replicate 30 (.int 0))) := (B17o a7 (Ne.symm (ma_ne2 A17_x A17_a7))).trans A17_a7
  have B17_a8 : B17 a8 = some (.inr (.int, List.replicate 180 (.int 0))) := (B17o a8 (Ne.symm (ma_ne2 A17_x A17_a8))).trans A17_a8
  have B17_a9 : B17 a9 = some (.inr (.int, List.replicate 180 (.int 0))) := (B17o a9 (Ne.symm (ma_ne2 A17_x A17_a9))).trans A17_a9
  have B17_a10 : B17 a10 = some (.inr (.int, List.replicate 180 (.int 0))) := (B17o a10 (Ne.symm (ma_ne2 A17_x A17_a10))).trans A17_a10
  have B17_a11 : B17 a11 = some (.inr (.int, List.replicate 30 (.int 0))) := (B17o a11 (Ne.symm (ma_ne2 A17_x A17_a11))).trans A17_a11
  have B17_a12 : B17 a12 = some (.inr (.int, List.replicate 30 (.int 0))) := (B17o a12 (Ne.symm (ma_ne2 A17_x A17_a12))).trans A17_a12
  have B17_a13 : B17 a13 = some (.inr (.int, List.replicate 30 (.int 0))) := (B17o a13 (Ne.symm (ma_ne2 A17_x A17_a13))).trans A17_a13
  have B17_a14 : B17 a14 = some (.inr (.int, List.replicate 30 (.int 0))) := (B17o a14 (Ne.symm (ma_ne2 A17_x A17_a14))).trans A17_a14
  have B17_a15 : B17 a15 = some (.inr (.int, List.replicate 30 (.int 0))) := (B17o a15 (Ne.symm (ma_ne2 A17_x A17_a15))).trans A17_a15
  have B17_a17 : B17 a17 = some (.inr (.int, List.replicate 20 (.int 0))) := (B17o a17 (Ne.symm (ma_ne2 A17_x A17_a17))).trans A17_a17
  have B17_x : B17 x = some (.inl (10, [.int 0, .int 0, .ref a2, .ref a3, .ref a4, .ref a5, .ref a6, .ref a7, .ref a8, .ref a9, .ref a10, .ref a11, .ref a12, .ref a13, .ref a14, .ref a15, .int 0, .ref a17, .null, .null, .null, .int 0, .null, .null, .null, .null, .int 0, .null, .int 0, .null, .null, .int 0, .null, .null, .null])) := B17a0
  have N30 : ∀ q, B17 q = none → M q = none := fun q h => N29 q (nn_new B17a0 B17o q h)
  refine m_aload_n C d_Mo_init_128 rfl rfl ?_
  refine m_bipush (v := 20) C d_Mo_init_129 (by decide) ?_
  refine m_newaE (N := 20) C d_Mo_init_131 rfl kt_int ac_int (fun _ h => by cases h) (by decide) (by decide) (by decide) (Nat.le_of_ble_eq_true rfl) (Nat.le_of_ble_eq_true rfl) (fun a18 A18 A18n A18w A18a0 A18o => ?_)
  have A18_a2 : A18 a2 = some (.inr (.int, List.replicate 30 (.int 0))) := (A18o a2 (ma_nef B17_a2 A18n)).trans B17_a2
  have A18_a3 : A18 a3 = some (.inr (.boolean, List.replicate 30 (.int 0))) := (A18o a3 (ma_nef B17_a3 A18n)).trans B17_a3
  have A18_a4 : A18 a4 = some (.inr (.int, List.replicate 30 (.int 0))) := (A18o a4 (ma_nef B17_a4 A18n)).trans B17_a4
  have A18_a5 : A18 a5 = some (.inr (.int, List.replicate 90 (.int 0))) := (A18o a5 (ma_nef B17_a5 A18n)).trans B17_a5
  have A18_a6 : A18 a6 = some (.inr (.int, List.replicate 1440 (.int 0))) := (A18o a6 (ma_nef B17_a6 A18n)).trans B17_a6
  have A18_a7 : A18 a7 = some (.inr (.int, List.replicate 30 (.int 0))) := (A18o a7 (ma_nef B17_a7 A18n)).trans B17_a7
  have A18_a8 : A18 a8 = some (.inr (.int, List.replicate 180 (.int 0))) := (A18o a8 (ma_nef B17_a8 A18n)).trans B17_a8
  have A18_a9 : A18 a9 = some (.inr (.int, List.replicate 180 (.int 0))) := (A18o a9 (ma_nef B17_a9 A18n)).trans B17_a9
  have A18_a10 : A18 a10 = some (.inr (.int, List.replicate 180 (.int 0))) := (A18o a10 (ma_nef B17_a10 A18n)).trans B17_a10
  have A18_a11 : A18 a11 = some (.inr (.int, List.replicate 30 (.int 0))) := (A18o a11 (ma_nef B17_a11 A18n)).trans B17_a11
  have A18_a12 : A18 a12 = some (.inr (.int, List.replicate 30 (.int 0))) := (A18o a12 (ma_nef B17_a12 A18n)).trans B17_a12
  have A18_a13 : A18 a13 = some (.inr (.int, List.replicate 30 (.int 0))) := (A18o a13 (ma_nef B17_a13 A18n)).trans B17_a13
  have A18_a14 : A18 a14 = some (.inr (.int, List.replicate 30 (.int 0))) := (A18o a14 (ma_nef B17_a14 A18n)).trans B17_a14
  have A18_a15 : A18 a15 = some (.inr (.int, List.replicate 30 (.int 0))) := (A18o a15 (ma_nef B17_a15 A18n)).trans B17_a15
  have A18_a17 : A18 a17 = some (.inr (.int, List.replicate 20 (.int 0))) := (A18o a17 (ma_nef B17_a17 A18n)).trans B17_a17
  have A18_x : A18 x = some (.inl (10, [.int 0, .int 0, .ref a2, .ref a3, .ref a4, .ref a5, .ref a6, .ref a7, .ref a8, .ref a9, .ref a10, .ref a11, .ref a12, .ref a13, .ref a14, .ref a15, .int 0, .ref a17, .null, .null, .null, .int 0, .null, .null, .null, .null, .int 0, .null, .int 0, .null, .null, .int 0, .null, .null, .null])) := (A18o x (ma_nef B17_x A18n)).trans B17_x
  have A18_a18 : A18 a18 = some (.inr (.int, List.replicate 20 (.int 0))) := A18a0
  have F18 : M a18 = none := N30 _ A18n
  have N31 : ∀ q, A18 q = none → M q = none := fun q h => N30 q (nn_new A18a0 A18o q h)
  refine m_putFE C (hI rfl) fp_Mo_56 d_Mo_init_133 (hw _ rfl) A18_x rfl rfl (fun B18 B18a0 B18o => ?_)
  have B18_a2 : B18 a2 = some (.inr (.int, List.replicate 30 (.int 0))) := (B18o a2 (Ne.symm (ma_ne2 A18_x A18_a2))).trans A18_a2
  have B18_a3 : B18 a3 = some (.inr (.boolean, List.replicate 30 (.int 0))) := (B18o a3 (Ne.symm (ma_ne2 A18_x A18_a3))).trans A18_a3
  have B18_a4 : B18 a4 = some (.inr (.int, List.replicate 30 (.int 0))) := (B18o a4 (Ne.symm (ma_ne2 A18_x A18_a4))).trans A18_a4
  have B18_a5 : B18 a5 = some (.inr (.int, List.replicate 90 (.int 0))) := (B18o a5 (Ne.symm (ma_ne2 A18_x A18_a5))).trans A18_a5
  have B18_a6 : B18 a6 = some (.inr (.int, List.replicate 1440 (.int 0))) := (B18o a6 (Ne.symm (ma_ne2 A18_x A18_a6))).trans A18_a6
  have B18_a7 : B18 a7 = some (.inr (.int, List.replicate 30 (.int 0))) := (B18o a7 (Ne.symm (ma_ne2 A18_x A18_a7))).trans A18_a7
  have B18_a8 : B18 a8 = some (.inr (.int, List.replicate 180 (.int 0))) := (B18o a8 (Ne.symm (ma_ne2 A18_x A18_a8))).trans A18_a8
  have B18_a9 : B18 a9 = some (.inr (.int, List.replicate 180 (.int 0))) := (B18o a9 (Ne.symm (ma_ne2 A18_x A18_a9))).trans A18_a9
  have B18_a10 : B18 a10 = some (.inr (.int, List.replicate 180 (.int 0))) := (B18o a10 (Ne.symm (ma_ne2 A18_x A18_a10))).trans A18_a10
  have B18_a11 : B18 a11 = some (.inr (.int, List.replicate 30 (.int 0))) := (B18o a11 (Ne.symm (ma_ne2 A18_x A18_a11))).trans A18_a11
  have B18_a12 : B18 a12 = some (.inr (.int, List.replicate 30 (.int 0))) := (B18o a12 (Ne.symm (ma_ne2 A18_x A18_a12))).trans A18_a12
  have B18_a13 : B18 a13 = some (.inr (.int, List.replicate 30 (.int 0))) := (B18o a13 (Ne.symm (ma_ne2 A18_x A18_a13))).trans A18_a13
  have B18_a14 : B18 a14 = some (.inr (.int, List.replicate 30 (.int 0))) := (B18o a14 (Ne.symm (ma_ne2 A18_x A18_a14))).trans A18_a14
  have B18_a15 : B18 a15 = some (.inr (.int, List.replicate 30 (.int 0))) := (B18o a15 (Ne.symm (ma_ne2 A18_x A18_a15))).trans A18_a15
  have B18_a17 : B18 a17 = some (.inr (.int, List.replicate 20 (.int 0))) := (B18o a17 (Ne.symm (ma_ne2 A18_x A18_a17))).trans A18_a17
  have B18_a18 : B18 a18 = some (.inr (.int, List.replicate 20 (.int 0))) := (B18o a18 (Ne.symm (ma_ne2 A18_x A18_a18))).trans A18_a18
  have B18_x : B18 x = some (.inl (10, [.int 0, .int 0, .ref a2, .ref a3, .ref a4, .ref a5, .ref a6, .ref a7, .ref a8, .ref a9, .ref a10, .ref a11, .ref a12, .ref a13, .ref a14, .ref a15, .int 0, .ref a17, .ref a18, .null, .null, .int 0, .null, .null, .null, .null, .int 0, .null, .int 0, .null, .null, .int 0, .null, .null, .null])) := B18a0
  have N32 : ∀ q, B18 q = none → M q = none := fun q h => N31 q (nn_new B18a0 B18o q h)
  refine m_aload_n C d_Mo_init_136 rfl rfl ?_
  refine m_bipush (v := 20) C d_Mo_init_137 (by decide) ?_
  refine m_newaE (N := 20) C d_Mo_init_139 rfl kt_int ac_int (fun _ h => by cases h) (by decide) (by decide) (by decide) (Nat.le_of_ble_eq_true rfl) (Nat.le_of_ble_eq_true rfl) (fun a19 A19 A19n A19w A19a0 A19o => ?_)
  have A19_a2 : A19 a2 = some (.inr (.int, List.replicate 30 (.int 0))) := (A19o a2 (ma_nef B18_a2 A19n)).trans B18_a2
  have A19_a3 : A19 a3 = some (.inr (.boolean, List.replicate 30 (.int 0))) := (A19o a3 (ma_nef B18_a3 A19n)).trans B18_a3
  have A19_a4 : A19 a4 = some (.inr (.int, List.replicate 30 (.int 0))) := (A19o a4 (ma_nef B18_a4 A19n)).trans B18_a4
  have A19_a5 : A19 a5 = some (.inr (.int, List.replicate 90 (.int 0))) := (A19o a5 (ma_nef B18_a5 A19n)).trans B18_a5
  have A19_a6 : A19 a6 = some (.inr (.int, List.replicate 1440 (.int 0))) := (A19o a6 (ma_nef B18_a6 A19n)).trans B18_a6
  have A19_a7 : A19 a7 = some (.inr (.int, List.replicate 30 (.int 0))) := (A19o a7 (ma_nef B18_a7 A19n)).trans B18_a7
  have A19_a8 : A19 a8 = some (.inr (.int, List.replicate 180 (.int 0))) := (A19o a8 (ma_nef B18_a8 A19n)).trans B18_a8
  have A19_a9 : A19 a9 = some (.inr (.int, List.replicate 180 (.int 0))) := (A19o a9 (ma_nef B18_a9 A19n)).trans B18_a9
  have A19_a10 : A19 a10 = some (.inr (.int, List.replicate 180 (.int 0))) := (A19o a10 (ma_nef B18_a10 A19n)).trans B18_a10
  have A19_a11 : A19 a11 = some (.inr (.int, List.replicate 30 (.int 0))) := (A19o a11 (ma_nef B18_a11 A19n)).trans B18_a11
  have A19_a12 : A19 a12 = some (.inr (.int, List.replicate 30 (.int 0))) := (A19o a12 (ma_nef B18_a12 A19n)).trans B18_a12
  have A19_a13 : A19 a13 = some (.inr (.int, List.replicate 30 (.int 0))) := (A19o a13 (ma_nef B18_a13 A19n)).trans B18_a13
  have A19_a14 : A19 a14 = some (.inr (.int, List.replicate 30 (.int 0))) := (A19o a14 (ma_nef B18_a14 A19n)).trans B18_a14
  have A19_a15 : A19 a15 = some (.inr (.int, List.replicate 30 (.int 0))) := (A19o a15 (ma_nef B18_a15 A19n)).trans B18_a15
  have A19_a17 : A19 a17 = some (.inr (.int, List.replicate 20 (.int 0))) := (A19o a17 (ma_nef B18_a17 A19n)).trans B18_a17
  have A19_a18 : A19 a18 = some (.inr (.int, List.replicate 20 (.int 0))) := (A19o a18 (ma_nef B18_a18 A19n)).trans B18_a18
  have A19_x : A19 x = some (.inl (10, [.int 0, .int 0, .ref a2, .ref a3, .ref a4, .ref a5, .ref a6, .ref a7, .ref a8, .ref a9, .ref a10, .ref a11, .ref a12, .ref a13, .ref a14, .ref a15, .int 0, .ref a17, .ref a18, .null, .null, .int 0, .null, .null, .null, .null, .int 0, .null, .int 0, .null, .null, .int 0, .null, .null, .null])) := (A19o x (ma_nef B18_x A19n)).trans B18_x
  have A19_a19 : A19 a19 = some (.inr (.int, List.replicate 20 (.int 0))) := A19a0
  have F19 : M a19 = none := N32 _ A19n
  have N33 : ∀ q, A19 q = none → M q = none := fun q h => N32 q (nn_new A19a0 A19o q h)
  refine m_putFE C (hI rfl) fp_Mo_59 d_Mo_init_141 (hw _ rfl) A19_x rfl rfl (fun B19 B19a0 B19o => ?_)
  have B19_a2 : B19 a2 = some (.inr (.int, List.replicate 30 (.int 0))) := (B19o a2 (Ne.symm (ma_ne2 A19_x A19_a2))).trans A19_a2
  have B19_a3 : B19 a3 = some (.inr (.boolean, List.replicate 30 (.int 0))) := (B19o a3 (Ne.symm (ma_ne2 A19_x A19_a3))).trans A19_a3
  have B19_a4 : B19 a4 = some (.inr (.int, List.replicate 30 (.int 0))) := (B19o a4 (Ne.symm (ma_ne2 A19_x A19_a4))).trans A19_a4
  have B19_a5 : B19 a5 = some (.inr (.int, List.replicate 90 (.int 0))) := (B19o a5 (Ne.symm (ma_ne2 A19_x A19_a5))).trans A19_a5
  have B19_a6 : B19 a6 = some (.inr (.int, List.replicate 1440 (.int 0))) := (B19o a6 (Ne.symm (ma_ne2 A19_x A19_a6))).trans A19_a6
  have B19_a7 : B19 a7 = some (.inr (.int, List.replicate 30 (.int 0))) := (B19o a7 (Ne.symm (ma_ne2 A19_x A19_a7))).trans A19_a7
  have B19_a8 : B19 a8 = some (.inr (.int, List.replicate 180 (.int 0))) := (B19o a8 (Ne.symm (ma_ne2 A19_x A19_a8))).trans A19_a8
  have B19_a9 : B19 a9 = some (.inr (.int, List.replicate 180 (.int 0))) := (B19o a9 (Ne.symm (ma_ne2 A19_x A19_a9))).trans A19_a9
  have B19_a10 : B19 a10 = some (.inr (.int, List.replicate 180 (.int 0))) := (B19o a10 (Ne.symm (ma_ne2 A19_x A19_a10))).trans A19_a10
  have B19_a11 : B19 a11 = some (.inr (.int, List.replicate 30 (.int 0))) := (B19o a11 (Ne.symm (ma_ne2 A19_x A19_a11))).trans A19_a11
  have B19_a12 : B19 a12 = some (.inr (.int, List.replicate 30 (.int 0))) := (B19o a12 (Ne.symm (ma_ne2 A19_x A19_a12))).trans A19_a12
  have B19_a13 : B19 a13 = some (.inr (.int, List.replicate 30 (.int 0))) := (B19o a13 (Ne.symm (ma_ne2 A19_x A19_a13))).trans A19_a13
  have B19_a14 : B19 a14 = some (.inr (.int, List.replicate 30 (.int 0))) := (B19o a14 (Ne.symm (ma_ne2 A19_x A19_a14))).trans A19_a14
  have B19_a15 : B19 a15 = some (.inr (.int, List.replicate 30 (.int 0))) := (B19o a15 (Ne.symm (ma_ne2 A19_x A19_a15))).trans A19_a15
  have B19_a17 : B19 a17 = some (.inr (.int, List.replicate 20 (.int 0))) := (B19o a17 (Ne.symm (ma_ne2 A19_x A19_a17))).trans A19_a17
  have B19_a18 : B19 a18 = some (.inr (.int, List.replicate 20 (.int 0))) := (B19o a18 (Ne.symm (ma_ne2 A19_x A19_a18))).trans A19_a18
  have B19_a19 : B19 a19 = some (.inr (.int, List.replicate 20 (.int 0))) := (B19o a19 (Ne.symm (ma_ne2 A19_x A19_a19))).trans A19_a19
  have B19_x : B19 x = some (.inl (10, [.int 0, .int 0, .ref a2, .ref a3, .ref a4, .ref a5, .ref a6, .ref a7, .ref a8, .ref a9, .ref a10, .ref a11, .ref a12, .ref a13, .ref a14, .ref a15, .int 0, .ref a17, .ref a18, .ref a19, .null, .int 0, .null, .null, .null, .null, .int 0, .null, .int 0, .null, .null, .int 0, .null, .null, .null])) := B19a0
  have N34 : ∀ q, B19 q = none → M q = none := fun q h => N33 q (nn_new B19a0 B19o q h)
  refine m_aload_n C d_Mo_init_144 rfl rfl ?_
  refine m_sipush (v := 160) C d_Mo_init_145 (by decide) ?_
  refine m_newaE (N := 160) C d_Mo_init_148 rfl kt_int ac_int (fun _ h => by cases h) (by decide) (by decide) (by decide) (Nat.le_of_ble_eq_true rfl) (Nat.le_of_ble_eq_true rfl) (fun a20 A20 A20n A20w A20a0 A20o => ?_)
  have A20_a2 : A20 a2 = some (.inr (.int, List.replicate 30 (.int 0))) := (A20o a2 (ma_nef B19_a2 A20n)).trans B19_a2
  have A20_a3 : A20 a3 = some (.inr (.boolean, List.replicate 30 (.int 0))) := (A20o a3 (ma_nef B19_a3 A20n)).trans B19_a3
  have A20_a4 : A20 a4 = some (.inr (.int, List.replicate 30 (.int 0))) := (A20o a4 (ma_nef B19_a4 A20n)).trans B19_a4
  have A20_a5 : A20 a5 = some (.inr (.int, List.replicate 90 (.int 0))) := (A20o a5 (ma_nef B19_a5 A20n)).trans B19_a5
  have A20_a6 : A20 a6 = some (.inr (.int, List.replicate 1440 (.int 0))) := (A20o a6 (ma_nef B19_a6 A20n)).trans B19_a6
  have A20_a7 : A20 a7 = some (.inr (.int, List.replicate 30 (.int 0))) := (A20o a7 (ma_nef B19_a7 A20n)).trans B19_a7
  have A20_a8 : A20 a8 = some (.inr (.int, List.replicate 180 (.int 0))) := (A20o a8 (ma_nef B19_a8 A20n)).trans B19_a8
  have A20_a9 : A20 a9 = some (.inr (.int, List.replicate 180 (.int 0))) := (A20o a9 (ma_nef B19_a9 A20n)).trans B19_a9
  have A20_a10 : A20 a10 = some (.inr (.int, List.replicate 180 (.int 0))) := (A20o a10 (ma_nef B19_a10 A20n)).trans B19_a10
  have A20_a11 : A20 a11 = some (.inr (.int, List.replicate 30 (.int 0))) := (A20o a11 (ma_nef B19_a11 A20n)).trans B19_a11
  have A20_a12 : A20 a12 = some (.inr (.int, List.replicate 30 (.int 0))) := (A20o a12 (ma_nef B19_a12 A20n)).trans B19_a12
  have A20_a13 : A20 a13 = some (.inr (.int, List.replicate 30 (.int 0))) := (A20o a13 (ma_nef B19_a13 A20n)).trans B19_a13
  have A20_a14 : A20 a14 = some (.inr (.int, List.replicate 30 (.int 0))) := (A20o a14 (ma_nef B19_a14 A20n)).trans B19_a14
  have A20_a15 : A20 a15 = some (.inr (.int, List.replicate 30 (.int 0))) := (A20o a15 (ma_nef B19_a15 A20n)).trans B19_a15
  have A20_a17 : A20 a17 = some (.inr (.int, List.replicate 20 (.int 0))) := (A20o a17 (ma_nef B19_a17 A20n)).trans B19_a17
  have A20_a18 : A20 a18 = some (.inr (.int, List.replicate 20 (.int 0))) := (A20o a18 (ma_nef B19_a18 A20n)).trans B19_a18
  have A20_a19 : A20 a19 = some (.inr (.int, List.replicate 20 (.int 0))) := (A20o a19 (ma_nef B19_a19 A20n)).trans B19_a19
  have A20_x : A20 x = some (.inl (10, [.int 0, .int 0, .ref a2, .ref a3, .ref a4, .ref a5, .ref a6, .ref a7, .ref a8, .ref a9, .ref a10, .ref a11, .ref a12, .ref a13, .ref a14, .ref a15, .int 0, .ref a17, .ref a18, .ref a19, .null, .int 0, .null, .null, .null, .null, .int 0, .null, .int 0, .null, .null, .int 0, .null, .null, .null])) := (A20o x (ma_nef B19_x A20n)).trans B19_x
  have A20_a20 : A20 a20 = some (.inr (.int, List.replicate 160 (.int 0))) := A20a0
  have F20 : M a20 = none := N34 _ A20n
  have N35 : ∀ q, A20 q = none → M q = none := fun q h => N34 q (nn_new A20a0 A20o q h)
  refine m_putFE C (hI rfl) fp_Mo_62 d_Mo_init_150 (hw _ rfl) A20_x rfl rfl (fun B20 B20a0 B20o => ?_)
  have B20_a2 : B20 a2 = some (.inr (.int, List.replicate 30 (.int 0))) := (B20o a2 (Ne.symm (ma_ne2 A20_x A20_a2))).trans A20_a2
  have B20_a3 : B20 a3 = some (.inr (.boolean, List.replicate 30 (.int 0))) := (B20o a3 (Ne.symm (ma_ne2 A20_x A20_a3))).trans A20_a3
  have B20_a4 : B20 a4 = some (.inr (.int, List.replicate 30 (.int 0))) := (B20o a4 (Ne.symm (ma_ne2 A20_x A20_a4))).trans A20_a4
  have B20_a5 : B20 a5 = some (.inr (.int, List.replicate 90 (.int 0))) := (B20o a5 (Ne.symm (ma_ne2 A20_x A20_a5))).trans A20_a5
  have B20_a6 : B20 a6 = some (.inr (.int, List.replicate 1440 (.int 0))) := (B20o a6 (Ne.symm (ma_ne2 A20_x A20_a6))).trans A20_a6
  have B20_a7 : B20 a7 = some (.inr (.int, List.replicate 30 (.int 0))) := (B20o a7 (Ne.symm (ma_ne2 A20_x A20_a7))).trans A20_a7
  have B20_a8 : B20 a8 = some (.inr (.int, List.replicate 180 (.int 0))) := (B20o a8 (Ne.symm (ma_ne2 A20_x A20_a8))).trans A20_a8
  have B20_a9 : B20 a9 = some (.inr (.int, List.replicate 180 (.int 0))) := (B20o a9 (Ne.symm (ma_ne2 A20_x A20_a9))).trans A20_a9
  have B20_a10 : B20 a10 = some (.inr (.int, List.replicate 180 (.int 0))) := (B20o a10 (Ne.symm (ma_ne2 A20_x A20_a10))).trans A20_a10
  have B20_a11 : B20 a11 = some (.inr (.int, List.replicate 30 (.int 0))) := (B20o a11 (Ne.symm (ma_ne2 A20_x A20_a11))).trans A20_a11
  have B20_a12 : B20 a12 = some (.inr (.int, List.replicate 30 (.int 0))) := (B20o a12 (Ne.symm (ma_ne2 A20_x A20_a12))).trans A20_a12
  have B20_a13 : B20 a13 = some (.inr (.int, List.replicate 30 (.int 0))) := (B20o a13 (Ne.symm (ma_ne2 A20_x A20_a13))).trans A20_a13
  have B20_a14 : B20 a14 = some (.inr (.int, List.replicate 30 (.int 0))) := (B20o a14 (Ne.symm (ma_ne2 A20_x A20_a14))).trans A20_a14
  have B20_a15 : B20 a15 = some (.inr (.int, List.replicate 30 (.int 0))) := (B20o a15 (Ne.symm (ma_ne2 A20_x A20_a15))).trans A20_a15
  have B20_a17 : B20 a17 = some (.inr (.int, List.replicate 20 (.int 0))) := (B20o a17 (Ne.symm (ma_ne2 A20_x A20_a17))).trans A20_a17
  have B20_a18 : B20 a18 = some (.inr (.int, List.replicate 20 (.int 0))) := (B20o a18 (Ne.symm (ma_ne2 A20_x A20_a18))).trans A20_a18
  have B20_a19 : B20 a19 = some (.inr (.int, List.replicate 20 (.int 0))) := (B20o a19 (Ne.symm (ma_ne2 A20_x A20_a19))).trans A20_a19
  have B20_a20 : B20 a20 = some (.inr (.int, List.replicate 160 (.int 0))) := (B20o a20 (Ne.symm (ma_ne2 A20_x A20_a20))).trans A20_a20
  have B20_x : B20 x = some (.inl (10, [.int 0, .int 0, .ref a2, .ref a3, .ref a4, .ref a5, .ref a6, .ref a7, .ref a8, .ref a9, .ref a10, .ref a11, .ref a12, .ref a13, .ref a14, .ref a15, .int 0, .ref a17, .ref a18, .ref a19, .ref a20, .int 0, .null, .null, .null, .null, .int 0, .null, .int 0, .null, .null, .int 0, .null, .null, .null])) := B20a0
  have N36 : ∀ q, B20 q = none → M q = none := fun q h => N35 q (nn_new B20a0 B20o q h)
  refine m_aload_n C d_Mo_init_153 rfl rfl ?_
  refine m_bipush (v := 40) C d_Mo_init_154 (by decide) ?_
  refine m_newaE (N := 40) C d_Mo_init_156 rfl kt_int ac_int (fun _ h => by cases h) (by decide) (by decide) (by decide) (Nat.le_of_ble_eq_true rfl) (Nat.le_of_ble_eq_true rfl) (fun a22 A22 A22n A22w A22a0 A22o => ?_)
  have A22_a2 : A22 a2 = some (.inr (.int, List.replicate 30 (.int 0))) := (A22o a2 (ma_nef B20_a2 A22n)).trans B20_a2
  have A22_a3 : A22 a3 = some (.inr (.boolean, List.replicate 30 (.int 0))) := (A22o a3 (ma_nef B20_a3 A22n)).trans B20_a3
  have A22_a4 : A22 a4 = some (.inr (.int, List.replicate 30 (.int 0))) := (A22o a4 (ma_nef B20_a4 A22n)).trans B20_a4
  have A22_a5 : A22 a5 = some (.inr (.int, List.replicate 90 (.int 0))) := (A22o a5 (ma_nef B20_a5 A22n)).trans B20_a5
  have A22_a6 : A22 a6 = some (.inr (.int, List.replicate 1440 (.int 0))) := (A22o a6 (ma_nef B20_a6 A22n)).trans B20_a6
  have A22_a7 : A22 a7 = some (.inr (.int, List.replicate 30 (.int 0))) := (A22o a7 (ma_nef B20_a7 A22n)).trans B20_a7
  have A22_a8 : A22 a8 = some (.inr (.int, List.replicate 180 (.int 0))) := (A22o a8 (ma_nef B20_a8 A22n)).trans B20_a8
  have A22_a9 : A22 a9 = some (.inr (.int, List.replicate 180 (.int 0))) := (A22o a9 (ma_nef B20_a9 A22n)).trans B20_a9
  have A22_a10 : A22 a10 = some (.inr (.int, List.replicate 180 (.int 0))) := (A22o a10 (ma_nef B20_a10 A22n)).trans B20_a10
  have A22_a11 : A22 a11 = some (.inr (.int, List.replicate 30 (.int 0))) := (A22o a11 (ma_nef B20_a11 A22n)).trans B20_a11
  have A22_a12 : A22 a12 = some (.inr (.int, List.replicate 30 (.int 0))) := (A22o a12 (ma_nef B20_a12 A22n)).trans B20_a12
  have A22_a13 : A22 a13 = some (.inr (.int, List.replicate 30 (.int 0))) := (A22o a13 (ma_nef B20_a13 A22n)).trans B20_a13
  have A22_a14 : A22 a14 = some (.inr (.int, List.replicate 30 (.int 0))) := (A22o a14 (ma_nef B20_a14 A22n)).trans B20_a14
  have A22_a15 : A22 a15 = some (.inr (.int, List.replicate 30 (.int 0))) := (A22o a15 (ma_nef B20_a15 A22n)).trans B20_a15
  have A22_a17 : A22 a17 = some (.inr (.int, List.replicate 20 (.int 0))) := (A22o a17 (ma_nef B20_a17 A22n)).trans B20_a17
  have A22_a18 : A22 a18 = some (.inr (.int, List.replicate 20 (.int 0))) := (A22o a18 (ma_nef B20_a18 A22n)).trans B20_a18
  have A22_a19 : A22 a19 = some (.inr (.int, List.replicate 20 (.int 0))) := (A22o a19 (ma_nef B20_a19 A22n)).trans B20_a19
  have A22_a20 : A22 a20 = some (.inr (.int, List.replicate 160 (.int 0))) := (A22o a20 (ma_nef B20_a20 A22n)).trans B20_a20
  have A22_x : A22 x = some (.inl (10, [.int 0, .int 0, .ref a2, .ref a3, .ref a4, .ref a5, .ref a6, .ref a7, .ref a8, .ref a9, .ref a10, .ref a11, .ref a12, .ref a13, .ref a14, .ref a15, .int 0, .ref a17, .ref a18, .ref a19, .ref a20, .int 0, .null, .null, .null, .null, .int 0, .null, .int 0, .null, .null, .int 0, .null, .null, .null])) := (A22o x (ma_nef B20_x A22n)).trans B20_x
  have A22_a22 : A22 a22 = some (.inr (.int, List.replicate 40 (.int 0))) := A22a0
  have F22 : M a22 = none := N36 _ A22n
  have N37 : ∀ q, A22 q = none → M q = none := fun q h => N36 q (nn_new A22a0 A22o q h)
  refine m_putFE C (hI rfl) fp_Mo_65 d_Mo_init_158 (hw _ rfl) A22_x rfl rfl (fun B22 B22a0 B22o => ?_)
  have B22_a2 : B22 a2 = some (.inr (.int, List.replicate 30 (.int 0))) := (B22o a2 (Ne.symm (ma_ne2 A22_x A22_a2))).trans A22_a2
  have B22_a3 : B22 a3 = some (.inr (.boolean, List.replicate 30 (.int 0))) := (B22o a3 (Ne.symm (ma_ne2 A22_x A22_a3))).trans A22_a3
  have B22_a4 : B22 a4 = some (.inr (.int, List.replicate 30 (.int 0))) := (B22o a4 (Ne.symm (ma_ne2 A22_x A22_a4))).trans A22_a4
  have B22_a5 : B22 a5 = some (.inr (.int, List.replicate 90 (.int 0))) := (B22o a5 (Ne.symm (ma_ne2 A22_x A22_a5))).trans A22_a5
  have B22_a6 : B22 a6 = some (.inr (.int, List.replicate 1440 (.int 0))) := (B22o a6 (Ne.symm (ma_ne2 A22_x A22_a6))).trans A22_a6
  have B22_a7 : B22 a7 = some (.inr (.int, List.replicate 30 (.int 0))) := (B22o a7 (Ne.symm (ma_ne2 A22_x A22_a7))).trans A22_a7
  have B22_a8 : B22 a8 = some (.inr (.int, List.replicate 180 (.int 0))) := (B22o a8 (Ne.symm (ma_ne2 A22_x A22_a8))).trans A22_a8
  have B22_a9 : B22 a9 = some (.inr (.int, List.replicate 180 (.int 0))) := (B22o a9 (Ne.symm (ma_ne2 A22_x A22_a9))).trans A22_a9
  have B22_a10 : B22 a10 = some (.inr (.int, List.replicate 180 (.int 0))) := (B22o a10 (Ne.symm (ma_ne2 A22_x A22_a10))).trans A22_a10
  have B22_a11 : B22 a11 = some (.inr (.int, List.replicate 30 (.int 0))) := (B22o a11 (Ne.symm (ma_ne2 A22_x A22_a11))).trans A22_a11
  have B22_a12 : B22 a12 = some (.inr (.int, List.replicate 30 (.int 0))) := (B22o a12 (Ne.symm (ma_ne2 A22_x A22_a12))).trans A22_a12
  have B22_a13 : B22 a13 = some (.inr (.int, List.replicate 30 (.int 0))) := (B22o a13 (Ne.symm (ma_ne2 A22_x A22_a13))).trans A22_a13
  have B22_a14 : B22 a14 = some (.inr (.int, List.replicate 30 (.int 0))) := (B22o a14 (Ne.symm (ma_ne2 A22_x A22_a14))).trans A22_a14
  have B22_a15 : B22 a15 = some (.inr (.int, List.replicate 30 (.int 0))) := (B22o a15 (Ne.symm (ma_ne2 A22_x A22_a15))).trans A22_a15
  have B22_a17 : B22 a17 = some (.inr (.int, List.replicate 20 (.int 0))) := (B22o a17 (Ne.symm (ma_ne2 A22_x A22_a17))).trans A22_a17
  have B22_a18 : B22 a18 = some (.inr (.int, List.replicate 20 (.int 0))) := (B22o a18 (Ne.symm (ma_ne2 A22_x A22_a18))).trans A22_a18
  have B22_a19 : B22 a19 = some (.inr (.int, List.replicate 20 (.int 0))) := (B22o a19 (Ne.symm (ma_ne2 A22_x A22_a19))).trans A22_a19
  have B22_a20 : B22 a20 = some (.inr (.int, List.replicate 160 (.int 0))) := (B22o a20 (Ne.symm (ma_ne2 A22_x A22_a20))).trans A22_a20
  have B22_a22 : B22 a22 = some (.inr (.int, List.replicate 40 (.int 0))) := (B22o a22 (Ne.symm (ma_ne2 A22_x A22_a22))).trans A22_a22
  have B22_x : B22 x = some (.inl (10, [.int 0, .int 0, .ref a2, .ref a3, .ref a4, .ref a5, .ref a6, .ref a7, .ref a8, .ref a9, .ref a10, .ref a11, .ref a12, .ref a13, .ref a14, .ref a15, .int 0, .ref a17, .ref a18, .ref a19, .ref a20, .int 0, .ref a22, .null, .null, .null, .int 0, .null, .int 0, .null, .null, .int 0, .null, .null, .null])) := B22a0
  have N38 : ∀ q, B22 q = none → M q = none := fun q h => N37 q (nn_new B22a0 B22o q h)
  refine m_aload_n C d_Mo_init_161 rfl rfl ?_
  refine m_bipush (v := 40) C d_Mo_init_162 (by decide) ?_
  refine m_newaE (N := 40) C d_Mo_init_164 rfl kt_int ac_int (fun _ h => by cases h) (by decide) (by decide) (by decide) (Nat.le_of_ble_eq_true rfl) (Nat.le_of_ble_eq_true rfl) (fun a23 A23 A23n A23w A23a0 A23o => ?_)
  have A23_a2 : A23 a2 = some (.inr (.int, List.replicate 30 (.int 0))) := (A23o a2 (ma_nef B22_a2 A23n)).trans B22_a2
  have A23_a3 : A23 a3 = some (.inr (.boolean, List.replicate 30 (.int 0))) := (A23o a3 (ma_nef B22_a3 A23n)).trans B22_a3
  have A23_a4 : A23 a4 = some (.inr (.int, List.replicate 30 (.int 0))) := (A23o a4 (ma_nef B22_a4 A23n)).trans B22_a4
  have A23_a5 : A23 a5 = some (.inr (.int, List.replicate 90 (.int 0))) := (A23o a5 (ma_nef B22_a5 A23n)).trans B22_a5
  have A23_a6 : A23 a6 = some (.inr (.int, List.replicate 1440 (.int 0))) := (A23o a6 (ma_nef B22_a6 A23n)).trans B22_a6
  have A23_a7 : A23 a7 = some (.inr (.int, List.replicate 30 (.int 0))) := (A23o a7 (ma_nef B22_a7 A23n)).trans B22_a7
  have A23_a8 : A23 a8 = some (.inr (.int, List.replicate 180 (.int 0))) := (A23o a8 (ma_nef B22_a8 A23n)).trans B22_a8
  have A23_a9 : A23 a9 = some (.inr (.int, List.replicate 180 (.int 0))) := (A23o a9 (ma_nef B22_a9 A23n)).trans B22_a9
  have A23_a10 : A23 a10 = some (.inr (.int, List.replicate 180 (.int 0))) := (A23o a10 (ma_nef B22_a10 A23n)).trans B22_a10
  have A23_a11 : A23 a11 = some (.inr (.int, List.replicate 30 (.int 0))) := (A23o a11 (ma_nef B22_a11 A23n)).trans B22_a11
  have A23_a12 : A23 a12 = some (.inr (.int, List.replicate 30 (.int 0))) := (A23o a12 (ma_nef B22_a12 A23n)).trans B22_a12
  have A23_a13 : A23 a13 = some (.inr (.int, List.replicate 30 (.int 0))) := (A23o a13 (ma_nef B22_a13 A23n)).trans B22_a13
  have A23_a14 : A23 a14 = some (.inr (.int, List.replicate 30 (.int 0))) := (A23o a14 (ma_nef B22_a14 A23n)).trans B22_a14
  have A23_a15 : A23 a15 = some (.inr (.int, List.replicate 30 (.int 0))) := (A23o a15 (ma_nef B22_a15 A23n)).trans B22_a15
  have A23_a17 : A23 a17 = some (.inr (.int, List.replicate 20 (.int 0))) := (A23o a17 (ma_nef B22_a17 A23n)).trans B22_a17
  have A23_a18 : A23 a18 = some (.inr (.int, List.replicate 20 (.int 0))) := (A23o a18 (ma_nef B22_a18 A23n)).trans B22_a18
  have A23_a19 : A23 a19 = some (.inr (.int, List.replicate 20 (.int 0))) := (A23o a19 (ma_nef B22_a19 A23n)).trans B22_a19
  have A23_a20 : A23 a20 = some (.inr (.int, List.replicate 160 (.int 0))) := (A23o a20 (ma_nef B22_a20 A23n)).trans B22_a20
  have A23_a22 : A23 a22 = some (.inr (.int, List.replicate 40 (.int 0))) := (A23o a22 (ma_nef B22_a22 A23n)).trans B22_a22
  have A23_x : A23 x = some (.inl (10, [.int 0, .int 0, .ref a2, .ref a3, .ref a4, .ref a5, .ref a6, .ref a7, .ref a8, .ref a9, .ref a10, .ref a11, .ref a12, .ref a13, .ref a14, .ref a15, .int 0, .ref a17, .ref a18, .ref a19, .ref a20, .int 0, .ref a22, .null, .null, .null, .int 0, .null, .int 0, .null, .null, .int 0, .null, .null, .null])) := (A23o x (ma_nef B22_x A23n)).trans B22_x
  have A23_a23 : A23 a23 = some (.inr (.int, List.replicate 40 (.int 0))) := A23a0
  have F23 : M a23 = none := N38 _ A23n
  have N39 : ∀ q, A23 q = none → M q = none := fun q h => N38 q (nn_new A23a0 A23o q h)
  refine m_putFE C (hI rfl) fp_Mo_68 d_Mo_init_166 (hw _ rfl) A23_x rfl rfl (fun B23 B23a0 B23o => ?_)
  have B23_a2 : B23 a2 = some (.inr (.int, List.replicate 30 (.int 0))) := (B23o a2 (Ne.symm (ma_ne2 A23_x A23_a2))).trans A23_a2
  have B23_a3 : B23 a3 = some (.inr (.boolean, List.replicate 30 (.int 0))) := (B23o a3 (Ne.symm (ma_ne2 A23_x A23_a3))).trans A23_a3
  have B23_a4 : B23 a4 = some (.inr (.int, List.replicate 30 (.int 0))) := (B23o a4 (Ne.symm (ma_ne2 A23_x A23_a4))).trans A23_a4
  have B23_a5 : B23 a5 = some (.inr (.int, List.replicate 90 (.int 0))) := (B23o a5 (Ne.symm (ma_ne2 A23_x A23_a5))).trans A23_a5
  have B23_a6 : B23 a6 = some (.inr (.int, List.replicate 1440 (.int 0))) := (B23o a6 (Ne.symm (ma_ne2 A23_x A23_a6))).trans A23_a6
  have B23_a7 : B23 a7 = some (.inr (.int, List.replicate 30 (.int 0))) := (B23o a7 (Ne.symm (ma_ne2 A23_x A23_a7))).trans A23_a7
  have B23_a8 : B23 a8 = some (.inr (.int, List.replicate 180 (.int 0))) := (B23o a8 (Ne.symm (ma_ne2 A23_x A23_a8))).trans A23_a8
  have B23_a9 : B23 a9 = some (.inr (.int, List.replicate 180 (.int 0))) := (B23o a9 (Ne.symm (ma_ne2 A23_x A23_a9))).trans A23_a9
  have B23_a10 : B23 a10 = some (.inr (.int, List.replicate 180 (.int 0))) := (B23o a10 (Ne.symm (ma_ne2 A23_x A23_a10))).trans A23_a10
  have B23_a11 : B23 a11 = some (.inr (.int, List.replicate 30 (.int 0))) := (B23o a11 (Ne.symm (ma_ne2 A23_x A23_a11))).trans A23_a11
  have B23_a12 : B23 a12 = some (.inr (.int, List.replicate 30 (.int 0))) := (B23o a12 (Ne.symm (ma_ne2 A23_x A23_a12))).trans A23_a12
  have B23_a13 : B23 a13 = some (.inr (.int, List.replicate 30 (.int 0))) := (B23o a13 (Ne.symm (ma_ne2 A23_x A23_a13))).trans A23_a13
  have B23_a14 : B23 a14 = some (.inr (.int, List.replicate 30 (.int 0))) := (B23o a14 (Ne.symm (ma_ne2 A23_x A23_a14))).trans A23_a14
  have B23_a15 : B23 a15 = some (.inr (.int, List.replicate 30 (.int 0))) := (B23o a15 (Ne.symm (ma_ne2 A23_x A23_a15))).trans A23_a15
  have B23_a17 : B23 a17 = some (.inr (.int, List.replicate 20 (.int 0))) := (B23o a17 (Ne.symm (ma_ne2 A23_x A23_a17))).trans A23_a17
  have B23_a18 : B23 a18 = some (.inr (.int, List.replicate 20 (.int 0))) := (B23o a18 (Ne.symm (ma_ne2 A23_x A23_a18))).trans A23_a18
  have B23_a19 : B23 a19 = some (.inr (.int, List.replicate 20 (.int 0))) := (B23o a19 (Ne.symm (ma_ne2 A23_x A23_a19))).trans A23_a19
  have B23_a20 : B23 a20 = some (.inr (.int, List.replicate 160 (.int 0))) := (B23o a20 (Ne.symm (ma_ne2 A23_x A23_a20))).trans A23_a20
  have B23_a22 : B23 a22 = some (.inr (.int, List.replicate 40 (.int 0))) := (B23o a22 (Ne.symm (ma_ne2 A23_x A23_a22))).trans A23_a22
  have B23_a23 : B23 a23 = some (.inr (.int, List.replicate 40 (.int 0))) := (B23o a23 (Ne.symm (ma_ne2 A23_x A23_a23))).trans A23_a23
  have B23_x : B23 x = some (.inl (10, [.int 0, .int 0, .ref a2, .ref a3, .ref a4, .ref a5, .ref a6, .ref a7, .ref a8, .ref a9, .ref a10, .ref a11, .ref a12, .ref a13, .ref a14, .ref a15, .int 0, .ref a17, .ref a18, .ref a19, .ref a20, .int 0, .ref a22, .ref a23, .null, .null, .int 0, .null, .int 0, .null, .null, .int 0, .null, .null, .null])) := B23a0
  have N40 : ∀ q, B23 q = none → M q = none := fun q h => N39 q (nn_new B23a0 B23o q h)
  refine m_aload_n C d_Mo_init_169 rfl rfl ?_
  refine m_bipush (v := 40) C d_Mo_init_170 (by decide) ?_
  refine m_newaE (N := 40) C d_Mo_init_172 rfl kt_int ac_int (fun _ h => by cases h) (by decide) (by decide) (by decide) (Nat.le_of_ble_eq_true rfl) (Nat.le_of_ble_eq_true rfl) (fun a24 A24 A24n A24w A24a0 A24o => ?_)
  have A24_a2 : A24 a2 = some (.inr (.int, List.replicate 30 (.int 0))) := (A24o a2 (ma_nef B23_a2 A24n)).trans B23_a2
  have A24_a3 : A24 a3 = some (.inr (.boolean, List.replicate 30 (.int 0))) := (A24o a3 (ma_nef B23_a3 A24n)).trans B23_a3
  have A24_a4 : A24 a4 = some (.inr (.int, List.replicate 30 (.int 0))) := (A24o a4 (ma_nef B23_a4 A24n)).trans B23_a4
  have A24_a5 : A24 a5 = some (.inr (.int, List.replicate 90 (.int 0))) := (A24o a5 (ma_nef B23_a5 A24n)).trans B23_a5
  have A24_a6 : A24 a6 = some (.inr (.int, List.replicate 1440 (.int 0))) := (A24o a6 (ma_nef B23_a6 A24n)).trans B23_a6
  have A24_a7 : A24 a7 = some (.inr (.int, List.replicate 30 (.int 0))) := (A24o a7 (ma_nef B23_a7 A24n)).trans B23_a7
  have A24_a8 : A24 a8 = some (.inr (.int, List.replicate 180 (.int 0))) := (A24o a8 (ma_nef B23_a8 A24n)).trans B23_a8
  have A24_a9 : A24 a9 = some (.inr (.int, List.replicate 180 (.int 0))) := (A24o a9 (ma_nef B23_a9 A24n)).trans B23_a9
  have A24_a10 : A24 a10 = some (.inr (.int, List.replicate 180 (.int 0))) := (A24o a10 (ma_nef B23_a10 A24n)).trans B23_a10
  have A24_a11 : A24 a11 = some (.inr (.int, List.replicate 30 (.int 0))) := (A24o a11 (ma_nef B23_a11 A24n)).trans B23_a11
  have A24_a12 : A24 a12 = some (.inr (.int, List.replicate 30 (.int 0))) := (A24o a12 (ma_nef B23_a12 A24n)).trans B23_a12
  have A24_a13 : A24 a13 = some (.inr (.int, List.replicate 30 (.int 0))) := (A24o a13 (ma_nef B23_a13 A24n)).trans B23_a13
  have A24_a14 : A24 a14 = some (.inr (.int, List.replicate 30 (.int 0))) := (A24o a14 (ma_nef B23_a14 A24n)).trans B23_a14
  have A24_a15 : A24 a15 = some (.inr (.int, List.replicate 30 (.int 0))) := (A24o a15 (ma_nef B23_a15 A24n)).trans B23_a15
  have A24_a17 : A24 a17 = some (.inr (.int, List.replicate 20 (.int 0))) := (A24o a17 (ma_nef B23_a17 A24n)).trans B23_a17
  have A24_a18 : A24 a18 = some (.inr (.int, List.replicate 20 (.int 0))) := (A24o a18 (ma_nef B23_a18 A24n)).trans B23_a18
  have A24_a19 : A24 a19 = some (.inr (.int, List.replicate 20 (.int 0))) := (A24o a19 (ma_nef B23_a19 A24n)).trans B23_a19
  have A24_a20 : A24 a20 = some (.inr (.int, List.replicate 160 (.int 0))) := (A24o a20 (ma_nef B23_a20 A24n)).trans B23_a20
  have A24_a22 : A24 a22 = some (.inr (.int, List.replicate 40 (.int 0))) := (A24o a22 (ma_nef B23_a22 A24n)).trans B23_a22
  have A24_a23 : A24 a23 = some (.inr (.int, List.replicate 40 (.int 0))) := (A24o a23 (ma_nef B23_a23 A24n)).trans B23_a23
  have A24_x : A24 x = some (.inl (10, [.int 0, .int 0, .ref a2, .ref a3, .ref a4, .ref a5, .ref a6, .ref a7, .ref a8, .ref a9, .ref a10, .ref a11, .ref a12, .ref a13, .ref a14, .ref a15, .int 0, .ref a17, .ref a18, .ref a19, .ref a20, .int 0, .ref a22, .ref a23, .null, .null, .int 0, .null, .int 0, .null, .null, .int 0, .null, .null, .null])) := (A24o x (ma_nef B23_x A24n)).trans B23_x
  have A24_a24 : A24 a24 = some (.inr (.int, List.replicate 40 (.int 0))) := A24a0
  have F24 : M a24 = none := N40 _ A24n
  have N41 : ∀ q, A24 q = none → M q = none := fun q h => N40 q (nn_new A24a0 A24o q h)
  refine m_putFE C (hI rfl) fp_Mo_71 d_Mo_init_174 (hw _ rfl) A24_x rfl rfl (fun B24 B24a0 B24o => ?_)
  have B24_a2 : B24 a2 = some (.inr (.int, List.replicate 30 (.int 0))) := (B24o a2 (Ne.symm (ma_ne2 A24_x A24_a2))).trans A24_a2
  have B24_a3 : B24 a3 = some (.inr (.boolean, List.replicate 30 (.int 0))) := (B24o a3 (Ne.symm (ma_ne2 A24_x A24_a3))).trans A24_a3
  have B24_a4 : B24 a4 = some (.inr (.int, List.replicate 30 (.int 0))) := (B24o a4 (Ne.symm (ma_ne2 A24_x A24_a4))).trans A24_a4
  have B24_a5 : B24 a5 = some (.inr (.int, List.replicate 90 (.int 0))) := (B24o a5 (Ne.symm (ma_ne2 A24_x A24_a5))).trans A24_a5
  have B24_a6 : B24 a6 = some (.inr (.int, List.replicate 1440 (.int 0))) := (B24o a6 (Ne.symm (ma_ne2 A24_x A24_a6))).trans A24_a6
  have B24_a7 : B24 a7 = some (.inr (.int, List.replicate 30 (.int 0))) := (B24o a7 (Ne.symm (ma_ne2 A24_x A24_a7))).trans A24_a7
  have B24_a8 : B24 a8 = some (.inr (.int, List.replicate 180 (.int 0))) := (B24o a8 (Ne.symm (ma_ne2 A24_x A24_a8))).trans A24_a8
  have B24_a9 : B24 a9 = some (.inr (.int, List.replicate 180 (.int 0))) := (B24o a9 (Ne.symm (ma_ne2 A24_x A24_a9))).trans A24_a9
  have B24_a10 : B24 a10 = some (.inr (.int, List.replicate 180 (.int 0))) := (B24o a10 (Ne.symm (ma_ne2 A24_x A24_a10))).trans A24_a10
  have B24_a11 : B24 a11 = some (.inr (.int, List.replicate 30 (.int 0))) := (B24o a11 (Ne.symm (ma_ne2 A24_x A24_a11))).trans A24_a11
  have B24_a12 : B24 a12 = some (.inr (.int, List.replicate 30 (.int 0))) := (B24o a12 (Ne.symm (ma_ne2 A24_x A24_a12))).trans A24_a12
  have B24_a13 : B24 a13 = some (.inr (.int, List.replicate 30 (.int 0))) := (B24o a13 (Ne.symm (ma_ne2 A24_x A24_a13))).trans A24_a13
  have B24_a14 : B24 a14 = some (.inr (.int, List.replicate 30 (.int 0))) := (B24o a14 (Ne.symm (ma_ne2 A24_x A24_a14))).trans A24_a14
  have B24_a15 : B24 a15 = some (.inr (.int, List.replicate 30 (.int 0))) := (B24o a15 (Ne.symm (ma_ne2 A24_x A24_a15))).trans A24_a15
  have B24_a17 : B24 a17 = some (.inr (.int, List.replicate 20 (.int 0))) := (B24o a17 (Ne.symm (ma_ne2 A24_x A24_a17))).trans A24_a17
  have B24_a18 : B24 a18 = some (.inr (.int, List.replicate 20 (.int 0))) := (B24o a18 (Ne.symm (ma_ne2 A24_x A24_a18))).trans A24_a18
  have B24_a19 : B24 a19 = some (.inr (.int, List.replicate 20 (.int 0))) := (B24o a19 (Ne.symm (ma_ne2 A24_x A24_a19))).trans A24_a19
  have B24_a20 : B24 a20 = some (.inr (.int, List.replicate 160 (.int 0))) := (B24o a20 (Ne.symm (ma_ne2 A24_x A24_a20))).trans A24_a20
  have B24_a22 : B24 a22 = some (.inr (.int, List.replicate 40 (.int 0))) := (B24o a22 (Ne.symm (ma_ne2 A24_x A24_a22))).trans A24_a22
  have B24_a23 : B24 a23 = some (.inr (.int, List.replicate 40 (.int 0))) := (B24o a23 (Ne.symm (ma_ne2 A24_x A24_a23))).trans A24_a23
  have B24_a24 : B24 a24 = some (.inr (.int, List.replicate 40 (.int 0))) := (B24o a24 (Ne.symm (ma_ne2 A24_x A24_a24))).trans A24_a24
  have B24_x : B24 x = some (.inl (10, [.int 0, .int 0, .ref a2, .ref a3, .ref a4, .ref a5, .ref a6, .ref a7, .ref a8, .ref a9, .ref a10, .ref a11, .ref a12, .ref a13, .ref a14, .ref a15, .int 0, .ref a17, .ref a18, .ref a19, .ref a20, .int 0, .ref a22, .ref a23, .ref a24, .null, .int 0, .null, .int 0, .null, .null, .int 0, .null, .null, .null])) := B24a0
  have N42 : ∀ q, B24 q = none → M q = none := fun q h => N41 q (nn_new B24a0 B24o q h)
  refine m_aload_n C d_Mo_init_177 rfl rfl ?_
  refine m_bipush (v := 40) C d_Mo_init_178 (by decide) ?_
  refine m_newaE (N := 40) C d_Mo_init_180 rfl kt_int ac_int (fun _ h => by cases h) (by decide) (by decide) (by decide) (Nat.le_of_ble_eq_true rfl) (Nat.le_of_ble_eq_true rfl) (fun a25 A25 A25n A25w A25a0 A25o => ?_)
  have A25_a2 : A25 a2 = some (.inr (.int, List.replicate 30 (.int 0))) := (A25o a2 (ma_nef B24_a2 A25n)).trans B24_a2
  have A25_a3 : A25 a3 = some (.inr (.boolean, List.replicate 30 (.int 0))) := (A25o a3 (ma_nef B24_a3 A25n)).trans B24_a3
  have A25_a4 : A25 a4 = some (.inr (.int, List.replicate 30 (.int 0))) := (A25o a4 (ma_nef B24_a4 A25n)).trans B24_a4
  have A25_a5 : A25 a5 = some (.inr (.int, List.replicate 90 (.int 0))) := (A25o a5 (ma_nef B24_a5 A25n)).trans B24_a5
  have A25_a6 : A25 a6 = some (.inr (.int, List.replicate 1440 (.int 0))) := (A25o a6 (ma_nef B24_a6 A25n)).trans B24_a6
  have A25_a7 : A25 a7 = some (.inr (.int, List.replicate 30 (.int 0))) := (A25o a7 (ma_nef B24_a7 A25n)).trans B24_a7
  have A25_a8 : A25 a8 = some (.inr (.int, List.replicate 180 (.int 0))) := (A25o a8 (ma_nef B24_a8 A25n)).trans B24_a8
  have A25_a9 : A25 a9 = some (.inr (.int, List.replicate 180 (.int 0))) := (A25o a9 (ma_nef B24_a9 A25n)).trans B24_a9
  have A25_a10 : A25 a10 = some (.inr (.int, List.replicate 180 (.int 0))) := (A25o a10 (ma_nef B24_a10 A25n)).trans B24_a10
  have A25_a11 : A25 a11 = some (.inr (.int, List.replicate 30 (.int 0))) := (A25o a11 (ma_nef B24_a11 A25n)).trans B24_a11
  have A25_a12 : A25 a12 = some (.inr (.int, List.replicate 30 (.int 0))) := (A25o a12 (ma_nef B24_a12 A25n)).trans B24_a12
  have A25_a13 : A25 a13 = some (.inr (.int, List.replicate 30 (.int 0))) := (A25o a13 (ma_nef B24_a13 A25n)).trans B24_a13
  have A25_a14 : A25 a14 = some (.inr (.int, List.replicate 30 (.int 0))) := (A25o a14 (ma_nef B24_a14 A25n)).trans B24_a14
  have A25_a15 : A25 a15 = some (.inr (.int, List.replicate 30 (.int 0))) := (A25o a15 (ma_nef B24_a15 A25n)).trans B24_a15
  have A25_a17 : A25 a17 = some (.inr (.int, List.replicate 20 (.int 0))) := (A25o a17 (ma_nef B24_a17 A25n)).trans B24_a17
  have A25_a18 : A25 a18 = some (.inr (.int, List.replicate 20 (.int 0))) := (A25o a18 (ma_nef B24_a18 A25n)).trans B24_a18
  have A25_a19 : A25 a19 = some (.inr (.int, List.replicate 20 (.int 0))) := (A25o a19 (ma_nef B24_a19 A25n)).trans B24_a19
  have A25_a20 : A25 a20 = some (.inr (.int, List.replicate 160 (.int 0))) := (A25o a20 (ma_nef B24_a20 A25n)).trans B24_a20
  have A25_a22 : A25 a22 = some (.inr (.int, List.replicate 40 (.int 0))) := (A25o a22 (ma_nef B24_a22 A25n)).trans B24_a22
  have A25_a23 : A25 a23 = some (.inr (.int, List.replicate 40 (.int 0))) := (A25o a23 (ma_nef B24_a23 A25n)).trans B24_a23
  have A25_a24 : A25 a24 = some (.inr (.int, List.replicate 40 (.int 0))) := (A25o a24 (ma_nef B24_a24 A25n)).trans B24_a24
  have A25_x : A25 x = some (.inl (10, [.int 0, .int 0, .ref a2, .ref a3, .ref a4, .ref a5, .ref a6, .ref a7, .ref a8, .ref a9, .ref a10, .ref a11, .ref a12, .ref a13, .ref a14, .ref a15, .int 0, .ref a17, .ref a18, .ref a19, .ref a20, .int 0, .ref a22, .ref a23, .ref a24, .null, .int 0, .null, .int 0, .null, .null, .int 0, .null, .null, .null])) := (A25o x (ma_nef B24_x A25n)).trans B24_x
  have A25_a25 : A25 a25 = some (.inr (.int, List.replicate 40 (.int 0))) := A25a0
  have F25 : M a25 = none := N42 _ A25n
  have N43 : ∀ q, A25 q = none → M q = none := fun q h => N42 q (nn_new A25a0 A25o q h)
  refine m_putFE C (hI rfl) fp_Mo_74 d_Mo_init_182 (hw _ rfl) A25_x rfl rfl (fun B25 B25a0 B25o => ?_)
  have B25_a2 : B25 a2 = some (.inr (.int, List.replicate 30 (.int 0))) := (B25o a2 (Ne.symm (ma_ne2 A25_x A25_a2))).trans A25_a2
  have B25_a3 : B25 a3 = some (.inr (.boolean, List.replicate 30 (.int 0))) := (B25o a3 (Ne.symm (ma_ne2 A25_x A25_a3))).trans A25_a3
  have B25_a4 : B25 a4 = some (.inr (.int, List.replicate 30 (.int 0))) := (B25o a4 (Ne.symm (ma_ne2 A25_x A25_a4))).trans A25_a4
  have B25_a5 : B25 a5 = some (.inr (.int, List.replicate 90 (.int 0))) := (B25o a5 (Ne.symm (ma_ne2 A25_x A25_a5))).trans A25_a5
  have B25_a6 : B25 a6 = some (.inr (.int, List.replicate 1440 (.int 0))) := (B25o a6 (Ne.symm (ma_ne2 A25_x A25_a6))).trans A25_a6
  have B25_a7 : B25 a7 = some (.inr (.int, List.replicate 30 (.int 0))) := (B25o a7 (Ne.symm (ma_ne2 A25_x A25_a7))).trans A25_a7
  have B25_a8 : B25 a8 = some (.inr (.int, List.replicate 180 (.int 0))) := (B25o a8 (Ne.symm (ma_ne2 A25_x A25_a8))).trans A25_a8
  have B25_a9 : B25 a9 = some (.inr (.int, List.replicate 180 (.int 0))) := (B25o a9 (Ne.symm (ma_ne2 A25_x A25_a9))).trans A25_a9
  have B25_a10 : B25 a10 = some (.inr (.int, List.replicate 180 (.int 0))) := (B25o a10 (Ne.symm (ma_ne2 A25_x A25_a10))).trans A25_a10
  have B25_a11 : B25 a11 = some (.inr (.int, List.replicate 30 (.int 0))) := (B25o a11 (Ne.symm (ma_ne2 A25_x A25_a11))).trans A25_a11
  have B25_a12 : B25 a12 = some (.inr (.int, List.replicate 30 (.int 0))) := (B25o a12 (Ne.symm (ma_ne2 A25_x A25_a12))).trans A25_a12
  have B25_a13 : B25 a13 = some (.inr (.int, List.replicate 30 (.int 0))) := (B25o a13 (Ne.symm (ma_ne2 A25_x A25_a13))).trans A25_a13
  have B25_a14 : B25 a14 = some (.inr (.int, List.replicate 30 (.int 0))) := (B25o a14 (Ne.symm (ma_ne2 A25_x A25_a14))).trans A25_a14
  have B25_a15 : B25 a15 = some (.inr (.int, List.replicate 30 (.int 0))) := (B25o a15 (Ne.symm (ma_ne2 A25_x A25_a15))).trans A25_a15
  have B25_a17 : B25 a17 = some (.inr (.int, List.replicate 20 (.int 0))) := (B25o a17 (Ne.symm (ma_ne2 A25_x A25_a17))).trans A25_a17
  have B25_a18 : B25 a18 = some (.inr (.int, List.replicate 20 (.int 0))) := (B25o a18 (Ne.symm (ma_ne2 A25_x A25_a18))).trans A25_a18
  have B25_a19 : B25 a19 = some (.inr (.int, List.replicate 20 (.int 0))) := (B25o a19 (Ne.symm (ma_ne2 A25_x A25_a19))).trans A25_a19
  have B25_a20 : B25 a20 = some (.inr (.int, List.replicate 160 (.int 0))) := (B25o a20 (Ne.symm (ma_ne2 A25_x A25_a20))).trans A25_a20
  have B25_a22 : B25 a22 = some (.inr (.int, List.replicate 40 (.int 0))) := (B25o a22 (Ne.symm (ma_ne2 A25_x A25_a22))).trans A25_a22
  have B25_a23 : B25 a23 = some (.inr (.int, List.replicate 40 (.int 0))) := (B25o a23 (Ne.symm (ma_ne2 A25_x A25_a23))).trans A25_a23
  have B25_a24 : B25 a24 = some (.inr (.int, List.replicate 40 (.int 0))) := (B25o a24 (Ne.symm (ma_ne2 A25_x A25_a24))).trans A25_a24
  have B25_a25 : B25 a25 = some (.inr (.int, List.replicate 40 (.int 0))) := (B25o a25 (Ne.symm (ma_ne2 A25_x A25_a25))).trans A25_a25
  have B25_x : B25 x = some (.inl (10, [.int 0, .int 0, .ref a2, .ref a3, .ref a4, .ref a5, .ref a6, .ref a7, .ref a8, .ref a9, .ref a10, .ref a11, .ref a12, .ref a13, .ref a14, .ref a15, .int 0, .ref a17, .ref a18, .ref a19, .ref a20, .int 0, .ref a22, .ref a23, .ref a24, .ref a25, .int 0, .null, .int 0, .null, .null, .int 0, .null, .null, .null])) := B25a0
  have N44 : ∀ q, B25 q = none → M q = none := fun q h => N43 q (nn_new B25a0 B25o q h)
  refine m_aload_n C d_Mo_init_185 rfl rfl ?_
  refine m_bipush (v := 40) C d_Mo_init_186 (by decide) ?_
  refine m_newaE (N := 40) C d_Mo_init_188 rfl kt_int ac_int (fun _ h => by cases h) (by decide) (by decide) (by decide) (Nat.le_of_ble_eq_true rfl) (Nat.le_of_ble_eq_true rfl) (fun a27 A27 A27n A27w A27a0 A27o => ?_)
  have A27_a2 : A27 a2 = some (.inr (.int, List.replicate 30 (.int 0))) := (A27o a2 (ma_nef B25_a2 A27n)).trans B25_a2
  have A27_a3 : A27 a3 = some (.inr (.boolean, List.replicate 30 (.int 0))) := (A27o a3 (ma_nef B25_a3 A27n)).trans B25_a3
  have A27_a4 : A27 a4 = some (.inr (.int, List.replicate 30 (.int 0))) := (A27o a4 (ma_nef B25_a4 A27n)).trans B25_a4
  have A27_a5 : A27 a5 = some (.inr (.int, List.replicate 90 (.int 0))) := (A27o a5 (ma_nef B25_a5 A27n)).trans B25_a5
  have A27_a6 : A27 a6 = some (.inr (.int, List.replicate 1440 (.int 0))) := (A27o a6 (ma_nef B25_a6 A27n)).trans B25_a6
  have A27_a7 : A27 a7 = some (.inr (.int, List.replicate 30 (.int 0))) := (A27o a7 (ma_nef B25_a7 A27n)).trans B25_a7
  have A27_a8 : A27 a8 = some (.inr (.int, List.replicate 180 (.int 0))) := (A27o a8 (ma_nef B25_a8 A27n)).trans B25_a8
  have A27_a9 : A27 a9 = some (.inr (.int, List.replicate 180 (.int 0))) := (A27o a9 (ma_nef B25_a9 A27n)).trans B25_a9
  have A27_a10 : A27 a10 = some (.inr (.int, List.replicate 180 (.int 0))) := (A27o a10 (ma_nef B25_a10 A27n)).trans B25_a10
  have A27_a11 : A27 a11 = some (.inr (.int, List.replicate 30 (.int 0))) := (A27o a11 (ma_nef B25_a11 A27n)).trans B25_a11
  have A27_a12 : A27 a12 = some (.inr (.int, List.replicate 30 (.int 0))) := (A27o a12 (ma_nef B25_a12 A27n)).trans B25_a12
  have A27_a13 : A27 a13 = some (.inr (.int, List.replicate 30 (.int 0))) := (A27o a13 (ma_nef B25_a13 A27n)).trans B25_a13
  have A27_a14 : A27 a14 = some (.inr (.int, List.replicate 30 (.int 0))) := (A27o a14 (ma_nef B25_a14 A27n)).trans B25_a14
  have A27_a15 : A27 a15 = some (.inr (.int, List.replicate 30 (.int 0))) := (A27o a15 (ma_nef B25_a15 A27n)).trans B25_a15
  have A27_a17 : A27 a17 = some (.inr (.int, List.replicate 20 (.int 0))) := (A27o a17 (ma_nef B25_a17 A27n)).trans B25_a17
  have A27_a18 : A27 a18 = some (.inr (.int, List.replicate 20 (.int 0))) := (A27o a18 (ma_nef B25_a18 A27n)).trans B25_a18
  have A27_a19 : A27 a19 = some (.inr (.int, List.replicate 20 (.int 0))) := (A27o a19 (ma_nef B25_a19 A27n)).trans B25_a19
  have A27_a20 : A27 a20 = some (.inr (.int, List.replicate 160 (.int 0))) := (A27o a20 (ma_nef B25_a20 A27n)).trans B25_a20
  have A27_a22 : A27 a22 = some (.inr (.int, List.replicate 40 (.int 0))) := (A27o a22 (ma_nef B25_a22 A27n)).trans B25_a22
  have A27_a23 : A27 a23 = some (.inr (.int, List.replicate 40 (.int 0))) := (A27o a23 (ma_nef B25_a23 A27n)).trans B25_a23
  have A27_a24 : A27 a24 = some (.inr (.int, List.replicate 40 (.int 0))) := (A27o a24 (ma_nef B25_a24 A27n)).trans B25_a24
  have A27_a25 : A27 a25 = some (.inr (.int, List.replicate 40 (.int 0))) := (A27o a25 (ma_nef B25_a25 A27n)).trans B25_a25
  have A27_x : A27 x = some (.inl (10, [.int 0, .int 0, .ref a2, .ref a3, .ref a4, .ref a5, .ref a6, .ref a7, .ref a8, .ref a9, .ref a10, .ref a11, .ref a12, .ref a13, .ref a14, .ref a15, .int 0, .ref a17, .ref a18, .ref a19, .ref a20, .int 0, .ref a22, .ref a23, .ref a24, .ref a25, .int 0, .null, .int 0, .null, .null, .int 0, .null, .null, .null])) := (A27o x (ma_nef B25_x A27n)).trans B25_x
  have A27_a27 : A27 a27 = some (.inr (.int, List.replicate 40 (.int 0))) := A27a0
  have F27 : M a27 = none := N44 _ A27n
  have N45 : ∀ q, A27 q = none → M q = none := fun q h => N44 q (nn_new A27a0 A27o q h)
  refine m_putFE C (hI rfl) fp_Mo_77 d_Mo_init_190 (hw _ rfl) A27_x rfl rfl (fun B27 B27a0 B27o => ?_)
  have B27_a2 : B27 a2 = some (.inr (.int, List.replicate 30 (.int 0))) := (B27o a2 (Ne.symm (ma_ne2 A27_x A27_a2))).trans A27_a2
  have B27_a3 : B27 a3 = some (.inr (.boolean, List.replicate 30 (.int 0))) := (B27o a3 (Ne.symm (ma_ne2 A27_x A27_a3))).trans A27_a3
  have B27_a4 : B27 a4 = some (.inr (.int, List.replicate 30 (.int 0))) := (B27o a4 (Ne.symm (ma_ne2 A27_x A27_a4))).trans A27_a4
  have B27_a5 : B27 a5 = some (.inr (.int, List.replicate 90 (.int 0))) := (B27o a5 (Ne.symm (ma_ne2 A27_x A27_a5))).trans A27_a5
  have B27_a6 : B27 a6 = some (.inr (.int, List.replicate 1440 (.int 0))) := (B27o a6 (Ne.symm (ma_ne2 A27_x A27_a6))).trans A27_a6
  have B27_a7 : B27 a7 = some (.inr (.int, List.replicate 30 (.int 0))) := (B27o a7 (Ne.symm (ma_ne2 A27_x A27_a7))).trans A27_a7
  have B27_a8 : B27 a8 = some (.inr (.int, List.replicate 180 (.int 0))) := (B27o a8 (Ne.symm (ma_ne2 A27_x A27_a8))).trans A27_a8
  have B27_a9 : B27 a9 = some (.inr (.int, List.replicate 180 (.int 0))) := (B27o a9 (Ne.symm (ma_ne2 A27_x A27_a9))).trans A27_a9
  have B27_a10 : B27 a10 = some (.inr (.int, List.replicate 180 (.int 0))) := (B27o a10 (Ne.symm (ma_ne2 A27_x A27_a10))).trans A27_a10
  have B27_a11 : B27 a11 = some (.inr (.int, List.replicate 30 (.int 0))) := (B27o a11 (Ne.symm (ma_ne2 A27_x A27_a11))).trans A27_a11
  have B27_a12 : B27 a12 = some (.inr (.int, List.replicate 30 (.int 0))) := (B27o a12 (Ne.symm (ma_ne2 A27_x A27_a12))).trans A27_a12
  have B27_a13 : B27 a13 = some (.inr (.int, List.replicate 30 (.int 0))) := (B27o a13 (Ne.symm (ma_ne2 A27_x A27_a13))).trans A27_a13
  have B27_a14 : B27 a14 = some (.inr (.int, List.replicate 30 (.int 0))) := (B27o a14 (Ne.symm (ma_ne2 A27_x A27_a14))).trans A27_a14
  have B27_a15 : B27 a15 = some (.inr (.int, List.replicate 30 (.int 0))) := (B27o a15 (Ne.symm (ma_ne2 A27_x A27_a15))).trans A27_a15
  have B27_a17 : B27 a17 = some (.inr (.int, List.replicate 20 (.int 0))) := (B27o a17 (Ne.symm (ma_ne2 A27_x A27_a17))).trans A27_a17
  have B27_a18 : B27 a18 = some (.inr (.int, List.replicate 20 (.int 0))) := (B27o a18 (Ne.symm (ma_ne2 A27_x A27_a18))).trans A27_a18
  have B27_a19 : B27 a19 = some (.inr (.int, List.replicate 20 (.int 0))) := (B27o a19 (Ne.symm (ma_ne2 A27_x A27_a19))).trans A27_a19
  have B27_a20 : B27 a20 = some (.inr (.int, List.replicate 160 (.int 0))) := (B27o a20 (Ne.symm (ma_ne2 A27_x A27_a20))).trans A27_a20
  have B27_a22 : B27 a22 = some (.inr (.int, List.replicate 40 (.int 0))) := (B27o a22 (Ne.symm (ma_ne2 A27_x A27_a22))).trans A27_a22
  have B27_a23 : B27 a23 = some (.inr (.int, List.replicate 40 (.int 0))) := (B27o a23 (Ne.symm (ma_ne2 A27_x A27_a23))).trans A27_a23
  have B27_a24 : B27 a24 = some (.inr (.int, List.replicate 40 (.int 0))) := (B27o a24 (Ne.symm (ma_ne2 A27_x A27_a24))).trans A27_a24
  have B27_a25 : B27 a25 = some (.inr (.int, List.replicate 40 (.int 0))) := (B27o a25 (Ne.symm (ma_ne2 A27_x A27_a25))).trans A27_a25
  have B27_a27 : B27 a27 = some (.inr (.int, List.replicate 40 (.int 0))) := (B27o a27 (Ne.symm (ma_ne2 A27_x A27_a27))).trans A27_a27
  have B27_x : B27 x = some (.inl (10, [.int 0, .int 0, .ref a2, .ref a3, .ref a4, .ref a5, .ref a6, .ref a7, .ref a8, .ref a9, .ref a10, .ref a11, .ref a12, .ref a13, .ref a14, .ref a15, .int 0, .ref a17, .ref a18, .ref a19, .ref a20, .int 0, .ref a22, .ref a23, .ref a24, .ref a25, .int 0, .ref a27, .int 0, .null, .null, .int 0, .null, .null, .null])) := B27a0
  have N46 : ∀ q, B27 q = none → M q = none := fun q h => N45 q (nn_new B27a0 B27o q h)
  refine m_aload_n C d_Mo_init_193 rfl rfl ?_
  refine m_bipush (v := 10) C d_Mo_init_194 (by decide) ?_
  refine m_newaE (N := 10) C d_Mo_init_196 rfl kt_int ac_int (fun _ h => by cases h) (by decide) (by decide) (by decide) (Nat.le_of_ble_eq_true rfl) (Nat.le_of_ble_eq_true rfl) (fun a29 A29 A29n A29w A29a0 A29o => ?_)
  have A29_a2 : A29 a2 = some (.inr (.int, List.replicate 30 (.int 0))) := (A29o a2 (ma_nef B27_a2 A29n)).trans B27_a2
  have A29_a3 : A29 a3 = some (.inr (.boolean, List.replicate 30 (.int 0))) := (A29o a3 (ma_nef B27_a3 A29n)).trans B27_a3
  have A29_a4 : A29 a4 = some (.inr (.int, List.replicate 30 (.int 0))) := (A29o a4 (ma_nef B27_a4 A29n)).trans B27_a4
  have A29_a5 : A29 a5 = some (.inr (.int, List.replicate 90 (.int 0))) := (A29o a5 (ma_nef B27_a5 A29n)).trans B27_a5
  have A29_a6 : A29 a6 = some (.inr (.int, List.replicate 1440 (.int 0))) := (A29o a6 (ma_nef B27_a6 A29n)).trans B27_a6
  have A29_a7 : A29 a7 = some (.inr (.int, List.replicate 30 (.int 0))) := (A29o a7 (ma_nef B27_a7 A29n)).trans B27_a7
  have A29_a8 : A29 a8 = some (.inr (.int, List.replicate 180 (.int 0))) := (A29o a8 (ma_nef B27_a8 A29n)).trans B27_a8
  have A29_a9 : A29 a9 = some (.inr (.int, List.replicate 180 (.int 0))) := (A29o a9 (ma_nef B27_a9 A29n)).trans B27_a9
  have A29_a10 : A29 a10 = some (.inr (.int, List.replicate 180 (.int 0))) := (A29o a10 (ma_nef B27_a10 A29n)).trans B27_a10
  have A29_a11 : A29 a11 = some (.inr (.int, List.replicate 30 (.int 0))) := (A29o a11 (ma_nef B27_a11 A29n)).trans B27_a11
  have A29_a12 : A29 a12 = some (.inr (.int, List.replicate 30 (.int 0))) := (A29o a12 (ma_nef B27_a12 A29n)).trans B27_a12
  have A29_a13 : A29 a13 = some (.inr (.int, List.replicate 30 (.int 0))) := (A29o a13 (ma_nef B27_a13 A29n)).trans B27_a13
  have A29_a14 : A29 a14 = some (.inr (.int, List.replicate 30 (.int 0))) := (A29o a14 (ma_nef B27_a14 A29n)).trans B27_a14
  have A29_a15 : A29 a15 = some (.inr (.int, List.replicate 30 (.int 0))) := (A29o a15 (ma_nef B27_a15 A29n)).trans B27_a15
  have A29_a17 : A29 a17 = some (.inr (.int, List.replicate 20 (.int 0))) := (A29o a17 (ma_nef B27_a17 A29n)).trans B27_a17
  have A29_a18 : A29 a18 = some (.inr (.int, List.replicate 20 (.int 0))) := (A29o a18 (ma_nef B27_a18 A29n)).trans B27_a18
  have A29_a19 : A29 a19 = some (.inr (.int, List.replicate 20 (.int 0))) := (A29o a19 (ma_nef B27_a19 A29n)).trans B27_a19
  have A29_a20 : A29 a20 = some (.inr (.int, List.replicate 160 (.int 0))) := (A29o a20 (ma_nef B27_a20 A29n)).trans B27_a20
  have A29_a22 : A29 a22 = some (.inr (.int, List.replicate 40 (.int 0))) := (A29o a22 (ma_nef B27_a22 A29n)).trans B27_a22
  have A29_a23 : A29 a23 = some (.inr (.int, List.replicate 40 (.int 0))) := (A29o a23 (ma_nef B27_a23 A29n)).trans B27_a23
  have A29_a24 : A29 a24 = some (.inr (.int, List.replicate 40 (.int 0))) := (A29o a24 (ma_nef B27_a24 A29n)).trans B27_a24
  have A29_a25 : A29 a25 = some (.inr (.int, List.replicate 40 (.int 0))) := (A29o a25 (ma_nef B27_a25 A29n)).trans B27_a25
  have A29_a27 : A29 a27 = some (.inr (.int, List.replicate 40 (.int 0))) := (A29o a27 (ma_nef B27_a27 A29n)).trans B27_a27
  have A29_x : A29 x = some (.inl (10, [.int 0, .int 0, .ref a2, .ref a3, .ref a4, .ref a5, .ref a6, .ref a7, .ref a8, .ref a9, .ref a10, .ref a11, .ref a12, .ref a13, .ref a14, .ref a15, .int 0, .ref a17, .ref a18, .ref a19, .ref a20, .int 0, .ref a22, .ref a23, .ref a24, .ref a25, .int 0, .ref a27, .int 0, .null, .null, .int 0, .null, .null, .null])) := (A29o x (ma_nef B27_x A29n)).trans B27_x
  have A29_a29 : A29 a29 = some (.inr (.int, List.replicate 10 (.int 0))) := A29a0
  have F29 : M a29 = none := N46 _ A29n
  have N47 : ∀ q, A29 q = none → M q = none := fun q h => N46 q (nn_new A29a0 A29o q h)
  refine m_putFE C (hI rfl) fp_Mo_80 d_Mo_init_198 (hw _ rfl) A29_x rfl rfl (fun B29 B29a0 B29o => ?_)
  have B29_a2 : B29 a2 = some (.inr (.int, List.replicate 30 (.int 0))) := (B29o a2 (Ne.symm (ma_ne2 A29_x A29_a2))).trans A29_a2
  have B29_a3 : B29 a3 = some (.inr (.boolean, List.replicate 30 (.int 0))) := (B29o a3 (Ne.symm (ma_ne2 A29_x A29_a3))).trans A29_a3
  have B29_a4 : B29 a4 = some (.inr (.int, List.replicate 30 (.int 0))) := (B29o a4 (Ne.symm (ma_ne2 A29_x A29_a4))).trans A29_a4
  have B29_a5 : B29 a5 = some (.inr (.int, List.replicate 90 (.int 0))) := (B29o a5 (Ne.symm (ma_ne2 A29_x A29_a5))).trans A29_a5
  have B29_a6 : B29 a6 = some (.inr (.int, List.replicate 1440 (.int 0))) := (B29o a6 (Ne.symm (ma_ne2 A29_x A29_a6))).trans A29_a6
  have B29_a7 : B29 a7 = some (.inr (.int, List.replicate 30 (.int 0))) := (B29o a7 (Ne.symm (ma_ne2 A29_x A29_a7))).trans A29_a7
  have B29_a8 : B29 a8 = some (.inr (.int, List.replicate 180 (.int 0))) := (B29o a8 (Ne.symm (ma_ne2 A29_x A29_a8))).trans A29_a8
  have B29_a9 : B29 a9 = some (.inr (.int, List.replicate 180 (.int 0))) := (B29o a9 (Ne.symm (ma_ne2 A29_x A29_a9))).trans A29_a9
  have B29_a10 : B29 a10 = some (.inr (.int, List.replicate 180 (.int 0))) := (B29o a10 (Ne.symm (ma_ne2 A29_x A29_a10))).trans A29_a10
  have B29_a11 : B29 a11 = some (.inr (.int, List.replicate 30 (.int 0))) := (B29o a11 (Ne.symm (ma_ne2 A29_x A29_a11))).trans A29_a11
  have B29_a12 : B29 a12 = some (.inr (.int, List.replicate 30 (.int 0))) := (B29o a12 (Ne.symm (ma_ne2 A29_x A29_a12))).trans A29_a12
  have B29_a13 : B29 a13 = some (.inr (.int, List.replicate 30 (.int 0))) := (B29o a13 (Ne.symm (ma_ne2 A29_x A29_a13))).trans A29_a13
  have B29_a14 : B29 a14 = some (.inr (.int, List.replicate 30 (.int 0))) := (B29o a14 (Ne.symm (ma_ne2 A29_x A29_a14))).trans A29_a14
  have B29_a15 : B29 a15 = some (.inr (.int, List.replicate 30 (.int 0))) := (B29o a15 (Ne.symm (ma_ne2 A29_x A29_a15))).trans A29_a15
  have B29_a17 : B29 a17 = some (.inr (.int, List.replicate 20 (.int 0))) := (B29o a17 (Ne.symm (ma_ne2 A29_x A29_a17))).trans A29_a17
  have B29_a18 : B29 a18 = some (.inr (.int, List.replicate 20 (.int 0))) := (B29o a18 (Ne.symm (ma_ne2 A29_x A29_a18))).trans A29_a18
  have B29_a19 : B29 a19 = some (.inr (.int, List.replicate 20 (.int 0))) := (B29o a19 (Ne.symm (ma_ne2 A29_x A29_a19))).trans A29_a19
  have B29_a20 : B29 a20 = some (.inr (.int, List.replicate 160 (.int 0))) := (B29o a20 (Ne.symm (ma_ne2 A29_x A29_a20))).trans A29_a20
  have B29_a22 : B29 a22 = some (.inr (.int, List.replicate 40 (.int 0))) := (B29o a22 (Ne.symm (ma_ne2 A29_x A29_a22))).trans A29_a22
  have B29_a23 : B29 a23 = some (.inr (.int, List.replicate 40 (.int 0))) := (B29o a23 (Ne.symm (ma_ne2 A29_x A29_a23))).trans A29_a23
  have B29_a24 : B29 a24 = some (.inr (.int, List.replicate 40 (.int 0))) := (B29o a24 (Ne.symm (ma_ne2 A29_x A29_a24))).trans A29_a24
  have B29_a25 : B29 a25 = some (.inr (.int, List.replicate 40 (.int 0))) := (B29o a25 (Ne.symm (ma_ne2 A29_x A29_a25))).trans A29_a25
  have B29_a27 : B29 a27 = some (.inr (.int, List.replicate 40 (.int 0))) := (B29o a27 (Ne.symm (ma_ne2 A29_x A29_a27))).trans A29_a27
  have B29_a29 : B29 a29 = some (.inr (.int, List.replicate 10 (.int 0))) := (B29o a29 (Ne.symm (ma_ne2 A29_x A29_a29))).trans A29_a29
  have B29_x : B29 x = some (.inl (10, [.int 0, .int 0, .ref a2, .ref a3, .ref a4, .ref a5, .ref a6, .ref a7, .ref a8, .ref a9, .ref a10, .ref a11, .ref a12, .ref a13, .ref a14, .ref a15, .int 0, .ref a17, .ref a18, .ref a19, .ref a20, .int 0, .ref a22, .ref a23, .ref a24, .ref a25, .int 0, .ref a27, .int 0, .ref a29, .null, .int 0, .null, .null, .null])) := B29a0
  have N48 : ∀ q, B29 q = none → M q = none := fun q h => N47 q (nn_new B29a0 B29o q h)
  refine m_aload_n C d_Mo_init_201 rfl rfl ?_
  refine m_bipush (v := 50) C d_Mo_init_202 (by decide) ?_
  refine m_newaE (N := 50) C d_Mo_init_204 rfl kt_int ac_int (fun _ h => by cases h) (by decide) (by decide) (by decide) (Nat.le_of_ble_eq_true rfl) (Nat.le_of_ble_eq_true rfl) (fun a30 A30 A30n A30w A30a0 A30o => ?_)
  have A30_a2 : A30 a2 = some (.inr (.int, List.replicate 30 (.int 0))) := (A30o a2 (ma_nef B29_a2 A30n)).trans B29_a2
  have A30_a3 : A30 a3 = some (.inr (.boolean, List.replicate 30 (.int 0))) := (A30o a3 (ma_nef B29_a3 A30n)).trans B29_a3
  have A30_a4 : A30 a4 = some (.inr (.int, List.replicate 30 (.int 0))) := (A30o a4 (ma_nef B29_a4 A30n)).trans B29_a4
  have A30_a5 : A30 a5 = some (.inr (.int, List.replicate 90 (.int 0))) := (A30o a5 (ma_nef B29_a5 A30n)).trans B29_a5
  have A30_a6 : A30 a6 = some (.inr (.int, List.replicate 1440 (.int 0))) := (A30o a6 (ma_nef B29_a6 A30n)).trans B29_a6
  have A30_a7 : A30 a7 = some (.inr (.int, List.replicate 30 (.int 0))) := (A30o a7 (ma_nef B29_a7 A30n)).trans B29_a7
  have A30_a8 : A30 a8 = some (.inr (.int, List.replicate 180 (.int 0))) := (A30o a8 (ma_nef B29_a8 A30n)).trans B29_a8
  have A30_a9 : A30 a9 = some (.inr (.int, List.replicate 180 (.int 0))) := (A30o a9 (ma_nef B29_a9 A30n)).trans B29_a9
  have A30_a10 : A30 a10 = some (.inr (.int, List.replicate 180 (.int 0))) := (A30o a10 (ma_nef B29_a10 A30n)).trans B29_a10
  have A30_a11 : A30 a11 = some (.inr (.int, List.replicate 30 (.int 0))) := (A30o a11 (ma_nef B29_a11 A30n)).trans B29_a11
  have A30_a12 : A30 a12 = some (.inr (.int, List.replicate 30 (.int 0))) := (A30o a12 (ma_nef B29_a12 A30n)).trans B29_a12
  have A30_a13 : A30 a13 = some (.inr (.int, List.replicate 30 (.int 0))) := (A30o a13 (ma_nef B29_a13 A30n)).trans B29_a13
  have A30_a14 : A30 a14 = some (.inr (.int, List.replicate 30 (.int 0))) := (A30o a14 (ma_nef B29_a14 A30n)).trans B29_a14
  have A30_a15 : A30 a15 = some (.inr (.int, List.replicate 30 (.int 0))) := (A30o a15 (ma_nef B29_a15 A30n)).trans B29_a15
  have A30_a17 : A30 a17 = some (.inr (.int, List.replicate 20 (.int 0))) := (A30o a17 (ma_nef B29_a17 A30n)).trans B29_a17
  have A30_a18 : A30 a18 = some (.inr (.int, List.replicate 20 (.int 0))) := (A30o a18 (ma_nef B29_a18 A30n)).trans B29_a18
  have A30_a19 : A30 a19 = some (.inr (.int, List.replicate 20 (.int 0))) := (A30o a19 (ma_nef B29_a19 A30n)).trans B29_a19
  have A30_a20 : A30 a20 = some (.inr (.int, List.replicate 160 (.int 0))) := (A30o a20 (ma_nef B29_a20 A30n)).trans B29_a20
  have A30_a22 : A30 a22 = some (.inr (.int, List.replicate 40 (.int 0))) := (A30o a22 (ma_nef B29_a22 A30n)).trans B29_a22
  have A30_a23 : A30 a23 = some (.inr (.int, List.replicate 40 (.int 0))) := (A30o a23 (ma_nef B29_a23 A30n)).trans B29_a23
  have A30_a24 : A30 a24 = some (.inr (.int, List.replicate 40 (.int 0))) := (A30o a24 (ma_nef B29_a24 A30n)).trans B29_a24
  have A30_a25 : A30 a25 = some (.inr (.int, List.replicate 40 (.int 0))) := (A30o a25 (ma_nef B29_a25 A30n)).trans B29_a25
  have A30_a27 : A30 a27 = some (.inr (.int, List.replicate 40 (.int 0))) := (A30o a27 (ma_nef B29_a27 A30n)).trans B29_a27
  have A30_a29 : A30 a29 = some (.inr (.int, List.replicate 10 (.int 0))) := (A30o a29 (ma_nef B29_a29 A30n)).trans B29_a29
  have A30_x : A30 x = some (.inl (10, [.int 0, .int 0, .ref a2, .ref a3, .ref a4, .ref a5, .ref a6, .ref a7, .ref a8, .ref a9, .ref a10, .ref a11, .ref a12, .ref a13, .ref a14, .ref a15, .int 0, .ref a17, .ref a18, .ref a19, .ref a20, .int 0, .ref a22, .ref a23, .ref a24, .ref a25, .int 0, .ref a27, .int 0, .ref a29, .null, .int 0, .null, .null, .null])) := (A30o x (ma_nef B29_x A30n)).trans B29_x
  have A30_a30 : A30 a30 = some (.inr (.int, List.replicate 50 (.int 0))) := A30a0
  have F30 : M a30 = none := N48 _ A30n
  have N49 : ∀ q, A30 q = none → M q = none := fun q h => N48 q (nn_new A30a0 A30o q h)
  refine m_putFE C (hI rfl) fp_Mo_83 d_Mo_init_206 (hw _ rfl) A30_x rfl rfl (fun B30 B30a0 B30o => ?_)
  have B30_a2 : B30 a2 = some (.inr (.int, List.replicate 30 (.int 0))) := (B30o a2 (Ne.symm (ma_ne2 A30_x A30_a2))).trans A30_a2
  have B30_a3 : B30 a3 = some (.inr (.boolean, List.replicate 30 (.int 0))) := (B30o a3 (Ne.symm (ma_ne2 A30_x A30_a3))).trans A30_a3
  have B30_a4 : B30 a4 = some (.inr (.int, List.replicate 30 (.int 0))) := (B30o a4 (Ne.symm (ma_ne2 A30_x A30_a4))).trans A30_a4
  have B30_a5 : B30 a5 = some (.inr (.int, List.replicate 90 (.int 0))) := (B30o a5 (Ne.symm (ma_ne2 A30_x A30_a5))).trans A30_a5
  have B30_a6 : B30 a6 = some (.inr (.int, List.replicate 1440 (.int 0))) := (B30o a6 (Ne.symm (ma_ne2 A30_x A30_a6))).trans A30_a6
  have B30_a7 : B30 a7 = some (.inr (.int, List.replicate 30 (.int 0))) := (B30o a7 (Ne.symm (ma_ne2 A30_x A30_a7))).trans A30_a7
  have B30_a8 : B30 a8 = some (.inr (.int, List.replicate 180 (.int 0))) := (B30o a8 (Ne.symm (ma_ne2 A30_x A30_a8))).trans A30_a8
  have B30_a9 : B30 a9 = some (.inr (.int, List.replicate 180 (.int 0))) := (B30o a9 (Ne.symm (ma_ne2 A30_x A30_a9))).trans A30_a9
  have B30_a10 : B30 a10 = some (.inr (.int, List.replicate 180 (.int 0))) := (B30o a10 (Ne.symm (ma_ne2 A30_x A30_a10))).trans A30_a10
  have B30_a11 : B30 a11 = some (.inr (.int, List.replicate 30 (.int 0))) := (B30o a11 (Ne.symm (ma_ne2 A30_x A30_a11))).trans A30_a11
  have B30_a12 : B30 a12 = some (.inr (.int, List.replicate 30 (.int 0))) := (B30o a12 (Ne.symm (ma_ne2 A30_x A30_a12))).trans A30_a12
  have B30_a13 : B30 a13 = some (.inr (.int, List.replicate 30 (.int 0))) := (B30o a13 (Ne.symm (ma_ne2 A30_x A30_a13))).trans A30_a13
  have B30_a14 : B30 a14 = some (.inr (.int, List.replicate 30 (.int 0))) := (B30o a14 (Ne.symm (ma_ne2 A30_x A30_a14))).trans A30_a14
  have B30_a15 : B30 a15 = some (.inr (.int, List.replicate 30 (.int 0))) := (B30o a15 (Ne.symm (ma_ne2 A30_x A30_a15))).trans A30_a15
  have B30_a17 : B30 a17 = some (.inr (.int, List.replicate 20 (.int 0))) := (B30o a17 (Ne.symm (ma_ne2 A30_x A30_a17))).trans A30_a17
  have B30_a18 : B30 a18 = some (.inr (.int, List.replicate 20 (.int 0))) := (B30o a18 (Ne.symm (ma_ne2 A30_x A30_a18))).trans A30_a18
  have B30_a19 : B30 a19 = some (.inr (.int, List.replicate 20 (.int 0))) := (B30o a19 (Ne.symm (ma_ne2 A30_x A30_a19))).trans A30_a19
  have B30_a20 : B30 a20 = some (.inr (.int, List.replicate 160 (.int 0))) := (B30o a20 (Ne.symm (ma_ne2 A30_x A30_a20))).trans A30_a20
  have B30_a22 : B30 a22 = some (.inr (.int, List.replicate 40 (.int 0))) := (B30o a22 (Ne.symm (ma_ne2 A30_x A30_a22))).trans A30_a22
  have B30_a23 : B30 a23 = some (.inr (.int, List.replicate 40 (.int 0))) := (B30o a23 (Ne.symm (ma_ne2 A30_x A30_a23))).trans A30_a23
  have B30_a24 : B30 a24 = some (.inr (.int, List.replicate 40 (.int 0))) := (B30o a24 (Ne.symm (ma_ne2 A30_x A30_a24))).trans A30_a24
  have B30_a25 : B30 a25 = some (.inr (.int, List.replicate 40 (.int 0))) := (B30o a25 (Ne.symm (ma_ne2 A30_x A30_a25))).trans A30_a25
  have B30_a27 : B30 a27 = some (.inr (.int, List.replicate 40 (.int 0))) := (B30o a27 (Ne.symm (ma_ne2 A30_x A30_a27))).trans A30_a27
  have B30_a29 : B30 a29 = some (.inr (.int, List.replicate 10 (.int 0))) := (B30o a29 (Ne.symm (ma_ne2 A30_x A30_a29))).trans A30_a29
  have B30_a30 : B30 a30 = some (.inr (.int, List.replicate 50 (.int 0))) := (B30o a30 (Ne.symm (ma_ne2 A30_x A30_a30))).trans A30_a30
  have B30_x : B30 x = some (.inl (10, [.int 0, .int 0, .ref a2, .ref a3, .ref a4, .ref a5, .ref a6, .ref a7, .ref a8, .ref a9, .ref a10, .ref a11, .ref a12, .ref a13, .ref a14, .ref a15, .int 0, .ref a17, .ref a18, .ref a19, .ref a20, .int 0, .ref a22, .ref a23, .ref a24, .ref a25, .int 0, .ref a27, .int 0, .ref a29, .ref a30, .int 0, .null, .null, .null])) := B30a0
  have N50 : ∀ q, B30 q = none → M q = none := fun q h => N49 q (nn_new B30a0 B30o q h)
  refine m_aload_n C d_Mo_init_209 rfl rfl ?_
  refine m_bipush (v := 40) C d_Mo_init_210 (by decide) ?_
  refine m_newaE (N := 40) C d_Mo_init_212 rfl kt_int ac_int (fun _ h => by cases h) (by decide) (by decide) (by decide) (Nat.le_of_ble_eq_true rfl) (Nat.le_of_ble_eq_true rfl) (fun a32 A32 A32n A32w A32a0 A32o => ?_)
  have A32_a2 : A32 a2 = some (.inr (.int, List.replicate 30 (.int 0))) := (A32o a2 (ma_nef B30_a2 A32n)).trans B30_a2
  have A32_a3 : A32 a3 = some (.inr (.boolean, List.replicate 30 (.int 0))) := (A32o a3 (ma_nef B30_a3 A32n)).trans B30_a3
  have A32_a4 : A32 a4 = some (.inr (.int, List.replicate 30 (.int 0))) := (A32o a4 (ma_nef B30_a4 A32n)).trans B30_a4
  have A32_a5 : A32 a5 = some (.inr (.int, List.replicate 90 (.int 0))) := (A32o a5 (ma_nef B30_a5 A32n)).trans B30_a5
  have A32_a6 : A32 a6 = some (.inr (.int, List.replicate 1440 (.int 0))) := (A32o a6 (ma_nef B30_a6 A32n)).trans B30_a6
  have A32_a7 : A32 a7 = some (.inr (.int, List.replicate 30 (.int 0))) := (A32o a7 (ma_nef B30_a7 A32n)).trans B30_a7
  have A32_a8 : A32 a8 = some (.inr (.int, List.replicate 180 (.int 0))) := (A32o a8 (ma_nef B30_a8 A32n)).trans B30_a8
  have A32_a9 : A32 a9 = some (.inr (.int, List.replicate 180 (.int 0))) := (A32o a9 (ma_nef B30_a9 A32n)).trans B30_a9
  have A32_a10 : A32 a10 = some (.inr (.int, List.replicate 180 (.int 0))) := (A32o a10 (ma_nef B30_a10 A32n)).trans B30_a10
  have A32_a11 : A32 a11 = some (.inr (.int, List.replicate 30 (.int 0))) := (A32o a11 (ma_nef B30_a11 A32n)).trans B30_a11
  have A32_a12 : A32 a12 = some (.inr (.int, List.replicate 30 (.int 0))) := (A32o a12 (ma_nef B30_a12 A32n)).trans B30_a12
  have A32_a13 : A32 a13 = some (.inr (.int, List.replicate 30 (.int 0))) := (A32o a13 (ma_nef B30_a13 A32n)).trans B30_a13
  have A32_a14 : A32 a14 = some (.inr (.int, List.replicate 30 (.int 0))) := (A32o a14 (ma_nef B30_a14 A32n)).trans B30_a14
  have A32_a15 : A32 a15 = some (.inr (.int, List.replicate 30 (.int 0))) := (A32o a15 (ma_nef B30_a15 A32n)).trans B30_a15
  have A32_a17 : A32 a17 = some (.inr (.int, List.replicate 20 (.int 0))) := (A32o a17 (ma_nef B30_a17 A32n)).trans B30_a17
  have A32_a18 : A32 a18 = some (.inr (.int, List.replicate 20 (.int 0))) := (A32o a18 (ma_nef B30_a18 A32n)).trans B30_a18
  have A32_a19 : A32 a19 = some (.inr (.int, List.replicate 20 (.int 0))) := (A32o a19 (ma_nef B30_a19 A32n)).trans B30_a19
  have A32_a20 : A32 a20 = some (.inr (.int, List.replicate 160 (.int 0))) := (A32o a20 (ma_nef B30_a20 A32n)).trans B30_a20
  have A32_a22 : A32 a22 = some (.inr (.int, List.replicate 40 (.int 0))) := (A32o a22 (ma_nef B30_a22 A32n)).trans B30_a22
  have A32_a23 : A32 a23 = some (.inr (.int, List.replicate 40 (.int 0))) := (A32o a23 (ma_nef B30_a23 A32n)).trans B30_a23
  have A32_a24 : A32 a24 = some (.inr (.int, List.replicate 40 (.int 0))) := (A32o a24 (ma_nef B30_a24 A32n)).trans B30_a24
  have A32_a25 : A32 a25 = some (.inr (.int, List.replicate 40 (.int 0))) := (A32o a25 (ma_nef B30_a25 A32n)).trans B30_a25
  have A32_a27 : A32 a27 = some (.inr (.int, List.replicate 40 (.int 0))) := (A32o a27 (ma_nef B30_a27 A32n)).trans B30_a27
  have A32_a29 : A32 a29 = some (.inr (.int, List.replicate 10 (.int 0))) := (A32o a29 (ma_nef B30_a29 A32n)).trans B30_a29
  have A32_a30 : A32 a30 = some (.inr (.int, List.replicate 50 (.int 0))) := (A32o a30 (ma_nef B30_a30 A32n)).trans B30_a30
  have A32_x : A32 x = some (.inl (10, [.int 0, .int 0, .ref a2, .ref a3, .ref a4, .ref a5, .ref a6, .ref a7, .ref a8, .ref a9, .ref a10, .ref a11, .ref a12, .ref a13, .ref a14, .ref a15, .int 0, .ref a17, .ref a18, .ref a19, .ref a20, .int 0, .ref a22, .ref a23, .ref a24, .ref a25, .int 0, .ref a27, .int 0, .ref a29, .ref a30, .int 0, .null, .null, .null])) := (A32o x (ma_nef B30_x A32n)).trans B30_x
  have A32_a32 : A32 a32 = some (.inr (.int, List.replicate 40 (.int 0))) := A32a0
  have F32 : M a32 = none := N50 _ A32n
  have N51 : ∀ q, A32 q = none → M q = none := fun q h => N50 q (nn_new A32a0 A32o q h)
  refine m_putFE C (hI rfl) fp_Mo_86 d_Mo_init_214 (hw _ rfl) A32_x rfl rfl (fun B32 B32a0 B32o => ?_)
  have B32_a2 : B32 a2 = some (.inr (.int, List.replicate 30 (.int 0))) := (B32o a2 (Ne.symm (ma_ne2 A32_x A32_a2))).trans A32_a2
  have B32_a3 : B32 a3 = some (.inr (.boolean, List.replicate 30 (.int 0))) := (B32o a3 (Ne.symm (ma_ne2 A32_x A32_a3))).trans A32_a3
  have B32_a4 : B32 a4 = some (.inr (.int, List.replicate 30 (.int 0))) := (B32o a4 (Ne.symm (ma_ne2 A32_x A32_a4))).trans A32_a4
  have B32_a5 : B32 a5 = some (.inr (.int, List.replicate 90 (.int 0))) := (B32o a5 (Ne.symm (ma_ne2 A32_x A32_a5))).trans A32_a5
  have B32_a6 : B32 a6 = some (.inr (.int, List.replicate 1440 (.int 0))) := (B32o a6 (Ne.symm (ma_ne2 A32_x A32_a6))).trans A32_a6
  have B32_a7 : B32 a7 = some (.inr (.int, List.replicate 30 (.int 0))) := (B32o a7 (Ne.symm (ma_ne2 A32_x A32_a7))).trans A32_a7
  have B32_a8 : B32 a8 = some (.inr (.int, List.replicate 180 (.int 0))) := (B32o a8 (Ne.symm (ma_ne2 A32_x A32_a8))).trans A32_a8
  have B32_a9 : B32 a9 = some (.inr (.int, List.replicate 180 (.int 0))) := (B32o a9 (Ne.symm (ma_ne2 A32_x A32_a9))).trans A32_a9
  have B32_a10 : B32 a10 = some (.inr (.int, List.replicate 180 (.int 0))) := (B32o a10 (Ne.symm (ma_ne2 A32_x A32_a10))).trans A32_a10
  have B32_a11 : B32 a11 = some (.inr (.int, List.replicate 30 (.int 0))) := (B32o a11 (Ne.symm (ma_ne2 A32_x A32_a11))).trans A32_a11
  have B32_a12 : B32 a12 = some (.inr (.int, List.replicate 30 (.int 0))) := (B32o a12 (Ne.symm (ma_ne2 A32_x A32_a12))).trans A32_a12
  have B32_a13 : B32 a13 = some (.inr (.int, List.replicate 30 (.int 0))) := (B32o a13 (Ne.symm (ma_ne2 A32_x A32_a13))).trans A32_a13
  have B32_a14 : B32 a14 = some (.inr (.int, List.replicate 30 (.int 0))) := (B32o a14 (Ne.symm (ma_ne2 A32_x A32_a14))).trans A32_a14
  have B32_a15 : B32 a15 = some (.inr (.int, List.replicate 30 (.int 0))) := (B32o a15 (Ne.symm (ma_ne2 A32_x A32_a15))).trans A32_a15
  have B32_a17 : B32 a17 = some (.inr (.int, List.replicate 20 (.int 0))) := (B32o a17 (Ne.symm (ma_ne2 A32_x A32_a17))).trans A32_a17
  have B32_a18 : B32 a18 = some (.inr (.int, List.replicate 20 (.int 0))) := (B32o a18 (Ne.symm (ma_ne2 A32_x A32_a18))).trans A32_a18
  have B32_a19 : B32 a19 = some (.inr (.int, List.replicate 20 (.int 0))) := (B32o a19 (Ne.symm (ma_ne2 A32_x A32_a19))).trans A32_a19
  have B32_a20 : B32 a20 = some (.inr (.int, List.replicate 160 (.int 0))) := (B32o a20 (Ne.symm (ma_ne2 A32_x A32_a20))).trans A32_a20
  have B32_a22 : B32 a22 = some (.inr (.int, List.replicate 40 (.int 0))) := (B32o a22 (Ne.symm (ma_ne2 A32_x A32_a22))).trans A32_a22
  have B32_a23 : B32 a23 = some (.inr (.int, List.replicate 40 (.int 0))) := (B32o a23 (Ne.symm (ma_ne2 A32_x A32_a23))).trans A32_a23
  have B32_a24 : B32 a24 = some (.inr (.int, List.replicate 40 (.int 0))) := (B32o a24 (Ne.symm (ma_ne2 A32_x A32_a24))).trans A32_a24
  have B32_a25 : B32 a25 = some (.inr (.int, List.replicate 40 (.int 0))) := (B32o a25 (Ne.symm (ma_ne2 A32_x A32_a25))).trans A32_a25
  have B32_a27 : B32 a27 = some (.inr (.int, List.replicate 40 (.int 0))) := (B32o a27 (Ne.symm (ma_ne2 A32_x A32_a27))).trans A32_a27
  have B32_a29 : B32 a29 = some (.inr (.int, List.replicate 10 (.int 0))) := (B32o a29 (Ne.symm (ma_ne2 A32_x A32_a29))).trans A32_a29
  have B32_a30 : B32 a30 = some (.inr (.int, List.replicate 50 (.int 0))) := (B32o a30 (Ne.symm (ma_ne2 A32_x A32_a30))).trans A32_a30
  have B32_a32 : B32 a32 = some (.inr (.int, List.replicate 40 (.int 0))) := (B32o a32 (Ne.symm (ma_ne2 A32_x A32_a32))).trans A32_a32
  have B32_x : B32 x = some (.inl (10, [.int 0, .int 0, .ref a2, .ref a3, .ref a4, .ref a5, .ref a6, .ref a7, .ref a8, .ref a9, .ref a10, .ref a11, .ref a12, .ref a13, .ref a14, .ref a15, .int 0, .ref a17, .ref a18, .ref a19, .ref a20, .int 0, .ref a22, .ref a23, .ref a24, .ref a25, .int 0, .ref a27, .int 0, .ref a29, .ref a30, .int 0, .ref a32, .null, .null])) := B32a0
  have N52 : ∀ q, B32 q = none → M q = none := fun q h => N51 q (nn_new B32a0 B32o q h)
  refine m_aload_n C d_Mo_init_217 rfl rfl ?_
  refine m_bipush (v := 16) C d_Mo_init_218 (by decide) ?_
  refine m_newaE (N := 16) C d_Mo_init_220 rfl kt_int ac_int (fun _ h => by cases h) (by decide) (by decide) (by decide) (Nat.le_of_ble_eq_true rfl) (Nat.le_of_ble_eq_true rfl) (fun a33 A33 A33n A33w A33a0 A33o => ?_)
  have A33_a2 : A33 a2 = some (.inr (.int, List.replicate 30 (.int 0))) := (A33o a2 (ma_nef B32_a2 A33n)).trans B32_a2
  have A33_a3 : A33 a3 = some (.inr (.boolean, List.replicate 30 (.int 0))) := (A33o a3 (ma_nef B32_a3 A33n)).trans B32_a3
  have A33_a4 : A33 a4 = some (.inr (.int, List.replicate 30 (.int 0))) := (A33o a4 (ma_nef B32_a4 A33n)).trans B32_a4
  have A33_a5 : A33 a5 = some (.inr (.int, List.replicate 90 (.int 0))) := (A33o a5 (ma_nef B32_a5 A33n)).trans B32_a5
  have A33_a6 : A33 a6 = some (.inr (.int, List.replicate 1440 (.int 0))) := (A33o a6 (ma_nef B32_a6 A33n)).trans B32_a6
  have A33_a7 : A33 a7 = some (.inr (.int, List.replicate 30 (.int 0))) := (A33o a7 (ma_nef B32_a7 A33n)).trans B32_a7
  have A33_a8 : A33 a8 = some (.inr (.int, List.replicate 180 (.int 0))) := (A33o a8 (ma_nef B32_a8 A33n)).trans B32_a8
  have A33_a9 : A33 a9 = some (.inr (.int, List.replicate 180 (.int 0))) := (A33o a9 (ma_nef B32_a9 A33n)).trans B32_a9
  have A33_a10 : A33 a10 = some (.inr (.int, List.replicate 180 (.int 0))) := (A33o a10 (ma_nef B32_a10 A33n)).trans B32_a10
  have A33_a11 : A33 a11 = some (.inr (.int, List.replicate 30 (.int 0))) := (A33o a11 (ma_nef B32_a11 A33n)).trans B32_a11
  have A33_a12 : A33 a12 = some (.inr (.int, List.replicate 30 (.int 0))) := (A33o a12 (ma_nef B32_a12 A33n)).trans B32_a12
  have A33_a13 : A33 a13 = some (.inr (.int, List.replicate 30 (.int 0))) := (A33o a13 (ma_nef B32_a13 A33n)).trans B32_a13
  have A33_a14 : A33 a14 = some (.inr (.int, List.replicate 30 (.int 0))) := (A33o a14 (ma_nef B32_a14 A33n)).trans B32_a14
  have A33_a15 : A33 a15 = some (.inr (.int, List.replicate 30 (.int 0))) := (A33o a15 (ma_nef B32_a15 A33n)).trans B32_a15
  have A33_a17 : A33 a17 = some (.inr (.int, List.replicate 20 (.int 0))) := (A33o a17 (ma_nef B32_a17 A33n)).trans B32_a17
  have A33_a18 : A33 a18 = some (.inr (.int, List.replicate 20 (.int 0))) := (A33o a18 (ma_nef B32_a18 A33n)).trans B32_a18
  have A33_a19 : A33 a19 = some (.inr (.int, List.replicate 20 (.int 0))) := (A33o a19 (ma_nef B32_a19 A33n)).trans B32_a19
  have A33_a20 : A33 a20 = some (.inr (.int, List.replicate 160 (.int 0))) := (A33o a20 (ma_nef B32_a20 A33n)).trans B32_a20
  have A33_a22 : A33 a22 = some (.inr (.int, List.replicate 40 (.int 0))) := (A33o a22 (ma_nef B32_a22 A33n)).trans B32_a22
  have A33_a23 : A33 a23 = some (.inr (.int, List.replicate 40 (.int 0))) := (A33o a23 (ma_nef B32_a23 A33n)).trans B32_a23
  have A33_a24 : A33 a24 = some (.inr (.int, List.replicate 40 (.int 0))) := (A33o a24 (ma_nef B32_a24 A33n)).trans B32_a24
  have A33_a25 : A33 a25 = some (.inr (.int, List.replicate 40 (.int 0))) := (A33o a25 (ma_nef B32_a25 A33n)).trans B32_a25
  have A33_a27 : A33 a27 = some (.inr (.int, List.replicate 40 (.int 0))) := (A33o a27 (ma_nef B32_a27 A33n)).trans B32_a27
  have A33_a29 : A33 a29 = some (.inr (.int, List.replicate 10 (.int 0))) := (A33o a29 (ma_nef B32_a29 A33n)).trans B32_a29
  have A33_a30 : A33 a30 = some (.inr (.int, List.replicate 50 (.int 0))) := (A33o a30 (ma_nef B32_a30 A33n)).trans B32_a30
  have A33_a32 : A33 a32 = some (.inr (.int, List.replicate 40 (.int 0))) := (A33o a32 (ma_nef B32_a32 A33n)).trans B32_a32
  have A33_x : A33 x = some (.inl (10, [.int 0, .int 0, .ref a2, .ref a3, .ref a4, .ref a5, .ref a6, .ref a7, .ref a8, .ref a9, .ref a10, .ref a11, .ref a12, .ref a13, .ref a14, .ref a15, .int 0, .ref a17, .ref a18, .ref a19, .ref a20, .int 0, .ref a22, .ref a23, .ref a24, .ref a25, .int 0, .ref a27, .int 0, .ref a29, .ref a30, .int 0, .ref a32, .null, .null])) := (A33o x (ma_nef B32_x A33n)).trans B32_x
  have A33_a33 : A33 a33 = some (.inr (.int, List.replicate 16 (.int 0))) := A33a0
  have F33 : M a33 = none := N52 _ A33n
  have N53 : ∀ q, A33 q = none → M q = none := fun q h => N52 q (nn_new A33a0 A33o q h)
  refine m_putFE C (hI rfl) fp_Mo_89 d_Mo_init_222 (hw _ rfl) A33_x rfl rfl (fun B33 B33a0 B33o => ?_)
  have B33_a2 : B33 a2 = some (.inr (.int, List.replicate 30 (.int 0))) := (B33o a2 (Ne.symm (ma_ne2 A33_x A33_a2))).trans A33_a2
  have B33_a3 : B33 a3 = some (.inr (.boolean, List.replicate 30 (.int 0))) := (B33o a3 (Ne.symm (ma_ne2 A33_x A33_a3))).trans A33_a3
  have B33_a4 : B33 a4 = some (.inr (.int, List.replicate 30 (.int 0))) := (B33o a4 (Ne.symm (ma_ne2 A33_x A33_a4))).trans A33_a4
  have B33_a5 : B33 a5 = some (.inr (.int, List.replicate 90 (.int 0))) := (B33o a5 (Ne.symm (ma_ne2 A33_x A33_a5))).trans A33_a5
  have B33_a6 : B33 a6 = some (.inr (.int, List.replicate 1440 (.int 0))) := (B33o a6 (Ne.symm (ma_ne2 A33_x A33_a6))).trans A33_a6
  have B33_a7 : B33 a7 = some (.inr (.int, List.replicate 30 (.int 0))) := (B33o a7 (Ne.symm (ma_ne2 A33_x A33_a7))).trans A33_a7
  have B33_a8 : B33 a8 = some (.inr (.int, List.replicate 180 (.int 0))) := (B33o a8 (Ne.symm (ma_ne2 A33_x A33_a8))).trans A33_a8
  have B33_a9 : B33 a9 = some (.inr (.int, List.replicate 180 (.int 0))) := (B33o a9 (Ne.symm (ma_ne2 A33_x A33_a9))).trans A33_a9
  have B33_a10 : B33 a10 = some (.inr (.int, List.replicate 180 (.int 0))) := (B33o a10 (Ne.symm (ma_ne2 A33_x A33_a10))).trans A33_a10
  have B33_a11 : B33 a11 = some (.inr (.int, List.replicate 30 (.int 0))) := (B33o a11 (Ne.symm (ma_ne2 A33_x A33_a11))).trans A33_a11
  have B33_a12 : B33 a12 = some (.inr (.int, List.replicate 30 (.int 0))) := (B33o a12 (Ne.symm (ma_ne2 A33_x A33_a12))).trans A33_a12
  have B33_a13 : B33 a13 = some (.inr (.int, List.replicate 30 (.int 0))) := (B33o a13 (Ne.symm (ma_ne2 A33_x A33_a13))).trans A33_a13
  have B33_a14 : B33 a14 = some (.inr (.int, List.replicate 30 (.int 0))) := (B33o a14 (Ne.symm (ma_ne2 A33_x A33_a14))).trans A33_a14
  have B33_a15 : B33 a15 = some (.inr (.int, List.replicate 30 (.int 0))) := (B33o a15 (Ne.symm (ma_ne2 A33_x A33_a15))).trans A33_a15
  have B33_a17 : B33 a17 = some (.inr (.int, List.replicate 20 (.int 0))) := (B33o a17 (Ne.symm (ma_ne2 A33_x A33_a17))).trans A33_a17
  have B33_a18 : B33 a18 = some (.inr (.int, List.replicate 20 (.int 0))) := (B33o a18 (Ne.symm (ma_ne2 A33_x A33_a18))).trans A33_a18
  have B33_a19 : B33 a19 = some (.inr (.int, List.replicate 20 (.int 0))) := (B33o a19 (Ne.symm (ma_ne2 A33_x A33_a19))).trans A33_a19
  have B33_a20 : B33 a20 = some (.inr (.int, List.replicate 160 (.int 0))) := (B33o a20 (Ne.symm (ma_ne2 A33_x A33_a20))).trans A33_a20
  have B33_a22 : B33 a22 = some (.inr (.int, List.replicate 40 (.int 0))) := (B33o a22 (Ne.symm (ma_ne2 A33_x A33_a22))).trans A33_a22
  have B33_a23 : B33 a23 = some (.inr (.int, List.replicate 40 (.int 0))) := (B33o a23 (Ne.symm (ma_ne2 A33_x A33_a23))).trans A33_a23
  have B33_a24 : B33 a24 = some (.inr (.int, List.replicate 40 (.int 0))) := (B33o a24 (Ne.symm (ma_ne2 A33_x A33_a24))).trans A33_a24
  have B33_a25 : B33 a25 = some (.inr (.int, List.replicate 40 (.int 0))) := (B33o a25 (Ne.symm (ma_ne2 A33_x A33_a25))).trans A33_a25
  have B33_a27 : B33 a27 = some (.inr (.int, List.replicate 40 (.int 0))) := (B33o a27 (Ne.symm (ma_ne2 A33_x A33_a27))).trans A33_a27
  have B33_a29 : B33 a29 = some (.inr (.int, List.replicate 10 (.int 0))) := (B33o a29 (Ne.symm (ma_ne2 A33_x A33_a29))).trans A33_a29
  have B33_a30 : B33 a30 = some (.inr (.int, List.replicate 50 (.int 0))) := (B33o a30 (Ne.symm (ma_ne2 A33_x A33_a30))).trans A33_a30
  have B33_a32 : B33 a32 = some (.inr (.int, List.replicate 40 (.int 0))) := (B33o a32 (Ne.symm (ma_ne2 A33_x A33_a32))).trans A33_a32
  have B33_a33 : B33 a33 = some (.inr (.int, List.replicate 16 (.int 0))) := (B33o a33 (Ne.symm (ma_ne2 A33_x A33_a33))).trans A33_a33
  have B33_x : B33 x = some (.inl (10, [.int 0, .int 0, .ref a2, .ref a3, .ref a4, .ref a5, .ref a6, .ref a7, .ref a8, .ref a9, .ref a10, .ref a11, .ref a12, .ref a13, .ref a14, .ref a15, .int 0, .ref a17, .ref a18, .ref a19, .ref a20, .int 0, .ref a22, .ref a23, .ref a24, .ref a25, .int 0, .ref a27, .int 0, .ref a29, .ref a30, .int 0, .ref a32, .ref a33, .null])) := B33a0
  have N54 : ∀ q, B33 q = none → M q = none := fun q h => N53 q (nn_new B33a0 B33o q h)
  refine m_aload_n C d_Mo_init_225 rfl rfl ?_
  refine m_sipush (v := 697) C d_Mo_init_226 (by decide) ?_
  refine m_newaE (N := 697) C d_Mo_init_229 rfl kt_int ac_int (fun _ h => by cases h) (by decide) (by decide) (by decide) (Nat.le_of_ble_eq_true rfl) (Nat.le_of_ble_eq_true rfl) (fun a34 A34 A34n A34w A34a0 A34o => ?_)
  have A34_a2 : A34 a2 = some (.inr (.int, List.replicate 30 (.int 0))) := (A34o a2 (ma_nef B33_a2 A34n)).trans B33_a2
  have A34_a3 : A34 a3 = some (.inr (.boolean, List.replicate 30 (.int 0))) := (A34o a3 (ma_nef B33_a3 A34n)).trans B33_a3
  have A34_a4 : A34 a4 = some (.inr (.int, List.replicate 30 (.int 0))) := (A34o a4 (ma_nef B33_a4 A34n)).trans B33_a4
  have A34_a5 : A34 a5 = some (.inr (.int, List.replicate 90 (.int 0))) := (A34o a5 (ma_nef B33_a5 A34n)).trans B33_a5
  have A34_a6 : A34 a6 = some (.inr (.int, List.replicate 1440 (.int 0))) := (A34o a6 (ma_nef B33_a6 A34n)).trans B33_a6
  have A34_a7 : A34 a7 = some (.inr (.int, List.replicate 30 (.int 0))) := (A34o a7 (ma_nef B33_a7 A34n)).trans B33_a7
  have A34_a8 : A34 a8 = some (.inr (.int, List.replicate 180 (.int 0))) := (A34o a8 (ma_nef B33_a8 A34n)).trans B33_a8
  have A34_a9 : A34 a9 = some (.inr (.int, List.replicate 180 (.int 0))) := (A34o a9 (ma_nef B33_a9 A34n)).trans B33_a9
  have A34_a10 : A34 a10 = some (.inr (.int, List.replicate 180 (.int 0))) := (A34o a10 (ma_nef B33_a10 A34n)).trans B33_a10
  have A34_a11 : A34 a11 = some (.inr (.int, List.replicate 30 (.int 0))) := (A34o a11 (ma_nef B33_a11 A34n)).trans B33_a11
  have A34_a12 : A34 a12 = some (.inr (.int, List.replicate 30 (.int 0))) := (A34o a12 (ma_nef B33_a12 A34n)).trans B33_a12
  have A34_a13 : A34 a13 = some (.inr (.int, List.replicate 30 (.int 0))) := (A34o a13 (ma_nef B33_a13 A34n)).trans B33_a13
  have A34_a14 : A34 a14 = some (.inr (.int, List.replicate 30 (.int 0))) := (A34o a14 (ma_nef B33_a14 A34n)).trans B33_a14
  have A34_a15 : A34 a15 = some (.inr (.int, List.replicate 30 (.int 0))) := (A34o a15 (ma_nef B33_a15 A34n)).trans B33_a15
  have A34_a17 : A34 a17 = some (.inr (.int, List.replicate 20 (.int 0))) := (A34o a17 (ma_nef B33_a17 A34n)).trans B33_a17
  have A34_a18 : A34 a18 = some (.inr (.int, List.replicate 20 (.int 0))) := (A34o a18 (ma_nef B33_a18 A34n)).trans B33_a18
  have A34_a19 : A34 a19 = some (.inr (.int, List.replicate 20 (.int 0))) := (A34o a19 (ma_nef B33_a19 A34n)).trans B33_a19
  have A34_a20 : A34 a20 = some (.inr (.int, List.replicate 160 (.int 0))) := (A34o a20 (ma_nef B33_a20 A34n)).trans B33_a20
  have A34_a22 : A34 a22 = some (.inr (.int, List.replicate 40 (.int 0))) := (A34o a22 (ma_nef B33_a22 A34n)).trans B33_a22
  have A34_a23 : A34 a23 = some (.inr (.int, List.replicate 40 (.int 0))) := (A34o a23 (ma_nef B33_a23 A34n)).trans B33_a23
  have A34_a24 : A34 a24 = some (.inr (.int, List.replicate 40 (.int 0))) := (A34o a24 (ma_nef B33_a24 A34n)).trans B33_a24
  have A34_a25 : A34 a25 = some (.inr (.int, List.replicate 40 (.int 0))) := (A34o a25 (ma_nef B33_a25 A34n)).trans B33_a25
  have A34_a27 : A34 a27 = some (.inr (.int, List.replicate 40 (.int 0))) := (A34o a27 (ma_nef B33_a27 A34n)).trans B33_a27
  have A34_a29 : A34 a29 = some (.inr (.int, List.replicate 10 (.int 0))) := (A34o a29 (ma_nef B33_a29 A34n)).trans B33_a29
  have A34_a30 : A34 a30 = some (.inr (.int, List.replicate 50 (.int 0))) := (A34o a30 (ma_nef B33_a30 A34n)).trans B33_a30
  have A34_a32 : A34 a32 = some (.inr (.int, List.replicate 40 (.int 0))) := (A34o a32 (ma_nef B33_a32 A34n)).trans B33_a32
  have A34_a33 : A34 a33 = some (.inr (.int, List.replicate 16 (.int 0))) := (A34o a33 (ma_nef B33_a33 A34n)).trans B33_a33
  have A34_x : A34 x = some (.inl (10, [.int 0, .int 0, .ref a2, .ref a3, .ref a4, .ref a5, .ref a6, .ref a7, .ref a8, .ref a9, .ref a10, .ref a11, .ref a12, .ref a13, .ref a14, .ref a15, .int 0, .ref a17, .ref a18, .ref a19, .ref a20, .int 0, .ref a22, .ref a23, .ref a24, .ref a25, .int 0, .ref a27, .int 0, .ref a29, .ref a30, .int 0, .ref a32, .ref a33, .null])) := (A34o x (ma_nef B33_x A34n)).trans B33_x
  have A34_a34 : A34 a34 = some (.inr (.int, List.replicate 697 (.int 0))) := A34a0
  have F34 : M a34 = none := N54 _ A34n
  have N55 : ∀ q, A34 q = none → M q = none := fun q h => N54 q (nn_new A34a0 A34o q h)
  refine m_putFE C (hI rfl) fp_Mo_92 d_Mo_init_231 (hw _ rfl) A34_x rfl rfl (fun B34 B34a0 B34o => ?_)
  have B34_a2 : B34 a2 = some (.inr (.int, List.replicate 30 (.int 0))) := (B34o a2 (Ne.symm (ma_ne2 A34_x A34_a2))).trans A34_a2
  have B34_a3 : B34 a3 = some (.inr (.boolean, List.replicate 30 (.int 0))) := (B34o a3 (Ne.symm (ma_ne2 A34_x A34_a3))).trans A34_a3
  have B34_a4 : B34 a4 = some (.inr (.int, List.replicate 30 (.int 0))) := (B34o a4 (Ne.symm (ma_ne2 A34_x A34_a4))).trans A34_a4
  have B34_a5 : B34 a5 = some (.inr (.int, List.replicate 90 (.int 0))) := (B34o a5 (Ne.symm (ma_ne2 A34_x A34_a5))).trans A34_a5
  have B34_a6 : B34 a6 = some (.inr (.int, List.replicate 1440 (.int 0))) := (B34o a6 (Ne.symm (ma_ne2 A34_x A34_a6))).trans A34_a6
  have B34_a7 : B34 a7 = some (.inr (.int, List.replicate 30 (.int 0))) := (B34o a7 (Ne.symm (ma_ne2 A34_x A34_a7))).trans A34_a7
  have B34_a8 : B34 a8 = some (.inr (.int, List.replicate 180 (.int 0))) := (B34o a8 (Ne.symm (ma_ne2 A34_x A34_a8))).trans A34_a8
  have B34_a9 : B34 a9 = some (.inr (.int, List.replicate 180 (.int 0))) := (B34o a9 (Ne.symm (ma_ne2 A34_x A34_a9))).trans A34_a9
  have B34_a10 : B34 a10 = some (.inr (.int, List.replicate 180 (.int 0))) := (B34o a10 (Ne.symm (ma_ne2 A34_x A34_a10))).trans A34_a10
  have B34_a11 : B34 a11 = some (.inr (.int, List.replicate 30 (.int 0))) := (B34o a11 (Ne.symm (ma_ne2 A34_x A34_a11))).trans A34_a11
  have B34_a12 : B34 a12 = some (.inr (.int, List.replicate 30 (.int 0))) := (B34o a12 (Ne.symm (ma_ne2 A34_x A34_a12))).trans A34_a12
  have B34_a13 : B34 a13 = some (.inr (.int, List.replicate 30 (.int 0))) := (B34o a13 (Ne.symm (ma_ne2 A34_x A34_a13))).trans A34_a13
  have B34_a14 : B34 a14 = some (.inr (.int, List.replicate 30 (.int 0))) := (B34o a14 (Ne.symm (ma_ne2 A34_x A34_a14))).trans A34_a14
  have B34_a15 : B34 a15 = some (.inr (.int, List.replicate 30 (.int 0))) := (B34o a15 (Ne.symm (ma_ne2 A34_x A34_a15))).trans A34_a15
  have B34_a17 : B34 a17 = some (.inr (.int, List.replicate 20 (.int 0))) := (B34o a17 (Ne.symm (ma_ne2 A34_x A34_a17))).trans A34_a17
  have B34_a18 : B34 a18 = some (.inr (.int, List.replicate 20 (.int 0))) := (B34o a18 (Ne.symm (ma_ne2 A34_x A34_a18))).trans A34_a18
  have B34_a19 : B34 a19 = some (.inr (.int, List.replicate 20 (.int 0))) := (B34o a19 (Ne.symm (ma_ne2 A34_x A34_a19))).trans A34_a19
  have B34_a20 : B34 a20 = some (.inr (.int, List.replicate 160 (.int 0))) := (B34o a20 (Ne.symm (ma_ne2 A34_x A34_a20))).trans A34_a20
  have B34_a22 : B34 a22 = some (.inr (.int, List.replicate 40 (.int 0))) := (B34o a22 (Ne.symm (ma_ne2 A34_x A34_a22))).trans A34_a22
  have B34_a23 : B34 a23 = some (.inr (.int, List.replicate 40 (.int 0))) := (B34o a23 (Ne.symm (ma_ne2 A34_x A34_a23))).trans A34_a23
  have B34_a24 : B34 a24 = some (.inr (.int, List.replicate 40 (.int 0))) := (B34o a24 (Ne.symm (ma_ne2 A34_x A34_a24))).trans A34_a24
  have B34_a25 : B34 a25 = some (.inr (.int, List.replicate 40 (.int 0))) := (B34o a25 (Ne.symm (ma_ne2 A34_x A34_a25))).trans A34_a25
  have B34_a27 : B34 a27 = some (.inr (.int, List.replicate 40 (.int 0))) := (B34o a27 (Ne.symm (ma_ne2 A34_x A34_a27))).trans A34_a27
  have B34_a29 : B34 a29 = some (.inr (.int, List.replicate 10 (.int 0))) := (B34o a29 (Ne.symm (ma_ne2 A34_x A34_a29))).trans A34_a29
  have B34_a30 : B34 a30 = some (.inr (.int, List.replicate 50 (.int 0))) := (B34o a30 (Ne.symm (ma_ne2 A34_x A34_a30))).trans A34_a30
  have B34_a32 : B34 a32 = some (.inr (.int, List.replicate 40 (.int 0))) := (B34o a32 (Ne.symm (ma_ne2 A34_x A34_a32))).trans A34_a32
  have B34_a33 : B34 a33 = some (.inr (.int, List.replicate 16 (.int 0))) := (B34o a33 (Ne.symm (ma_ne2 A34_x A34_a33))).trans A34_a33
  have B34_a34 : B34 a34 = some (.inr (.int, List.replicate 697 (.int 0))) := (B34o a34 (Ne.symm (ma_ne2 A34_x A34_a34))).trans A34_a34
  have B34_x : B34 x = some (.inl (10, [.int 0, .int 0, .ref a2, .ref a3, .ref a4, .ref a5, .ref a6, .ref a7, .ref a8, .ref a9, .ref a10, .ref a11, .ref a12, .ref a13, .ref a14, .ref a15, .int 0, .ref a17, .ref a18, .ref a19, .ref a20, .int 0, .ref a22, .ref a23, .ref a24, .ref a25, .int 0, .ref a27, .int 0, .ref a29, .ref a30, .int 0, .ref a32, .ref a33, .ref a34])) := B34a0
  have N56 : ∀ q, B34 q = none → M q = none := fun q h => N55 q (nn_new B34a0 B34o q h)
  obtain ⟨mr, hmr⟩ : ∃ mr : Nat → Nat, mr = fun k => ([0, 0, a2, a3, a4, a5, a6, a7, a8, a9, a10, a11, a12, a13, a14, a15, 0, a17, a18, a19, a20, 0, a22, a23, a24, a25, 0, a27, 0, a29, a30, 0, a32, a33, a34] : List Nat).getD k 0 := ⟨_, rfl⟩
  have r2 : mr 2 = a2 := by rw [hmr]; rfl
  have r3 : mr 3 = a3 := by rw [hmr]; rfl
  have r4 : mr 4 = a4 := by rw [hmr]; rfl
  have r5 : mr 5 = a5 := by rw [hmr]; rfl
  have r6 : mr 6 = a6 := by rw [hmr]; rfl
  have r7 : mr 7 = a7 := by rw [hmr]; rfl
  have r8 : mr 8 = a8 := by rw [hmr]; rfl
  have r9 : mr 9 = a9 := by rw [hmr]; rfl
  have r10 : mr 10 = a10 := by rw [hmr]; rfl
  have r11 : mr 11 = a11 := by rw [hmr]; rfl
  have r12 : mr 12 = a12 := by rw [hmr]; rfl
  have r13 : mr 13 = a13 := by rw [hmr]; rfl
  have r14 : mr 14 = a14 := by rw [hmr]; rfl
  have r15 : mr 15 = a15 := by rw [hmr]; rfl
  have r17 : mr 17 = a17 := by rw [hmr]; rfl
  have r18 : mr 18 = a18 := by rw [hmr]; rfl
  have r19 : mr 19 = a19 := by rw [hmr]; rfl
  have r20 : mr 20 = a20 := by rw [hmr]; rfl
  have r22 : mr 22 = a22 := by rw [hmr]; rfl
  have r23 : mr 23 = a23 := by rw [hmr]; rfl
  have r24 : mr 24 = a24 := by rw [hmr]; rfl
  have r25 : mr 25 = a25 := by rw [hmr]; rfl
  have r27 : mr 27 = a27 := by rw [hmr]; rfl
  have r29 : mr 29 = a29 := by rw [hmr]; rfl
  have r30 : mr 30 = a30 := by rw [hmr]; rfl
  have r32 : mr 32 = a32 := by rw [hmr]; rfl
  have r33 : mr 33 = a33 := by rw [hmr]; rfl
  have r34 : mr 34 = a34 := by rw [hmr]; rfl
  obtain ⟨Ms, hMs⟩ : ∃ Ms : Nat → ma_H, Ms = fun k => ([M, M, B2, B3, B4, B5, B6, B7, B8, B9, B10, B11, B12, B13, B14, B15, B15, B17, B18, B19, B20, B20, B22, B23, B24, B25, B25, B27, B27, B29, B30, B30, B32, B33, B34] : List ma_H).getD k M := ⟨_, rfl⟩
  have hstep : ∀ k, k < 34 → ∀ q, Ms (k + 1) q = none → Ms k q = none := by
    intro k hk q h
    rw [hMs] at h ⊢
    rcases (show k = 0 ∨ k = 1 ∨ k = 2 ∨ k = 3 ∨ k = 4 ∨ k = 5 ∨ k = 6 ∨ k = 7 ∨ k = 8 ∨ k = 9 ∨ k = 10 ∨ k = 11 ∨ k = 12 ∨ k = 13 ∨ k = 14 ∨ k = 15 ∨ k = 16 ∨ k = 17 ∨ k = 18 ∨ k = 19 ∨ k = 20 ∨ k = 21 ∨ k = 22 ∨ k = 23 ∨ k = 24 ∨ k = 25 ∨ k = 26 ∨ k = 27 ∨ k = 28 ∨ k = 29 ∨ k = 30 ∨ k = 31 ∨ k = 32 ∨ k = 33 by omega) with rfl | rfl | rfl | rfl | rfl | rfl | rfl | rfl | rfl | rfl | rfl | rfl | rfl | rfl | rfl | rfl | rfl | rfl | rfl | rfl | rfl | rfl | rfl | rfl | rfl | rfl | rfl | rfl | rfl | rfl | rfl | rfl | rfl | rfl
    · exact h
    · exact nn_new A2a0 A2o q (nn_new B2a0 B2o q h)
    · exact nn_new A3a0 A3o q (nn_new B3a0 B3o q h)
    · exact nn_new A4a0 A4o q (nn_new B4a0 B4o q h)
    · exact nn_new A5a0 A5o q (nn_new B5a0 B5o q h)
    · exact nn_new A6a0 A6o q (nn_new B6a0 B6o q h)
    · exact nn_new A7a0 A7o q (nn_new B7a0 B7o q h)
    · exact nn_new A8a0 A8o q (nn_new B8a0 B8o q h)
    · exact nn_new A9a0 A9o q (nn_new B9a0 B9o q h)
    · exact nn_new A10a0 A10o q (nn_new B10a0 B10o q h)
    · exact nn_new A11a0 A11o q (nn_new B11a0 B11o q h)
    · exact nn_new A12a0 A12o q (nn_new B12a0 B12o q h)
    · exact nn_new A13a0 A13o q (nn_new B13a0 B13o q h)
    · exact nn_new A14a0 A14o q (nn_new B14a0 B14o q h)
    · exact nn_new A15a0 A15o q (nn_new B15a0 B15o q h)
    · exact h
    · exact nn_new A17a0 A17o q (nn_new B17a0 B17o q h)
    · exact nn_new A18a0 A18o q (nn_new B18a0 B18o q h)
    · exact nn_new A19a0 A19o q (nn_new B19a0 B19o q h)
    · exact nn_new A20a0 A20o q (nn_new B20a0 B20o q h)
    · exact h
    · exact nn_new A22a0 A22o q (nn_new B22a0 B22o q h)
    · exact nn_new A23a0 A23o q (nn_new B23a0 B23o q h)
    · exact nn_new A24a0 A24o q (nn_new B24a0 B24o q h)
    · exact nn_new A25a0 A25o q (nn_new B25a0 B25o q h)
    · exact h
    · exact nn_new A27a0 A27o q (nn_new B27a0 B27o q h)
    · exact h
    · exact nn_new A29a0 A29o q (nn_new B29a0 B29o q h)
    · exact nn_new A30a0 A30o q (nn_new B30a0 B30o q h)
    · exact h
    · exact nn_new A32a0 A32o q (nn_new B32a0 B32o q h)
    · exact nn_new A33a0 A33o q (nn_new B33a0 B33o q h)
    · exact nn_new A34a0 A34o q (nn_new B34a0 B34o q h)
  have hmono : ∀ d k, k + d ≤ 34 → ∀ q, Ms (k + d) q = none → Ms k q = none := by
    intro d
    induction d with
    | zero => intro k _ q h; exact h
    | succ d ih => intro k hk q h; exact ih k (by omega) q (hstep (k + d) (by omega) q h)
  have hn : ∀ k, k < 34 → mln (k + 1) ≠ 0 → Ms k (mr (k + 1)) = none := by
    intro k hk h
    rcases (show k = 0 ∨ k = 1 ∨ k = 2 ∨ k = 3 ∨ k = 4 ∨ k = 5 ∨ k = 6 ∨ k = 7 ∨ k = 8 ∨ k = 9 ∨ k = 10 ∨ k = 11 ∨ k = 12 ∨ k = 13 ∨ k = 14 ∨ k = 15 ∨ k = 16 ∨ k = 17 ∨ k = 18 ∨ k = 19 ∨ k = 20 ∨ k = 21 ∨ k = 22 ∨ k = 23 ∨ k = 24 ∨ k = 25 ∨ k = 26 ∨ k = 27 ∨ k = 28 ∨ k = 29 ∨ k = 30 ∨ k = 31 ∨ k = 32 ∨ k = 33 by omega) with rfl | rfl | rfl | rfl | rfl | rfl | rfl | rfl | rfl | rfl | rfl | rfl | rfl | rfl | rfl | rfl | rfl | rfl | rfl | rfl | rfl | rfl | rfl | rfl | rfl | rfl | rfl | rfl | rfl | rfl | rfl | rfl | rfl | rfl
    · exact absurd rfl h
    · rw [r2, hMs]; exact A2n
    · rw [r3, hMs]; exact A3n
    · rw [r4, hMs]; exact A4n
    · rw [r5, hMs]; exact A5n
    · rw [r6, hMs]; exact A6n
    · rw [r7, hMs]; exact A7n
    · rw [r8, hMs]; exact A8n
    · rw [r9, hMs]; exact A9n
    · rw [r10, hMs]; exact A10n
    · rw [r11, hMs]; exact A11n
    · rw [r12, hMs]; exact A12n
    · rw [r13, hMs]; exact A13n
    · rw [r14, hMs]; exact A14n
    · rw [r15, hMs]; exact A15n
    · exact absurd rfl h
    · rw [r17, hMs]; exact A17n
    · rw [r18, hMs]; exact A18n
    · rw [r19, hMs]; exact A19n
    · rw [r20, hMs]; exact A20n
    · exact absurd rfl h
    · rw [r22, hMs]; exact A22n
    · rw [r23, hMs]; exact A23n
    · rw [r24, hMs]; exact A24n
    · rw [r25, hMs]; exact A25n
    · exact absurd rfl h
    · rw [r27, hMs]; exact A27n
    · exact absurd rfl h
    · rw [r29, hMs]; exact A29n
    · rw [r30, hMs]; exact A30n
    · exact absurd rfl h
    · rw [r32, hMs]; exact A32n
    · rw [r33, hMs]; exact A33n
    · rw [r34, hMs]; exact A34n
  have hs : ∀ k, k < 35 → mln k ≠ 0 → Ms k (mr k) ≠ none := by
    intro k hk h
    rcases (show k = 0 ∨ k = 1 ∨ k = 2 ∨ k = 3 ∨ k = 4 ∨ k = 5 ∨ k = 6 ∨ k = 7 ∨ k = 8 ∨ k = 9 ∨ k = 10 ∨ k = 11 ∨ k = 12 ∨ k = 13 ∨ k = 14 ∨ k = 15 ∨ k = 16 ∨ k = 17 ∨ k = 18 ∨ k = 19 ∨ k = 20 ∨ k = 21 ∨ k = 22 ∨ k = 23 ∨ k = 24 ∨ k = 25 ∨ k = 26 ∨ k = 27 ∨ k = 28 ∨ k = 29 ∨ k = 30 ∨ k = 31 ∨ k = 32 ∨ k = 33 ∨ k = 34 by omega) with rfl | rfl | rfl | rfl | rfl | rfl | rfl | rfl | rfl | rfl | rfl | rfl | rfl | rfl | rfl | rfl | rfl | rfl | rfl | rfl | rfl | rfl | rfl | rfl | rfl | rfl | rfl | rfl | rfl | rfl | rfl | rfl | rfl | rfl | rfl
    · exact absurd rfl h
    · exact absurd rfl h
    · rw [r2, hMs]; show B2 a2 ≠ none; rw [B2_a2]; simp
    · rw [r3, hMs]; show B3 a3 ≠ none; rw [B3_a3]; simp
    · rw [r4, hMs]; show B4 a4 ≠ none; rw [B4_a4]; simp
    · rw [r5, hMs]; show B5 a5 ≠ none; rw [B5_a5]; simp
    · rw [r6, hMs]; show B6 a6 ≠ none; rw [B6_a6]; simp
    · rw [r7, hMs]; show B7 a7 ≠ none; rw [B7_a7]; simp
    · rw [r8, hMs]; show B8 a8 ≠ none; rw [B8_a8]; simp
    · rw [r9, hMs]; show B9 a9 ≠ none; rw [B9_a9]; simp
    · rw [r10, hMs]; show B10 a10 ≠ none; rw [B10_a10]; simp
    · rw [r11, hMs]; show B11 a11 ≠ none; rw [B11_a11]; simp
    · rw [r12, hMs]; show B12 a12 ≠ none; rw [B12_a12]; simp
    · rw [r13, hMs]; show B13 a13 ≠ none; rw [B13_a13]; simp
    · rw [r14, hMs]; show B14 a14 ≠ none; rw [B14_a14]; simp
    · rw [r15, hMs]; show B15 a15 ≠ none; rw [B15_a15]; simp
    · exact absurd rfl h
    · rw [r17, hMs]; show B17 a17 ≠ none; rw [B17_a17]; simp
    · rw [r18, hMs]; show B18 a18 ≠ none; rw [B18_a18]; simp
    · rw [r19, hMs]; show B19 a19 ≠ none; rw [B19_a19]; simp
    · rw [r20, hMs]; show B20 a20 ≠ none; rw [B20_a20]; simp
    · exact absurd rfl h
    · rw [r22, hMs]; show B22 a22 ≠ none; rw [B22_a22]; simp
    · rw [r23, hMs]; show B23 a23 ≠ none; rw [B23_a23]; simp
    · rw [r24, hMs]; show B24 a24 ≠ none; rw [B24_a24]; simp
    · rw [r25, hMs]; show B25 a25 ≠ none; rw [B25_a25]; simp
    · exact absurd rfl h
    · rw [r27, hMs]; show B27 a27 ≠ none; rw [B27_a27]; simp
    · exact absurd rfl h
    · rw [r29, hMs]; show B29 a29 ≠ none; rw [B29_a29]; simp
    · rw [r30, hMs]; show B30 a30 ≠ none; rw [B30_a30]; simp
    · exact absurd rfl h
    · rw [r32, hMs]; show B32 a32 ≠ none; rw [B32_a32]; simp
    · rw [r33, hMs]; show B33 a33 ≠ none; rw [B33_a33]; simp
    · rw [r34, hMs]; show B34 a34 ≠ none; rw [B34_a34]; simp
  have h35 : ∀ k, mln k ≠ 0 → k < 35 := by
    intro k h
    by_cases hk : k < 35
    · exact hk
    · exact absurd (by simp only [mln, List.getD]; rw [List.getElem?_eq_none (by simp; omega)]; rfl) h
  have hlt : ∀ k k', mln k ≠ 0 → mln k' ≠ 0 → k < k' → mr k ≠ mr k' := by
    intro k k' h h' hl e
    have b := h35 k' h'
    obtain ⟨d, rfl⟩ : ∃ d, k' = k + d + 1 := ⟨k' - k - 1, by omega⟩
    have z := hmono d k (by omega) _ (hn (k + d) (by omega) h')
    rw [← e] at z
    exact hs k (by omega) h z
  refine Rt _ _ _ _ _ (Nat.le_of_ble_eq_true rfl) (Nat.le_of_ble_eq_true rfl) d_Mo_init_234 ⟨rfl, mr, ⟨?_, ?_, ?_⟩, ?_⟩
  · rw [B34_x]; simp only [moF, r2, r3, r4, r5, r6, r7, r8, r9, r10, r11, r12, r13, r14, r15, r17, r18, r19, r20, r22, r23, r24, r25, r27, r29, r30, r32, r33, r34]
  · intro k h
    have b := h35 k h
    rcases (show k = 0 ∨ k = 1 ∨ k = 2 ∨ k = 3 ∨ k = 4 ∨ k = 5 ∨ k = 6 ∨ k = 7 ∨ k = 8 ∨ k = 9 ∨ k = 10 ∨ k = 11 ∨ k = 12 ∨ k = 13 ∨ k = 14 ∨ k = 15 ∨ k = 16 ∨ k = 17 ∨ k = 18 ∨ k = 19 ∨ k = 20 ∨ k = 21 ∨ k = 22 ∨ k = 23 ∨ k = 24 ∨ k = 25 ∨ k = 26 ∨ k = 27 ∨ k = 28 ∨ k = 29 ∨ k = 30 ∨ k = 31 ∨ k = 32 ∨ k = 33 ∨ k = 34 by omega) with rfl | rfl | rfl | rfl | rfl | rfl | rfl | rfl | rfl | rfl | rfl | rfl | rfl | rfl | rfl | rfl | rfl | rfl | rfl | rfl | rfl | rfl | rfl | rfl | rfl | rfl | rfl | rfl | rfl | rfl | rfl | rfl | rfl | rfl | rfl
    · exact absurd rfl h
    · exact absurd rfl h
    · rw [r2, B34_a2, arrL_rep]; rfl
    · rw [r3, B34_a3, arrL_rep]; rfl
    · rw [r4, B34_a4, arrL_rep]; rfl
    · rw [r5, B34_a5, arrL_rep]; rfl
    · rw [r6, B34_a6, arrL_rep]; rfl
    · rw [r7, B34_a7, arrL_rep]; rfl
    · rw [r8, B34_a8, arrL_rep]; rfl
    · rw [r9, B34_a9, arrL_rep]; rfl
    · rw [r10, B34_a10, arrL_rep]; rfl
    · rw [r11, B34_a11, arrL_rep]; rfl
    · rw [r12, B34_a12, arrL_rep]; rfl
    · rw [r13, B34_a13, arrL_rep]; rfl
    · rw [r14, B34_a14, arrL_rep]; rfl
    · rw [r15, B34_a15, arrL_rep]; rfl
    · exact absurd rfl h
    · rw [r17, B34_a17, arrL_rep]; rfl
    · rw [r18, B34_a18, arrL_rep]; rfl
    · rw [r19, B34_a19, arrL_rep]; rfl
    · rw [r20, B34_a20, arrL_rep]; rfl
    · exact absurd rfl h
    · rw [r22, B34_a22, arrL_rep]; rfl
    · rw [r23, B34_a23, arrL_rep]; rfl
    · rw [r24, B34_a24, arrL_rep]; rfl
    · rw [r25, B34_a25, arrL_rep]; rfl
    · exact absurd rfl h
    · rw [r27, B34_a27, arrL_rep]; rfl
    · exact absurd rfl h
    · rw [r29, B34_a29, arrL_rep]; rfl
    · rw [r30, B34_a30, arrL_rep]; rfl
    · exact absurd rfl h
    · rw [r32, B34_a32, arrL_rep]; rfl
    · rw [r33, B34_a33, arrL_rep]; rfl
    · rw [r34, B34_a34, arrL_rep]; rfl
  · intro k k' h h' e
    rcases Nat.lt_trichotomy k k' with z | z | z
    · exact absurd e (hlt k k' h h' z)
    · exact z
    · exact absurd e.symm (hlt k' k h' h z)
  · intro k h
    have b := h35 k h
    rcases (show k = 0 ∨ k = 1 ∨ k = 2 ∨ k = 3 ∨ k = 4 ∨ k = 5 ∨ k = 6 ∨ k = 7 ∨ k = 8 ∨ k = 9 ∨ k = 10 ∨ k = 11 ∨ k = 12 ∨ k = 13 ∨ k = 14 ∨ k = 15 ∨ k = 16 ∨ k = 17 ∨ k = 18 ∨ k = 19 ∨ k = 20 ∨ k = 21 ∨ k = 22 ∨ k = 23 ∨ k = 24 ∨ k = 25 ∨ k = 26 ∨ k = 27 ∨ k = 28 ∨ k = 29 ∨ k = 30 ∨ k = 31 ∨ k = 32 ∨ k = 33 ∨ k = 34 by omega) with rfl | rfl | rfl | rfl | rfl | rfl | rfl | rfl | rfl | rfl | rfl | rfl | rfl | rfl | rfl | rfl | rfl | rfl | rfl | rfl | rfl | rfl | rfl | rfl | rfl | rfl | rfl | rfl | rfl | rfl | rfl | rfl | rfl | rfl | rfl
    · exact absurd rfl h
    · exact absurd rfl h
    · rw [r2]; exact F2
    · rw [r3]; exact F3
    · rw [r4]; exact F4
    · rw [r5]; exact F5
    · rw [r6]; exact F6
    · rw [r7]; exact F7
    · rw [r8]; exact F8
    · rw [r9]; exact F9
    · rw [r10]; exact F10
    · rw [r11]; exact F11
    · rw [r12]; exact F12
    · rw [r13]; exact F13
    · rw [r14]; exact F14
    · rw [r15]; exact F15
    · exact absurd rfl h
    · rw [r17]; exact F17
    · rw [r18]; exact F18
    · rw [r19]; exact F19
    · rw [r20]; exact F20
    · exact absurd rfl h
    · rw [r22]; exact F22
    · rw [r23]; exact F23
    · rw [r24]; exact F24
    · rw [r25]; exact F25
    · exact absurd rfl h
    · rw [r27]; exact F27
    · exact absurd rfl h
    · rw [r29]; exact F29
    · rw [r30]; exact F30
    · exact absurd rfl h
    · rw [r32]; exact F32
    · rw [r33]; exact F33
    · rw [r34]; exact F34
