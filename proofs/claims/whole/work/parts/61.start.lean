/-! ===== what is known where the law begins ===== -/
theorem arr_p {args : Array Value} {s : State} {ty : FieldType} (h : (Cond.arrayClass ty).before args s = true) (ht : ∀ C : String, ty ≠ .object C) : ∃ cA : ClassId, ArrOfT s cA ty ∧ va_RA s cA ty := by
  obtain ⟨c, k, comp, h1, h2, h3⟩ := Cond.arrayClass_spec h
  refine ⟨c, fun n z => ⟨fun k h => (by cases h), k, h2, comp, h3⟩, ?_⟩
  cases ty with
  | object C => exact absurd rfl (ht C)
  | _ => exact h1
theorem arr_o {args : Array Value} {s : State} {n : String} (h : (Cond.arrayOver (.object n)).before args s = true) : ∃ cA : ClassId, ArrOfT s cA (.object n) ∧ va_RA s cA (.object n) := by
  obtain ⟨comp, c, k, h1, -, h2, h3, h4⟩ := Cond.arrayOver_spec h
  exact ⟨c, fun n z => ⟨fun k h => (by cases h), k, h2, comp, h3⟩, k, comp, h2, h3, h1, h4⟩
theorem whole_A {s : State} {args : Array Value} (hts : ∀ w ∈ lw_tbl, w.before args s = true) : ∀ ty ∈ kty, ∃ cA : ClassId, ArrOfT s cA ty ∧ va_RA s cA ty := by
  intro ty hty
  simp only [kty, List.mem_cons, List.not_mem_nil, or_false] at hty
  rcases hty with rfl | rfl | rfl | rfl | rfl | rfl | rfl | rfl | rfl | rfl
  · exact arr_p (hts _ ac_int) (fun _ h => by cases h)
  · exact arr_p (hts _ ac_char) (fun _ h => by cases h)
  · exact arr_p (hts _ ac_boolean) (fun _ h => by cases h)
  · exact arr_p (hts _ ac_long) (fun _ h => by cases h)
  · exact arr_o (hts _ ao_St)
  · exact arr_o (hts _ ao_LM)
  · exact arr_o (hts _ ao_Co)
  · exact arr_o (hts _ ao_Pl)
  · exact arr_o (hts _ ao_Na)
  · exact arr_o (hts _ ao_HR)
theorem whole_C {s : State} {args : Array Value} (hts : ∀ w ∈ lw_tbl, w.before args s = true) : ∀ k : Nat, ∃ x : ClassId × (Nat → Nat), ∀ q : vw_C, kcl[k]? = some q → u_Kn s q.1 q.2.1 q.2.2 x.1 x.2 := by
  intro k
  match k with
  | 0 => obtain ⟨c, iS, h⟩ := u_known (C := R_AW) (T := T_AW) (N := 11) hts in_AW (hts _ ins_AW); exact ⟨(c, iS), fun q hq => by cases hq; exact h⟩
  | 1 => obtain ⟨c, iS, h⟩ := u_known (C := R_Co) (T := T_Co) (N := 4) hts in_Co (hts _ ins_Co); exact ⟨(c, iS), fun q hq => by cases hq; exact h⟩
  | 2 => obtain ⟨c, iS, h⟩ := u_known (C := R_Ed) (T := T_Ed) (N := 3) hts in_Ed (hts _ ins_Ed); exact ⟨(c, iS), fun q hq => by cases hq; exact h⟩
  | 3 => obtain ⟨c, iS, h⟩ := u_known (C := R_HR) (T := T_HR) (N := 3) hts in_HR (hts _ ins_HR); exact ⟨(c, iS), fun q hq => by cases hq; exact h⟩
  | 4 => obtain ⟨c, iS, h⟩ := u_known (C := R_LM) (T := T_LM) (N := 3) hts in_LM (hts _ ins_LM); exact ⟨(c, iS), fun q hq => by cases hq; exact h⟩
  | 5 => obtain ⟨c, iS, h⟩ := u_known (C := R_Na) (T := T_Na) (N := 2) hts in_Na (hts _ ins_Na); exact ⟨(c, iS), fun q hq => by cases hq; exact h⟩
  | 6 => obtain ⟨c, iS, h⟩ := u_known (C := R_Pl) (T := T_Pl) (N := 6) hts in_Pl (hts _ ins_Pl); exact ⟨(c, iS), fun q hq => by cases hq; exact h⟩
  | 7 => obtain ⟨c, iS, h⟩ := u_known (C := R_Ra) (T := T_Ra) (N := 4) hts in_Ra (hts _ ins_Ra); exact ⟨(c, iS), fun q hq => by cases hq; exact h⟩
  | 8 => obtain ⟨c, iS, h⟩ := u_known (C := R_Sa) (T := T_Sa) (N := 8) hts in_Sa (hts _ ins_Sa); exact ⟨(c, iS), fun q hq => by cases hq; exact h⟩
  | 9 => obtain ⟨c, iS, h⟩ := u_known (C := R_St) (T := T_St) (N := 11) hts in_St (hts _ ins_St); exact ⟨(c, iS), fun q hq => by cases hq; exact h⟩
  | 10 => obtain ⟨c, iS, h⟩ := u_known (C := R_Mo) (T := T_Mo) (N := 35) hts in_Mo (hts _ ins_Mo); exact ⟨(c, iS), fun q hq => by cases hq; exact h⟩
  | k + 11 => exact ⟨(0, fun _ => 0), fun q hq => by simp [kcl] at hq⟩
