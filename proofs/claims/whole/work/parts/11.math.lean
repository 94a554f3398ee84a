theorem df_AW : ∀ j, j < 11 → defaultValue (ty_AW j) = vp_V [.null, .int 0, .null, .int 0, .null, .int 0, .null, .null, .null, .null, .int 0] j := by
  intro j hj
  rcases (show j = 0 ∨ j = 1 ∨ j = 2 ∨ j = 3 ∨ j = 4 ∨ j = 5 ∨ j = 6 ∨ j = 7 ∨ j = 8 ∨ j = 9 ∨ j = 10 by omega) with rfl | rfl | rfl | rfl | rfl | rfl | rfl | rfl | rfl | rfl | rfl <;> rfl
theorem df_Co : ∀ j, j < 4 → defaultValue (ty_Co j) = vp_V [.int 0, .int 0, .int 0, .int 0] j := by
  intro j hj
  rcases (show j = 0 ∨ j = 1 ∨ j = 2 ∨ j = 3 by omega) with rfl | rfl | rfl | rfl <;> rfl
theorem df_Ed : ∀ j, j < 3 → defaultValue (ty_Ed j) = vp_V [.null, .null, .null] j := by
  intro j hj
  rcases (show j = 0 ∨ j = 1 ∨ j = 2 by omega) with rfl | rfl | rfl <;> rfl
theorem df_HR : ∀ j, j < 3 → defaultValue (ty_HR j) = vp_V [.int 0, .int 0, .int 0] j := by
  intro j hj
  rcases (show j = 0 ∨ j = 1 ∨ j = 2 by omega) with rfl | rfl | rfl <;> rfl
theorem df_LM : ∀ j, j < 3 → defaultValue (ty_LM j) = vp_V [.int 0, .int 0, .null] j := by
  intro j hj
  rcases (show j = 0 ∨ j = 1 ∨ j = 2 by omega) with rfl | rfl | rfl <;> rfl
theorem df_Na : ∀ j, j < 2 → defaultValue (ty_Na j) = vp_V [.null, .int 0] j := by
  intro j hj
  rcases (show j = 0 ∨ j = 1 by omega) with rfl | rfl <;> rfl
theorem df_Pl : ∀ j, j < 6 → defaultValue (ty_Pl j) = vp_V [.int 0, .int 0, .int 0, .int 0, .int 0, .int 0] j := by
  intro j hj
  rcases (show j = 0 ∨ j = 1 ∨ j = 2 ∨ j = 3 ∨ j = 4 ∨ j = 5 by omega) with rfl | rfl | rfl | rfl | rfl | rfl <;> rfl
theorem df_Ra : ∀ j, j < 4 → defaultValue (ty_Ra j) = vp_V [.null, .null, .int 0, .int 0] j := by
  intro j hj
  rcases (show j = 0 ∨ j = 1 ∨ j = 2 ∨ j = 3 by omega) with rfl | rfl | rfl | rfl <;> rfl
theorem df_Sa : ∀ j, j < 8 → defaultValue (ty_Sa j) = vp_V [.null, .int 0, .null, .null, .int 0, .int 0, .int 0, .int 0] j := by
  intro j hj
  rcases (show j = 0 ∨ j = 1 ∨ j = 2 ∨ j = 3 ∨ j = 4 ∨ j = 5 ∨ j = 6 ∨ j = 7 by omega) with rfl | rfl | rfl | rfl | rfl | rfl | rfl | rfl <;> rfl
theorem df_St : ∀ j, j < 11 → defaultValue (ty_St j) = vp_V [.int 0, .null, .int 0, .null, .int 0, .int 0, .int 0, .int 0, .int 0, .int 0, .int 0] j := by
  intro j hj
  rcases (show j = 0 ∨ j = 1 ∨ j = 2 ∨ j = 3 ∨ j = 4 ∨ j = 5 ∨ j = 6 ∨ j = 7 ∨ j = 8 ∨ j = 9 ∨ j = 10 by omega) with rfl | rfl | rfl | rfl | rfl | rfl | rfl | rfl | rfl | rfl | rfl <;> rfl
theorem df_Mo : ∀ j, j < 35 → defaultValue (ty_Mo j) = vp_V [.int 0, .int 0, .null, .null, .null, .null, .null, .null, .null, .null, .null, .null, .null, .null, .null, .null, .int 0, .null, .null, .null, .null, .int 0, .null, .null, .null, .null, .int 0, .null, .int 0, .null, .null, .int 0, .null, .null, .null] j := by
  intro j hj
  rcases (show j = 0 ∨ j = 1 ∨ j = 2 ∨ j = 3 ∨ j = 4 ∨ j = 5 ∨ j = 6 ∨ j = 7 ∨ j = 8 ∨ j = 9 ∨ j = 10 ∨ j = 11 ∨ j = 12 ∨ j = 13 ∨ j = 14 ∨ j = 15 ∨ j = 16 ∨ j = 17 ∨ j = 18 ∨ j = 19 ∨ j = 20 ∨ j = 21 ∨ j = 22 ∨ j = 23 ∨ j = 24 ∨ j = 25 ∨ j = 26 ∨ j = 27 ∨ j = 28 ∨ j = 29 ∨ j = 30 ∨ j = 31 ∨ j = 32 ∨ j = 33 ∨ j = 34 by omega) with rfl | rfl | rfl | rfl | rfl | rfl | rfl | rfl | rfl | rfl | rfl | rfl | rfl | rfl | rfl | rfl | rfl | rfl | rfl | rfl | rfl | rfl | rfl | rfl | rfl | rfl | rfl | rfl | rfl | rfl | rfl | rfl | rfl | rfl | rfl <;> rfl
def R_Ma : String := "java/lang/Math"
abbrev c_Ma_floorDiv : ByteArray := prog_17_method_47_code
def y_Ma_floorDiv : MethodName := ⟨R_Ma, "floorDiv", "(II)I"⟩
theorem d_Ma_floorDiv_0 : decode c_Ma_floorDiv 0 = .ok (.iload_n 0, 1) := by decide +kernel
theorem d_Ma_floorDiv_1 : decode c_Ma_floorDiv 1 = .ok (.iload_n 1, 1) := by decide +kernel
theorem d_Ma_floorDiv_2 : decode c_Ma_floorDiv 2 = .ok (.idiv, 1) := by decide +kernel
theorem d_Ma_floorDiv_3 : decode c_Ma_floorDiv 3 = .ok (.istore_n 2, 1) := by decide +kernel
theorem d_Ma_floorDiv_4 : decode c_Ma_floorDiv 4 = .ok (.iload_n 0, 1) := by decide +kernel
theorem d_Ma_floorDiv_5 : decode c_Ma_floorDiv 5 = .ok (.iload_n 1, 1) := by decide +kernel
theorem d_Ma_floorDiv_6 : decode c_Ma_floorDiv 6 = .ok (.ixor, 1) := by decide +kernel
theorem d_Ma_floorDiv_7 : decode c_Ma_floorDiv 7 = .ok (.ifCond .ge 14, 3) := by decide +kernel
theorem d_Ma_floorDiv_10 : decode c_Ma_floorDiv 10 = .ok (.iload_n 2, 1) := by decide +kernel
theorem d_Ma_floorDiv_11 : decode c_Ma_floorDiv 11 = .ok (.iload_n 1, 1) := by decide +kernel
theorem d_Ma_floorDiv_12 : decode c_Ma_floorDiv 12 = .ok (.imul, 1) := by decide +kernel
theorem d_Ma_floorDiv_13 : decode c_Ma_floorDiv 13 = .ok (.iload_n 0, 1) := by decide +kernel
theorem d_Ma_floorDiv_14 : decode c_Ma_floorDiv 14 = .ok (.if_icmp .eq 7, 3) := by decide +kernel
theorem d_Ma_floorDiv_17 : decode c_Ma_floorDiv 17 = .ok (.iload_n 2, 1) := by decide +kernel
theorem d_Ma_floorDiv_18 : decode c_Ma_floorDiv 18 = .ok (.iconst 1, 1) := by decide +kernel
theorem d_Ma_floorDiv_19 : decode c_Ma_floorDiv 19 = .ok (.isub, 1) := by decide +kernel
theorem d_Ma_floorDiv_20 : decode c_Ma_floorDiv 20 = .ok (.ireturn, 1) := by decide +kernel
theorem d_Ma_floorDiv_21 : decode c_Ma_floorDiv 21 = .ok (.iload_n 2, 1) := by decide +kernel
theorem d_Ma_floorDiv_22 : decode c_Ma_floorDiv 22 = .ok (.ireturn, 1) := by decide +kernel
theorem mw_St_54 : ma_w R_St 54 y_Ma_floorDiv c_Ma_floorDiv 3 (some .int) 2 := ⟨Or.inl (List.mem_of_getElem? (i := 638) (by decide +kernel)), List.mem_of_getElem? (i := 52) (by decide +kernel), List.mem_of_getElem? (i := 640) (by decide +kernel), ⟨by decide +kernel, by decide +kernel⟩, by decide +kernel⟩
theorem mst_Ma_floorDiv : Cond.static y_Ma_floorDiv ∈ lw_tbl := List.mem_of_getElem? (i := 639) (by decide +kernel)
theorem ini_Math : Cond.initialized "java/lang/Math" ∈ lw_tbl := by decide +kernel
theorem cd_Math_abs : Cond.code Lib.Math.abs.name Lib.Math.abs.code 1 (some .int) ∈ lw_tbl := by decide +kernel
theorem cd_Math_min : Cond.code Lib.Math.min.name Lib.Math.min.code 2 (some .int) ∈ lw_tbl := by decide +kernel
/-! ===== the same rows, the new map by its cells ===== -/
section
variable {G : ma_G} {cc : ByteArray} {own : String} {nL fr mc ms lo k n : Nat} {M : ma_H} {pc : Nat} {L : List (Option Value)} {st : List Value}
theorem m_putE {a ci kf index : Nat} {ty : FieldType} {fs : List Value} {v : Value} (C : ma_C G cc nL own fr mc ms lo) (hF : ma_F own index ci kf ty false) (d : decode cc pc = .ok (.putfield index, 3)) (ha : ma_Wr G a) (hm : M a = some (.inl (ci, fs))) (hn : narrow ty v = v) (hf : fits ty v = true) (kk : ∀ M1 : ma_H, M1 a = some (.inl (ci, fs.set kf v)) → (∀ q : Nat, q ≠ a → M1 q = M q) → mj G nL k n M1 (pc + 3) L st) : mj G nL k n M pc L (v :: .ref a :: st) := m_put C hF d ha hm hn hf (kk _ ma_us (fun q h => ma_un h))
theorem m_putFE {a ci kf index : Nat} {ty : FieldType} {fs : List Value} {v : Value} (C : ma_C G cc nL own fr mc ms lo) (hI : ma_I G) (hF : ma_F own index ci kf ty true) (d : decode cc pc = .ok (.putfield index, 3)) (ha : ma_Wr G a) (hm : M a = some (.inl (ci, fs))) (hn : narrow ty v = v) (hf : fits ty v = true) (kk : ∀ M1 : ma_H, M1 a = some (.inl (ci, fs.set kf v)) → (∀ q : Nat, q ≠ a → M1 q = M q) → mj G nL k n M1 (pc + 3) L st) : mj G nL k n M pc L (v :: .ref a :: st) := m_putF C hI hF d ha hm hn hf (kk _ ma_us (fun q h => ma_un h))
theorem m_iastE {a : Nat} {l : List Value} {j x : Int32} (C : ma_C G cc nL own fr mc ms lo) (d : decode cc pc = .ok (.iastore, 1)) (ha : ma_Wr G a) (hm : M a = some (.inr (.int, l))) (ht : FieldType.int ∈ kty) (hj : ¬ j < 0) (hv : j.toNatClampNeg < l.length) (kk : ∀ M1 : ma_H, M1 a = some (.inr (.int, l.set j.toNatClampNeg (.int x))) → (∀ q : Nat, q ≠ a → M1 q = M q) → mj G nL k n M1 (pc + 1) L st) : mj G nL k n M pc L (.int x :: .int j :: .ref a :: st) := m_iast C d ha hm ht hj hv (kk _ ma_us (fun q h => ma_un h))
theorem m_lastE {a : Nat} {l : List Value} {j : Int32} {x : Int64} (C : ma_C G cc nL own fr mc ms lo) (d : decode cc pc = .ok (.lastore, 1)) (ha : ma_Wr G a) (hm : M a = some (.inr (.long, l))) (ht : FieldType.long ∈ kty) (hj : ¬ j < 0) (hv : j.toNatClampNeg < l.length) (kk : ∀ M1 : ma_H, M1 a = some (.inr (.long, l.set j.toNatClampNeg (.long x))) → (∀ q : Nat, q ≠ a → M1 q = M q) → mj G nL k n M1 (pc + 1) L st) : mj G nL k n M pc L (.long x :: .int j :: .ref a :: st) := m_last C d ha hm ht hj hv (kk _ ma_us (fun q h => ma_un h))
theorem m_castE {a : Nat} {l : List Value} {j x : Int32} (C : ma_C G cc nL own fr mc ms lo) (d : decode cc pc = .ok (.castore, 1)) (ha : ma_Wr G a) (hm : M a = some (.inr (.char, l))) (ht : FieldType.char ∈ kty) (hj : ¬ j < 0) (hv : j.toNatClampNeg < l.length) (hx9 : narrow .char (.int x) = .int x) (kk : ∀ M1 : ma_H, M1 a = some (.inr (.char, l.set j.toNatClampNeg (.int x))) → (∀ q : Nat, q ≠ a → M1 q = M q) → mj G nL k n M1 (pc + 1) L st) : mj G nL k n M pc L (.int x :: .int j :: .ref a :: st) := m_cast C d ha hm ht hj hv hx9 (kk _ ma_us (fun q h => ma_un h))
theorem m_zastE {a : Nat} {l : List Value} {j x : Int32} (C : ma_C G cc nL own fr mc ms lo) (d : decode cc pc = .ok (.bastore, 1)) (ha : ma_Wr G a) (hm : M a = some (.inr (.boolean, l))) (ht : FieldType.boolean ∈ kty) (hj : ¬ j < 0) (hv : j.toNatClampNeg < l.length) (hx9 : narrow .boolean (.int x) = .int x) (kk : ∀ M1 : ma_H, M1 a = some (.inr (.boolean, l.set j.toNatClampNeg (.int x))) → (∀ q : Nat, q ≠ a → M1 q = M q) → mj G nL k n M1 (pc + 1) L st) : mj G nL k n M pc L (.int x :: .int j :: .ref a :: st) := m_zast C d ha hm ht hj hv hx9 (kk _ ma_us (fun q h => ma_un h))
theorem m_aastE {a b ci : Nat} {l fs : List Value} {r : vw_C} {j : Int32} (C : ma_C G cc nL own fr mc ms lo) (d : decode cc pc = .ok (.aastore, 1)) (ha : ma_Wr G a) (hm : M a = some (.inr (.object r.1, l))) (ht : FieldType.object r.1 ∈ kty) (hb9 : M b = some (.inl (ci, fs))) (hc : kcl[ci]? = some r) (hj : ¬ j < 0) (hv : j.toNatClampNeg < l.length) (kk : ∀ M1 : ma_H, M1 a = some (.inr (.object r.1, l.set j.toNatClampNeg (.ref b))) → (∀ q : Nat, q ≠ a → M1 q = M q) → mj G nL k n M1 (pc + 1) L st) : mj G nL k n M pc L (.ref b :: .int j :: .ref a :: st) := m_aast C d ha hm ht hb9 hc hj hv (kk _ ma_us (fun q h => ma_un h))
theorem m_newE {ci index : Nat} {Cn : String} {T : u_T} {N : Nat} {ty0 : Nat → FieldType} (fs : List Value) (C : ma_C G cc nL own fr mc ms lo) (d : decode cc pc = .ok (.new index, 3)) (hc : kcl[ci]? = some (Cn, T, N)) (hin : ∀ w ∈ u_ws Cn T N, w ∈ lw_tbl) (hty : ∀ q, q < N → parseFieldDescriptor (T q).2.2.1 = some (ty0 q)) (w1 : Cond.classLink own index Cn ∈ lw_tbl) (w2 : Cond.instantiable Cn N ∈ lw_tbl) (w3 : Cond.initialized Cn ∈ lw_tbl) (hfl : fs.length = N) (hfs : ∀ j, j < N → defaultValue (ty0 j) = vp_V fs j) (hk : k + 1 ≤ mc) (hn : n + N ≤ ms) (kk : ∀ (a : Nat) (M1 : ma_H), M a = none → ma_Wr G a → M1 a = some (.inl (ci, fs)) → (∀ q : Nat, q ≠ a → M1 q = M q) → mj G nL (k + 1) (n + N) M1 (pc + 3) L (.ref a :: st)) : mj G nL k n M pc L st := m_new fs C d hc hin hty w1 w2 w3 hfl hfs hk hn (fun a h1 h2 => kk a _ h1 h2 ma_us (fun q h => ma_un h))
theorem m_newaE {at9 : ArrayType} {ty : FieldType} {x : Int32} {N : Nat} (C : ma_C G cc nL own fr mc ms lo) (d : decode cc pc = .ok (.newarray at9, 2)) (hty : newarray.typeOf at9 = ty) (ht : ty ∈ kty) (w1 : Cond.arrayClass ty ∈ lw_tbl) (hobj : ∀ Cn : String, ty ≠ .object Cn) (hx0 : ¬ x < 0) (hN : x.toNatClampNeg = N) (hbytes : N * componentBytes ty ≤ 536870912) (hk : k + 1 ≤ mc) (hn : n + N ≤ ms) (kk : ∀ (a : Nat) (M1 : ma_H), M a = none → ma_Wr G a → M1 a = some (.inr (ty, List.replicate N (defaultValue ty))) → (∀ q : Nat, q ≠ a → M1 q = M q) → mj G nL (k + 1) (n + N) M1 (pc + 2) L (.ref a :: st)) : mj G nL k n M pc L (.int x :: st) := m_newa C d hty ht w1 hobj hx0 hN hbytes hk hn (fun a h1 h2 => kk a _ h1 h2 ma_us (fun q h => ma_un h))
theorem m_anewE {index : Nat} {Cn : String} {x : Int32} {N : Nat} (C : ma_C G cc nL own fr mc ms lo) (d : decode cc pc = .ok (.anewarray index, 3)) (ht : FieldType.object Cn ∈ kty) (w1 : Cond.classLink own index Cn ∈ lw_tbl) (w2 : Cond.arrayOver (.object Cn) ∈ lw_tbl) (hx0 : ¬ x < 0) (hN : x.toNatClampNeg = N) (hbytes : N * 4 ≤ 536870912) (hk : k + 1 ≤ mc) (hn : n + N ≤ ms) (kk : ∀ (a : Nat) (M1 : ma_H), M a = none → ma_Wr G a → M1 a = some (.inr (.object Cn, List.replicate N .null)) → (∀ q : Nat, q ≠ a → M1 q = M q) → mj G nL (k + 1) (n + N) M1 (pc + 3) L (.ref a :: st)) : mj G nL k n M pc L (.int x :: st) := m_anew C d ht w1 w2 hx0 hN hbytes hk hn (fun a h1 h2 => kk a _ h1 h2 ma_us (fun q h => ma_un h))
theorem ma_nef {a q : Nat} {e : ma_E} (h : M a = some e) (hq : M q = none) : a ≠ q := by
  rintro rfl
  rw [h] at hq
  cases hq
/-! ===== Math ===== -/
theorem m_abs {index : Nat} {x : Int32} (C : ma_C G cc nL own fr mc ms lo) (d : decode cc pc = .ok (.invokestatic index, 3)) (w1 : Cond.methodLink own index ⟨"java/lang/Math", "abs", "(I)I"⟩ ∈ lw_tbl) (hfr : 1 ≤ fr) (hlo : (st.map fun v => v.category).sum + 13 ≤ lo) (hk : k ≤ mc) (hn : n ≤ ms) (kk : mj G nL k n M (pc + 3) L (.int (if 0 ≤ x then x else 0 - x) :: st)) : mj G nL k n M pc L (.int x :: st) := by
  obtain ⟨D, s0, p, l, e, R, s, m, args, below, meth, c, Q, M0, Wr⟩ := G
  obtain ⟨hx, hb, hml, hown, hlk, rfl, hB, hK, hA1, h0⟩ := C
  exact fun H locs ls h1 h2 h3 h4 => va_mabs hx hb (by rw [hml, h4.1]) hown (ma_word hK hB w1 rfl rfl _) (ma_word hK hB mst_Math_abs rfl rfl _) (ma_word hK hB ini_Math rfl rfl _) (ma_word hK hB cd_Math_abs rfl rfl _) hfr hlo hk hn d (kk H locs ls h1 h2 h3 h4)
theorem m_min {index : Nat} {x y : Int32} (C : ma_C G cc nL own fr mc ms lo) (d : decode cc pc = .ok (.invokestatic index, 3)) (w1 : Cond.methodLink own index ⟨"java/lang/Math", "min", "(II)I"⟩ ∈ lw_tbl) (hfr : 1 ≤ fr) (hlo : (st.map fun v => v.category).sum + 13 ≤ lo) (hk : k ≤ mc) (hn : n ≤ ms) (kk : mj G nL k n M (pc + 3) L (.int (if y < x then y else x) :: st)) : mj G nL k n M pc L (.int y :: .int x :: st) := by
  obtain ⟨D, s0, p, l, e, R, s, m, args, below, meth, c, Q, M0, Wr⟩ := G
  obtain ⟨hx, hb, hml, hown, hlk, rfl, hB, hK, hA1, h0⟩ := C
  exact fun H locs ls h1 h2 h3 h4 => va_mmin hx hb (by rw [hml, h4.1]) hown (ma_word hK hB w1 rfl rfl _) (ma_word hK hB mst_Math_min rfl rfl _) (ma_word hK hB ini_Math rfl rfl _) (ma_word hK hB cd_Math_min rfl rfl _) hfr hlo hk hn d (kk H locs ls h1 h2 h3 h4)
theorem m_lcmp {x y : Int64} (C : ma_C G cc nL own fr mc ms lo) (d : decode cc pc = .ok (.lcmp, 1)) (kk : mj G nL k n M (pc + 1) L (.int (lg_cmp x y) :: st)) : mj G nL k n M pc L (.long y :: .long x :: st) := by
  obtain ⟨D, s0, p, l, e, R, s, m, args, below, meth, c, Q, M0, Wr⟩ := G
  obtain ⟨hx, hb, -⟩ := C
  exact fun H locs ls h1 h2 h3 h4 => W.lcmp hx hb d (kk H locs ls h1 h2 h3 h4)
end
