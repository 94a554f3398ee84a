/-! ===== fields ===== -/
/-- what a field's entry at the place 'index' of the pool of 'own' means: the field number kf of class number ci, of the type ty -/
def ma_F (own : String) (index ci kf : Nat) (ty : FieldType) (fin : Bool) : Prop := ∃ (Cn : String) (T : u_T) (N : Nat) (ty0 : Nat → FieldType), kcl[ci]? = some (Cn, T, N) ∧ kf < N ∧ (∀ w ∈ u_ws Cn T N, w ∈ lw_tbl) ∧ (∀ q, q < N → parseFieldDescriptor (T q).2.2.1 = some (ty0 q)) ∧ (∀ a, a < N → ∀ b, b < N → a ≠ b → (T a).2.1 ≠ (T b).2.1) ∧ ty0 kf = ty ∧ (T kf).2.2.2 = fin ∧ (fin = true → (T kf).1 = own) ∧ (Cond.fieldLink own index (T kf).1 (T kf).2.1 (T kf).2.2.1 ∈ lw_tbl ∨ (fin = false ∧ ∃ host : String, Cond.fieldLinkNest own index (T kf).1 (T kf).2.1 (T kf).2.2.1 host ∈ lw_tbl))
/-- .. to read it -/
def ma_Fg (own : String) (index ci kf : Nat) : Prop := ∃ (Cn : String) (T : u_T) (N : Nat), kcl[ci]? = some (Cn, T, N) ∧ kf < N ∧ (∀ w ∈ u_ws Cn T N, w ∈ lw_tbl) ∧ (Cond.fieldLink own index (T kf).1 (T kf).2.1 (T kf).2.2.1 ∈ lw_tbl ∨ ∃ host : String, Cond.fieldLinkNest own index (T kf).1 (T kf).2.1 (T kf).2.2.1 host ∈ lw_tbl)
theorem ma_lays {D : ma_D} {s0 U : State} {l : Launch} (hK : ma_K D s0 l) (hB : ma_B s0 U) {Cn : String} {T : u_T} {N : Nat} (hin : ∀ w ∈ u_ws Cn T N, w ∈ lw_tbl) (a : Array Value) : ∀ w ∈ u_ws Cn T N, w.before a U = true := by
  intro w hw
  have h := hin w hw
  obtain ⟨q, -, rfl⟩ := List.mem_map.mp hw
  refine ma_word hK hB h ?_ ?_ a
  · unfold u_lay; split <;> rfl
  · unfold u_lay; split <;> rfl
section
variable {G : ma_G} {cc : ByteArray} {own : String} {nL fr mc ms lo k n : Nat} {M : ma_H} {pc : Nat} {L : List (Option Value)} {st : List Value}
theorem m_get {a ci kf index : Nat} {fs : List Value} {v : Value} (C : ma_C G cc nL own fr mc ms lo) (hF : ma_Fg own index ci kf) (d : decode cc pc = .ok (.getfield index, 3)) (hm : M a = some (.inl (ci, fs))) (hv : fs[kf]? = some v) (kk : mj G nL k n M (pc + 3) L (v :: st)) : mj G nL k n M pc L (.ref a :: st) := by
  obtain ⟨D, s0, p, l, e, R, s, m, args, below, meth, c, Q, M0, Wr⟩ := G
  obtain ⟨hx, hb, hml, hown, hlk, hR, hB, hK, hA1, h0⟩ := C
  obtain ⟨Cn, T, N, hc, hkN, hin, hl⟩ := hF
  intro H locs ls h1 h2 h3 h4
  obtain ⟨r, g1, g2, cell, q1, q2, q3, q4⟩ := h1 a _ hm
  have hr : r = (Cn, T, N) := Option.some.inj (g1.symm.trans hc)
  subst hr
  obtain ⟨hS, hfc, kC, hkC, hkind⟩ := ma_Kn hK hB hc
  obtain ⟨cf, kf', fi, f, hi, hsl⟩ := hS kf hkN
  have hw := ma_lays hK hB hin args
  have hst := (u_facts hfc hkC (u_lays hw (fun _ h => h) hkN) hi).1
  have hval : cell.slots[f.slot]? = some v := by
    rw [hsl, q4 kf hkN]
    simp [vp_V, hv]
  have hkn : cell.vm ≠ .unknown := by rw [q3]; exact fun h => by cases h
  rcases hl with hl | ⟨host, hl⟩
  · exact W.getf hx hb hown (ma_word hK hB hl rfl rfl _) hi hst q1 hkn hval rfl rfl d (kk H locs ls h1 h2 h3 h4)
  · exact va_Wgetf hx hb hown (ma_word hK hB hl rfl rfl _) hi hst q1 hkn hval rfl rfl d (kk H locs ls h1 h2 h3 h4)
theorem m_put {a ci kf index : Nat} {ty : FieldType} {fs : List Value} {v : Value} (C : ma_C G cc nL own fr mc ms lo) (hF : ma_F own index ci kf ty false) (d : decode cc pc = .ok (.putfield index, 3)) (ha : ma_Wr G a) (hm : M a = some (.inl (ci, fs))) (hn : narrow ty v = v) (hf : fits ty v = true) (kk : mj G nL k n (ma_up M a (.inl (ci, fs.set kf v))) (pc + 3) L st) : mj G nL k n M pc L (v :: .ref a :: st) := by
  obtain ⟨D, s0, p, l, e, R, s, m, args, below, meth, c, Q, M0, Wr⟩ := G
  obtain ⟨hx, hb, hml, hown, hlk, hR, hB, hK, hA1, h0⟩ := C
  obtain ⟨Cn, T, N, ty0, hc, hkN, hin, hty, hnm, rfl, hfin, -, hl⟩ := hF
  intro H locs ls h1 h2 h3 h4
  obtain ⟨r, g1, g2, cell, q1, q2, q3, q4⟩ := h1 a _ hm
  have hr : r = (Cn, T, N) := Option.some.inj (g1.symm.trans hc)
  subst hr
  obtain ⟨hS, hfc, kC, hkC, hkind⟩ := ma_Kn hK hB hc
  have hw := ma_lays hK hB hin args
  have hap : ∀ x y, x < N → y < N → x ≠ y → (D.2.1 ci) x ≠ (D.2.1 ci) y := by
    intro x y hx' hy' hne
    obtain ⟨_, _, _, fa, hia, ea⟩ := hS x hx'
    obtain ⟨_, _, _, fb, hib, eb⟩ := hS y hy'
    rw [← ea, ← eb]
    refine u_apart (u_lays hw (fun _ h => h) hx') (u_lays hw (fun _ h => h) hy') hia hib ?_
    rw [(State.fieldFound?_type hia (hty x hx')).1, (State.fieldFound?_type hib (hty y hy')).1]
    exact hnm x hx' y hy' hne
  obtain ⟨cf, kf', fi, f, hi, hsl⟩ := hS kf hkN
  have hst := (u_facts hfc hkC (u_lays hw (fun _ h => h) hkN) hi).1
  have hlay := hw _ (u_in_lay hkN)
  unfold u_lay at hlay
  rw [if_neg (by rw [hfin]; decide)] at hlay
  have h6 := u_store hfc hkC hkind hlay hi (hty kf hkN) hn hf
  have hl9 : kf < fs.length := by rw [g2]; exact hkN
  have goal : ∀ H' : Heap, H'[a]? = some (cell.setSlot f.slot v) → H'.size = H.size → (∀ q : Nat, q ≠ a → H'[q]? = H[q]?) → W p l e R s m args below meth c H' (locs ++ [⟨a, f.slot⟩]) k n Q (F0 m (pc + 3) ls st) := by
    intro H' e1 e2 e3
    rw [hsl] at e1 ⊢
    exact kk H' _ ls (h1.up ⟨_, hc, by rw [List.length_set]; exact g2, t_OB.to (V := updV (vp_V fs) kf v) ⟨_, e1, q2, q3, t_set q4 hap hkN v⟩ (fun j _ => vp_updV_set hl9 v j)⟩ (fun q hq _ => e3 q hq)) (h2.up h0 ha (Or.inl (by rw [hm]; simp))) (h3.put e2 e3 ha) h4
  rcases hl with hl | ⟨-, host, hl⟩
  · exact W.putK hx hb (f := f) ⟨hown, ma_word hK hB hl rfl rfl _, ⟨_, _, _, hi⟩, hst⟩ (by rw [q2]; exact h6) q1 q3 (by rw [hsl]; exact k2_hasslot (q4 kf hkN)) rfl rfl d goal
  · exact va_WputK hx hb (f := f) hown (ma_word hK hB hl rfl rfl _) hi hst (by rw [q2]; exact h6) q1 q3 (by rw [hsl]; exact k2_hasslot (q4 kf hkN)) rfl rfl d goal
/-- the method is a constructor -/
def ma_I (G : ma_G) : Prop := match G with
  | (_, _, _, _, _, _, _, _, _, _, meth, _, _, _) => meth.name = "<init>"
theorem m_putF {a ci kf index : Nat} {ty : FieldType} {fs : List Value} {v : Value} (C : ma_C G cc nL own fr mc ms lo) (hI : ma_I G) (hF : ma_F own index ci kf ty true) (d : decode cc pc = .ok (.putfield index, 3)) (ha : ma_Wr G a) (hm : M a = some (.inl (ci, fs))) (hn : narrow ty v = v) (hf : fits ty v = true) (kk : mj G nL k n (ma_up M a (.inl (ci, fs.set kf v))) (pc + 3) L st) : mj G nL k n M pc L (v :: .ref a :: st) := by
  obtain ⟨D, s0, p, l, e, R, s, m, args, below, meth, c, Q, M0, Wr⟩ := G
  obtain ⟨hx, hb, hml, hown, hlk, hR, hB, hK, hA1, h0⟩ := C
  obtain ⟨Cn, T, N, ty0, hc, hkN, hin, hty, hnm, rfl, hfin, hdecl, hl⟩ := hF
  intro H locs ls h1 h2 h3 h4
  obtain ⟨r, g1, g2, cell, q1, q2, q3, q4⟩ := h1 a _ hm
  have hr : r = (Cn, T, N) := Option.some.inj (g1.symm.trans hc)
  subst hr
  obtain ⟨hS, hfc, kC, hkC, hkind⟩ := ma_Kn hK hB hc
  have hw := ma_lays hK hB hin args
  have hap : ∀ x y, x < N → y < N → x ≠ y → (D.2.1 ci) x ≠ (D.2.1 ci) y := by
    intro x y hx' hy' hne
    obtain ⟨_, _, _, fa, hia, ea⟩ := hS x hx'
    obtain ⟨_, _, _, fb, hib, eb⟩ := hS y hy'
    rw [← ea, ← eb]
    refine u_apart (u_lays hw (fun _ h => h) hx') (u_lays hw (fun _ h => h) hy') hia hib ?_
    rw [(State.fieldFound?_type hia (hty x hx')).1, (State.fieldFound?_type hib (hty y hy')).1]
    exact hnm x hx' y hy' hne
  obtain ⟨cf, kf', fi, f, hi, hsl⟩ := hS kf hkN
  have hst := (u_facts hfc hkC (u_lays hw (fun _ h => h) hkN) hi).1
  have hlay := hw _ (u_in_lay hkN)
  unfold u_lay at hlay
  rw [if_pos hfin] at hlay
  have hcf : m.cls = cf := by
    obtain ⟨_, _, c', _, _, _, -, -, hf', -, -, -, hown2, -⟩ := Cond.laysFinal_spec hlay
    have e1 : c' = cf := by have := hi.symm.trans hf'; simp at this; exact this.1.symm
    rw [hdecl rfl] at hown2
    rw [← e1]; exact Option.some.inj (hown.symm.trans hown2)
  have h6 := u_fits hfc hkC hkind (Or.inr hlay) hi (hty kf hkN) hn hf
  have hl9 : kf < fs.length := by rw [g2]; exact hkN
  rcases hl with hl | ⟨hl, -⟩
  · refine W.putFinK hx hb hown (ma_word hK hB hl rfl rfl _) hi hst hcf hI (by rw [q2]; exact h6) q1 q3 (by rw [hsl]; exact k2_hasslot (q4 kf hkN)) rfl rfl d fun H' e1 e2 e3 => ?_
    rw [hsl] at e1 ⊢
    exact kk H' _ ls (h1.up ⟨_, hc, by rw [List.length_set]; exact g2, t_OB.to (V := updV (vp_V fs) kf v) ⟨_, e1, q2, q3, t_set q4 hap hkN v⟩ (fun j _ => vp_updV_set hl9 v j)⟩ (fun q hq _ => e3 q hq)) (h2.up h0 ha (Or.inl (by rw [hm]; simp))) (h3.put e2 e3 ha) h4
  · cases hl
/-! ===== arrays ===== -/
theorem ma_rd {cA : ClassId} {l : List Value} {j : Nat} {v : Value} (h : l[j]? = some v) : (ma_arr cA l).slots[j]? = some v := by
  show l.toArray[j]? = some v
  rw [List.getElem?_toArray]; exact h
theorem ma_sz {cA : ClassId} {l : List Value} : (ma_arr cA l).slots.size = l.length := by simp [ma_arr]
theorem ma_wr {cA : ClassId} {l : List Value} {j : Nat} {v : Value} : (ma_arr cA l).setSlot j v = ma_arr cA (l.set j v) := by
  simp [ma_arr, Cell.setSlot]
theorem ma_ix {cA : ClassId} {l : List Value} {j : Int32} {v : Value} (hj : ¬ j < 0) (hv : l[j.toNatClampNeg]? = some v) : ¬ (j < 0 ∨ (ma_arr cA l).slots.size ≤ j.toNatClampNeg) := by
  rw [ma_sz]
  rintro (h | h)
  · exact hj h
  · have := (List.getElem?_eq_some_iff.mp hv).1
    omega
theorem ma_ix2 {cA : ClassId} {l : List Value} {j : Int32} (hj : ¬ j < 0) (hv : j.toNatClampNeg < l.length) : ¬ (j < 0 ∨ (ma_arr cA l).slots.size ≤ j.toNatClampNeg) := by
  rw [ma_sz]
  rintro (h | h)
  · exact hj h
  · omega
theorem m_iald {a : Nat} {l : List Value} {j : Int32} {v : Value} (C : ma_C G cc nL own fr mc ms lo) (d : decode cc pc = .ok (.iaload, 1)) (hm : M a = some (.inr (.int, l))) (ht : FieldType.int ∈ kty) (hj : ¬ j < 0) (hv : l[j.toNatClampNeg]? = some v) (kk : mj G nL k n M (pc + 1) L (v :: st)) : mj G nL k n M pc L (.int j :: .ref a :: st) := by
  obtain ⟨D, s0, p, l', e, R, s, m, args, below, meth, c, Q, M0, Wr⟩ := G
  obtain ⟨hx, hb, hml, hown, hlk, hR, hB, hK, hA1, h0⟩ := C
  exact fun H locs ls h1 h2 h3 h4 => W.iald hx hb (h1 a _ hm) (ma_isArr (ma_Kt hK hB ht).1 l) (fun q => by cases q) (ma_ix hj hv) (ma_rd hv) rfl rfl d (kk H locs ls h1 h2 h3 h4)
theorem m_cald {a : Nat} {l : List Value} {j : Int32} {v : Value} (C : ma_C G cc nL own fr mc ms lo) (d : decode cc pc = .ok (.caload, 1)) (hm : M a = some (.inr (.char, l))) (ht : FieldType.char ∈ kty) (hj : ¬ j < 0) (hv : l[j.toNatClampNeg]? = some v) (kk : mj G nL k n M (pc + 1) L (v :: st)) : mj G nL k n M pc L (.int j :: .ref a :: st) := by
  obtain ⟨D, s0, p, l', e, R, s, m, args, below, meth, c, Q, M0, Wr⟩ := G
  obtain ⟨hx, hb, hml, hown, hlk, hR, hB, hK, hA1, h0⟩ := C
  exact fun H locs ls h1 h2 h3 h4 => W.cald hx hb (h1 a _ hm) (ma_isArr (ma_Kt hK hB ht).1 l) (fun q => by cases q) (ma_ix hj hv) (ma_rd hv) rfl rfl d (kk H locs ls h1 h2 h3 h4)
theorem m_lald {a : Nat} {l : List Value} {j : Int32} {v : Value} (C : ma_C G cc nL own fr mc ms lo) (d : decode cc pc = .ok (.laload, 1)) (hm : M a = some (.inr (.long, l))) (ht : FieldType.long ∈ kty) (hj : ¬ j < 0) (hv : l[j.toNatClampNeg]? = some v) (kk : mj G nL k n M (pc + 1) L (v :: st)) : mj G nL k n M pc L (.int j :: .ref a :: st) := by
  obtain ⟨D, s0, p, l', e, R, s, m, args, below, meth, c, Q, M0, Wr⟩ := G
  obtain ⟨hx, hb, hml, hown, hlk, hR, hB, hK, hA1, h0⟩ := C
  exact fun H locs ls h1 h2 h3 h4 => W.lald hx hb (h1 a _ hm) (ma_isArr (ma_Kt hK hB ht).1 l) (fun q => by cases q) (ma_ix hj hv) (ma_rd hv) rfl rfl d (kk H locs ls h1 h2 h3 h4)
theorem m_zald {a : Nat} {l : List Value} {j : Int32} {v : Value} (C : ma_C G cc nL own fr mc ms lo) (d : decode cc pc = .ok (.baload, 1)) (hm : M a = some (.inr (.boolean, l))) (ht : FieldType.boolean ∈ kty) (hj : ¬ j < 0) (hv : l[j.toNatClampNeg]? = some v) (kk : mj G nL k n M (pc + 1) L (v :: st)) : mj G nL k n M pc L (.int j :: .ref a :: st) := by
  obtain ⟨D, s0, p, l', e, R, s, m, args, below, meth, c, Q, M0, Wr⟩ := G
  obtain ⟨hx, hb, hml, hown, hlk, hR, hB, hK, hA1, h0⟩ := C
  exact fun H locs ls h1 h2 h3 h4 => W.zald hx hb (h1 a _ hm) (ma_isArr (ma_Kt hK hB ht).1 l) (fun q => by cases q) (ma_ix hj hv) (ma_rd hv) rfl rfl d (kk H locs ls h1 h2 h3 h4)
theorem m_aald {a : Nat} {l : List Value} {ty : FieldType} {j : Int32} {v : Value} (C : ma_C G cc nL own fr mc ms lo) (d : decode cc pc = .ok (.aaload, 1)) (hm : M a = some (.inr (ty, l))) (ht : ty ∈ kty) (hr : ty.isReference = true) (hj : ¬ j < 0) (hv : l[j.toNatClampNeg]? = some v) (kk : mj G nL k n M (pc + 1) L (v :: st)) : mj G nL k n M pc L (.int j :: .ref a :: st) := by
  obtain ⟨D, s0, p, l', e, R, s, m, args, below, meth, c, Q, M0, Wr⟩ := G
  obtain ⟨hx, hb, hml, hown, hlk, hR, hB, hK, hA1, h0⟩ := C
  exact fun H locs ls h1 h2 h3 h4 => W.aald hx hb (h1 a _ hm) (ma_isArr (ma_Kt hK hB ht).1 l) hr (fun q => by cases q) (ma_ix hj hv) (ma_rd hv) rfl rfl d (kk H locs ls h1 h2 h3 h4)
theorem m_alen {a : Nat} {l : List Value} {ty : FieldType} (C : ma_C G cc nL own fr mc ms lo) (d : decode cc pc = .ok (.arraylength, 1)) (hm : M a = some (.inr (ty, l))) (ht : ty ∈ kty) (kk : mj G nL k n M (pc + 1) L (.int (nI l.length) :: st)) : mj G nL k n M pc L (.ref a :: st) := by
  obtain ⟨D, s0, p, l', e, R, s, m, args, below, meth, c, Q, M0, Wr⟩ := G
  obtain ⟨hx, hb, hml, hown, hlk, hR, hB, hK, hA1, h0⟩ := C
  exact fun H locs ls h1 h2 h3 h4 => W.alen (n := nI l.length) hx hb (h1 a _ hm) (ma_isArr (ma_Kt hK hB ht).1 l) (by rw [ma_sz]; rfl) rfl rfl d (kk H locs ls h1 h2 h3 h4)
theorem m_iast {a : Nat} {l : List Value} {j x : Int32} (C : ma_C G cc nL own fr mc ms lo) (d : decode cc pc = .ok (.iastore, 1)) (ha : ma_Wr G a) (hm : M a = some (.inr (.int, l))) (ht : FieldType.int ∈ kty) (hj : ¬ j < 0) (hv : j.toNatClampNeg < l.length) (kk : mj G nL k n (ma_up M a (.inr (.int, l.set j.toNatClampNeg (.int x)))) (pc + 1) L st) : mj G nL k n M pc L (.int x :: .int j :: .ref a :: st) := by
  obtain ⟨D, s0, p, l', e, R, s, m, args, below, meth, c, Q, M0, Wr⟩ := G
  obtain ⟨hx, hb, hml, hown, hlk, hR, hB, hK, hA1, h0⟩ := C
  exact fun H locs ls h1 h2 h3 h4 => W.iast hx hb (h1 a _ hm) (ma_isArr (ma_Kt hK hB ht).1 l) (fun q => by cases q) (ma_ix2 hj hv) rfl rfl d fun H' e1 e2 e3 => kk H' _ ls (h1.up (show H'[a]? = some (ma_arr _ _) by rw [e1, ma_wr]) (fun q hq _ => e3 q hq)) (h2.up h0 ha (Or.inl (by rw [hm]; simp))) (h3.put e2 e3 ha) h4
theorem m_last {a : Nat} {l : List Value} {j : Int32} {x : Int64} (C : ma_C G cc nL own fr mc ms lo) (d : decode cc pc = .ok (.lastore, 1)) (ha : ma_Wr G a) (hm : M a = some (.inr (.long, l))) (ht : FieldType.long ∈ kty) (hj : ¬ j < 0) (hv : j.toNatClampNeg < l.length) (kk : mj G nL k n (ma_up M a (.inr (.long, l.set j.toNatClampNeg (.long x)))) (pc + 1) L st) : mj G nL k n M pc L (.long x :: .int j :: .ref a :: st) := by
  obtain ⟨D, s0, p, l', e, R, s, m, args, below, meth, c, Q, M0, Wr⟩ := G
  obtain ⟨hx, hb, hml, hown, hlk, hR, hB, hK, hA1, h0⟩ := C
  exact fun H locs ls h1 h2 h3 h4 => W.last hx hb (h1 a _ hm) (ma_isArr (ma_Kt hK hB ht).1 l) (fun q => by cases q) (ma_ix2 hj hv) rfl rfl d fun H' e1 e2 e3 => kk H' _ ls (h1.up (show H'[a]? = some (ma_arr _ _) by rw [e1, ma_wr]) (fun q hq _ => e3 q hq)) (h2.up h0 ha (Or.inl (by rw [hm]; simp))) (h3.put e2 e3 ha) h4
theorem m_cast {a : Nat} {l : List Value} {j x : Int32} (C : ma_C G cc nL own fr mc ms lo) (d : decode cc pc = .ok (.castore, 1)) (ha : ma_Wr G a) (hm : M a = some (.inr (.char, l))) (ht : FieldType.char ∈ kty) (hj : ¬ j < 0) (hv : j.toNatClampNeg < l.length) (hx9 : narrow .char (.int x) = .int x) (kk : mj G nL k n (ma_up M a (.inr (.char, l.set j.toNatClampNeg (.int x)))) (pc + 1) L st) : mj G nL k n M pc L (.int x :: .int j :: .ref a :: st) := by
  obtain ⟨D, s0, p, l', e, R, s, m, args, below, meth, c, Q, M0, Wr⟩ := G
  obtain ⟨hx, hb, hml, hown, hlk, hR, hB, hK, hA1, h0⟩ := C
  exact fun H locs ls h1 h2 h3 h4 => W.cast hx hb (h1 a _ hm) (ma_isArr (ma_Kt hK hB ht).1 l) (fun q => by cases q) (ma_ix2 hj hv) rfl rfl d fun H' e1 e2 e3 => kk H' _ ls (h1.up (show H'[a]? = some (ma_arr _ _) by rw [e1, hx9, ma_wr]) (fun q hq _ => e3 q hq)) (h2.up h0 ha (Or.inl (by rw [hm]; simp))) (h3.put e2 e3 ha) h4
theorem m_zast {a : Nat} {l : List Value} {j x : Int32} (C : ma_C G cc nL own fr mc ms lo) (d : decode cc pc = .ok (.bastore, 1)) (ha : ma_Wr G a) (hm : M a = some (.inr (.boolean, l))) (ht : FieldType.boolean ∈ kty) (hj : ¬ j < 0) (hv : j.toNatClampNeg < l.length) (hx9 : narrow .boolean (.int x) = .int x) (kk : mj G nL k n (ma_up M a (.inr (.boolean, l.set j.toNatClampNeg (.int x)))) (pc + 1) L st) : mj G nL k n M pc L (.int x :: .int j :: .ref a :: st) := by
  obtain ⟨D, s0, p, l', e, R, s, m, args, below, meth, c, Q, M0, Wr⟩ := G
  obtain ⟨hx, hb, hml, hown, hlk, hR, hB, hK, hA1, h0⟩ := C
  exact fun H locs ls h1 h2 h3 h4 => W.zast hx hb (h1 a _ hm) (ma_isArr (ma_Kt hK hB ht).1 l) (fun q => by cases q) (ma_ix2 hj hv) rfl rfl d fun H' e1 e2 e3 => kk H' _ ls (h1.up (show H'[a]? = some (ma_arr _ _) by rw [e1, hx9, ma_wr]) (fun q hq _ => e3 q hq)) (h2.up h0 ha (Or.inl (by rw [hm]; simp))) (h3.put e2 e3 ha) h4
/-- a reference to an object of class number ci into an array of that class -/
theorem m_aast {a b ci : Nat} {l fs : List Value} {r : vw_C} {j : Int32} (C : ma_C G cc nL own fr mc ms lo) (d : decode cc pc = .ok (.aastore, 1)) (ha : ma_Wr G a) (hm : M a = some (.inr (.object r.1, l))) (ht : FieldType.object r.1 ∈ kty) (hb9 : M b = some (.inl (ci, fs))) (hc : kcl[ci]? = some r) (hj : ¬ j < 0) (hv : j.toNatClampNeg < l.length) (kk : mj G nL k n (ma_up M a (.inr (.object r.1, l.set j.toNatClampNeg (.ref b)))) (pc + 1) L st) : mj G nL k n M pc L (.ref b :: .int j :: .ref a :: st) := by
  obtain ⟨D, s0, p, l', e, R, s, m, args, below, meth, c, Q, M0, Wr⟩ := G
  obtain ⟨hx, hb, hml, hown, hlk, hR, hB, hK, hA1, h0⟩ := C
  intro H locs ls h1 h2 h3 h4
  obtain ⟨r', hr', -, cellV, g1, g2, g3, -⟩ := h1 b _ hb9
  have hcls := (ma_Kn hK hB hc).2
  obtain ⟨kA, comp, k1, k2, k3, -⟩ := (ma_Kt hK hB ht).2
  have hcomp : comp = D.1 ci := Option.some.inj (k3.symm.trans hcls.1)
  subst hcomp
  obtain ⟨kC, hkC, hkd⟩ := id hcls.2
  exact W.aast hx hb (h1 a _ hm) (fun q h => by cases h) (fun h => by cases h) k1 k2 rfl hkC ⟨hj, by rw [ma_sz]; exact hv⟩ g1 (fun q h => by rw [g3] at h; cases h) (by rw [g2]; exact hkC) (by rw [g2]; exact va_assign hcls) rfl rfl d fun H' e1 e2 e3 => kk H' _ ls (h1.up (show H'[a]? = some (ma_arr _ _) by rw [e1, ma_wr]) (fun q hq _ => e3 q hq)) (h2.up h0 ha (Or.inl (by rw [hm]; simp))) (h3.put e2 e3 ha) h4
/-! ===== new cells ===== -/
theorem m_new {ci index : Nat} {Cn : String} {T : u_T} {N : Nat} {ty0 : Nat → FieldType} (fs : List Value) (C : ma_C G cc nL own fr mc ms lo) (d : decode cc pc = .ok (.new index, 3)) (hc : kcl[ci]? = some (Cn, T, N)) (hin : ∀ w ∈ u_ws Cn T N, w ∈ lw_tbl) (hty : ∀ q, q < N → parseFieldDescriptor (T q).2.2.1 = some (ty0 q)) (w1 : Cond.classLink own index Cn ∈ lw_tbl) (w2 : Cond.instantiable Cn N ∈ lw_tbl) (w3 : Cond.initialized Cn ∈ lw_tbl) (hfl : fs.length = N) (hfs : ∀ j, j < N → defaultValue (ty0 j) = vp_V fs j) (hk : k + 1 ≤ mc) (hn : n + N ≤ ms)
    (kk : ∀ a : Nat, M a = none → ma_Wr G a → mj G nL (k + 1) (n + N) (ma_up M a (.inl (ci, fs))) (pc + 3) L (.ref a :: st)) : mj G nL k n M pc L st := by
  obtain ⟨D, s0, p, l, e, R, s, m, args, below, meth, c, Q, M0, Wr⟩ := G
  obtain ⟨hx, hb, hml, hown, hlk, rfl, hB, hK, hA1, h0⟩ := C
  intro H locs ls h1 h2 h3 h4
  have hKn := ma_Kn hK hB hc
  have hw := ma_lays hK hB hin args
  have hno : M H.size = none := by
    cases hq : M H.size with
    | none => rfl
    | some x => exact absurd (h1 _ _ hq).lt (Nat.lt_irrefl _)
  refine W.newcK hx hb hown (ma_word hK hB w1 rfl rfl _) (ma_word hK hB w2 rfl rfl _) (ma_word hK hB w3 rfl rfl _) rfl d hk hn hKn.2.1 rfl fun H1 kC hkC e1 z1 o1 => ?_
  have ha : Wr H.size ∨ s.heap.size ≤ H.size := Or.inr h3.1
  refine kk H.size hno ha H1 locs ls (h1.up ⟨_, hc, hfl, (u_born ty0 hw (fun _ h => h) hKn hkC e1 hty).to hfs⟩ (fun q _ hq => o1 q hq)) (h2.up h0 ha (Or.inr h3.1)) ⟨Nat.le_trans h3.1 (by omega), fun x g1 g2 => (o1 x (Nat.lt_of_lt_of_le g1 h3.1)).trans (h3.2.1 x g1 g2), h3.2.2⟩ h4
theorem m_newa {at9 : ArrayType} {ty : FieldType} {x : Int32} {N : Nat} (C : ma_C G cc nL own fr mc ms lo) (d : decode cc pc = .ok (.newarray at9, 2)) (hty : newarray.typeOf at9 = ty) (ht : ty ∈ kty) (w1 : Cond.arrayClass ty ∈ lw_tbl) (hobj : ∀ Cn : String, ty ≠ .object Cn) (hx0 : ¬ x < 0) (hN : x.toNatClampNeg = N) (hbytes : N * componentBytes ty ≤ 536870912) (hk : k + 1 ≤ mc) (hn : n + N ≤ ms)
    (kk : ∀ a : Nat, M a = none → ma_Wr G a → mj G nL (k + 1) (n + N) (ma_up M a (.inr (ty, List.replicate N (defaultValue ty)))) (pc + 2) L (.ref a :: st)) : mj G nL k n M pc L (.int x :: st) := by
  obtain ⟨D, s0, p, l, e, R, s, m, args, below, meth, c, Q, M0, Wr⟩ := G
  obtain ⟨hx, hb, hml, hown, hlk, rfl, hB, hK, hA1, h0⟩ := C
  subst hty
  intro H locs ls h1 h2 h3 h4
  have hno : M H.size = none := by
    cases hq : M H.size with
    | none => rfl
    | some x => exact absurd (h1 _ _ hq).lt (Nat.lt_irrefl _)
  have harr : (Cond.arrayClass (newarray.typeOf at9)).before args s = true := by
    obtain ⟨a0, h⟩ := hK.2.1
    exact Cond.before_shiftedFace (State.Shifted.of_warmed hB.1) _ rfl (h _ w1)
  refine va_newaK hx hb harr rfl d rfl hx0 hN hbytes hk hn rfl fun H1 cA e1 z1 o1 hAr hNm => ?_
  have ha : Wr H.size ∨ s.heap.size ≤ H.size := Or.inr h3.1
  have hcA : cA = D.2.2 (newarray.typeOf at9) := by
    have h5 := (ma_Kt hK hB ht).2
    cases at9 <;> exact Option.some.inj (hNm.symm.trans h5)
  have hcell : H1[H.size]? = some (ma_arr (D.2.2 (newarray.typeOf at9)) (List.replicate N (defaultValue (newarray.typeOf at9)))) := by
    rw [e1, ← arrV_new, hcA]
    simp [ma_arr]
  exact kk H.size hno ha H1 locs ls (h1.up hcell (fun q _ hq => o1 q hq)) (h2.up h0 ha (Or.inr h3.1)) ⟨Nat.le_trans h3.1 (by omega), fun x g1 g2 => (o1 x (Nat.lt_of_lt_of_le g1 h3.1)).trans (h3.2.1 x g1 g2), h3.2.2⟩ h4
theorem m_anew {index : Nat} {Cn : String} {x : Int32} {N : Nat} (C : ma_C G cc nL own fr mc ms lo) (d : decode cc pc = .ok (.anewarray index, 3)) (ht : FieldType.object Cn ∈ kty) (w1 : Cond.classLink own index Cn ∈ lw_tbl) (w2 : Cond.arrayOver (.object Cn) ∈ lw_tbl) (hx0 : ¬ x < 0) (hN : x.toNatClampNeg = N) (hbytes : N * 4 ≤ 536870912) (hk : k + 1 ≤ mc) (hn : n + N ≤ ms)
    (kk : ∀ a : Nat, M a = none → ma_Wr G a → mj G nL (k + 1) (n + N) (ma_up M a (.inr (.object Cn, List.replicate N .null))) (pc + 3) L (.ref a :: st)) : mj G nL k n M pc L (.int x :: st) := by
  obtain ⟨D, s0, p, l, e, R, s, m, args, below, meth, c, Q, M0, Wr⟩ := G
  obtain ⟨hx, hb, hml, hown, hlk, rfl, hB, hK, hA1, h0⟩ := C
  subst hN
  intro H locs ls h1 h2 h3 h4
  have hno : M H.size = none := by
    cases hq : M H.size with
    | none => rfl
    | some x => exact absurd (h1 _ _ hq).lt (Nat.lt_irrefl _)
  have hover : (Cond.arrayOver (.object Cn)).before args s = true := by
    obtain ⟨a0, h⟩ := hK.2.1
    exact va_AO.use (va_AO.moved hB.1.alike (va_AO.of (h _ w2)))
  refine W.anew hx hb hown (ma_word hK hB w1 rfl rfl _) hover rfl d rfl hx0 hbytes hk hn fun cA kA comp f1 f2 f3 f4 => ?_
  have ha : Wr H.size ∨ s.heap.size ≤ H.size := Or.inr h3.1
  have hcA : cA = D.2.2 (.object Cn) := by
    obtain ⟨kA', comp', -, -, -, h5⟩ := (ma_Kt hK hB ht).2
    exact Option.some.inj (f1.symm.trans h5)
  generalize hH1 : H.push ({ cls := cA, slots := Array.replicate x.toNatClampNeg .null, vm := .none } : Cell) = H1
  have z1 : H1.size = H.size + 1 := by rw [← hH1, Array.size_push]
  have e1 : H1[H.size]? = some (ma_arr (D.2.2 (.object Cn)) (List.replicate x.toNatClampNeg .null)) := by
    rw [← hH1, Array.getElem?_push_size, ← hcA]
    simp [ma_arr]
  have o1 : ∀ q : Nat, q < H.size → H1[q]? = H[q]? := fun q hq => by rw [← hH1, Array.getElem?_push, if_neg (Nat.ne_of_lt hq)]
  exact kk H.size hno ha H1 locs ls (h1.up e1 (fun q _ hq => o1 q hq)) (h2.up h0 ha (Or.inr h3.1)) ⟨Nat.le_trans h3.1 (by omega), fun x g1 g2 => (o1 x (Nat.lt_of_lt_of_le g1 h3.1)).trans (h3.2.1 x g1 g2), h3.2.2⟩ h4
end
