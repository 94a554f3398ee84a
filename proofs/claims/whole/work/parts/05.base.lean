/-! ===== the heap as we see it: a cell is an object of class number ci with its fields' values, or an array of a type with its contents ===== -/
abbrev ma_E : Type := (Nat × List Value) ⊕ (FieldType × List Value)
abbrev ma_H : Type := Nat → Option ma_E
abbrev ma_D : Type := (Nat → ClassId) × (Nat → Nat → Nat) × (FieldType → ClassId)
def ma_arr (cA : ClassId) (l : List Value) : Cell := { cls := cA, slots := l.toArray, vm := .none }
def ma_at (D : ma_D) (a : Nat) (e : ma_E) (H : Heap) : Prop := match e with
  | .inl o => ∃ r : vw_C, kcl[o.1]? = some r ∧ o.2.length = r.2.2 ∧ t_OB a (D.1 o.1) r.2.2 (D.2.1 o.1) H (vp_V o.2)
  | .inr x => H[a]? = some (ma_arr (D.2.2 x.1) x.2)
def ma_P (D : ma_D) (M : ma_H) (H : Heap) : Prop := ∀ (a : Nat) (e : ma_E), M a = some e → ma_at D a e H
def ma_up (M : ma_H) (a : Nat) (e : ma_E) : ma_H := fun q => if q = a then some e else M q
theorem ma_at.kept {D : ma_D} {a : Nat} {e : ma_E} {H H1 : Heap} (h : ma_at D a e H) (hq : H1[a]? = H[a]?) : ma_at D a e H1 := by
  cases e with
  | inl o =>
    obtain ⟨r, h1, h2, h3⟩ := h
    exact ⟨r, h1, h2, h3.kept hq⟩
  | inr x => exact hq.trans h
theorem ma_at.lt {D : ma_D} {a : Nat} {e : ma_E} {H : Heap} (h : ma_at D a e H) : a < H.size := by
  cases e with
  | inl o =>
    obtain ⟨r, h1, h2, cell, h3, -⟩ := h
    exact (Array.getElem?_eq_some_iff.mp h3).1
  | inr x => exact (Array.getElem?_eq_some_iff.mp h).1
theorem ma_P.up {D : ma_D} {M : ma_H} {H H1 : Heap} {a : Nat} {e : ma_E} (h : ma_P D M H) (he : ma_at D a e H1) (oq : ∀ q : Nat, q ≠ a → q < H.size → H1[q]? = H[q]?) : ma_P D (ma_up M a e) H1 := by
  intro q x hx
  unfold ma_up at hx
  by_cases hq : q = a
  · subst hq
    rw [if_pos rfl] at hx
    cases hx
    exact he
  · rw [if_neg hq] at hx
    exact (h q x hx).kept (oq q hq (h q x hx).lt)
theorem ma_us {M : ma_H} {a : Nat} {e : ma_E} : ma_up M a e a = some e := if_pos rfl
theorem ma_un {M : ma_H} {a q : Nat} {e : ma_E} (h : q ≠ a) : ma_up M a e q = M q := if_neg h
theorem ma_uu {M : ma_H} {a : Nat} {e e' : ma_E} : ma_up (ma_up M a e) a e' = ma_up M a e' := by
  funext q
  unfold ma_up
  split <;> rfl
/-! ===== where everything begins: the law's entry state s0; what is known there is known everywhere ===== -/
def ma_B (s0 U : State) : Prop := s0.WarmedH U.vm ∧ s0.heap.size ≤ U.heap.size ∧ ∀ q : Nat, q < s0.heap.size → U.heap[q]? = s0.heap[q]?
def ma_K (D : ma_D) (s0 : State) (l : Launch) : Prop := l.stackTraces = false ∧ (∃ a0 : Array Value, ∀ w ∈ lw_tbl, w.before a0 s0 = true) ∧ (∀ (c : Nat) (q : vw_C), kcl[c]? = some q → u_Kn s0 q.1 q.2.1 q.2.2 (D.1 c) (D.2.1 c)) ∧ (∀ ty ∈ kty, ArrOfT s0 (D.2.2 ty) ty ∧ va_RA s0 (D.2.2 ty) ty) ∧ vx_Zq Bundle.tN "UNASSIGNED_STACK" Bundle.steD (fun q => s0.heap.size ≤ q) s0 s0.heap ∧ vx_Zq Bundle.tN "SUPPRESSED_SENTINEL" Bundle.listD (fun q => s0.heap.size ≤ q) s0 s0.heap ∧ ∀ z ∈ knc, va_Nc z.1 z.2 s0
theorem ma_word {D : ma_D} {s0 U : State} {l : Launch} (hK : ma_K D s0 l) (hB : ma_B s0 U) {w : Cond} (hw : w ∈ lw_tbl) (h1 : w.onTables = true) (h2 : w.keepsH = true) (a : Array Value) : w.before a U = true := by
  obtain ⟨a0, h⟩ := hK.2.1
  exact Cond.onTables_warmH (T := U) (vm₁ := U.vm) hB.1 h1 h2 (h w hw)
theorem ma_Kn {D : ma_D} {s0 U : State} {l : Launch} (hK : ma_K D s0 l) (hB : ma_B s0 U) {c : Nat} {q : vw_C} (h : kcl[c]? = some q) : u_Kn U q.1 q.2.1 q.2.2 (D.1 c) (D.2.1 c) := u_Kn_moved hB.1.alike (hK.2.2.1 c q h)
theorem ma_Kt {D : ma_D} {s0 U : State} {l : Launch} (hK : ma_K D s0 l) (hB : ma_B s0 U) {ty : FieldType} (h : ty ∈ kty) : ArrOfT U (D.2.2 ty) ty ∧ va_RA U (D.2.2 ty) ty := ⟨arrOfT_moved hB.1.alike (hK.2.2.2.1 ty h).1, (hK.2.2.2.1 ty h).2.moved hB.1.alike⟩
theorem ma_isArr {U : State} {cA : ClassId} {ty : FieldType} (h : ArrOfT U cA ty) (l : List Value) : U.isArrayOf (ma_arr cA l) ty := ⟨fun k q => (by cases q), (h 0 (fun _ => .null)).2⟩
/-! ===== locals, by their places ===== -/
def ma_c2 (w : Option Value) : Bool := match w with
  | some v => v.category == 2
  | none => false
/-- a value goes into a place: the second half of a long behind it is lost, a long before it too -/
def ma_st : Nat → Value → List (Option Value) → List (Option Value)
  | _, _, [] => []
  | 0, v, _ :: r => some v :: (if v.category = 2 then (match r with | [] => [] | _ :: r' => none :: r') else r)
  | n + 1, v, w :: r => (if n = 0 ∧ ma_c2 w = true then none else w) :: ma_st n v r
def ma_L (nL : Nat) (L : List (Option Value)) (ls : Array Slot) : Prop := ls.size = nL ∧ lv_wf ls ∧ ∀ (i : Nat) (v : Value), L[i]? = some (some v) → ls[i]? = some (.val v)
def ma_lv (L : List (Option Value)) : List (Nat × Value) := L.zipIdx.filterMap fun q => q.1.map fun v => (q.2, v)
theorem ma_lv_mem {L : List (Option Value)} {i : Nat} {v : Value} : (i, v) ∈ ma_lv L ↔ L[i]? = some (some v) := by
  unfold ma_lv
  rw [List.mem_filterMap]
  constructor
  · rintro ⟨⟨w, j⟩, h1, h2⟩
    rw [List.mem_zipIdx_iff_getElem?] at h1
    cases w with
    | none => simp at h2
    | some w =>
      simp at h2
      obtain ⟨rfl, rfl⟩ := h2
      exact h1
  · intro h
    exact ⟨(some v, i), by rw [List.mem_zipIdx_iff_getElem?]; exact h, rfl⟩
theorem ma_L.has {nL : Nat} {L : List (Option Value)} {ls : Array Slot} (h : ma_L nL L ls) : lv_has ls nL (ma_lv L) := ⟨h.1, h.2.1, fun q hq => h.2.2 q.1 q.2 (ma_lv_mem.mp hq)⟩
theorem ma_st_spec : ∀ (i : Nat) (v : Value) (L : List (Option Value)) (j : Nat) (w : Value), (ma_st i v L)[j]? = some (some w) → (j = i ∧ w = v) ∨ (j ≠ i ∧ L[j]? = some (some w) ∧ ¬ (j + 1 = i ∧ w.category = 2) ∧ (v.category = 2 → j ≠ i + 1)) := by
  intro i
  induction i with
  | zero =>
    intro v L j w h
    cases L with
    | nil => simp [ma_st] at h
    | cons x r =>
      cases j with
      | zero =>
        simp [ma_st] at h
        exact Or.inl ⟨rfl, h.symm⟩
      | succ j =>
        refine Or.inr ⟨by omega, ?_⟩
        simp only [ma_st, List.getElem?_cons_succ] at h ⊢
        by_cases hc : v.category = 2
        · rw [if_pos hc] at h
          cases r with
          | nil => simp at h
          | cons y r' =>
            cases j with
            | zero => simp at h
            | succ j =>
              simp only [List.getElem?_cons_succ] at h ⊢
              exact ⟨h, by omega, fun _ => by omega⟩
        · rw [if_neg hc] at h
          exact ⟨h, by omega, fun q => absurd q hc⟩
  | succ n ih =>
    intro v L j w h
    cases L with
    | nil => simp [ma_st] at h
    | cons x r =>
      cases j with
      | zero =>
        simp only [ma_st, List.getElem?_cons_zero, Option.some.injEq] at h
        refine Or.inr ⟨by omega, ?_⟩
        by_cases hc : n = 0 ∧ ma_c2 x = true
        · rw [if_pos hc] at h
          cases h
        · rw [if_neg hc] at h
          subst h
          refine ⟨rfl, fun q => hc ⟨by omega, ?_⟩, fun _ => by omega⟩
          simp [ma_c2, q.2]
      | succ j =>
        simp only [ma_st, List.getElem?_cons_succ] at h ⊢
        rcases ih v r j w h with ⟨h1, h2⟩ | ⟨h1, h2, h3, h4⟩
        · exact Or.inl ⟨by omega, h2⟩
        · exact Or.inr ⟨by omega, h2, fun q => h3 ⟨by omega, q.2⟩, fun q => by have := h4 q; omega⟩
theorem ma_st1 {nL i : Nat} {L : List (Option Value)} {v : Value} (hc : v.category = 1) {ls' : Array Slot} (h : lv_has ls' nL ((i, v) :: (ma_lv L).filter (fun q => !(q.1 == i) && !(q.1 + 1 == i && q.2.category == 2)))) : ma_L nL (ma_st i v L) ls' := by
  refine ⟨h.1, h.2.1, fun j w hj => ?_⟩
  rcases ma_st_spec i v L j w hj with ⟨rfl, rfl⟩ | ⟨h1, h2, h3, -⟩
  · exact h.2.2 _ List.mem_cons_self
  · refine h.2.2 (j, w) (List.mem_cons_of_mem _ (List.mem_filter.mpr ⟨ma_lv_mem.mpr h2, ?_⟩))
    simp only [Bool.and_eq_true, Bool.not_eq_true', beq_eq_false_iff_ne, ne_eq, Bool.and_eq_false_iff]
    refine ⟨h1, ?_⟩
    by_cases q : j + 1 = i
    · exact Or.inr fun z => h3 ⟨q, z⟩
    · exact Or.inl q
theorem ma_st2 {nL i : Nat} {L : List (Option Value)} {v : Value} (hc : v.category = 2) {ls' : Array Slot} (h : lv_has ls' nL ((i, v) :: (ma_lv L).filter (fun q => !(q.1 == i) && (!(q.1 == i + 1) && !(q.1 + 1 == i && q.2.category == 2))))) : ma_L nL (ma_st i v L) ls' := by
  refine ⟨h.1, h.2.1, fun j w hj => ?_⟩
  rcases ma_st_spec i v L j w hj with ⟨rfl, rfl⟩ | ⟨h1, h2, h3, h4⟩
  · exact h.2.2 _ List.mem_cons_self
  · refine h.2.2 (j, w) (List.mem_cons_of_mem _ (List.mem_filter.mpr ⟨ma_lv_mem.mpr h2, ?_⟩))
    simp only [Bool.and_eq_true, Bool.not_eq_true', beq_eq_false_iff_ne, ne_eq, Bool.and_eq_false_iff]
    refine ⟨h1, h4 hc, ?_⟩
    by_cases q : j + 1 = i
    · exact Or.inr fun z => h3 ⟨q, z⟩
    · exact Or.inl q
/-! ===== the judgement: from here, with these cells, at this pc, with these locals and this stack, the machine comes to the end that G names ===== -/
/-- what has become of the cells M0 that a method began with: those outside Wr are as they were; what is there beside them is new -/
def ma_V (M0 : ma_H) (Wr : Nat → Prop) (sz : Nat) (M : ma_H) : Prop := (∀ q : Nat, M0 q ≠ none → ¬ Wr q → M q = M0 q) ∧ ∀ q : Nat, M0 q = none → M q ≠ none → sz ≤ q
theorem ma_V.up {M0 M : ma_H} {Wr : Nat → Prop} {sz a : Nat} {e : ma_E} (h : ma_V M0 Wr sz M) (h0 : ∀ q : Nat, M0 q ≠ none → q < sz) (ha : Wr a ∨ sz ≤ a) (hn : M a ≠ none ∨ sz ≤ a) : ma_V M0 Wr sz (ma_up M a e) := by
  refine ⟨fun q h1 h2 => ?_, fun q h1 h2 => ?_⟩
  · have hq : q ≠ a := by
      rintro rfl
      have := h0 q h1
      rcases ha with z | z
      · exact h2 z
      · omega
    rw [ma_un hq]
    exact h.1 q h1 h2
  · by_cases hq : q = a
    · subst hq
      rcases hn with z | z
      · exact h.2 q h1 z
      · exact z
    · rw [ma_un hq] at h2
      exact h.2 q h1 h2
abbrev ma_A0 (Wr : Nat → Prop) (sz : Nat) : Nat → Prop := fun q => Wr q ∨ sz ≤ q
abbrev ma_G : Type := ma_D × State × Program × Launch × Env × Room × State × MethodId × Array Value × List Frame × Method × Code × (State → Prop) × ma_H × (Nat → Prop)
def ma_C (G : ma_G) (cc : ByteArray) (nL : Nat) (own : String) (fr mc ms lo : Nat) : Prop := match G with
  | (D, s0, p, l, _, R, s, m, _, _, meth, c, _, M0, Wr) => p.tables.exec = Jvm.exec ∧ c.code = cc ∧ c.maxLocals = nL ∧ s.vm.findClass own = some m.cls ∧ meth.locks = false ∧ R = { frames := fr, cells := mc, slots := ms, locals := lo } ∧ ma_B s0 s ∧ ma_K D s0 l ∧ (∀ q : Nat, Wr q → s0.heap.size ≤ q) ∧ (∀ q : Nat, M0 q ≠ none → q < s.heap.size)
/-- the cell may be written -/
def ma_Wr (G : ma_G) (a : Nat) : Prop := match G with
  | (_, _, _, _, _, _, s, _, _, _, _, _, _, _, Wr) => Wr a ∨ s.heap.size ≤ a
def mj (G : ma_G) (nL k n : Nat) (M : ma_H) (pc : Nat) (L : List (Option Value)) (st : List Value) : Prop := match G with
  | (D, _, p, l, e, R, s, m, args, below, meth, c, Q, M0, Wr) => ∀ (H : Heap) (locs : List Loc) (ls : Array Slot), ma_P D M H → ma_V M0 Wr s.heap.size M → va_S (ma_A0 Wr s.heap.size) s.heap H locs → ma_L nL L ls → W p l e R s m args below meth c H locs k n Q (F0 m pc ls st)
theorem mj_L {G : ma_G} {nL k n : Nat} {M : ma_H} {pc : Nat} {L L' : List (Option Value)} {st : List Value} (h : ∀ (i : Nat) (v : Value), L'[i]? = some (some v) → L[i]? = some (some v)) (kk : mj G nL k n M pc L' st) : mj G nL k n M pc L st := by
  obtain ⟨D, s0, p, l, e, R, s, m, args, below, meth, c, Q, M0, Wr⟩ := G
  exact fun H locs ls h1 h2 h3 h4 => kk H locs ls h1 h2 h3 ⟨h4.1, h4.2.1, fun i v q => h4.2.2 i v (h i v q)⟩
theorem mj_widen {G : ma_G} {nL k n k' n' : Nat} {M : ma_H} {pc : Nat} {L : List (Option Value)} {st : List Value} (hk : k ≤ k') (hn : n ≤ n') (kk : mj G nL k' n' M pc L st) : mj G nL k n M pc L st := by
  obtain ⟨D, s0, p, l, e, R, s, m, args, below, meth, c, Q, M0, Wr⟩ := G
  exact fun H locs ls h1 h2 h3 h4 => W.widen hk hn (kk H locs ls h1 h2 h3 h4)
theorem m_iconst {G : ma_G} {cc : ByteArray} {own : String} {nL fr mc ms lo k n : Nat} {M : ma_H} {pc : Nat} {L : List (Option Value)} {st : List Value} {a : Int} {v : Int32} (C : ma_C G cc nL own fr mc ms lo) (d : decode cc pc = .ok (.iconst a, 1)) (hv : Int32.ofInt a = v) (kk : mj G nL k n M (pc + 1) L (.int v :: st)) : mj G nL k n M pc L (st) := by
  obtain ⟨D, s0, p, l, e, R, s, m, args, below, meth, c, Q, M0, Wr⟩ := G
  obtain ⟨hx, hb, -⟩ := C
  exact fun H locs ls h1 h2 h3 h4 => lv_iconst hx hb d hv (kk H locs ls h1 h2 h3 h4)
theorem m_bipush {G : ma_G} {cc : ByteArray} {own : String} {nL fr mc ms lo k n : Nat} {M : ma_H} {pc : Nat} {L : List (Option Value)} {st : List Value} {a : Int} {v : Int32} (C : ma_C G cc nL own fr mc ms lo) (d : decode cc pc = .ok (.bipush a, 2)) (hv : (Int8.ofInt a).toInt32 = v) (kk : mj G nL k n M (pc + 2) L (.int v :: st)) : mj G nL k n M pc L (st) := by
  obtain ⟨D, s0, p, l, e, R, s, m, args, below, meth, c, Q, M0, Wr⟩ := G
  obtain ⟨hx, hb, -⟩ := C
  exact fun H locs ls h1 h2 h3 h4 => lv_bipush hx hb d hv (kk H locs ls h1 h2 h3 h4)
theorem m_sipush {G : ma_G} {cc : ByteArray} {own : String} {nL fr mc ms lo k n : Nat} {M : ma_H} {pc : Nat} {L : List (Option Value)} {st : List Value} {a : Int} {v : Int32} (C : ma_C G cc nL own fr mc ms lo) (d : decode cc pc = .ok (.sipush a, 3)) (hv : (Int16.ofInt a).toInt32 = v) (kk : mj G nL k n M (pc + 3) L (.int v :: st)) : mj G nL k n M pc L (st) := by
  obtain ⟨D, s0, p, l, e, R, s, m, args, below, meth, c, Q, M0, Wr⟩ := G
  obtain ⟨hx, hb, -⟩ := C
  exact fun H locs ls h1 h2 h3 h4 => lv_sipush hx hb d hv (kk H locs ls h1 h2 h3 h4)
theorem m_lconst {G : ma_G} {cc : ByteArray} {own : String} {nL fr mc ms lo k n : Nat} {M : ma_H} {pc : Nat} {L : List (Option Value)} {st : List Value} {a : Fin 2} {v : Int64} (C : ma_C G cc nL own fr mc ms lo) (d : decode cc pc = .ok (.lconst a, 1)) (hv : Int64.ofNat (a : Nat) = v) (kk : mj G nL k n M (pc + 1) L (.long v :: st)) : mj G nL k n M pc L (st) := by
  obtain ⟨D, s0, p, l, e, R, s, m, args, below, meth, c, Q, M0, Wr⟩ := G
  obtain ⟨hx, hb, -⟩ := C
  exact fun H locs ls h1 h2 h3 h4 => lv_lconst hx hb d hv (kk H locs ls h1 h2 h3 h4)
theorem m_null {G : ma_G} {cc : ByteArray} {own : String} {nL fr mc ms lo k n : Nat} {M : ma_H} {pc : Nat} {L : List (Option Value)} {st : List Value}  (C : ma_C G cc nL own fr mc ms lo) (d : decode cc pc = .ok (.aconst_null, 1))  (kk : mj G nL k n M (pc + 1) L (.null :: st)) : mj G nL k n M pc L (st) := by
  obtain ⟨D, s0, p, l, e, R, s, m, args, below, meth, c, Q, M0, Wr⟩ := G
  obtain ⟨hx, hb, -⟩ := C
  exact fun H locs ls h1 h2 h3 h4 => lv_null hx hb d (kk H locs ls h1 h2 h3 h4)
theorem m_iload_n {G : ma_G} {cc : ByteArray} {own : String} {nL fr mc ms lo k n : Nat} {M : ma_H} {pc : Nat} {L : List (Option Value)} {st : List Value} {q : Fin 4} {i : Nat} {x : Int32} (C : ma_C G cc nL own fr mc ms lo) (d : decode cc pc = .ok (.iload_n q, 1)) (hi : (q : Nat) = i) (hl : L[i]? = some (some (.int x))) (kk : mj G nL k n M (pc + 1) L (.int x :: st)) : mj G nL k n M pc L (st) := by
  obtain ⟨D, s0, p, l, e, R, s, m, args, below, meth, c, Q, M0, Wr⟩ := G
  obtain ⟨hx, hb, -⟩ := C
  exact fun H locs ls h1 h2 h3 h4 => lv_iload_n hx hb d hi (h4.2.2 _ _ hl) (kk H locs ls h1 h2 h3 h4)
theorem m_iload {G : ma_G} {cc : ByteArray} {own : String} {nL fr mc ms lo k n : Nat} {M : ma_H} {pc : Nat} {L : List (Option Value)} {st : List Value} {i : Nat} {x : Int32} (C : ma_C G cc nL own fr mc ms lo) (d : decode cc pc = .ok (.iload i, 2)) (hl : L[i]? = some (some (.int x))) (kk : mj G nL k n M (pc + 2) L (.int x :: st)) : mj G nL k n M pc L (st) := by
  obtain ⟨D, s0, p, l, e, R, s, m, args, below, meth, c, Q, M0, Wr⟩ := G
  obtain ⟨hx, hb, -⟩ := C
  exact fun H locs ls h1 h2 h3 h4 => lv_iload hx hb d (h4.2.2 _ _ hl) (kk H locs ls h1 h2 h3 h4)
theorem m_istore_n {G : ma_G} {cc : ByteArray} {own : String} {nL fr mc ms lo k n : Nat} {M : ma_H} {pc : Nat} {L : List (Option Value)} {st : List Value} {q : Fin 4} {i : Nat} {x : Int32} {L' : List (Option Value)} (C : ma_C G cc nL own fr mc ms lo) (d : decode cc pc = .ok (.istore_n q, 1)) (hi : (q : Nat) = i) (hn : i < nL) (hL : ma_st i (.int x) L = L') (kk : mj G nL k n M (pc + 1) L' st) : mj G nL k n M pc L (.int x :: st) := by
  obtain ⟨D, s0, p, l, e, R, s, m, args, below, meth, c, Q, M0, Wr⟩ := G
  obtain ⟨hx, hb, -⟩ := C
  subst hL
  exact fun H locs ls h1 h2 h3 h4 => lv_istore_n hx hb d hi h4.has hn rfl fun ls' h5 => kk H locs ls' h1 h2 h3 (ma_st1 rfl h5)
theorem m_istore {G : ma_G} {cc : ByteArray} {own : String} {nL fr mc ms lo k n : Nat} {M : ma_H} {pc : Nat} {L : List (Option Value)} {st : List Value} {i : Nat} {x : Int32} {L' : List (Option Value)} (C : ma_C G cc nL own fr mc ms lo) (d : decode cc pc = .ok (.istore i, 2)) (hn : i < nL) (hL : ma_st i (.int x) L = L') (kk : mj G nL k n M (pc + 2) L' st) : mj G nL k n M pc L (.int x :: st) := by
  obtain ⟨D, s0, p, l, e, R, s, m, args, below, meth, c, Q, M0, Wr⟩ := G
  obtain ⟨hx, hb, -⟩ := C
  subst hL
  exact fun H locs ls h1 h2 h3 h4 => lv_istore hx hb d h4.has hn rfl fun ls' h5 => kk H locs ls' h1 h2 h3 (ma_st1 rfl h5)
theorem m_lload_n {G : ma_G} {cc : ByteArray} {own : String} {nL fr mc ms lo k n : Nat} {M : ma_H} {pc : Nat} {L : List (Option Value)} {st : List Value} {q : Fin 4} {i : Nat} {x : Int64} (C : ma_C G cc nL own fr mc ms lo) (d : decode cc pc = .ok (.lload_n q, 1)) (hi : (q : Nat) = i) (hl : L[i]? = some (some (.long x))) (kk : mj G nL k n M (pc + 1) L (.long x :: st)) : mj G nL k n M pc L (st) := by
  obtain ⟨D, s0, p, l, e, R, s, m, args, below, meth, c, Q, M0, Wr⟩ := G
  obtain ⟨hx, hb, -⟩ := C
  exact fun H locs ls h1 h2 h3 h4 => lv_lload_n hx hb d hi (h4.2.2 _ _ hl) (kk H locs ls h1 h2 h3 h4)
theorem m_lload {G : ma_G} {cc : ByteArray} {own : String} {nL fr mc ms lo k n : Nat} {M : ma_H} {pc : Nat} {L : List (Option Value)} {st : List Value} {i : Nat} {x : Int64} (C : ma_C G cc nL own fr mc ms lo) (d : decode cc pc = .ok (.lload i, 2)) (hl : L[i]? = some (some (.long x))) (kk : mj G nL k n M (pc + 2) L (.long x :: st)) : mj G nL k n M pc L (st) := by
  obtain ⟨D, s0, p, l, e, R, s, m, args, below, meth, c, Q, M0, Wr⟩ := G
  obtain ⟨hx, hb, -⟩ := C
  exact fun H locs ls h1 h2 h3 h4 => lv_lload hx hb d (h4.2.2 _ _ hl) (kk H locs ls h1 h2 h3 h4)
theorem m_lstore_n {G : ma_G} {cc : ByteArray} {own : String} {nL fr mc ms lo k n : Nat} {M : ma_H} {pc : Nat} {L : List (Option Value)} {st : List Value} {q : Fin 4} {i : Nat} {x : Int64} {L' : List (Option Value)} (C : ma_C G cc nL own fr mc ms lo) (d : decode cc pc = .ok (.lstore_n q, 1)) (hi : (q : Nat) = i) (hn : i + 1 < nL) (hL : ma_st i (.long x) L = L') (kk : mj G nL k n M (pc + 1) L' st) : mj G nL k n M pc L (.long x :: st) := by
  obtain ⟨D, s0, p, l, e, R, s, m, args, below, meth, c, Q, M0, Wr⟩ := G
  obtain ⟨hx, hb, -⟩ := C
  subst hL
  exact fun H locs ls h1 h2 h3 h4 => lv_lstore_n hx hb d hi h4.has hn rfl fun ls' h5 => kk H locs ls' h1 h2 h3 (ma_st2 rfl h5)
theorem m_lstore {G : ma_G} {cc : ByteArray} {own : String} {nL fr mc ms lo k n : Nat} {M : ma_H} {pc : Nat} {L : List (Option Value)} {st : List Value} {i : Nat} {x : Int64} {L' : List (Option Value)} (C : ma_C G cc nL own fr mc ms lo) (d : decode cc pc = .ok (.lstore i, 2)) (hn : i + 1 < nL) (hL : ma_st i (.long x) L = L') (kk : mj G nL k n M (pc + 2) L' st) : mj G nL k n M pc L (.long x :: st) := by
  obtain ⟨D, s0, p, l, e, R, s, m, args, below, meth, c, Q, M0, Wr⟩ := G
  obtain ⟨hx, hb, -⟩ := C
  subst hL
  exact fun H locs ls h1 h2 h3 h4 => lv_lstore hx hb d h4.has hn rfl fun ls' h5 => kk H locs ls' h1 h2 h3 (ma_st2 rfl h5)
theorem m_aload_n {G : ma_G} {cc : ByteArray} {own : String} {nL fr mc ms lo k n : Nat} {M : ma_H} {pc : Nat} {L : List (Option Value)} {st : List Value} {q : Fin 4} {i : Nat} {x : Nat} (C : ma_C G cc nL own fr mc ms lo) (d : decode cc pc = .ok (.aload_n q, 1)) (hi : (q : Nat) = i) (hl : L[i]? = some (some (.ref x))) (kk : mj G nL k n M (pc + 1) L (.ref x :: st)) : mj G nL k n M pc L (st) := by
  obtain ⟨D, s0, p, l, e, R, s, m, args, below, meth, c, Q, M0, Wr⟩ := G
  obtain ⟨hx, hb, -⟩ := C
  exact fun H locs ls h1 h2 h3 h4 => lv_aload_n hx hb d hi (h4.2.2 _ _ hl) (kk H locs ls h1 h2 h3 h4)
theorem m_aload {G : ma_G} {cc : ByteArray} {own : String} {nL fr mc ms lo k n : Nat} {M : ma_H} {pc : Nat} {L : List (Option Value)} {st : List Value} {i : Nat} {x : Nat} (C : ma_C G cc nL own fr mc ms lo) (d : decode cc pc = .ok (.aload i, 2)) (hl : L[i]? = some (some (.ref x))) (kk : mj G nL k n M (pc + 2) L (.ref x :: st)) : mj G nL k n M pc L (st) := by
  obtain ⟨D, s0, p, l, e, R, s, m, args, below, meth, c, Q, M0, Wr⟩ := G
  obtain ⟨hx, hb, -⟩ := C
  exact fun H locs ls h1 h2 h3 h4 => lv_aload hx hb d (h4.2.2 _ _ hl) (kk H locs ls h1 h2 h3 h4)
theorem m_astore_n {G : ma_G} {cc : ByteArray} {own : String} {nL fr mc ms lo k n : Nat} {M : ma_H} {pc : Nat} {L : List (Option Value)} {st : List Value} {q : Fin 4} {i : Nat} {x : Nat} {L' : List (Option Value)} (C : ma_C G cc nL own fr mc ms lo) (d : decode cc pc = .ok (.astore_n q, 1)) (hi : (q : Nat) = i) (hn : i < nL) (hL : ma_st i (.ref x) L = L') (kk : mj G nL k n M (pc + 1) L' st) : mj G nL k n M pc L (.ref x :: st) := by
  obtain ⟨D, s0, p, l, e, R, s, m, args, below, meth, c, Q, M0, Wr⟩ := G
  obtain ⟨hx, hb, -⟩ := C
  subst hL
  exact fun H locs ls h1 h2 h3 h4 => lv_astore_n hx hb d hi h4.has hn rfl fun ls' h5 => kk H locs ls' h1 h2 h3 (ma_st1 rfl h5)
theorem m_astore {G : ma_G} {cc : ByteArray} {own : String} {nL fr mc ms lo k n : Nat} {M : ma_H} {pc : Nat} {L : List (Option Value)} {st : List Value} {i : Nat} {x : Nat} {L' : List (Option Value)} (C : ma_C G cc nL own fr mc ms lo) (d : decode cc pc = .ok (.astore i, 2)) (hn : i < nL) (hL : ma_st i (.ref x) L = L') (kk : mj G nL k n M (pc + 2) L' st) : mj G nL k n M pc L (.ref x :: st) := by
  obtain ⟨D, s0, p, l, e, R, s, m, args, below, meth, c, Q, M0, Wr⟩ := G
  obtain ⟨hx, hb, -⟩ := C
  subst hL
  exact fun H locs ls h1 h2 h3 h4 => lv_astore hx hb d h4.has hn rfl fun ls' h5 => kk H locs ls' h1 h2 h3 (ma_st1 rfl h5)
theorem m_iinc {G : ma_G} {cc : ByteArray} {own : String} {nL fr mc ms lo k n : Nat} {M : ma_H} {pc : Nat} {L : List (Option Value)} {st : List Value} {i : Nat} {a : Int} {x v : Int32} {L' : List (Option Value)} (C : ma_C G cc nL own fr mc ms lo) (d : decode cc pc = .ok (.iinc i a, 3)) (hl : L[i]? = some (some (.int x))) (hv : x + Int32.ofInt a = v) (hn : i < nL) (hL : ma_st i (.int v) L = L') (kk : mj G nL k n M (pc + 3) L' st) : mj G nL k n M pc L st := by
  obtain ⟨D, s0, p, l, e, R, s, m, args, below, meth, c, Q, M0, Wr⟩ := G
  obtain ⟨hx, hb, -⟩ := C
  subst hL
  intro H locs ls h1 h2 h3 h4
  obtain ⟨z, hz⟩ := List.getElem?_of_mem (ma_lv_mem.mpr hl)
  exact lv_iinc hx hb d h4.has hz hv hn rfl fun ls' h5 => kk H locs ls' h1 h2 h3 (ma_st1 rfl h5)
theorem m_iadd {G : ma_G} {cc : ByteArray} {own : String} {nL fr mc ms lo k n : Nat} {M : ma_H} {pc : Nat} {L : List (Option Value)} {st : List Value} {x y : Int32} (C : ma_C G cc nL own fr mc ms lo) (d : decode cc pc = .ok (.iadd, 1))  (kk : mj G nL k n M (pc + 1) L (.int (x + y) :: st)) : mj G nL k n M pc L (.int y :: .int x :: st) := by
  obtain ⟨D, s0, p, l, e, R, s, m, args, below, meth, c, Q, M0, Wr⟩ := G
  obtain ⟨hx, hb, -⟩ := C
  exact fun H locs ls h1 h2 h3 h4 => lv_iadd hx hb d (kk H locs ls h1 h2 h3 h4)
theorem m_isub {G : ma_G} {cc : ByteArray} {own : String} {nL fr mc ms lo k n : Nat} {M : ma_H} {pc : Nat} {L : List (Option Value)} {st : List Value} {x y : Int32} (C : ma_C G cc nL own fr mc ms lo) (d : decode cc pc = .ok (.isub, 1))  (kk : mj G nL k n M (pc + 1) L (.int (x - y) :: st)) : mj G nL k n M pc L (.int y :: .int x :: st) := by
  obtain ⟨D, s0, p, l, e, R, s, m, args, below, meth, c, Q, M0, Wr⟩ := G
  obtain ⟨hx, hb, -⟩ := C
  exact fun H locs ls h1 h2 h3 h4 => lv_isub hx hb d (kk H locs ls h1 h2 h3 h4)
theorem m_imul {G : ma_G} {cc : ByteArray} {own : String} {nL fr mc ms lo k n : Nat} {M : ma_H} {pc : Nat} {L : List (Option Value)} {st : List Value} {x y : Int32} (C : ma_C G cc nL own fr mc ms lo) (d : decode cc pc = .ok (.imul, 1))  (kk : mj G nL k n M (pc + 1) L (.int (x * y) :: st)) : mj G nL k n M pc L (.int y :: .int x :: st) := by
  obtain ⟨D, s0, p, l, e, R, s, m, args, below, meth, c, Q, M0, Wr⟩ := G
  obtain ⟨hx, hb, -⟩ := C
  exact fun H locs ls h1 h2 h3 h4 => lv_imul hx hb d (kk H locs ls h1 h2 h3 h4)
theorem m_iand {G : ma_G} {cc : ByteArray} {own : String} {nL fr mc ms lo k n : Nat} {M : ma_H} {pc : Nat} {L : List (Option Value)} {st : List Value} {x y : Int32} (C : ma_C G cc nL own fr mc ms lo) (d : decode cc pc = .ok (.iand, 1))  (kk : mj G nL k n M (pc + 1) L (.int (x &&& y) :: st)) : mj G nL k n M pc L (.int y :: .int x :: st) := by
  obtain ⟨D, s0, p, l, e, R, s, m, args, below, meth, c, Q, M0, Wr⟩ := G
  obtain ⟨hx, hb, -⟩ := C
  exact fun H locs ls h1 h2 h3 h4 => lv_iand hx hb d (kk H locs ls h1 h2 h3 h4)
theorem m_ior {G : ma_G} {cc : ByteArray} {own : String} {nL fr mc ms lo k n : Nat} {M : ma_H} {pc : Nat} {L : List (Option Value)} {st : List Value} {x y : Int32} (C : ma_C G cc nL own fr mc ms lo) (d : decode cc pc = .ok (.ior, 1))  (kk : mj G nL k n M (pc + 1) L (.int (x ||| y) :: st)) : mj G nL k n M pc L (.int y :: .int x :: st) := by
  obtain ⟨D, s0, p, l, e, R, s, m, args, below, meth, c, Q, M0, Wr⟩ := G
  obtain ⟨hx, hb, -⟩ := C
  exact fun H locs ls h1 h2 h3 h4 => lv_ior hx hb d (kk H locs ls h1 h2 h3 h4)
theorem m_ixor {G : ma_G} {cc : ByteArray} {own : String} {nL fr mc ms lo k n : Nat} {M : ma_H} {pc : Nat} {L : List (Option Value)} {st : List Value} {x y : Int32} (C : ma_C G cc nL own fr mc ms lo) (d : decode cc pc = .ok (.ixor, 1))  (kk : mj G nL k n M (pc + 1) L (.int (x ^^^ y) :: st)) : mj G nL k n M pc L (.int y :: .int x :: st) := by
  obtain ⟨D, s0, p, l, e, R, s, m, args, below, meth, c, Q, M0, Wr⟩ := G
  obtain ⟨hx, hb, -⟩ := C
  exact fun H locs ls h1 h2 h3 h4 => lv_ixor hx hb d (kk H locs ls h1 h2 h3 h4)
theorem m_ishl {G : ma_G} {cc : ByteArray} {own : String} {nL fr mc ms lo k n : Nat} {M : ma_H} {pc : Nat} {L : List (Option Value)} {st : List Value} {x y : Int32} (C : ma_C G cc nL own fr mc ms lo) (d : decode cc pc = .ok (.ishl, 1))  (kk : mj G nL k n M (pc + 1) L (.int (x <<< (y &&& 31)) :: st)) : mj G nL k n M pc L (.int y :: .int x :: st) := by
  obtain ⟨D, s0, p, l, e, R, s, m, args, below, meth, c, Q, M0, Wr⟩ := G
  obtain ⟨hx, hb, -⟩ := C
  exact fun H locs ls h1 h2 h3 h4 => lv_ishl hx hb d (kk H locs ls h1 h2 h3 h4)
theorem m_ishr {G : ma_G} {cc : ByteArray} {own : String} {nL fr mc ms lo k n : Nat} {M : ma_H} {pc : Nat} {L : List (Option Value)} {st : List Value} {x y : Int32} (C : ma_C G cc nL own fr mc ms lo) (d : decode cc pc = .ok (.ishr, 1))  (kk : mj G nL k n M (pc + 1) L (.int (x >>> (y &&& 31)) :: st)) : mj G nL k n M pc L (.int y :: .int x :: st) := by
  obtain ⟨D, s0, p, l, e, R, s, m, args, below, meth, c, Q, M0, Wr⟩ := G
  obtain ⟨hx, hb, -⟩ := C
  exact fun H locs ls h1 h2 h3 h4 => lv_ishr hx hb d (kk H locs ls h1 h2 h3 h4)
theorem m_idiv {G : ma_G} {cc : ByteArray} {own : String} {nL fr mc ms lo k n : Nat} {M : ma_H} {pc : Nat} {L : List (Option Value)} {st : List Value} {x y : Int32} (C : ma_C G cc nL own fr mc ms lo) (d : decode cc pc = .ok (.idiv, 1)) (hne : ¬ y = 0) (kk : mj G nL k n M (pc + 1) L (.int (x / y) :: st)) : mj G nL k n M pc L (.int y :: .int x :: st) := by
  obtain ⟨D, s0, p, l, e, R, s, m, args, below, meth, c, Q, M0, Wr⟩ := G
  obtain ⟨hx, hb, -⟩ := C
  exact fun H locs ls h1 h2 h3 h4 => lv_idiv hx hb d hne (kk H locs ls h1 h2 h3 h4)
theorem m_irem {G : ma_G} {cc : ByteArray} {own : String} {nL fr mc ms lo k n : Nat} {M : ma_H} {pc : Nat} {L : List (Option Value)} {st : List Value} {x y : Int32} (C : ma_C G cc nL own fr mc ms lo) (d : decode cc pc = .ok (.irem, 1)) (hne : ¬ y = 0) (kk : mj G nL k n M (pc + 1) L (.int (x - x / y * y) :: st)) : mj G nL k n M pc L (.int y :: .int x :: st) := by
  obtain ⟨D, s0, p, l, e, R, s, m, args, below, meth, c, Q, M0, Wr⟩ := G
  obtain ⟨hx, hb, -⟩ := C
  exact fun H locs ls h1 h2 h3 h4 => lv_irem hx hb d hne (kk H locs ls h1 h2 h3 h4)
theorem m_ineg {G : ma_G} {cc : ByteArray} {own : String} {nL fr mc ms lo k n : Nat} {M : ma_H} {pc : Nat} {L : List (Option Value)} {st : List Value} {x : Int32} (C : ma_C G cc nL own fr mc ms lo) (d : decode cc pc = .ok (.ineg, 1))  (kk : mj G nL k n M (pc + 1) L (.int (-x) :: st)) : mj G nL k n M pc L (.int x :: st) := by
  obtain ⟨D, s0, p, l, e, R, s, m, args, below, meth, c, Q, M0, Wr⟩ := G
  obtain ⟨hx, hb, -⟩ := C
  exact fun H locs ls h1 h2 h3 h4 => lv_ineg hx hb d (kk H locs ls h1 h2 h3 h4)
theorem m_ladd {G : ma_G} {cc : ByteArray} {own : String} {nL fr mc ms lo k n : Nat} {M : ma_H} {pc : Nat} {L : List (Option Value)} {st : List Value} {x y : Int64} (C : ma_C G cc nL own fr mc ms lo) (d : decode cc pc = .ok (.ladd, 1))  (kk : mj G nL k n M (pc + 1) L (.long (x + y) :: st)) : mj G nL k n M pc L (.long y :: .long x :: st) := by
  obtain ⟨D, s0, p, l, e, R, s, m, args, below, meth, c, Q, M0, Wr⟩ := G
  obtain ⟨hx, hb, -⟩ := C
  exact fun H locs ls h1 h2 h3 h4 => lv_ladd hx hb d (kk H locs ls h1 h2 h3 h4)
theorem m_lsub {G : ma_G} {cc : ByteArray} {own : String} {nL fr mc ms lo k n : Nat} {M : ma_H} {pc : Nat} {L : List (Option Value)} {st : List Value} {x y : Int64} (C : ma_C G cc nL own fr mc ms lo) (d : decode cc pc = .ok (.lsub, 1))  (kk : mj G nL k n M (pc + 1) L (.long (x - y) :: st)) : mj G nL k n M pc L (.long y :: .long x :: st) := by
  obtain ⟨D, s0, p, l, e, R, s, m, args, below, meth, c, Q, M0, Wr⟩ := G
  obtain ⟨hx, hb, -⟩ := C
  exact fun H locs ls h1 h2 h3 h4 => lv_lsub hx hb d (kk H locs ls h1 h2 h3 h4)
theorem m_lmul {G : ma_G} {cc : ByteArray} {own : String} {nL fr mc ms lo k n : Nat} {M : ma_H} {pc : Nat} {L : List (Option Value)} {st : List Value} {x y : Int64} (C : ma_C G cc nL own fr mc ms lo) (d : decode cc pc = .ok (.lmul, 1))  (kk : mj G nL k n M (pc + 1) L (.long (x * y) :: st)) : mj G nL k n M pc L (.long y :: .long x :: st) := by
  obtain ⟨D, s0, p, l, e, R, s, m, args, below, meth, c, Q, M0, Wr⟩ := G
  obtain ⟨hx, hb, -⟩ := C
  exact fun H locs ls h1 h2 h3 h4 => lv_lmul hx hb d (kk H locs ls h1 h2 h3 h4)
theorem m_land {G : ma_G} {cc : ByteArray} {own : String} {nL fr mc ms lo k n : Nat} {M : ma_H} {pc : Nat} {L : List (Option Value)} {st : List Value} {x y : Int64} (C : ma_C G cc nL own fr mc ms lo) (d : decode cc pc = .ok (.land, 1))  (kk : mj G nL k n M (pc + 1) L (.long (x &&& y) :: st)) : mj G nL k n M pc L (.long y :: .long x :: st) := by
  obtain ⟨D, s0, p, l, e, R, s, m, args, below, meth, c, Q, M0, Wr⟩ := G
  obtain ⟨hx, hb, -⟩ := C
  exact fun H locs ls h1 h2 h3 h4 => lv_land hx hb d (kk H locs ls h1 h2 h3 h4)
theorem m_lor {G : ma_G} {cc : ByteArray} {own : String} {nL fr mc ms lo k n : Nat} {M : ma_H} {pc : Nat} {L : List (Option Value)} {st : List Value} {x y : Int64} (C : ma_C G cc nL own fr mc ms lo) (d : decode cc pc = .ok (.lor, 1))  (kk : mj G nL k n M (pc + 1) L (.long (x ||| y) :: st)) : mj G nL k n M pc L (.long y :: .long x :: st) := by
  obtain ⟨D, s0, p, l, e, R, s, m, args, below, meth, c, Q, M0, Wr⟩ := G
  obtain ⟨hx, hb, -⟩ := C
  exact fun H locs ls h1 h2 h3 h4 => lv_lor hx hb d (kk H locs ls h1 h2 h3 h4)
theorem m_lxor {G : ma_G} {cc : ByteArray} {own : String} {nL fr mc ms lo k n : Nat} {M : ma_H} {pc : Nat} {L : List (Option Value)} {st : List Value} {x y : Int64} (C : ma_C G cc nL own fr mc ms lo) (d : decode cc pc = .ok (.lxor, 1))  (kk : mj G nL k n M (pc + 1) L (.long (x ^^^ y) :: st)) : mj G nL k n M pc L (.long y :: .long x :: st) := by
  obtain ⟨D, s0, p, l, e, R, s, m, args, below, meth, c, Q, M0, Wr⟩ := G
  obtain ⟨hx, hb, -⟩ := C
  exact fun H locs ls h1 h2 h3 h4 => lv_lxor hx hb d (kk H locs ls h1 h2 h3 h4)
theorem m_ldiv {G : ma_G} {cc : ByteArray} {own : String} {nL fr mc ms lo k n : Nat} {M : ma_H} {pc : Nat} {L : List (Option Value)} {st : List Value} {x y : Int64} (C : ma_C G cc nL own fr mc ms lo) (d : decode cc pc = .ok (.ldiv, 1)) (hne : ¬ y = 0) (kk : mj G nL k n M (pc + 1) L (.long (x / y) :: st)) : mj G nL k n M pc L (.long y :: .long x :: st) := by
  obtain ⟨D, s0, p, l, e, R, s, m, args, below, meth, c, Q, M0, Wr⟩ := G
  obtain ⟨hx, hb, -⟩ := C
  exact fun H locs ls h1 h2 h3 h4 => lv_ldiv hx hb d hne (kk H locs ls h1 h2 h3 h4)
theorem m_lrem {G : ma_G} {cc : ByteArray} {own : String} {nL fr mc ms lo k n : Nat} {M : ma_H} {pc : Nat} {L : List (Option Value)} {st : List Value} {x y : Int64} (C : ma_C G cc nL own fr mc ms lo) (d : decode cc pc = .ok (.lrem, 1)) (hne : ¬ y = 0) (kk : mj G nL k n M (pc + 1) L (.long (x - x / y * y) :: st)) : mj G nL k n M pc L (.long y :: .long x :: st) := by
  obtain ⟨D, s0, p, l, e, R, s, m, args, below, meth, c, Q, M0, Wr⟩ := G
  obtain ⟨hx, hb, -⟩ := C
  exact fun H locs ls h1 h2 h3 h4 => lv_lrem hx hb d hne (kk H locs ls h1 h2 h3 h4)
theorem m_lneg {G : ma_G} {cc : ByteArray} {own : String} {nL fr mc ms lo k n : Nat} {M : ma_H} {pc : Nat} {L : List (Option Value)} {st : List Value} {x : Int64} (C : ma_C G cc nL own fr mc ms lo) (d : decode cc pc = .ok (.lneg, 1))  (kk : mj G nL k n M (pc + 1) L (.long (-x) :: st)) : mj G nL k n M pc L (.long x :: st) := by
  obtain ⟨D, s0, p, l, e, R, s, m, args, below, meth, c, Q, M0, Wr⟩ := G
  obtain ⟨hx, hb, -⟩ := C
  exact fun H locs ls h1 h2 h3 h4 => lv_lneg hx hb d (kk H locs ls h1 h2 h3 h4)
theorem m_i2l {G : ma_G} {cc : ByteArray} {own : String} {nL fr mc ms lo k n : Nat} {M : ma_H} {pc : Nat} {L : List (Option Value)} {st : List Value} {x : Int32} (C : ma_C G cc nL own fr mc ms lo) (d : decode cc pc = .ok (.i2l, 1))  (kk : mj G nL k n M (pc + 1) L (.long x.toInt64 :: st)) : mj G nL k n M pc L (.int x :: st) := by
  obtain ⟨D, s0, p, l, e, R, s, m, args, below, meth, c, Q, M0, Wr⟩ := G
  obtain ⟨hx, hb, -⟩ := C
  exact fun H locs ls h1 h2 h3 h4 => lv_i2l hx hb d rfl (kk H locs ls h1 h2 h3 h4)
theorem m_l2i {G : ma_G} {cc : ByteArray} {own : String} {nL fr mc ms lo k n : Nat} {M : ma_H} {pc : Nat} {L : List (Option Value)} {st : List Value} {x : Int64} (C : ma_C G cc nL own fr mc ms lo) (d : decode cc pc = .ok (.l2i, 1))  (kk : mj G nL k n M (pc + 1) L (.int x.toInt32 :: st)) : mj G nL k n M pc L (.long x :: st) := by
  obtain ⟨D, s0, p, l, e, R, s, m, args, below, meth, c, Q, M0, Wr⟩ := G
  obtain ⟨hx, hb, -⟩ := C
  exact fun H locs ls h1 h2 h3 h4 => lv_l2i hx hb d rfl (kk H locs ls h1 h2 h3 h4)
theorem m_i2c {G : ma_G} {cc : ByteArray} {own : String} {nL fr mc ms lo k n : Nat} {M : ma_H} {pc : Nat} {L : List (Option Value)} {st : List Value} {x : Int32} (C : ma_C G cc nL own fr mc ms lo) (d : decode cc pc = .ok (.i2c, 1))  (kk : mj G nL k n M (pc + 1) L (.int (x.toUInt32 % 65536).toInt32 :: st)) : mj G nL k n M pc L (.int x :: st) := by
  obtain ⟨D, s0, p, l, e, R, s, m, args, below, meth, c, Q, M0, Wr⟩ := G
  obtain ⟨hx, hb, -⟩ := C
  exact fun H locs ls h1 h2 h3 h4 => lv_i2c hx hb d rfl (kk H locs ls h1 h2 h3 h4)
theorem m_i2b {G : ma_G} {cc : ByteArray} {own : String} {nL fr mc ms lo k n : Nat} {M : ma_H} {pc : Nat} {L : List (Option Value)} {st : List Value} {x : Int32} (C : ma_C G cc nL own fr mc ms lo) (d : decode cc pc = .ok (.i2b, 1))  (kk : mj G nL k n M (pc + 1) L (.int x.toInt8.toInt32 :: st)) : mj G nL k n M pc L (.int x :: st) := by
  obtain ⟨D, s0, p, l, e, R, s, m, args, below, meth, c, Q, M0, Wr⟩ := G
  obtain ⟨hx, hb, -⟩ := C
  exact fun H locs ls h1 h2 h3 h4 => lv_i2b hx hb d rfl (kk H locs ls h1 h2 h3 h4)
theorem m_iushr {G : ma_G} {cc : ByteArray} {own : String} {nL fr mc ms lo k n : Nat} {M : ma_H} {pc : Nat} {L : List (Option Value)} {st : List Value} {x y : Int32} (C : ma_C G cc nL own fr mc ms lo) (d : decode cc pc = .ok (.iushr, 1))  (kk : mj G nL k n M (pc + 1) L (.int (x.toUInt32 >>> (y.toUInt32 &&& Int32.toUInt32 31)).toInt32 :: st)) : mj G nL k n M pc L (.int y :: .int x :: st) := by
  obtain ⟨D, s0, p, l, e, R, s, m, args, below, meth, c, Q, M0, Wr⟩ := G
  obtain ⟨hx, hb, -⟩ := C
  exact fun H locs ls h1 h2 h3 h4 => lv_iushr hx hb d rfl (kk H locs ls h1 h2 h3 h4)
theorem m_lushr {G : ma_G} {cc : ByteArray} {own : String} {nL fr mc ms lo k n : Nat} {M : ma_H} {pc : Nat} {L : List (Option Value)} {st : List Value} {x : Int64} {y : Int32} (C : ma_C G cc nL own fr mc ms lo) (d : decode cc pc = .ok (.lushr, 1))  (kk : mj G nL k n M (pc + 1) L (.long (x.toUInt64 >>> (y.toInt64.toUInt64 &&& Int64.toUInt64 63)).toInt64 :: st)) : mj G nL k n M pc L (.int y :: .long x :: st) := by
  obtain ⟨D, s0, p, l, e, R, s, m, args, below, meth, c, Q, M0, Wr⟩ := G
  obtain ⟨hx, hb, -⟩ := C
  exact fun H locs ls h1 h2 h3 h4 => lv_lushr hx hb d rfl (kk H locs ls h1 h2 h3 h4)
theorem m_lshl {G : ma_G} {cc : ByteArray} {own : String} {nL fr mc ms lo k n : Nat} {M : ma_H} {pc : Nat} {L : List (Option Value)} {st : List Value} {x : Int64} {y : Int32} (C : ma_C G cc nL own fr mc ms lo) (d : decode cc pc = .ok (.lshl, 1))  (kk : mj G nL k n M (pc + 1) L (.long (x <<< (y.toInt64 &&& 63)) :: st)) : mj G nL k n M pc L (.int y :: .long x :: st) := by
  obtain ⟨D, s0, p, l, e, R, s, m, args, below, meth, c, Q, M0, Wr⟩ := G
  obtain ⟨hx, hb, -⟩ := C
  exact fun H locs ls h1 h2 h3 h4 => lv_lshl hx hb d rfl (kk H locs ls h1 h2 h3 h4)
theorem m_lshr {G : ma_G} {cc : ByteArray} {own : String} {nL fr mc ms lo k n : Nat} {M : ma_H} {pc : Nat} {L : List (Option Value)} {st : List Value} {x : Int64} {y : Int32} (C : ma_C G cc nL own fr mc ms lo) (d : decode cc pc = .ok (.lshr, 1))  (kk : mj G nL k n M (pc + 1) L (.long (x >>> (y.toInt64 &&& 63)) :: st)) : mj G nL k n M pc L (.int y :: .long x :: st) := by
  obtain ⟨D, s0, p, l, e, R, s, m, args, below, meth, c, Q, M0, Wr⟩ := G
  obtain ⟨hx, hb, -⟩ := C
  exact fun H locs ls h1 h2 h3 h4 => lv_lshr hx hb d rfl (kk H locs ls h1 h2 h3 h4)
theorem m_dup {G : ma_G} {cc : ByteArray} {own : String} {nL fr mc ms lo k n : Nat} {M : ma_H} {pc : Nat} {L : List (Option Value)} {st : List Value} {v : Value} (C : ma_C G cc nL own fr mc ms lo) (d : decode cc pc = .ok (.dup, 1)) (hv : v.category = 1) (kk : mj G nL k n M (pc + 1) L (v :: v :: st)) : mj G nL k n M pc L (v :: st) := by
  obtain ⟨D, s0, p, l, e, R, s, m, args, below, meth, c, Q, M0, Wr⟩ := G
  obtain ⟨hx, hb, -⟩ := C
  exact fun H locs ls h1 h2 h3 h4 => lv_dup hx hb d hv (kk H locs ls h1 h2 h3 h4)
theorem m_pop {G : ma_G} {cc : ByteArray} {own : String} {nL fr mc ms lo k n : Nat} {M : ma_H} {pc : Nat} {L : List (Option Value)} {st : List Value} {v : Value} (C : ma_C G cc nL own fr mc ms lo) (d : decode cc pc = .ok (.pop, 1)) (hv : v.category = 1) (kk : mj G nL k n M (pc + 1) L (st)) : mj G nL k n M pc L (v :: st) := by
  obtain ⟨D, s0, p, l, e, R, s, m, args, below, meth, c, Q, M0, Wr⟩ := G
  obtain ⟨hx, hb, -⟩ := C
  exact fun H locs ls h1 h2 h3 h4 => lv_pop hx hb d hv (kk H locs ls h1 h2 h3 h4)
theorem m_dup_x1 {G : ma_G} {cc : ByteArray} {own : String} {nL fr mc ms lo k n : Nat} {M : ma_H} {pc : Nat} {L : List (Option Value)} {st : List Value} {v w : Value} (C : ma_C G cc nL own fr mc ms lo) (d : decode cc pc = .ok (.dup_x1, 1)) (hv : v.category = 1) (hw : w.category = 1) (kk : mj G nL k n M (pc + 1) L (v :: w :: v :: st)) : mj G nL k n M pc L (v :: w :: st) := by
  obtain ⟨D, s0, p, l, e, R, s, m, args, below, meth, c, Q, M0, Wr⟩ := G
  obtain ⟨hx, hb, -⟩ := C
  exact fun H locs ls h1 h2 h3 h4 => lv_dup_x1 hx hb d hv hw (kk H locs ls h1 h2 h3 h4)
theorem m_dup_x2 {G : ma_G} {cc : ByteArray} {own : String} {nL fr mc ms lo k n : Nat} {M : ma_H} {pc : Nat} {L : List (Option Value)} {st : List Value} {v w u : Value} (C : ma_C G cc nL own fr mc ms lo) (d : decode cc pc = .ok (.dup_x2, 1)) (hv : v.category = 1) (hw : w.category = 1) (hu : u.category = 1) (kk : mj G nL k n M (pc + 1) L (v :: w :: u :: v :: st)) : mj G nL k n M pc L (v :: w :: u :: st) := by
  obtain ⟨D, s0, p, l, e, R, s, m, args, below, meth, c, Q, M0, Wr⟩ := G
  obtain ⟨hx, hb, -⟩ := C
  exact fun H locs ls h1 h2 h3 h4 => lv_dup_x2 hx hb d hv hw hu (kk H locs ls h1 h2 h3 h4)
theorem m_dup2 {G : ma_G} {cc : ByteArray} {own : String} {nL fr mc ms lo k n : Nat} {M : ma_H} {pc : Nat} {L : List (Option Value)} {st : List Value} {v w : Value} (C : ma_C G cc nL own fr mc ms lo) (d : decode cc pc = .ok (.dup2, 1)) (hv : v.category = 1) (hw : w.category = 1) (kk : mj G nL k n M (pc + 1) L (v :: w :: v :: w :: st)) : mj G nL k n M pc L (v :: w :: st) := by
  obtain ⟨D, s0, p, l, e, R, s, m, args, below, meth, c, Q, M0, Wr⟩ := G
  obtain ⟨hx, hb, -⟩ := C
  exact fun H locs ls h1 h2 h3 h4 => lv_dup2_11 hx hb d hv hw (kk H locs ls h1 h2 h3 h4)
theorem m_if_eq {G : ma_G} {cc : ByteArray} {own : String} {nL fr mc ms lo k n : Nat} {M : ma_H} {pc : Nat} {L : List (Option Value)} {st : List Value} {x : Int32} {off : Int} {tgt : Nat} (C : ma_C G cc nL own fr mc ms lo) (d : decode cc pc = .ok (.ifCond .eq off, 3)) (ht : (pc : Int) + off = (tgt : Int)) (kt : x = 0 → mj G nL k n M tgt L st) (kf : ¬ x = 0 → mj G nL k n M (pc + 3) L st) : mj G nL k n M pc L (.int x :: st) := by
  obtain ⟨D, s0, p, l, e, R, s, m, args, below, meth, c, Q, M0, Wr⟩ := G
  obtain ⟨hx, hb, -⟩ := C
  exact fun H locs ls h1 h2 h3 h4 => lv_if_eq hx hb d ht (fun z => kt z H locs ls h1 h2 h3 h4) (fun z => kf z H locs ls h1 h2 h3 h4)
theorem m_icmp_eq {G : ma_G} {cc : ByteArray} {own : String} {nL fr mc ms lo k n : Nat} {M : ma_H} {pc : Nat} {L : List (Option Value)} {st : List Value} {x y : Int32} {off : Int} {tgt : Nat} (C : ma_C G cc nL own fr mc ms lo) (d : decode cc pc = .ok (.if_icmp .eq off, 3)) (ht : (pc : Int) + off = (tgt : Int)) (kt : x = y → mj G nL k n M tgt L st) (kf : ¬ x = y → mj G nL k n M (pc + 3) L st) : mj G nL k n M pc L (.int y :: .int x :: st) := by
  obtain ⟨D, s0, p, l, e, R, s, m, args, below, meth, c, Q, M0, Wr⟩ := G
  obtain ⟨hx, hb, -⟩ := C
  exact fun H locs ls h1 h2 h3 h4 => lv_icmp_eq hx hb d ht (fun z => kt z H locs ls h1 h2 h3 h4) (fun z => kf z H locs ls h1 h2 h3 h4)
theorem m_if_ne {G : ma_G} {cc : ByteArray} {own : String} {nL fr mc ms lo k n : Nat} {M : ma_H} {pc : Nat} {L : List (Option Value)} {st : List Value} {x : Int32} {off : Int} {tgt : Nat} (C : ma_C G cc nL own fr mc ms lo) (d : decode cc pc = .ok (.ifCond .ne off, 3)) (ht : (pc : Int) + off = (tgt : Int)) (kt : ¬ x = 0 → mj G nL k n M tgt L st) (kf : x = 0 → mj G nL k n M (pc + 3) L st) : mj G nL k n M pc L (.int x :: st) := by
  obtain ⟨D, s0, p, l, e, R, s, m, args, below, meth, c, Q, M0, Wr⟩ := G
  obtain ⟨hx, hb, -⟩ := C
  exact fun H locs ls h1 h2 h3 h4 => lv_if_ne hx hb d ht (fun z => kt z H locs ls h1 h2 h3 h4) (fun z => kf z H locs ls h1 h2 h3 h4)
theorem m_icmp_ne {G : ma_G} {cc : ByteArray} {own : String} {nL fr mc ms lo k n : Nat} {M : ma_H} {pc : Nat} {L : List (Option Value)} {st : List Value} {x y : Int32} {off : Int} {tgt : Nat} (C : ma_C G cc nL own fr mc ms lo) (d : decode cc pc = .ok (.if_icmp .ne off, 3)) (ht : (pc : Int) + off = (tgt : Int)) (kt : ¬ x = y → mj G nL k n M tgt L st) (kf : x = y → mj G nL k n M (pc + 3) L st) : mj G nL k n M pc L (.int y :: .int x :: st) := by
  obtain ⟨D, s0, p, l, e, R, s, m, args, below, meth, c, Q, M0, Wr⟩ := G
  obtain ⟨hx, hb, -⟩ := C
  exact fun H locs ls h1 h2 h3 h4 => lv_icmp_ne hx hb d ht (fun z => kt z H locs ls h1 h2 h3 h4) (fun z => kf z H locs ls h1 h2 h3 h4)
theorem m_if_lt {G : ma_G} {cc : ByteArray} {own : String} {nL fr mc ms lo k n : Nat} {M : ma_H} {pc : Nat} {L : List (Option Value)} {st : List Value} {x : Int32} {off : Int} {tgt : Nat} (C : ma_C G cc nL own fr mc ms lo) (d : decode cc pc = .ok (.ifCond .lt off, 3)) (ht : (pc : Int) + off = (tgt : Int)) (kt : x < 0 → mj G nL k n M tgt L st) (kf : ¬ x < 0 → mj G nL k n M (pc + 3) L st) : mj G nL k n M pc L (.int x :: st) := by
  obtain ⟨D, s0, p, l, e, R, s, m, args, below, meth, c, Q, M0, Wr⟩ := G
  obtain ⟨hx, hb, -⟩ := C
  exact fun H locs ls h1 h2 h3 h4 => lv_if_lt hx hb d ht (fun z => kt z H locs ls h1 h2 h3 h4) (fun z => kf z H locs ls h1 h2 h3 h4)
theorem m_icmp_lt {G : ma_G} {cc : ByteArray} {own : String} {nL fr mc ms lo k n : Nat} {M : ma_H} {pc : Nat} {L : List (Option Value)} {st : List Value} {x y : Int32} {off : Int} {tgt : Nat} (C : ma_C G cc nL own fr mc ms lo) (d : decode cc pc = .ok (.if_icmp .lt off, 3)) (ht : (pc : Int) + off = (tgt : Int)) (kt : x < y → mj G nL k n M tgt L st) (kf : ¬ x < y → mj G nL k n M (pc + 3) L st) : mj G nL k n M pc L (.int y :: .int x :: st) := by
  obtain ⟨D, s0, p, l, e, R, s, m, args, below, meth, c, Q, M0, Wr⟩ := G
  obtain ⟨hx, hb, -⟩ := C
  exact fun H locs ls h1 h2 h3 h4 => lv_icmp_lt hx hb d ht (fun z => kt z H locs ls h1 h2 h3 h4) (fun z => kf z H locs ls h1 h2 h3 h4)
theorem m_if_ge {G : ma_G} {cc : ByteArray} {own : String} {nL fr mc ms lo k n : Nat} {M : ma_H} {pc : Nat} {L : List (Option Value)} {st : List Value} {x : Int32} {off : Int} {tgt : Nat} (C : ma_C G cc nL own fr mc ms lo) (d : decode cc pc = .ok (.ifCond .ge off, 3)) (ht : (pc : Int) + off = (tgt : Int)) (kt : 0 ≤ x → mj G nL k n M tgt L st) (kf : ¬ 0 ≤ x → mj G nL k n M (pc + 3) L st) : mj G nL k n M pc L (.int x :: st) := by
  obtain ⟨D, s0, p, l, e, R, s, m, args, below, meth, c, Q, M0, Wr⟩ := G
  obtain ⟨hx, hb, -⟩ := C
  exact fun H locs ls h1 h2 h3 h4 => lv_if_ge hx hb d ht (fun z => kt z H locs ls h1 h2 h3 h4) (fun z => kf z H locs ls h1 h2 h3 h4)
theorem m_icmp_ge {G : ma_G} {cc : ByteArray} {own : String} {nL fr mc ms lo k n : Nat} {M : ma_H} {pc : Nat} {L : List (Option Value)} {st : List Value} {x y : Int32} {off : Int} {tgt : Nat} (C : ma_C G cc nL own fr mc ms lo) (d : decode cc pc = .ok (.if_icmp .ge off, 3)) (ht : (pc : Int) + off = (tgt : Int)) (kt : y ≤ x → mj G nL k n M tgt L st) (kf : ¬ y ≤ x → mj G nL k n M (pc + 3) L st) : mj G nL k n M pc L (.int y :: .int x :: st) := by
  obtain ⟨D, s0, p, l, e, R, s, m, args, below, meth, c, Q, M0, Wr⟩ := G
  obtain ⟨hx, hb, -⟩ := C
  exact fun H locs ls h1 h2 h3 h4 => lv_icmp_ge hx hb d ht (fun z => kt z H locs ls h1 h2 h3 h4) (fun z => kf z H locs ls h1 h2 h3 h4)
theorem m_if_gt {G : ma_G} {cc : ByteArray} {own : String} {nL fr mc ms lo k n : Nat} {M : ma_H} {pc : Nat} {L : List (Option Value)} {st : List Value} {x : Int32} {off : Int} {tgt : Nat} (C : ma_C G cc nL own fr mc ms lo) (d : decode cc pc = .ok (.ifCond .gt off, 3)) (ht : (pc : Int) + off = (tgt : Int)) (kt : 0 < x → mj G nL k n M tgt L st) (kf : ¬ 0 < x → mj G nL k n M (pc + 3) L st) : mj G nL k n M pc L (.int x :: st) := by
  obtain ⟨D, s0, p, l, e, R, s, m, args, below, meth, c, Q, M0, Wr⟩ := G
  obtain ⟨hx, hb, -⟩ := C
  exact fun H locs ls h1 h2 h3 h4 => lv_if_gt hx hb d ht (fun z => kt z H locs ls h1 h2 h3 h4) (fun z => kf z H locs ls h1 h2 h3 h4)
theorem m_icmp_gt {G : ma_G} {cc : ByteArray} {own : String} {nL fr mc ms lo k n : Nat} {M : ma_H} {pc : Nat} {L : List (Option Value)} {st : List Value} {x y : Int32} {off : Int} {tgt : Nat} (C : ma_C G cc nL own fr mc ms lo) (d : decode cc pc = .ok (.if_icmp .gt off, 3)) (ht : (pc : Int) + off = (tgt : Int)) (kt : y < x → mj G nL k n M tgt L st) (kf : ¬ y < x → mj G nL k n M (pc + 3) L st) : mj G nL k n M pc L (.int y :: .int x :: st) := by
  obtain ⟨D, s0, p, l, e, R, s, m, args, below, meth, c, Q, M0, Wr⟩ := G
  obtain ⟨hx, hb, -⟩ := C
  exact fun H locs ls h1 h2 h3 h4 => lv_icmp_gt hx hb d ht (fun z => kt z H locs ls h1 h2 h3 h4) (fun z => kf z H locs ls h1 h2 h3 h4)
theorem m_if_le {G : ma_G} {cc : ByteArray} {own : String} {nL fr mc ms lo k n : Nat} {M : ma_H} {pc : Nat} {L : List (Option Value)} {st : List Value} {x : Int32} {off : Int} {tgt : Nat} (C : ma_C G cc nL own fr mc ms lo) (d : decode cc pc = .ok (.ifCond .le off, 3)) (ht : (pc : Int) + off = (tgt : Int)) (kt : x ≤ 0 → mj G nL k n M tgt L st) (kf : ¬ x ≤ 0 → mj G nL k n M (pc + 3) L st) : mj G nL k n M pc L (.int x :: st) := by
  obtain ⟨D, s0, p, l, e, R, s, m, args, below, meth, c, Q, M0, Wr⟩ := G
  obtain ⟨hx, hb, -⟩ := C
  exact fun H locs ls h1 h2 h3 h4 => lv_if_le hx hb d ht (fun z => kt z H locs ls h1 h2 h3 h4) (fun z => kf z H locs ls h1 h2 h3 h4)
theorem m_icmp_le {G : ma_G} {cc : ByteArray} {own : String} {nL fr mc ms lo k n : Nat} {M : ma_H} {pc : Nat} {L : List (Option Value)} {st : List Value} {x y : Int32} {off : Int} {tgt : Nat} (C : ma_C G cc nL own fr mc ms lo) (d : decode cc pc = .ok (.if_icmp .le off, 3)) (ht : (pc : Int) + off = (tgt : Int)) (kt : x ≤ y → mj G nL k n M tgt L st) (kf : ¬ x ≤ y → mj G nL k n M (pc + 3) L st) : mj G nL k n M pc L (.int y :: .int x :: st) := by
  obtain ⟨D, s0, p, l, e, R, s, m, args, below, meth, c, Q, M0, Wr⟩ := G
  obtain ⟨hx, hb, -⟩ := C
  exact fun H locs ls h1 h2 h3 h4 => lv_icmp_le hx hb d ht (fun z => kt z H locs ls h1 h2 h3 h4) (fun z => kf z H locs ls h1 h2 h3 h4)
theorem m_goto {G : ma_G} {cc : ByteArray} {own : String} {nL fr mc ms lo k n : Nat} {M : ma_H} {pc : Nat} {L : List (Option Value)} {st : List Value} {off : Int} {tgt : Nat} (C : ma_C G cc nL own fr mc ms lo) (d : decode cc pc = .ok (.goto off, 3)) (ht : (pc : Int) + off = (tgt : Int)) (kk : mj G nL k n M tgt L st) : mj G nL k n M pc L st := by
  obtain ⟨D, s0, p, l, e, R, s, m, args, below, meth, c, Q, M0, Wr⟩ := G
  obtain ⟨hx, hb, -⟩ := C
  exact fun H locs ls h1 h2 h3 h4 => lv_goto hx hb d ht (kk H locs ls h1 h2 h3 h4)
theorem m_ldc {G : ma_G} {cc : ByteArray} {own : String} {nL fr mc ms lo k n : Nat} {M : ma_H} {pc : Nat} {L : List (Option Value)} {st : List Value} {index : Nat} {v : Int32} (C : ma_C G cc nL own fr mc ms lo) (d : decode cc pc = .ok (.ldc index, 2)) (hw : Cond.constant own index v ∈ lw_tbl) (kk : mj G nL k n M (pc + 2) L (.int v :: st)) : mj G nL k n M pc L st := by
  obtain ⟨D, s0, p, l, e, R, s, m, args, below, meth, c, Q, M0, Wr⟩ := G
  obtain ⟨hx, hb, hml, hown, hlk, hR, hB, hK, -⟩ := C
  exact fun H locs ls h1 h2 h3 h4 => lv_ldc hx hb hown (ma_word hK hB hw rfl rfl _) d (kk H locs ls h1 h2 h3 h4)
theorem m_ldc2 {G : ma_G} {cc : ByteArray} {own : String} {nL fr mc ms lo k n : Nat} {M : ma_H} {pc : Nat} {L : List (Option Value)} {st : List Value} {index : Nat} {v : Int64} (C : ma_C G cc nL own fr mc ms lo) (d : decode cc pc = .ok (.ldc2_w index, 3)) (hw : Cond.constantLong own index v ∈ lw_tbl) (kk : mj G nL k n M (pc + 3) L (.long v :: st)) : mj G nL k n M pc L st := by
  obtain ⟨D, s0, p, l, e, R, s, m, args, below, meth, c, Q, M0, Wr⟩ := G
  obtain ⟨hx, hb, hml, hown, hlk, hR, hB, hK, -⟩ := C
  exact fun H locs ls h1 h2 h3 h4 => lv_ldc2 hx hb hown (ma_word hK hB hw rfl rfl _) d (kk H locs ls h1 h2 h3 h4)
