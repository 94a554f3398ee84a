/-! ===== contracts: any heap that holds these cells; the whole of it goes in, the whole of it comes out ===== -/
def ma_Pc (D : ma_D) (s0 : State) (av : List Value) (M : ma_H) (sz : Nat) : Array Value → State → Prop := fun v U => v = av.toArray ∧ U.heap.size = sz ∧ ma_P D M U.heap ∧ ma_B s0 U
def ma_Qc (D : ma_D) (M : ma_H) (Wr : Nat → Prop) (sz : Nat) (post : Option Value → ma_H → Prop) : Array Value → State → Outcome → State → Prop := fun _ st oc t => ∃ (r : Option Value) (M' : ma_H), oc = .returned r ∧ post r M' ∧ ma_P D M' t.heap ∧ ma_V M Wr sz M' ∧ va_F (ma_A0 Wr sz) st t
/-- y, called with av where the heap holds M: returns, with 'post' of its answer and of what the heap holds then; of the old cells it writes those of Wr alone -/
def Ct (l : Launch) (D : ma_D) (s0 : State) (y : MethodName) (cc : ByteArray) (nL : Nat) (ret : Option FieldType) (fr mc ms lo : Nat) (av : List Value) (M : ma_H) (Wr : Nat → Prop) (post : Option Value → ma_H → Prop) : Prop :=
  ma_K D s0 l → (∀ q : Nat, Wr q → s0.heap.size ≤ q) → ∀ sz : Nat, s0.heap.size ≤ sz → Met l y [Cond.code y cc nL ret] { frames := fr, cells := mc, slots := ms, locals := lo } (ma_Pc D s0 av M sz) (ma_Qc D M Wr sz post) mc ms (ma_A0 Wr sz)
theorem ma_blind {D : ma_D} {s0 : State} {av : List Value} {M : ma_H} {sz : Nat} : FrameBlind (ma_Pc D s0 av M sz) := fun _ _ _ _ h => h
theorem ma_Bcall {s0 s U : State} {Wr : Nat → Prop} {H : Heap} {locs : List Loc} (hB : ma_B s0 s) (hA1 : ∀ q : Nat, Wr q → s0.heap.size ≤ q) (h3 : va_S (ma_A0 Wr s.heap.size) s.heap H locs) (hU : U.heap = H) (hW : s.WarmedH U.vm) : ma_B s0 U := by
  refine ⟨State.WarmedH.trans hB.1 hW, by rw [hU]; exact Nat.le_trans hB.2.1 h3.1, fun q hq => ?_⟩
  have h5 := hB.2.1
  rw [hU, h3.2.1 q (Nat.lt_of_lt_of_le hq hB.2.1) (fun z => z.elim (fun z => absurd (hA1 q z) (by omega)) (fun z => by omega))]
  exact hB.2.2 q hq
theorem ma_V.call {M0 M M' : ma_H} {Wr Wr' : Nat → Prop} {sz sz' : Nat} (h : ma_V M0 Wr sz M) (h' : ma_V M Wr' sz' M') (h0 : ∀ q : Nat, M0 q ≠ none → q < sz) (hW : ∀ q : Nat, Wr' q → Wr q ∨ sz ≤ q) (hz : sz ≤ sz') : ma_V M0 Wr sz M' := by
  refine ⟨fun q h1 h2 => ?_, fun q h1 h2 => ?_⟩
  · have e1 := h.1 q h1 h2
    rw [h'.1 q (by rw [e1]; exact h1) (fun z => (hW q z).elim h2 (fun y => by have := h0 q h1; omega))]
    exact e1
  · by_cases hq : M q = none
    · exact Nat.le_trans hz (h'.2 q hq h2)
    · exact h.2 q h1 hq
/-- the words of a call -/
def ma_w (own : String) (index : Nat) (y : MethodName) (bytes : ByteArray) (maxL : Nat) (ret : Option FieldType) (nA : Nat) : Prop := (Cond.methodLink own index y ∈ lw_tbl ∨ ∃ host : String, Cond.methodLinkNest own index y host ∈ lw_tbl) ∧ Cond.initialized y.cls ∈ lw_tbl ∧ Cond.code y bytes maxL ret ∈ lw_tbl ∧ (y.cls ≠ "java/lang/invoke/MethodHandle" ∧ y.cls ≠ "java/lang/invoke/VarHandle") ∧ (parseMethodDescriptor y.desc).map (fun d => d.parameters.length) = some nA
theorem ma_nA {y : MethodName} {nA : Nat} (h : (parseMethodDescriptor y.desc).map (fun d => d.parameters.length) = some nA) : ∀ sig, parseMethodDescriptor y.desc = some sig → nA = sig.parameters.length := by
  intro sig q
  rw [q] at h
  exact (Option.some.inj h).symm
theorem ma_ws {s : State} {args : Array Value} {y : MethodName} {bytes : ByteArray} {maxL : Nat} {ret : Option FieldType} (h : (Cond.code y bytes maxL ret).before args s = true) : ∀ w ∈ [Cond.code y bytes maxL ret], ∀ (a' : Array Value) (U : State), s.WarmedH U.vm → w.before a' U = true := by
  intro w hw a' U hW
  rw [List.mem_singleton] at hw
  subst hw
  exact word_at hW (Or.inl rfl) h
section
variable {G : ma_G} {cc : ByteArray} {own : String} {nL fr mc ms lo k n : Nat} {M : ma_H} {pc : Nat} {L : List (Option Value)} {st : List Value}
theorem ma_cont {D : ma_D} {s0 : State} {p : Program} {l : Launch} {e : Env} {R : Room} {s : State} {m : MethodId} {args : Array Value} {below : List Frame} {meth : Method} {c : Code} {Q : State → Prop} {M0 : ma_H} {Wr Wr' : Nat → Prop} {H : Heap} {locs : List Loc} {ls : Array Slot} {mc' ms' : Nat} {st0 rest : List Value} {a : Array Value} {post : Option Value → ma_H → Prop}
    (h0 : ∀ q : Nat, M0 q ≠ none → q < s.heap.size) (hW : ∀ q : Nat, Wr' q → Wr q ∨ s.heap.size ≤ q) (h2 : ma_V M0 Wr s.heap.size M) (h3 : va_S (ma_A0 Wr s.heap.size) s.heap H locs) (h4 : ma_L nL L ls)
    (hr : va_Run p l e R s m args below meth c H locs k n mc' ms' (F0 m pc ls st0) rest (ma_Qc D M Wr' H.size post a) (ma_A0 Wr' H.size))
    (kk : ∀ (r : Option Value) (M' : ma_H), post r M' → (∀ q : Nat, M q ≠ none → ¬ Wr' q → M' q = M q) → (∀ q : Nat, M q = none → M' q ≠ none → Wr q ∨ s.heap.size ≤ q) → mj (D, s0, p, l, e, R, s, m, args, below, meth, c, Q, M0, Wr) nL (k + mc') (n + ms') M' (pc + 3) L (r.toList ++ rest)) : W p l e R s m args below meth c H locs k n Q (F0 m pc ls st0) := by
  have hA : ∀ q : Nat, ma_A0 Wr' H.size q → ma_A0 Wr s.heap.size q := fun q h => h.elim (hW q) (fun z => Or.inr (Nat.le_trans h3.1 z))
  intro T hT X
  obtain ⟨v, st₀, t, T', L', e0, X', hL, e1, e2, ⟨r, M', hv, hp, hP', hd', hz, hkp⟩, stp⟩ := hr T hT X
  cases hv
  rw [e0] at hz hkp
  obtain ⟨t2, a1, b1⟩ := kk _ M' hp hd'.1 (fun q z1 z2 => Or.inr (Nat.le_trans h3.1 (hd'.2 q z1 z2))) T'.heap (locs ++ L') ls (by rw [e1]; exact hP') (h2.call hd' h0 hW h3.1)
    ⟨Nat.le_trans h3.1 (by rw [e1]; exact hz), fun q g1 g2 => by rw [e1, hkp q (Nat.lt_of_lt_of_le g1 h3.1) (fun z => g2 (hA q z))]; exact h3.2.1 q g1 g2, fun q hq => by
      rcases List.mem_append.mp hq with h | h
      · exact h3.2.2 q h
      · exact hA _ (hL q h)⟩ h4 T' rfl X'
  exact ⟨t2, stp t2 a1, b1⟩
theorem m_callV {index maxL fr' mc' ms' lo' nA b ci : Nat} {y : MethodName} {bytes : ByteArray} {ret : Option FieldType} {As rest fs : List Value} {r : vw_C} {Wr' : Nat → Prop} {post : Option Value → ma_H → Prop} (C : ma_C G cc nL own fr mc ms lo) (d : decode cc pc = .ok (.invokevirtual index, 3)) (hw : ma_w own index y bytes maxL ret nA) (hi : Cond.instanceMethod y ∈ lw_tbl) (hs : Cond.selects r.1 y y ∈ lw_tbl) (hc : kcl[ci]? = some r) (hM : Ct G.2.2.2.1 G.1 G.2.1 y bytes maxL ret fr' mc' ms' lo' (.ref b :: As) M Wr' post) (hWr : ∀ q : Nat, Wr' q → ma_Wr G q) (hnA : As.length = nA) (hst : st = As.reverse ++ .ref b :: rest) (hrs : (rest.map fun v => v.category).sum ≤ 8) (hm : M b = some (.inl (ci, fs))) (hnum : (fr' + 1 ≤ fr ∧ 8 + (maxL + 11) + lo' ≤ lo) ∧ k + mc' ≤ mc ∧ n + ms' ≤ ms)
    (kk : ∀ (v : Option Value) (M' : ma_H), post v M' → (∀ q : Nat, M q ≠ none → ¬ Wr' q → M' q = M q) → (∀ q : Nat, M q = none → M' q ≠ none → ma_Wr G q) → mj G nL (k + mc') (n + ms') M' (pc + 3) L (v.toList ++ rest)) : mj G nL k n M pc L st := by
  obtain ⟨D, s0, p, l, e, R, s, m, args, below, meth, c, Q, M0, Wr⟩ := G
  obtain ⟨hx, hb, hml, hown, hlk, rfl, hB, hK, hA1, h0⟩ := C
  subst hst
  intro H locs ls h1 h2 h3 h4
  obtain ⟨hl, w2, w3, hy, hpn⟩ := hw
  have hMet := hM hK (fun q z => (hWr q z).elim (hA1 q) (fun y => Nat.le_trans hB.2.1 y)) H.size (Nat.le_trans hB.2.1 h3.1)
  have hco := ma_word hK hB w3 rfl rfl args
  obtain ⟨r', g1, -, cell, q1, q2, q3, -⟩ := h1 b _ hm
  have hpv : PreV s H r.1 b (ma_Pc D s0 (.ref b :: As) M H.size) As := ⟨ma_blind, ⟨cell, q1, by rw [q3]; rfl, by rw [q2]; exact (ma_Kn hK hB hc).2.1⟩, fun U hU hW => ⟨rfl, by rw [hU], by rw [hU]; exact h1, ma_Bcall hB hA1 h3 hU hW⟩⟩
  have hroom : 2 * (F0 m pc ls (As.reverse ++ .ref b :: rest)).monitorRoom + (rest.map fun v => v.category).sum ≤ 8 := lv_room hrs
  rcases hl with hl | ⟨host, hl⟩
  · exact ma_cont h0 hWr h2 h3 h4 (va_runV (Ts := []) ⟨hx, hb, hml, hown, fun w hw => by cases hw⟩ hMet ⟨⟨rfl, rfl, hnum.1.1, hnum.1.2, ma_ws hco, List.mem_cons_self, hco, ma_word hK hB w2 rfl rfl _, hy, ma_nA hpn, ma_word hK hB hl rfl rfl _⟩, ma_word hK hB hi rfl rfl _, ma_word hK hB hs rfl rfl _⟩ hpv rfl hnA h4.1 rfl hroom d hnum.2) kk
  · exact ma_cont h0 hWr h2 h3 h4 (va_runVN (Ts := []) (host := host) ⟨hx, hb, hml, hown, fun w hw => by cases hw⟩ hMet ⟨⟨⟨rfl, rfl, hnum.1.1, hnum.1.2, ma_ws hco, List.mem_cons_self⟩, hco, ma_word hK hB w2 rfl rfl _, hy, ma_nA hpn, ma_word hK hB hl rfl rfl _⟩, ma_word hK hB hi rfl rfl _, ma_word hK hB hs rfl rfl _⟩ hpv rfl hnA h4.1 rfl hroom d hnum.2) kk
theorem m_callS {index maxL fr' mc' ms' lo' nA : Nat} {y : MethodName} {bytes : ByteArray} {ret : Option FieldType} {As rest : List Value} {Wr' : Nat → Prop} {post : Option Value → ma_H → Prop} (C : ma_C G cc nL own fr mc ms lo) (d : decode cc pc = .ok (.invokestatic index, 3)) (hw : ma_w own index y bytes maxL ret nA) (hi : Cond.static y ∈ lw_tbl) (hM : Ct G.2.2.2.1 G.1 G.2.1 y bytes maxL ret fr' mc' ms' lo' As M Wr' post) (hWr : ∀ q : Nat, Wr' q → ma_Wr G q) (hnA : As.length = nA) (hst : st = As.reverse ++ rest) (hrs : (rest.map fun v => v.category).sum ≤ 8) (hnum : (fr' + 1 ≤ fr ∧ 8 + (maxL + 11) + lo' ≤ lo) ∧ k + mc' ≤ mc ∧ n + ms' ≤ ms)
    (kk : ∀ (v : Option Value) (M' : ma_H), post v M' → (∀ q : Nat, M q ≠ none → ¬ Wr' q → M' q = M q) → (∀ q : Nat, M q = none → M' q ≠ none → ma_Wr G q) → mj G nL (k + mc') (n + ms') M' (pc + 3) L (v.toList ++ rest)) : mj G nL k n M pc L st := by
  obtain ⟨D, s0, p, l, e, R, s, m, args, below, meth, c, Q, M0, Wr⟩ := G
  obtain ⟨hx, hb, hml, hown, hlk, rfl, hB, hK, hA1, h0⟩ := C
  subst hst
  intro H locs ls h1 h2 h3 h4
  obtain ⟨hl, w2, w3, hy, hpn⟩ := hw
  have hMet := hM hK (fun q z => (hWr q z).elim (hA1 q) (fun y => Nat.le_trans hB.2.1 y)) H.size (Nat.le_trans hB.2.1 h3.1)
  have hco := ma_word hK hB w3 rfl rfl args
  have hpv : PreS s H (ma_Pc D s0 As M H.size) As := ⟨ma_blind, fun U hU hW => ⟨rfl, by rw [hU], by rw [hU]; exact h1, ma_Bcall hB hA1 h3 hU hW⟩⟩
  have hroom : 2 * (F0 m pc ls (As.reverse ++ rest)).monitorRoom + (rest.map fun v => v.category).sum ≤ 8 := lv_room hrs
  rcases hl with hl | ⟨host, hl⟩
  · exact ma_cont h0 hWr h2 h3 h4 (va_runS (Ts := []) ⟨hx, hb, hml, hown, fun w hw => by cases hw⟩ hMet ⟨⟨rfl, rfl, hnum.1.1, hnum.1.2, ma_ws hco, List.mem_cons_self, hco, ma_word hK hB w2 rfl rfl _, hy, ma_nA hpn, ma_word hK hB hl rfl rfl _⟩, ma_word hK hB hi rfl rfl _⟩ hpv rfl hnA h4.1 rfl hroom d hnum.2) kk
  · exact ma_cont h0 hWr h2 h3 h4 (va_runSN (Ts := []) (host := host) ⟨hx, hb, hml, hown, fun w hw => by cases hw⟩ hMet ⟨⟨⟨rfl, rfl, hnum.1.1, hnum.1.2, ma_ws hco, List.mem_cons_self⟩, hco, ma_word hK hB w2 rfl rfl _, hy, ma_nA hpn, ma_word hK hB hl rfl rfl _⟩, ma_word hK hB hi rfl rfl _, trivial⟩ hpv rfl hnA h4.1 rfl hroom d hnum.2) kk
theorem m_callI {index maxL fr' mc' ms' lo' nA b : Nat} {y : MethodName} {bytes : ByteArray} {As rest : List Value} {Wr' : Nat → Prop} {post : Option Value → ma_H → Prop} (C : ma_C G cc nL own fr mc ms lo) (d : decode cc pc = .ok (.invokespecial index, 3)) (hw : ma_w own index y bytes maxL none nA) (hi : Cond.instanceMethod y ∈ lw_tbl) (hy1 : y.name = "<init>") (hM : Ct G.2.2.2.1 G.1 G.2.1 y bytes maxL none fr' mc' ms' lo' (.ref b :: As) M Wr' post) (hWr : ∀ q : Nat, Wr' q → ma_Wr G q) (hnA : As.length = nA) (hst : st = As.reverse ++ .ref b :: rest) (hrs : (rest.map fun v => v.category).sum ≤ 8) (hnum : (fr' + 1 ≤ fr ∧ 8 + (maxL + 11) + lo' ≤ lo) ∧ k + mc' ≤ mc ∧ n + ms' ≤ ms)
    (kk : ∀ (v : Option Value) (M' : ma_H), post v M' → (∀ q : Nat, M q ≠ none → ¬ Wr' q → M' q = M q) → (∀ q : Nat, M q = none → M' q ≠ none → ma_Wr G q) → mj G nL (k + mc') (n + ms') M' (pc + 3) L (v.toList ++ rest)) : mj G nL k n M pc L st := by
  obtain ⟨D, s0, p, l, e, R, s, m, args, below, meth, c, Q, M0, Wr⟩ := G
  obtain ⟨hx, hb, hml, hown, hlk, rfl, hB, hK, hA1, h0⟩ := C
  subst hst
  intro H locs ls h1 h2 h3 h4
  obtain ⟨hl, w2, w3, hy, hpn⟩ := hw
  have hMet := hM hK (fun q z => (hWr q z).elim (hA1 q) (fun y => Nat.le_trans hB.2.1 y)) H.size (Nat.le_trans hB.2.1 h3.1)
  have hco := ma_word hK hB w3 rfl rfl args
  have hpv : PreS s H (ma_Pc D s0 (.ref b :: As) M H.size) (.ref b :: As) := ⟨ma_blind, fun U hU hW => ⟨rfl, by rw [hU], by rw [hU]; exact h1, ma_Bcall hB hA1 h3 hU hW⟩⟩
  have hroom : 2 * (F0 m pc ls (As.reverse ++ .ref b :: rest)).monitorRoom + (rest.map fun v => v.category).sum ≤ 8 := lv_room hrs
  rcases hl with hl | ⟨host, hl⟩
  · exact ma_cont h0 hWr h2 h3 h4 (va_runI (Ts := []) ⟨hx, hb, hml, hown, fun w hw => by cases hw⟩ hMet ⟨⟨rfl, rfl, hnum.1.1, hnum.1.2, ma_ws hco, List.mem_cons_self, hco, ma_word hK hB w2 rfl rfl _, hy, ma_nA hpn, ma_word hK hB hl rfl rfl _⟩, hy1, ma_word hK hB hi rfl rfl _⟩ hpv rfl hnA h4.1 rfl hroom d hnum.2) kk
  · exact ma_cont h0 hWr h2 h3 h4 (va_runIN (Ts := []) (host := host) ⟨hx, hb, hml, hown, fun w hw => by cases hw⟩ hMet ⟨⟨⟨rfl, rfl, hnum.1.1, hnum.1.2, ma_ws hco, List.mem_cons_self⟩, hco, ma_word hK hB w2 rfl rfl _, hy, ma_nA hpn, ma_word hK hB hl rfl rfl _⟩, hy1, ma_word hK hB hi rfl rfl _⟩ hpv rfl hnA h4.1 rfl hroom d hnum.2) kk
/-- Object's own constructor -/
theorem m_obj {index a : Nat} (C : ma_C G cc nL own fr mc ms lo) (d : decode cc pc = .ok (.invokespecial index, 3)) (w1 : Cond.methodLink own index objectInit ∈ lw_tbl) (w2 : Cond.instanceMethod objectInit ∈ lw_tbl) (w3 : Cond.code objectInit ⟨#[0xb1]⟩ 1 none ∈ lw_tbl) (hfr : 1 ≤ fr) (hlo : (st.map fun v => v.category).sum + 12 ≤ lo) (kk : mj G nL k n M (pc + 3) L st) : mj G nL k n M pc L (.ref a :: st) := by
  obtain ⟨D, s0, p, l, e, R, s, m, args, below, meth, c, Q, M0, Wr⟩ := G
  obtain ⟨hx, hb, hml, hown, hlk, rfl, hB, hK, hA1, h0⟩ := C
  exact fun H locs ls h1 h2 h3 h4 => W.objInit hx hb hown (ma_word hK hB w1 rfl rfl _) (ma_word hK hB w2 rfl rfl _) (ma_word hK hB w3 rfl rfl _) rfl (by rw [hml]; exact h4.1) rfl d hfr (by show 2 * 0 + _ + 12 ≤ lo; omega) (kk H locs ls h1 h2 h3 h4)
/-! ===== how a method ends ===== -/
def ma_Ri (G : ma_G) (cc : ByteArray) (nL mc ms : Nat) (post : Option Value → ma_H → Prop) : Prop := ∀ (k n : Nat) (M' : ma_H) (pc : Nat) (L : List (Option Value)) (v : Int32), k ≤ mc → n ≤ ms → decode cc pc = .ok (.ireturn, 1) → post (some (.int v)) M' → mj G nL k n M' pc L [.int v]
def ma_Rz (G : ma_G) (cc : ByteArray) (nL mc ms : Nat) (post : Option Value → ma_H → Prop) : Prop := ∀ (k n : Nat) (M' : ma_H) (pc : Nat) (L : List (Option Value)) (v : Int32), k ≤ mc → n ≤ ms → (v = 0 ∨ v = 1) → decode cc pc = .ok (.ireturn, 1) → post (some (.int v)) M' → mj G nL k n M' pc L [.int v]
def ma_Rc (G : ma_G) (cc : ByteArray) (nL mc ms : Nat) (post : Option Value → ma_H → Prop) : Prop := ∀ (k n : Nat) (M' : ma_H) (pc : Nat) (L : List (Option Value)) (v : Int32), k ≤ mc → n ≤ ms → narrow .char (.int v) = .int v → decode cc pc = .ok (.ireturn, 1) → post (some (.int v)) M' → mj G nL k n M' pc L [.int v]
def ma_Rv (G : ma_G) (cc : ByteArray) (nL mc ms : Nat) (post : Option Value → ma_H → Prop) : Prop := ∀ (k n : Nat) (M' : ma_H) (pc : Nat) (L : List (Option Value)), k ≤ mc → n ≤ ms → decode cc pc = .ok (.return_, 1) → post none M' → mj G nL k n M' pc L []
def ma_Ra (G : ma_G) (cc : ByteArray) (nL mc ms : Nat) (post : Option Value → ma_H → Prop) : Prop := ∀ (k n : Nat) (M' : ma_H) (pc : Nat) (L : List (Option Value)) (v : Nat), k ≤ mc → n ≤ ms → decode cc pc = .ok (.areturn, 1) → post (some (.ref v)) M' → mj G nL k n M' pc L [.ref v]
/-- the locals at a method's entry -/
def ma_en : List Value → List (Option Value)
  | [] => []
  | v :: vs => if v.category = 2 then some v :: none :: ma_en vs else some v :: ma_en vs
theorem ma_en_args : ∀ (vs : List Value) (o i : Nat) (v : Value), (ma_en vs)[i]? = some (some v) → (o + i, v) ∈ lv_args o vs
  | [], o, i, v, h => by simp [ma_en] at h
  | w :: vs, o, i, v, h => by
    unfold lv_args
    by_cases hc : w.category = 2
    · rw [if_pos hc]
      simp only [ma_en, if_pos hc] at h
      cases i with
      | zero =>
        simp at h
        subst h
        exact List.mem_cons_self
      | succ i =>
        cases i with
        | zero => simp at h
        | succ i =>
          simp only [List.getElem?_cons_succ] at h
          have := ma_en_args vs (o + 2) i v h
          rw [show o + (i + 1 + 1) = o + 2 + i by omega]
          exact List.mem_cons_of_mem _ this
    · rw [if_neg hc]
      simp only [ma_en, if_neg hc] at h
      cases i with
      | zero =>
        simp at h
        subst h
        exact List.mem_cons_self
      | succ i =>
        simp only [List.getElem?_cons_succ] at h
        have := ma_en_args vs (o + 1) i v h
        rw [show o + (i + 1) = o + 1 + i by omega]
        exact List.mem_cons_of_mem _ this
theorem ma_en_has {vs : List Value} {z : Nat} {i : Nat} {v : Value} (h : (ma_en vs ++ List.replicate z none)[i]? = some (some v)) : (i, v) ∈ lv_args 0 vs := by
  by_cases hl : i < (ma_en vs).length
  · rw [List.getElem?_append_left hl] at h
    have := ma_en_args vs 0 i v h
    rwa [Nat.zero_add] at this
  · rw [List.getElem?_append_right (by omega), List.getElem?_replicate] at h
    split at h <;> simp at h
end
section
variable {l : Launch} {D : ma_D} {s0 : State} {y : MethodName} {cc : ByteArray} {nL fr mc ms lo : Nat} {av : List Value} {M : ma_H} {Wr : Nat → Prop} {post : Option Value → ma_H → Prop}
theorem Ct_gen {ret : Option FieldType} (z : Nat) (Ls : List (Option Value)) (hy : plainName y.cls = true) (hsl : (lg_sl av).length ≤ nL) (hLs : ma_en av ++ List.replicate z none = Ls)
    (body : ∀ G : ma_G, G.1 = D → G.2.1 = s0 → G.2.2.2.1 = l → ma_C G cc nL y.cls fr mc ms lo → (∀ q : Nat, Wr q → ma_Wr G q) → (y.name = "<init>" → ma_I G) → (∀ (k n : Nat) (M' : ma_H) (pc : Nat) (L : List (Option Value)) (st : List Value) (r : Option Value), k ≤ mc → n ≤ ms → post r M' → ((ret = some .int ∧ ∃ v : Int32, r = some (.int v) ∧ st = [.int v] ∧ decode cc pc = .ok (.ireturn, 1)) ∨ (∃ ty, ret = some ty ∧ ∃ v : Int32, narrow ty (.int v) = .int v ∧ r = some (.int v) ∧ st = [.int v] ∧ decode cc pc = .ok (.ireturn, 1)) ∨ (ret = none ∧ r = none ∧ st = [] ∧ decode cc pc = .ok (.return_, 1)) ∨ (∃ rt, ret = some rt ∧ ((∃ n, rt = .object n) ∨ ∃ t, rt = .array t) ∧ ∃ v : Nat, r = some (.ref v) ∧ st = [.ref v] ∧ decode cc pc = .ok (.areturn, 1))) → mj G nL k n M' pc L st) → mj G nL 0 0 M 0 Ls []) : Ct l D s0 y cc nL ret fr mc ms lo av M Wr post := by
  intro hK hdom sz hsz
  refine Met.ofW (cc := cc) (maxL := nL) (ret := ret) hy rfl ?_
  intro p e s m args below meth c s₁ B hml hv
  obtain ⟨rfl, rfl, hP, hB⟩ := hv
  have hx := B.exec
  have hb := B.bytes
  have hr := B.returns
  have hown : s.vm.findClass y.cls = some m.cls := findClass_of_methodNamed B.named
  have hlocks := B.notSynchronized
  have hnm := (name_of_methodNamed B.named B.method).1
  have hl := lv_entry av (n := nL) hsl
  rw [lg_entry_eq]
  generalize (lg_sl av ++ List.replicate (nL - (lg_sl av).length) Slot.unset).toArray = ls at hl ⊢
  have hM0 : ∀ q : Nat, M q ≠ none → q < s.heap.size := by
    intro q hq
    cases hx9 : M q with
    | none => exact absurd hx9 hq
    | some x => exact (hP q x hx9).lt
  refine body (D, s0, p, l, e, { frames := fr, cells := mc, slots := ms, locals := lo }, s, m, av.toArray, below, meth, c, MQ below (ma_Qc D M Wr s.heap.size post) av.toArray s mc ms (ma_A0 Wr s.heap.size), M, Wr) rfl rfl rfl ⟨hx, hb, hml, hown, hlocks, rfl, hB, hK, hdom, hM0⟩ (fun q h => Or.inl h) (fun h => hnm.trans h) ?_ s.heap [] ls hP ⟨fun _ _ _ => rfl, fun _ h1 h2 => absurd h1 h2⟩ va_S.rf ⟨hl.1, hl.2.1, fun i v q => hl.2.2 (i, v) (ma_en_has (z := z) (by rw [hLs]; exact q))⟩
  intro k n M' pc L st r hk hn hp hcase H locs ls' h1 h2 h3 h4
  refine W.widen hk hn ?_
  have hq : ∀ t : State, t.heap = H → s.WarmedH t.vm → ma_Qc D M Wr s.heap.size post av.toArray s (.returned r) t := fun t ht _ => ⟨r, M', rfl, hp, by rw [ht]; exact h1, h2, h3.F ht⟩
  rcases hcase with ⟨h5, v, rfl, rfl, hd⟩ | ⟨ty, h5, v, h6, rfl, rfl, hd⟩ | ⟨h5, rfl, rfl, hd⟩ | ⟨rt, h5, h6, v, rfl, rfl, hd⟩
  · exact W.iret hx hb (hr.trans h5) hq h3.2.2 hd
  · exact W.zret hx hb (hr.trans h5) h6 hq h3.2.2 hd
  · exact W.vret hx hb (hr.trans h5) hq h3.2.2 hd
  · exact W.aret hx hb (hr.trans h5) h6 (Or.inr ⟨v, rfl⟩) hq h3.2.2 hd
theorem Ct_i (z : Nat) (Ls : List (Option Value)) (hy : plainName y.cls = true) (hsl : (lg_sl av).length ≤ nL) (hLs : ma_en av ++ List.replicate z none = Ls)
    (body : ∀ G : ma_G, G.1 = D → G.2.1 = s0 → G.2.2.2.1 = l → ma_C G cc nL y.cls fr mc ms lo → (∀ q : Nat, Wr q → ma_Wr G q) → ma_Ri G cc nL mc ms post → mj G nL 0 0 M 0 Ls []) : Ct l D s0 y cc nL (some .int) fr mc ms lo av M Wr post :=
  Ct_gen z Ls hy hsl hLs fun G e1 e2 e3 C hw _ h => body G e1 e2 e3 C hw fun k n M' pc L v hk hn hd hp => h k n M' pc L _ _ hk hn hp (Or.inl ⟨rfl, v, rfl, rfl, hd⟩)
theorem Ct_z (z : Nat) (Ls : List (Option Value)) (hy : plainName y.cls = true) (hsl : (lg_sl av).length ≤ nL) (hLs : ma_en av ++ List.replicate z none = Ls)
    (body : ∀ G : ma_G, G.1 = D → G.2.1 = s0 → G.2.2.2.1 = l → ma_C G cc nL y.cls fr mc ms lo → (∀ q : Nat, Wr q → ma_Wr G q) → ma_Rz G cc nL mc ms post → mj G nL 0 0 M 0 Ls []) : Ct l D s0 y cc nL (some .boolean) fr mc ms lo av M Wr post :=
  Ct_gen z Ls hy hsl hLs fun G e1 e2 e3 C hw _ h => body G e1 e2 e3 C hw fun k n M' pc L v hk hn hv hd hp => h k n M' pc L _ _ hk hn hp (Or.inr (Or.inl ⟨.boolean, rfl, v, by rcases hv with rfl | rfl <;> rfl, rfl, rfl, hd⟩))
theorem Ct_c (z : Nat) (Ls : List (Option Value)) (hy : plainName y.cls = true) (hsl : (lg_sl av).length ≤ nL) (hLs : ma_en av ++ List.replicate z none = Ls)
    (body : ∀ G : ma_G, G.1 = D → G.2.1 = s0 → G.2.2.2.1 = l → ma_C G cc nL y.cls fr mc ms lo → (∀ q : Nat, Wr q → ma_Wr G q) → ma_Rc G cc nL mc ms post → mj G nL 0 0 M 0 Ls []) : Ct l D s0 y cc nL (some .char) fr mc ms lo av M Wr post :=
  Ct_gen z Ls hy hsl hLs fun G e1 e2 e3 C hw _ h => body G e1 e2 e3 C hw fun k n M' pc L v hk hn hv hd hp => h k n M' pc L _ _ hk hn hp (Or.inr (Or.inl ⟨.char, rfl, v, hv, rfl, rfl, hd⟩))
theorem Ct_v (z : Nat) (Ls : List (Option Value)) (hy : plainName y.cls = true) (hsl : (lg_sl av).length ≤ nL) (hLs : ma_en av ++ List.replicate z none = Ls)
    (body : ∀ G : ma_G, G.1 = D → G.2.1 = s0 → G.2.2.2.1 = l → ma_C G cc nL y.cls fr mc ms lo → (∀ q : Nat, Wr q → ma_Wr G q) → (y.name = "<init>" → ma_I G) → ma_Rv G cc nL mc ms post → mj G nL 0 0 M 0 Ls []) : Ct l D s0 y cc nL none fr mc ms lo av M Wr post :=
  Ct_gen z Ls hy hsl hLs fun G e1 e2 e3 C hw hI h => body G e1 e2 e3 C hw hI fun k n M' pc L hk hn hd hp => h k n M' pc L _ _ hk hn hp (Or.inr (Or.inr (Or.inl ⟨rfl, rfl, rfl, hd⟩)))
theorem Ct_a {Cn : String} (z : Nat) (Ls : List (Option Value)) (hy : plainName y.cls = true) (hsl : (lg_sl av).length ≤ nL) (hLs : ma_en av ++ List.replicate z none = Ls)
    (body : ∀ G : ma_G, G.1 = D → G.2.1 = s0 → G.2.2.2.1 = l → ma_C G cc nL y.cls fr mc ms lo → (∀ q : Nat, Wr q → ma_Wr G q) → ma_Ra G cc nL mc ms post → mj G nL 0 0 M 0 Ls []) : Ct l D s0 y cc nL (some (.object Cn)) fr mc ms lo av M Wr post :=
  Ct_gen z Ls hy hsl hLs fun G e1 e2 e3 C hw _ h => body G e1 e2 e3 C hw fun k n M' pc L v hk hn hd hp => h k n M' pc L _ _ hk hn hp (Or.inr (Or.inr (Or.inr ⟨_, rfl, Or.inl ⟨_, rfl⟩, v, rfl, rfl, hd⟩)))
end
