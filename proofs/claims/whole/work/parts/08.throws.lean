/-! ===== methods that may throw ===== -/
/-- the words of a throw of an E in the class own: 'new' at ik, the constructor at ic -/
def ma_X (own : String) (ik ic : Nat) (E : String) : Prop := Cond.classLink own ik E ∈ lw_tbl ∧ Cond.initialized E ∈ lw_tbl ∧ (∀ w ∈ vx_atS own ic E x_up, w ∈ lw_tbl ∧ w.onTables = true ∧ (w.keepsH || w.keepsFace) = true) ∧ (∀ w ∈ Cond.classLink own ik E :: Cond.initialized E :: vx_atS own ic E x_up, vx_ot w = true) ∧ Bundle.fit E = true
/-- the words of a static call of a method with handlers -/
def ma_wh (own : String) (index : Nat) (y : MethodName) (bytes : ByteArray) (maxL : Nat) (ret : Option FieldType) (hh : List (Nat × Nat × Nat × Nat)) (nA : Nat) : Prop := Cond.methodLink own index y ∈ lw_tbl ∧ Cond.initialized y.cls ∈ lw_tbl ∧ Cond.codeWith y bytes maxL ret hh ∈ lw_tbl ∧ (y.cls ≠ "java/lang/invoke/MethodHandle" ∧ y.cls ≠ "java/lang/invoke/VarHandle") ∧ (parseMethodDescriptor y.desc).map (fun d => d.parameters.length) = some nA
theorem ma_word2 {D : ma_D} {s0 U : State} {l : Launch} (hK : ma_K D s0 l) (hB : ma_B s0 U) {w : Cond} (hw : w ∈ lw_tbl) (h1 : w.onTables = true) (h2 : (w.keepsH || w.keepsFace) = true) (a : Array Value) : w.before a U = true := by
  rw [Bool.or_eq_true] at h2
  rcases h2 with h2 | h2
  · exact ma_word hK hB hw h1 h2 a
  · obtain ⟨a0, h⟩ := hK.2.1
    exact va_tabs (u := s0.setVm U.vm) h1 rfl (Cond.before_shiftedFace (State.Shifted.of_warmed hB.1) _ h2 (h _ hw))
theorem x_up_fit : ∀ n ∈ x_up, Bundle.fit n = true := by decide +kernel
def ma_XC (D : ma_D) (M : ma_H) (Wr : Nat → Prop) (sz : Nat) (postX : String → ma_H → Prop) : String → State → State → Prop := fun E st t => ∃ M' : ma_H, postX E M' ∧ ma_P D M' t.heap ∧ ma_V M Wr sz M' ∧ va_F (ma_A0 Wr sz) st t
/-- y, called with av where the heap holds M: returns, with 'post', or throws an E, with 'postX E' -/
def Cx (l : Launch) (D : ma_D) (s0 : State) (y : MethodName) (cc : ByteArray) (nL : Nat) (ret : Option FieldType) (fr mc ms lo : Nat) (av : List Value) (M : ma_H) (Wr : Nat → Prop) (post : Option Value → ma_H → Prop) (postX : String → ma_H → Prop) : Prop :=
  ma_K D s0 l → (∀ q : Nat, Wr q → s0.heap.size ≤ q) → ∀ sz : Nat, s0.heap.size ≤ sz → vx_Met l y [Cond.code y cc nL ret] { frames := fr, cells := mc, slots := ms, locals := lo } (ma_Pc D s0 av M sz) (ma_Qc D M Wr sz post) (ma_XC D M Wr sz postX) mc ms (ma_A0 Wr sz)
/-- in this frame, at pc, an E is thrown -/
def mjX (G : ma_G) (nL k n : Nat) (M : ma_H) (pc : Nat) (L : List (Option Value)) (E : String) : Prop := match G with
  | (D, _, p, l, e, R, s, m, args, below, meth, c, Q, M0, Wr) => ∀ (H : Heap) (locs : List Loc) (ls : Array Slot) (rest : List Value) (q : Nat) (ce : Cell), ma_P D M H → ma_V M0 Wr s.heap.size M → va_S (ma_A0 Wr s.heap.size) s.heap H locs → ma_L nL L ls → H[q]? = some ce → ce.vm = .none → s.vm.findClass E = some ce.cls → vx_W p l e R s m args below meth c H locs k n Q (F0 m pc ls rest) q
section
variable {G : ma_G} {cc : ByteArray} {own : String} {nL fr mc ms lo k n : Nat} {M : ma_H} {pc : Nat} {L : List (Option Value)} {st : List Value}
theorem ma_contX {D : ma_D} {s0 : State} {p : Program} {l : Launch} {e : Env} {R : Room} {s : State} {m : MethodId} {args : Array Value} {below : List Frame} {meth : Method} {c : Code} {Q : State → Prop} {M0 : ma_H} {Wr Wr' : Nat → Prop} {H : Heap} {locs : List Loc} {ls : Array Slot} {mc' ms' : Nat} {st0 rest : List Value} {a : Array Value} {post : Option Value → ma_H → Prop} {postX : String → ma_H → Prop}
    (h0 : ∀ q : Nat, M0 q ≠ none → q < s.heap.size) (hW : ∀ q : Nat, Wr' q → Wr q ∨ s.heap.size ≤ q) (h2 : ma_V M0 Wr s.heap.size M) (h3 : va_S (ma_A0 Wr s.heap.size) s.heap H locs) (h4 : ma_L nL L ls)
    (hr : vx_Run p l e R s m args below meth c H locs k n mc' ms' (F0 m pc ls st0) rest (ma_Qc D M Wr' H.size post a) (ma_XC D M Wr' H.size postX) (ma_A0 Wr' H.size))
    (kk : ∀ (r : Option Value) (M' : ma_H), post r M' → (∀ q : Nat, M q ≠ none → ¬ Wr' q → M' q = M q) → (∀ q : Nat, M q = none → M' q ≠ none → Wr q ∨ s.heap.size ≤ q) → mj (D, s0, p, l, e, R, s, m, args, below, meth, c, Q, M0, Wr) nL (k + mc') (n + ms') M' (pc + 3) L (r.toList ++ rest))
    (kx : ∀ (E : String) (M' : ma_H), postX E M' → (∀ q : Nat, M q ≠ none → ¬ Wr' q → M' q = M q) → (∀ q : Nat, M q = none → M' q ≠ none → Wr q ∨ s.heap.size ≤ q) → mjX (D, s0, p, l, e, R, s, m, args, below, meth, c, Q, M0, Wr) nL (k + mc') (n + ms') M' pc L E) : W p l e R s m args below meth c H locs k n Q (F0 m pc ls st0) := by
  have hA : ∀ q : Nat, ma_A0 Wr' H.size q → ma_A0 Wr s.heap.size q := fun q h => h.elim (hW q) (fun z => Or.inr (Nat.le_trans h3.1 z))
  intro T hT X
  rcases hr T hT X with ⟨v, st₀, t, T', L', e0, X', hL, e1, e2, ⟨r, M', hv, hp, hP', hd', hz, hkp⟩, stp⟩ | ⟨q, st₀, t, T', L', E, ce, e0, X', hL, e1, e2, ⟨M', hp, hP', hd', hz, hkp⟩, hce, hcv, hcl, stp⟩
  · cases hv
    rw [e0] at hz hkp
    obtain ⟨t2, a1, b1⟩ := kk _ M' hp hd'.1 (fun q z1 z2 => Or.inr (Nat.le_trans h3.1 (hd'.2 q z1 z2))) T'.heap (locs ++ L') ls (by rw [e1]; exact hP') (h2.call hd' h0 hW h3.1)
      ⟨Nat.le_trans h3.1 (by rw [e1]; exact hz), fun q g1 g2 => by rw [e1, hkp q (Nat.lt_of_lt_of_le g1 h3.1) (fun z => g2 (hA q z))]; exact h3.2.1 q g1 g2, fun q hq => by
        rcases List.mem_append.mp hq with h | h
        · exact h3.2.2 q h
        · exact hA _ (hL q h)⟩ h4 T' rfl X'
    exact ⟨t2, stp t2 a1, b1⟩
  · rw [e0] at hz hkp
    obtain ⟨t2, a1, b1⟩ := kx E M' hp hd'.1 (fun q z1 z2 => Or.inr (Nat.le_trans h3.1 (hd'.2 q z1 z2))) T'.heap (locs ++ L') ls rest q ce (by rw [e1]; exact hP') (h2.call hd' h0 hW h3.1)
      ⟨Nat.le_trans h3.1 (by rw [e1]; exact hz), fun q g1 g2 => by rw [e1, hkp q (Nat.lt_of_lt_of_le g1 h3.1) (fun z => g2 (hA q z))]; exact h3.2.1 q g1 g2, fun q hq => by
        rcases List.mem_append.mp hq with h | h
        · exact h3.2.2 q h
        · exact hA _ (hL q h)⟩ h4 (by rw [e1]; exact hce) hcv hcl T' rfl X'
    exact ⟨t2, stp.trans a1, b1⟩
theorem m_callVX {index maxL fr' mc' ms' lo' nA b ci : Nat} {y : MethodName} {bytes : ByteArray} {ret : Option FieldType} {As rest fs : List Value} {r : vw_C} {Wr' : Nat → Prop} {post : Option Value → ma_H → Prop} {postX : String → ma_H → Prop} (C : ma_C G cc nL own fr mc ms lo) (d : decode cc pc = .ok (.invokevirtual index, 3)) (hl : Cond.methodLink own index y ∈ lw_tbl) (hw : ma_w own index y bytes maxL ret nA) (hi : Cond.instanceMethod y ∈ lw_tbl) (hs : Cond.selects r.1 y y ∈ lw_tbl) (hc : kcl[ci]? = some r) (hM : Cx G.2.2.2.1 G.1 G.2.1 y bytes maxL ret fr' mc' ms' lo' (.ref b :: As) M Wr' post postX) (hWr : ∀ q : Nat, Wr' q → ma_Wr G q) (hnA : As.length = nA) (hst : st = As.reverse ++ .ref b :: rest) (hrs : (rest.map fun v => v.category).sum ≤ 8) (hm : M b = some (.inl (ci, fs))) (hnum : (fr' + 1 ≤ fr ∧ 8 + (maxL + 11) + lo' ≤ lo) ∧ k + mc' ≤ mc ∧ n + ms' ≤ ms)
    (kk : ∀ (v : Option Value) (M' : ma_H), post v M' → (∀ q : Nat, M q ≠ none → ¬ Wr' q → M' q = M q) → (∀ q : Nat, M q = none → M' q ≠ none → ma_Wr G q) → mj G nL (k + mc') (n + ms') M' (pc + 3) L (v.toList ++ rest))
    (kx : ∀ (E : String) (M' : ma_H), postX E M' → (∀ q : Nat, M q ≠ none → ¬ Wr' q → M' q = M q) → (∀ q : Nat, M q = none → M' q ≠ none → ma_Wr G q) → mjX G nL (k + mc') (n + ms') M' pc L E) : mj G nL k n M pc L st := by
  obtain ⟨D, s0, p, l, e, R, s, m, args, below, meth, c, Q, M0, Wr⟩ := G
  obtain ⟨hx, hb, hml, hown, hlk, rfl, hB, hK, hA1, h0⟩ := C
  subst hst
  intro H locs ls h1 h2 h3 h4
  obtain ⟨-, w2, w3, hy, hpn⟩ := hw
  have hMet := hM hK (fun q z => (hWr q z).elim (hA1 q) (fun y => Nat.le_trans hB.2.1 y)) H.size (Nat.le_trans hB.2.1 h3.1)
  have hco := ma_word hK hB w3 rfl rfl args
  obtain ⟨r', g1, -, cell, q1, q2, q3, -⟩ := h1 b _ hm
  have hpv : PreV s H r.1 b (ma_Pc D s0 (.ref b :: As) M H.size) As := ⟨ma_blind, ⟨cell, q1, by rw [q3]; rfl, by rw [q2]; exact (ma_Kn hK hB hc).2.1⟩, fun U hU hW => ⟨rfl, by rw [hU], by rw [hU]; exact h1, ma_Bcall hB hA1 h3 hU hW⟩⟩
  have hroom : 2 * (F0 m pc ls (As.reverse ++ .ref b :: rest)).monitorRoom + (rest.map fun v => v.category).sum ≤ 8 := lv_room hrs
  exact ma_contX h0 hWr h2 h3 h4 (vx_runV (Ts := []) ⟨hx, hb, hml, hown, fun w hw => by cases hw⟩ hMet ⟨⟨rfl, rfl, hnum.1.1, hnum.1.2, ma_ws hco, List.mem_cons_self, hco, ma_word hK hB w2 rfl rfl _, hy, ma_nA hpn, ma_word hK hB hl rfl rfl _⟩, ma_word hK hB hi rfl rfl _, ma_word hK hB hs rfl rfl _⟩ hpv rfl hnA h4.1 rfl hroom d hnum.2) kk kx
theorem m_callSX {index maxL fr' mc' ms' lo' nA : Nat} {y : MethodName} {bytes : ByteArray} {ret : Option FieldType} {As rest : List Value} {Wr' : Nat → Prop} {post : Option Value → ma_H → Prop} {postX : String → ma_H → Prop} (C : ma_C G cc nL own fr mc ms lo) (d : decode cc pc = .ok (.invokestatic index, 3)) (hl : Cond.methodLink own index y ∈ lw_tbl) (hw : ma_w own index y bytes maxL ret nA) (hi : Cond.static y ∈ lw_tbl) (hM : Cx G.2.2.2.1 G.1 G.2.1 y bytes maxL ret fr' mc' ms' lo' As M Wr' post postX) (hWr : ∀ q : Nat, Wr' q → ma_Wr G q) (hnA : As.length = nA) (hst : st = As.reverse ++ rest) (hrs : (rest.map fun v => v.category).sum ≤ 8) (hnum : (fr' + 1 ≤ fr ∧ 8 + (maxL + 11) + lo' ≤ lo) ∧ k + mc' ≤ mc ∧ n + ms' ≤ ms)
    (kk : ∀ (v : Option Value) (M' : ma_H), post v M' → (∀ q : Nat, M q ≠ none → ¬ Wr' q → M' q = M q) → (∀ q : Nat, M q = none → M' q ≠ none → ma_Wr G q) → mj G nL (k + mc') (n + ms') M' (pc + 3) L (v.toList ++ rest))
    (kx : ∀ (E : String) (M' : ma_H), postX E M' → (∀ q : Nat, M q ≠ none → ¬ Wr' q → M' q = M q) → (∀ q : Nat, M q = none → M' q ≠ none → ma_Wr G q) → mjX G nL (k + mc') (n + ms') M' pc L E) : mj G nL k n M pc L st := by
  obtain ⟨D, s0, p, l, e, R, s, m, args, below, meth, c, Q, M0, Wr⟩ := G
  obtain ⟨hx, hb, hml, hown, hlk, rfl, hB, hK, hA1, h0⟩ := C
  subst hst
  intro H locs ls h1 h2 h3 h4
  obtain ⟨-, w2, w3, hy, hpn⟩ := hw
  have hMet := hM hK (fun q z => (hWr q z).elim (hA1 q) (fun y => Nat.le_trans hB.2.1 y)) H.size (Nat.le_trans hB.2.1 h3.1)
  have hco := ma_word hK hB w3 rfl rfl args
  have hpv : PreS s H (ma_Pc D s0 As M H.size) As := ⟨ma_blind, fun U hU hW => ⟨rfl, by rw [hU], by rw [hU]; exact h1, ma_Bcall hB hA1 h3 hU hW⟩⟩
  have hroom : 2 * (F0 m pc ls (As.reverse ++ rest)).monitorRoom + (rest.map fun v => v.category).sum ≤ 8 := lv_room hrs
  exact ma_contX h0 hWr h2 h3 h4 (vx_runS (Ts := []) ⟨hx, hb, hml, hown, fun w hw => by cases hw⟩ hMet ⟨⟨rfl, rfl, hnum.1.1, hnum.1.2, ma_ws hco, List.mem_cons_self, hco, ma_word hK hB w2 rfl rfl _, hy, ma_nA hpn, ma_word hK hB hl rfl rfl _⟩, ma_word hK hB hi rfl rfl _⟩ hpv rfl hnA h4.1 rfl hroom d hnum.2) kk kx
/-- the thrown one is caught: the entries ahead of x don't take it -/
theorem mjX_catch {E nm : String} (C : ma_C G cc nL own fr mc ms lo) (hh : List (Nat × Nat × Nat × Nat)) (ht : match G with | (_, _, _, _, _, _, _, _, _, _, _, c, _, _, _) => c.exceptionTable.toList = tableOf hh) (pre suf : List (Nat × Nat × Nat × Nat)) (x : Nat × Nat × Nat × Nat) (hsp : hh = pre ++ x :: suf) (hpre : ∀ z ∈ pre, z.2.2.2 ≠ 0 ∧ ∃ n2 : String, Cond.classLink own z.2.2.2 n2 ∈ lw_tbl ∧ (E, n2) ∈ knc) (hx1 : x.1 ≤ pc ∧ pc < x.2.1) (hx0 : x.2.2.2 ≠ 0) (hl : Cond.classLink own x.2.2.2 E ∈ lw_tbl) (hca : Cond.castable E E ∈ lw_tbl)
    (kk : ∀ q : Nat, mj G nL k n M x.2.2.1 L [.ref q]) : mjX G nL k n M pc L E := by
  obtain ⟨D, s0, p, l, e, R, s, m, args, below, meth, c, Q, M0, Wr⟩ := G
  obtain ⟨hx, hb, hml, hown, hlk, rfl, hB, hK, hA1, h0⟩ := C
  intro H locs ls rest q ce h1 h2 h3 h4 h5 h6 h7
  have ht9 : c.exceptionTable.toList = tableOf hh := ht
  have hca9 : (Cond.castable E E).before args s = true := by
    obtain ⟨a0, h⟩ := hK.2.1
    exact va_tabs (u := s0.setVm s.vm) rfl rfl (Cond.before_shiftedFace (State.Shifted.of_warmed hB.1) _ rfl (h _ hca))
  refine vx_catch (own := own) (name := E) (E := E) (ce := ce) hown (pre := tableOf pre) (x := ⟨x.1, x.2.1, x.2.2.1, x.2.2.2⟩) (suf := tableOf suf) (by rw [ht9, hsp]; simp [tableOf]) ?_ (by simp [covers, hx1.1, hx1.2]) hx0 (ma_word hK hB hl rfl rfl _) hca9 h5 h6 h7 (kk q H locs ls h1 h2 h3 h4)
  intro z hz
  obtain ⟨z', hz', rfl⟩ := List.mem_map.mp hz
  obtain ⟨a1, n2, a2, a3⟩ := hpre z' hz'
  exact Or.inr ⟨a1, n2, ma_word hK hB a2 rfl rfl _, va_Nc.moved hB.1.alike (hK.2.2.2.2.2.2 _ a3)⟩
end
section
variable {l : Launch} {D : ma_D} {s0 : State} {y : MethodName} {cc : ByteArray} {nL fr mc ms lo : Nat} {av : List Value} {M : ma_H} {Wr : Nat → Prop} {post : Option Value → ma_H → Prop} {postX : String → ma_H → Prop}
theorem ma_str {D : ma_D} {s0 s : State} {l : Launch} {own tx : String} {is : Nat} {c9 : ClassId} (hK : ma_K D s0 l) (hB : ma_B s0 s) (hown : s.vm.findClass own = some c9) (hw : Cond.stringRef own is tx ∈ lw_tbl) : ∃ sa : Nat, vk_R own is tx sa s := by
  obtain ⟨a0, h⟩ := hK.2.1
  have h1 := h _ hw
  have hown0 : s0.vm.findClass own = some c9 := by rw [← hB.1.alike.findClass]; exact hown
  obtain ⟨-, -, -, sa, -, -, -, -, -, hev⟩ := Cond.stringRef_spec hown0 h1
  exact ⟨sa, vk_R.warm hB.1 (vk_R.of h1 hev)⟩
theorem ma_Zq {D : ma_D} {s0 s : State} {l : Launch} {n d : String} {Wr : Nat → Prop} (hB : ma_B s0 s) (hA1 : ∀ q : Nat, Wr q → s0.heap.size ≤ q) (h : vx_Zq Bundle.tN n d (fun q => s0.heap.size ≤ q) s0 s0.heap) : vx_Zq Bundle.tN n d (ma_A0 Wr s.heap.size) s s.heap :=
  ((h.moved hB.1.alike).kept (fun a h1 h2 => hB.2.2 a h1)).narrow (fun q h => h.elim (hA1 q) (fun z => Nat.le_trans hB.2.1 z))
theorem Cx_gen {ret : Option FieldType} (z : Nat) (Ls : List (Option Value)) (hy : plainName y.cls = true) (hsl : (lg_sl av).length ≤ nL) (hLs : ma_en av ++ List.replicate z none = Ls)
    (body : ∀ G : ma_G, G.1 = D → G.2.1 = s0 → G.2.2.2.1 = l → ma_C G cc nL y.cls fr mc ms lo → (∀ q : Nat, Wr q → ma_Wr G q) → (∀ (k n : Nat) (M' : ma_H) (pc : Nat) (L : List (Option Value)) (st : List Value) (r : Option Value), k ≤ mc → n ≤ ms → post r M' → ((ret = some .int ∧ ∃ v : Int32, r = some (.int v) ∧ st = [.int v] ∧ decode cc pc = .ok (.ireturn, 1)) ∨ (ret = none ∧ r = none ∧ st = [] ∧ decode cc pc = .ok (.return_, 1)) ∨ (∃ rt, ret = some rt ∧ ((∃ n, rt = .object n) ∨ ∃ t, rt = .array t) ∧ ∃ v : Nat, r = some (.ref v) ∧ st = [.ref v] ∧ decode cc pc = .ok (.areturn, 1))) → mj G nL k n M' pc L st) →
      (∀ (k n : Nat) (M' : ma_H) (pc : Nat) (L : List (Option Value)) (ik is ic : Nat) (E tx : String), ma_X y.cls ik ic E → Cond.stringRef y.cls is tx ∈ lw_tbl → decode cc pc = .ok (.new ik, 3) → decode cc (pc + 3) = .ok (.dup, 1) → ((decode cc (pc + 4) = .ok (.ldc is, 2) ∧ decode cc (pc + 6) = .ok (.invokespecial ic, 3) ∧ decode cc (pc + 9) = .ok (.athrow, 1)) ∨ (decode cc (pc + 4) = .ok (.ldc_w is, 3) ∧ decode cc (pc + 7) = .ok (.invokespecial ic, 3) ∧ decode cc (pc + 10) = .ok (.athrow, 1))) → k + 1 ≤ mc → n + 6 ≤ ms → 5 < fr → 82 ≤ lo → postX E M' → mj G nL k n M' pc L []) →
      (∀ (k n : Nat) (M' : ma_H) (pc : Nat) (L : List (Option Value)) (E : String), k ≤ mc → n ≤ ms → postX E M' → mjX G nL k n M' pc L E) → mj G nL 0 0 M 0 Ls []) : Cx l D s0 y cc nL ret fr mc ms lo av M Wr post postX := by
  intro hK hdom sz hsz
  refine vx_ofW (cc := cc) (maxL := nL) (ret := ret) hy rfl ?_
  intro p e s m args below meth c s₁ B hml hno hv
  obtain ⟨rfl, rfl, hP, hB⟩ := hv
  have hx := B.exec
  have hb := B.bytes
  have hr := B.returns
  have hown : s.vm.findClass y.cls = some m.cls := findClass_of_methodNamed B.named
  have hlocks := B.notSynchronized
  have hl := lv_entry av (n := nL) hsl
  rw [lg_entry_eq]
  generalize (lg_sl av ++ List.replicate (nL - (lg_sl av).length) Slot.unset).toArray = ls at hl ⊢
  have hM0 : ∀ q : Nat, M q ≠ none → q < s.heap.size := by
    intro q hq
    cases hx9 : M q with
    | none => exact absurd hx9 hq
    | some x => exact (hP q x hx9).lt
  refine body (D, s0, p, l, e, { frames := fr, cells := mc, slots := ms, locals := lo }, s, m, av.toArray, below, meth, c, vx_MQ below (ma_Qc D M Wr s.heap.size post) (ma_XC D M Wr s.heap.size postX) av.toArray s mc ms (ma_A0 Wr s.heap.size), M, Wr) rfl rfl rfl ⟨hx, hb, hml, hown, hlocks, rfl, hB, hK, hdom, hM0⟩ (fun q h => Or.inl h) ?_ ?_ ?_ s.heap [] ls hP ⟨fun _ _ _ => rfl, fun _ h1 h2 => absurd h1 h2⟩ va_S.rf ⟨hl.1, hl.2.1, fun i v q => hl.2.2 (i, v) (ma_en_has (z := z) (by rw [hLs]; exact q))⟩
  · intro k n M' pc L st r hk hn hp hcase H locs ls' h1 h2 h3 h4
    refine W.widen hk hn (vx_ret ?_)
    have hq : ∀ t : State, t.heap = H → s.WarmedH t.vm → ma_Qc D M Wr s.heap.size post av.toArray s (.returned r) t := fun t ht _ => ⟨r, M', rfl, hp, by rw [ht]; exact h1, h2, h3.F ht⟩
    rcases hcase with ⟨h5, v, rfl, rfl, hd⟩ | ⟨h5, rfl, rfl, hd⟩ | ⟨rt, h5, h6, v, rfl, rfl, hd⟩
    · exact W.iret hx hb (hr.trans h5) hq h3.2.2 hd
    · exact W.vret hx hb (hr.trans h5) hq h3.2.2 hd
    · exact W.aret hx hb (hr.trans h5) h6 (Or.inr ⟨v, rfl⟩) hq h3.2.2 hd
  · intro k n M' pc L ik is ic E tx hXw hstr d0 d3 hds hk hn hf hlo hp H locs ls' h1 h2 h3 h4
    obtain ⟨w1, w2, w3, w4, w5⟩ := hXw
    obtain ⟨sa, hsa⟩ := ma_str hK hB hown hstr
    have hX9 : ∀ t : State, s.vm.Alike t.vm → H.size ≤ t.heap.size → (∀ q : Nat, q < H.size → t.heap[q]? = H[q]?) → ma_XC D M Wr s.heap.size postX E s t := fun t _ g1 g2 => ⟨M', hp, fun a x hx9 => (h1 a x hx9).kept (g2 a (h1 a x hx9).lt), h2, Nat.le_trans h3.1 g1, fun q g3 g4 => (g2 q (Nat.lt_of_lt_of_le g3 h3.1)).trans (h3.2.1 q g3 g4)⟩
    have hat : ∀ w ∈ vx_atS y.cls ic E x_up, w.before av.toArray s = true := fun w hw => ma_word2 hK hB (w3 w hw).1 (w3 w hw).2.1 (w3 w hw).2.2 _
    rcases hds with ⟨d4, d6, d9⟩ | ⟨d4, d6, d9⟩
    · exact vx_throwS hx hb hK.1 hown w5 x_up_fit (ma_word hK hB w1 rfl rfl _) (ma_word hK hB w2 rfl rfl _) hsa hat w4 (ma_Zq (D := D) (l := l) hB hdom hK.2.2.2.2.1) (ma_Zq (D := D) (l := l) hB hdom hK.2.2.2.2.2.1) h3 (h4.1.trans hml.symm) d0 d3 d4 d6 d9 (fun x hx9 => (hno x hx9).elim) hf (by show (List.map _ []).sum + (13 * (2 + 1) + 43) ≤ lo; simp; omega) hk hn hlocks hX9 h3.2.2 hk hn
    · exact vx_throwSW hx hb hK.1 hown w5 x_up_fit (ma_word hK hB w1 rfl rfl _) (ma_word hK hB w2 rfl rfl _) hsa hat w4 (ma_Zq (D := D) (l := l) hB hdom hK.2.2.2.2.1) (ma_Zq (D := D) (l := l) hB hdom hK.2.2.2.2.2.1) h3 (h4.1.trans hml.symm) d0 d3 d4 d6 d9 (fun x hx9 => (hno x hx9).elim) hf (by show (List.map _ []).sum + (13 * (2 + 1) + 43) ≤ lo; simp; omega) hk hn hlocks hX9 h3.2.2 hk hn
  · intro k n M' pc L E hk hn hp H locs ls' rest q ce h1 h2 h3 h4 h5 h6 h7
    exact vx_out (fun x hx9 => (hno x hx9).elim) hlocks h5 h6 h7 (fun t ht _ => ⟨M', hp, by rw [ht]; exact h1, h2, h3.F ht⟩) h3.2.2 hk hn
end
