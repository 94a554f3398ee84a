/-! ===== methods that catch ===== -/
/-- y, a method with handlers, called with av where the heap holds M: returns, with 'post' -/
def Cw (l : Launch) (D : ma_D) (s0 : State) (y : MethodName) (cc : ByteArray) (nL : Nat) (ret : Option FieldType) (hh : List (Nat × Nat × Nat × Nat)) (fr mc ms lo : Nat) (av : List Value) (M : ma_H) (Wr : Nat → Prop) (post : Option Value → ma_H → Prop) : Prop :=
  ma_K D s0 l → (∀ q : Nat, Wr q → s0.heap.size ≤ q) → ∀ sz : Nat, s0.heap.size ≤ sz → Met l y [Cond.codeWith y cc nL ret hh] { frames := fr, cells := mc, slots := ms, locals := lo } (ma_Pc D s0 av M sz) (ma_Qc D M Wr sz post) mc ms (ma_A0 Wr sz)
/-- the frame's method has these handlers -/
def ma_T (G : ma_G) (hh : List (Nat × Nat × Nat × Nat)) : Prop := match G with
  | (_, _, _, _, _, _, _, _, _, _, _, c, _, _, _) => c.exceptionTable.toList = tableOf hh
theorem ma_wsW {s : State} {args : Array Value} {y : MethodName} {bytes : ByteArray} {maxL : Nat} {ret : Option FieldType} {hh : List (Nat × Nat × Nat × Nat)} (h : (Cond.codeWith y bytes maxL ret hh).before args s = true) : ∀ w ∈ [Cond.codeWith y bytes maxL ret hh], ∀ (a' : Array Value) (U : State), s.WarmedH U.vm → w.before a' U = true := by
  intro w hw a' U hW
  rw [List.mem_singleton] at hw
  subst hw
  exact word_at hW (Or.inl rfl) h
section
variable {l : Launch} {D : ma_D} {s0 : State} {y : MethodName} {cc : ByteArray} {nL fr mc ms lo : Nat} {av : List Value} {M : ma_H} {Wr : Nat → Prop} {post : Option Value → ma_H → Prop} {hh : List (Nat × Nat × Nat × Nat)}
theorem Cw_i (z : Nat) (Ls : List (Option Value)) (hcw : Cond.codeWith y cc nL (some .int) hh ∈ lw_tbl) (hy : plainName y.cls = true) (hsl : (lg_sl av).length ≤ nL) (hLs : ma_en av ++ List.replicate z none = Ls)
    (body : ∀ G : ma_G, G.1 = D → G.2.1 = s0 → G.2.2.2.1 = l → ma_C G cc nL y.cls fr mc ms lo → ma_T G hh → (∀ q : Nat, Wr q → ma_Wr G q) → ma_Ri G cc nL mc ms post → mj G nL 0 0 M 0 Ls []) : Cw l D s0 y cc nL (some .int) hh fr mc ms lo av M Wr post := by
  intro hK hdom sz hsz
  refine va_MetW (cc := cc) (maxL := nL) (ret := some .int) (hh := hh) hy rfl ?_
  intro p e s m args below meth c s₁ B hml hv
  obtain ⟨rfl, rfl, hP, hB⟩ := hv
  have hx := B.exec
  have hb := B.bytes
  have hr := B.returns
  have hown : s.vm.findClass y.cls = some m.cls := findClass_of_methodNamed B.named
  have hlocks := B.notSynchronized
  have htab := vx_table (x := y) B (ma_word hK hB hcw rfl rfl _)
  have hl := lv_entry av (n := nL) hsl
  rw [lg_entry_eq]
  generalize (lg_sl av ++ List.replicate (nL - (lg_sl av).length) Slot.unset).toArray = ls at hl ⊢
  have hM0 : ∀ q : Nat, M q ≠ none → q < s.heap.size := by
    intro q hq
    cases hx9 : M q with
    | none => exact absurd hx9 hq
    | some x => exact (hP q x hx9).lt
  refine body (D, s0, p, l, e, { frames := fr, cells := mc, slots := ms, locals := lo }, s, m, av.toArray, below, meth, c, MQ below (ma_Qc D M Wr s.heap.size post) av.toArray s mc ms (ma_A0 Wr s.heap.size), M, Wr) rfl rfl rfl ⟨hx, hb, hml, hown, hlocks, rfl, hB, hK, hdom, hM0⟩ htab (fun q h => Or.inl h) ?_ s.heap [] ls hP ⟨fun _ _ _ => rfl, fun _ h1 h2 => absurd h1 h2⟩ va_S.rf ⟨hl.1, hl.2.1, fun i v q => hl.2.2 (i, v) (ma_en_has (z := z) (by rw [hLs]; exact q))⟩
  intro k n M' pc L v hk hn hd hp H locs ls' h1 h2 h3 h4
  refine W.widen hk hn ?_
  have hq : ∀ t : State, t.heap = H → s.WarmedH t.vm → ma_Qc D M Wr s.heap.size post av.toArray s (.returned (some (.int v))) t := fun t ht _ => ⟨_, M', rfl, hp, by rw [ht]; exact h1, h2, h3.F ht⟩
  exact W.iret hx hb hr hq h3.2.2 hd
end
section
variable {G : ma_G} {cc : ByteArray} {own : String} {nL fr mc ms lo k n : Nat} {M : ma_H} {pc : Nat} {L : List (Option Value)} {st : List Value}
theorem m_callSW {index maxL fr' mc' ms' lo' nA : Nat} {y : MethodName} {bytes : ByteArray} {ret : Option FieldType} {hh : List (Nat × Nat × Nat × Nat)} {As rest : List Value} {Wr' : Nat → Prop} {post : Option Value → ma_H → Prop} (C : ma_C G cc nL own fr mc ms lo) (d : decode cc pc = .ok (.invokestatic index, 3)) (hw : ma_wh own index y bytes maxL ret hh nA) (hi : Cond.static y ∈ lw_tbl) (hM : Cw G.2.2.2.1 G.1 G.2.1 y bytes maxL ret hh fr' mc' ms' lo' As M Wr' post) (hWr : ∀ q : Nat, Wr' q → ma_Wr G q) (hnA : As.length = nA) (hst : st = As.reverse ++ rest) (hrs : (rest.map fun v => v.category).sum ≤ 8) (hnum : (fr' + 1 ≤ fr ∧ 8 + (maxL + 11) + lo' ≤ lo) ∧ k + mc' ≤ mc ∧ n + ms' ≤ ms)
    (kk : ∀ (v : Option Value) (M' : ma_H), post v M' → (∀ q : Nat, M q ≠ none → ¬ Wr' q → M' q = M q) → (∀ q : Nat, M q = none → M' q ≠ none → ma_Wr G q) → mj G nL (k + mc') (n + ms') M' (pc + 3) L (v.toList ++ rest)) : mj G nL k n M pc L st := by
  obtain ⟨D, s0, p, l, e, R, s, m, args, below, meth, c, Q, M0, Wr⟩ := G
  obtain ⟨hx, hb, hml, hown, hlk, rfl, hB, hK, hA1, h0⟩ := C
  subst hst
  intro H locs ls h1 h2 h3 h4
  obtain ⟨hl, w2, w3, hy, hpn⟩ := hw
  have hMet := hM hK (fun q z => (hWr q z).elim (hA1 q) (fun y => Nat.le_trans hB.2.1 y)) H.size (Nat.le_trans hB.2.1 h3.1)
  have hco := ma_word hK hB w3 rfl rfl args
  have hpv : PreS s H (ma_Pc D s0 As M H.size) As := ⟨ma_blind, fun U hU hW => ⟨rfl, by rw [hU], by rw [hU]; exact h1, ma_Bcall hB hA1 h3 hU hW⟩⟩
  have hroom : 2 * (F0 m pc ls (As.reverse ++ rest)).monitorRoom + (rest.map fun v => v.category).sum ≤ 8 := lv_room hrs
  exact ma_cont h0 hWr h2 h3 h4 (vx_runSW (Ts := []) ⟨hx, hb, hml, hown, fun w hw => by cases hw⟩ hMet ⟨⟨rfl, rfl, hnum.1.1, hnum.1.2, ma_wsW hco, List.mem_cons_self⟩, hco, ma_word hK hB w2 rfl rfl _, hy, ma_nA hpn, ma_word hK hB hl rfl rfl _, ma_word hK hB hi rfl rfl _⟩ hpv rfl hnA h4.1 rfl hroom d hnum.2) kk
/-- mjX_catch, with the handlers named -/
theorem mX_c {E : String} (C : ma_C G cc nL own fr mc ms lo) {hh : List (Nat × Nat × Nat × Nat)} (ht : ma_T G hh) (pre suf : List (Nat × Nat × Nat × Nat)) (x : Nat × Nat × Nat × Nat) (hsp : hh = pre ++ x :: suf) (hpre : ∀ z ∈ pre, z.2.2.2 ≠ 0 ∧ ∃ n2 : String, Cond.classLink own z.2.2.2 n2 ∈ lw_tbl ∧ (E, n2) ∈ knc) (hx1 : x.1 ≤ pc ∧ pc < x.2.1) (hx0 : x.2.2.2 ≠ 0) (hl : Cond.classLink own x.2.2.2 E ∈ lw_tbl) (hca : Cond.castable E E ∈ lw_tbl)
    (kk : ∀ q : Nat, mj G nL k n M x.2.2.1 L [.ref q]) : mjX G nL k n M pc L E := mjX_catch (nm := E) C hh ht pre suf x hsp hpre hx1 hx0 hl hca kk
end
/-! ===== the class's state does not know the model's scribbles ===== -/
theorem hoT_cg {R R' : mR} (e : ∀ f, f ∉ [0, 32, 33, 34] → R' f = R f) (s : Nat) (h : Int32) : hoT R' s h = hoT R s h := by
  simp only [hoT, rgF, rgL, e 7 (by decide), e 8 (by decide), e 9 (by decide), e 10 (by decide)]
theorem hoI_cg {R R' : mR} (e : ∀ f, f ∉ [0, 32, 33, 34] → R' f = R f) (s : Nat) (h : Int32) : hoI R' s h = hoI R s h := by
  rw [hoI, hoI, decide_eq_decide, hoT_cg e, e 7 (by decide)]
theorem tell_cg {R R' : mR} (e : ∀ f, f ∉ [0, 32, 33, 34] → R' f = R f) (p w : Nat) : tell R' p w = tell R p w := by
  simp only [tell, tlS, tlM, nS, hoT_cg e, hoI_cg e, e 1 (by decide), e 2 (by decide), e 3 (by decide), e 17 (by decide), e 18 (by decide), e 30 (by decide), e 31 (by decide)]
theorem RepC.cg {R R' : mR} {ad : mAd} {M : ma_H} (e : ∀ f, f ∉ [0, 32, 33, 34] → R' f = R f) (h : RepC R ad M) : RepC R' ad M := by
  have hl : ∀ k i j, lv R' k i j → lv R k i j := fun k i j z => lv_cg (e 1 (by decide)) (e 16 (by decide)) (e 21 (by decide)) (e 7 (by decide)) z
  refine h.upd (fun _ _ _ => False) hl (fun _ _ _ _ _ => rfl) (fun k i j hv _ c hc => ?_) (fun _ _ _ _ z => z.elim)
  by_cases hk : k = 16
  · subst hk
    obtain ⟨f, h1, h2⟩ := hc
    refine ⟨f, h1, fun hi w hw => ?_⟩
    have hi' : i < nF R := by rw [nF, ← e 28 (by decide)]; exact hi
    rw [h2 hi' w hw]
    rw [e 29 (by decide), tell_cg e]
  · refine okC_cg hk (lv_le hv) (fun f hf => e f ?_) hc
    have : ∀ k, k ≤ 26 → ∀ f ∈ okD k, f ∉ [0, 32, 33, 34] := by decide
    exact this k (lv_le hv) f hf
theorem foot_cg {R R' : mR} {ad : mAd} (e : ∀ f, f ∉ [0, 32, 33, 34] → R' f = R f) {q : Nat} (h : foot R' ad q) : foot R ad q := by
  obtain ⟨k, i, j, hv, ha⟩ := h
  exact ⟨k, i, j, lv_cg (e 1 (by decide)) (e 16 (by decide)) (e 21 (by decide)) (e 7 (by decide)) hv, ha⟩
theorem RepC.fn {R : mR} {ad : mAd} {M : ma_H} (h : RepC R ad M) {q : Nat} (hq : foot R ad q) : M q ≠ none := by
  obtain ⟨k, i, j, hv, rfl⟩ := hq
  exact h.ne0 hv
theorem RepC.keep {R : mR} {ad : mAd} {M M' : ma_H} (h : RepC R ad M) (hk : ∀ q, foot R ad q → M' q = M q) : RepC R ad M' := h.kept (fun k i j hv => hk _ ⟨k, i, j, hv, rfl⟩)
/-- a cell of the model -/
def isM (m : Nat) (mr : Nat → Nat) (q : Nat) : Prop := q = m ∨ ∃ k, mln k ≠ 0 ∧ q = mr k
theorem RepM.fn {R : mR} {m : Nat} {mr : Nat → Nat} {M : ma_H} (h : RepM R m mr M) {q : Nat} (hq : isM m mr q) : M q ≠ none := by
  rcases hq with rfl | ⟨k, hk, rfl⟩
  · rw [h.1]; simp
  · rw [h.2.1 k hk]; simp
theorem RepM.keep {R : mR} {m : Nat} {mr : Nat → Nat} {M M' : ma_H} (h : RepM R m mr M) (hk : ∀ q, isM m mr q → M' q = M q) : RepM R m mr M' := h.kept (hk m (Or.inl rfl)) (fun k hk9 => hk _ (Or.inr ⟨k, hk9, rfl⟩))
/-- where the law stands between two calls -/
def LI (G : ma_G) (R : mR) (ad : mAd) (xa m : Nat) (mr : Nat → Nat) (o : Nat) (M : ma_H) : Prop :=
  WfS R ∧ RepC R ad M ∧ RepM R m mr M ∧ ad 0 0 0 = xa ∧ (∃ ov : Int64, M o = some (.inr (.long, [.long ov]))) ∧ (∀ q, foot R ad q → ma_Wr G q ∧ ¬ isM m mr q ∧ q ≠ o) ∧ (∀ q, isM m mr q → ma_Wr G q ∧ q ≠ o) ∧ ma_Wr G o
/-- the class has been called: its state is R1 at ad1 then -/
theorem LI.cls {G : ma_G} {R R1 : mR} {ad ad1 : mAd} {xa m : Nat} {mr : Nat → Nat} {o : Nat} {M M1 : ma_H} (h : LI G R ad xa m mr o M) (hk : ∀ q : Nat, M q ≠ none → ¬ (foot R ad q ∨ q = o) → M1 q = M q) (hn : ∀ q : Nat, M q = none → M1 q ≠ none → ma_Wr G q) (hR : RepC R1 ad1 M1) (hf : ∀ q, foot R1 ad1 q → foot R ad q ∨ M q = none) : RepM R m mr M1 ∧ ∀ q, foot R1 ad1 q → ma_Wr G q ∧ ¬ isM m mr q ∧ q ≠ o := by
  obtain ⟨hw, hc, hm, ha, ⟨ov, ho⟩, h1, h2, h3⟩ := h
  refine ⟨hm.keep (fun q hq => hk q (hm.fn hq) (fun z => z.elim (fun y => (h1 q y).2.1 hq) (h2 q hq).2)), fun q hq => ?_⟩
  rcases hf q hq with z | z
  · exact h1 q z
  · exact ⟨hn q z (hR.fn hq), fun y => hm.fn y z, fun y => by rw [y, ho] at z; cases z⟩
/-- the model has been called: the state of both is R2 then -/
theorem LI.mod {G : ma_G} {R1 R2 : mR} {ad1 : mAd} {xa m : Nat} {mr : Nat → Nat} {o : Nat} {M1 M2 : ma_H} {ov : Int64} (hw : WfS R2) (hc : RepC R1 ad1 M1) (hm : RepM R2 m mr M2) (ha : ad1 0 0 0 = xa) (ho : M1 o = some (.inr (.long, [.long ov]))) (h1 : ∀ q, foot R1 ad1 q → ma_Wr G q ∧ ¬ isM m mr q ∧ q ≠ o) (h2 : ∀ q, isM m mr q → ma_Wr G q ∧ q ≠ o) (h3 : ma_Wr G o) (e : ∀ f, f ∉ [0, 32, 33, 34] → R2 f = R1 f) (hk : ∀ q : Nat, M1 q ≠ none → ¬ isM m mr q → M2 q = M1 q) : LI G R2 ad1 xa m mr o M2 ∧ M2 o = some (.inr (.long, [.long ov])) := by
  have ho2 : M2 o = some (.inr (.long, [.long ov])) := (hk o (by rw [ho]; simp) (fun z => (h2 o z).2 rfl)).trans ho
  refine ⟨⟨hw, (hc.keep (fun q hq => hk q (hc.fn hq) (h1 q hq).2.1)).cg e, hm, ha, ⟨ov, ho2⟩, fun q hq => h1 q (foot_cg e hq), h2, h3⟩, ho2⟩
theorem e_0 {R : mR} (f : mR → mR) (v : Int32) (h : ∀ k, k ≠ 0 → f (uR R 0 0 v) k = f R k) : ∀ k, k ∉ [0, 32, 33, 34] → f (uR R 0 0 v) k = f R k := fun k hk => h k (fun z => hk (by rw [z]; decide))
/-! ===== the script ===== -/
def ma_X9 (G : ma_G) (b N : Nat) (f : Nat → Int32) : Prop := match G with
  | (_, _, _, _, _, _, s, _, _, _, _, _, _, _, Wr) => va_X b N f s s.heap ∧ b < s.heap.size ∧ ¬ ma_A0 Wr s.heap.size b
section
variable {G : ma_G} {cc : ByteArray} {own : String} {nL fr mc ms lo k n : Nat} {M : ma_H} {pc : Nat} {L : List (Option Value)} {st : List Value}
theorem m_xld {b N e9 : Nat} {f : Nat → Int32} (C : ma_C G cc nL own fr mc ms lo) (d : decode cc pc = .ok (.iaload, 1)) (hX : ma_X9 G b N f) (he : e9 < N) (hN : N < 2 ^ 31) (kk : mj G nL k n M (pc + 1) L (.int (f e9) :: st)) : mj G nL k n M pc L (.int (nI e9) :: .ref b :: st) := by
  obtain ⟨D, s0, p, l', e, R, s, m, args, below, meth, c, Q, M0, Wr⟩ := G
  obtain ⟨hx, hb, hml, hown, hlk, hR, hB, hK, hA1, h0⟩ := C
  intro H locs ls h1 h2 h3 h4
  refine va_sld hx hb hX.1 hX.2.1 hX.2.2 h3 (vp_in_nI he hN) d ?_
  rw [nI_clamp (by omega)]
  exact kk H locs ls h1 h2 h3 h4
theorem m_xlen {b N : Nat} {f : Nat → Int32} (C : ma_C G cc nL own fr mc ms lo) (d : decode cc pc = .ok (.arraylength, 1)) (hX : ma_X9 G b N f) (kk : mj G nL k n M (pc + 1) L (.int (nI N) :: st)) : mj G nL k n M pc L (.ref b :: st) := by
  obtain ⟨D, s0, p, l', e, R, s, m, args, below, meth, c, Q, M0, Wr⟩ := G
  obtain ⟨hx, hb, hml, hown, hlk, hR, hB, hK, hA1, h0⟩ := C
  exact fun H locs ls h1 h2 h3 h4 => va_slen hx hb hX.1 hX.2.1 hX.2.2 h3 d (kk H locs ls h1 h2 h3 h4)
end
