section
-- ===== PART A: goes FIRST, ahead of the names: the tables' words, and 'selects' of the private methods out of them =====
/-- a private method of a class that the tables say can be made, by its rows of tables_1 -/
def lw_okq (q : MethodName × Nat) : Prop := (q.1.cls ≠ "java/lang/invoke/MethodHandle" ∧ q.1.cls ≠ "java/lang/invoke/VarHandle") ∧ Cond.instantiable q.1.cls q.2 ∈ tables_1 ∧ Cond.privateMethod q.1 ∈ tables_1 ∧ Cond.instanceMethod q.1 ∈ tables_1
theorem lw_p0 : lw_okq (⟨"AddressWords", "sharesName", "(I)Z"⟩, 11) := ⟨⟨by decide +kernel, by decide +kernel⟩, List.mem_of_getElem? (i := 21) (by decide +kernel), List.mem_of_getElem? (i := 176) (by decide +kernel), List.mem_of_getElem? (i := 177) (by decide +kernel)⟩
theorem lw_p1 : lw_okq (⟨"AddressWords$Street", "hasName", "(LAddressWords$Name;)Z"⟩, 11) := ⟨⟨by decide +kernel, by decide +kernel⟩, List.mem_of_getElem? (i := 186) (by decide +kernel), List.mem_of_getElem? (i := 184) (by decide +kernel), List.mem_of_getElem? (i := 185) (by decide +kernel)⟩
theorem lw_p2 : lw_okq (⟨"java/lang/Throwable", "fillInStackTrace", "(I)Ljava/lang/Throwable;"⟩, 6) := ⟨⟨by decide +kernel, by decide +kernel⟩, List.mem_of_getElem? (i := 245) (by decide +kernel), List.mem_of_getElem? (i := 243) (by decide +kernel), List.mem_of_getElem? (i := 244) (by decide +kernel)⟩
theorem lw_p3 : lw_okq (⟨"AddressWords", "forgetPlaces", "()V"⟩, 11) := ⟨⟨by decide +kernel, by decide +kernel⟩, List.mem_of_getElem? (i := 21) (by decide +kernel), List.mem_of_getElem? (i := 358) (by decide +kernel), List.mem_of_getElem? (i := 359) (by decide +kernel)⟩
theorem lw_p4 : lw_okq (⟨"AddressWords", "knownStreet", "(I)LAddressWords$Street;"⟩, 11) := ⟨⟨by decide +kernel, by decide +kernel⟩, List.mem_of_getElem? (i := 21) (by decide +kernel), List.mem_of_getElem? (i := 370) (by decide +kernel), List.mem_of_getElem? (i := 371) (by decide +kernel)⟩
theorem lw_p5 : lw_okq (⟨"AddressWords", "hasLandmarkNamed", "(LAddressWords$Name;)Z"⟩, 11) := ⟨⟨by decide +kernel, by decide +kernel⟩, List.mem_of_getElem? (i := 21) (by decide +kernel), List.mem_of_getElem? (i := 541) (by decide +kernel), List.mem_of_getElem? (i := 542) (by decide +kernel)⟩
theorem lw_p6 : lw_okq (⟨"AddressWords", "metresOfCorner", "(II)I"⟩, 11) := ⟨⟨by decide +kernel, by decide +kernel⟩, List.mem_of_getElem? (i := 21) (by decide +kernel), List.mem_of_getElem? (i := 560) (by decide +kernel), List.mem_of_getElem? (i := 561) (by decide +kernel)⟩
theorem lw_p7 : lw_okq (⟨"AddressWords$Said", "takeLetter", "(I)V"⟩, 8) := ⟨⟨by decide +kernel, by decide +kernel⟩, List.mem_of_getElem? (i := 35) (by decide +kernel), List.mem_of_getElem? (i := 660) (by decide +kernel), List.mem_of_getElem? (i := 661) (by decide +kernel)⟩
theorem lw_p8 : lw_okq (⟨"AddressWords$Said", "takeDigit", "(I)V"⟩, 8) := ⟨⟨by decide +kernel, by decide +kernel⟩, List.mem_of_getElem? (i := 35) (by decide +kernel), List.mem_of_getElem? (i := 665) (by decide +kernel), List.mem_of_getElem? (i := 666) (by decide +kernel)⟩
theorem lw_p9 : lw_okq (⟨"AddressWords", "rank", "(I)V"⟩, 11) := ⟨⟨by decide +kernel, by decide +kernel⟩, List.mem_of_getElem? (i := 21) (by decide +kernel), List.mem_of_getElem? (i := 669) (by decide +kernel), List.mem_of_getElem? (i := 670) (by decide +kernel)⟩
theorem lw_p10 : lw_okq (⟨"AddressWords", "distanceOfStreet", "(LAddressWords$Street;)I"⟩, 11) := ⟨⟨by decide +kernel, by decide +kernel⟩, List.mem_of_getElem? (i := 21) (by decide +kernel), List.mem_of_getElem? (i := 677) (by decide +kernel), List.mem_of_getElem? (i := 678) (by decide +kernel)⟩
theorem lw_p11 : lw_okq (⟨"AddressWords", "nearerDistance", "(LAddressWords$Name;I)I"⟩, 11) := ⟨⟨by decide +kernel, by decide +kernel⟩, List.mem_of_getElem? (i := 21) (by decide +kernel), List.mem_of_getElem? (i := 681) (by decide +kernel), List.mem_of_getElem? (i := 682) (by decide +kernel)⟩
theorem lw_p12 : lw_okq (⟨"AddressWords$Edits", "turnRows", "()V"⟩, 3) := ⟨⟨by decide +kernel, by decide +kernel⟩, List.mem_of_getElem? (i := 74) (by decide +kernel), List.mem_of_getElem? (i := 692) (by decide +kernel), List.mem_of_getElem? (i := 693) (by decide +kernel)⟩
theorem lw_p13 : lw_okq (⟨"AddressWords$Edits", "fillRow", "(ICCLAddressWords$Name;)V"⟩, 3) := ⟨⟨by decide +kernel, by decide +kernel⟩, List.mem_of_getElem? (i := 74) (by decide +kernel), List.mem_of_getElem? (i := 696) (by decide +kernel), List.mem_of_getElem? (i := 697) (by decide +kernel)⟩
theorem lw_p14 : lw_okq (⟨"AddressWords", "tellCandidate", "(LAddressWords$Place;II)V"⟩, 11) := ⟨⟨by decide +kernel, by decide +kernel⟩, List.mem_of_getElem? (i := 21) (by decide +kernel), List.mem_of_getElem? (i := 708) (by decide +kernel), List.mem_of_getElem? (i := 709) (by decide +kernel)⟩
theorem lw_p15 : lw_okq (⟨"AddressWords", "tellLandmark", "(LAddressWords$Place;I)V"⟩, 11) := ⟨⟨by decide +kernel, by decide +kernel⟩, List.mem_of_getElem? (i := 21) (by decide +kernel), List.mem_of_getElem? (i := 712) (by decide +kernel), List.mem_of_getElem? (i := 713) (by decide +kernel)⟩
def lw_privs_1 : List (MethodName × Nat) := [(⟨"AddressWords", "sharesName", "(I)Z"⟩, 11), (⟨"AddressWords$Street", "hasName", "(LAddressWords$Name;)Z"⟩, 11), (⟨"java/lang/Throwable", "fillInStackTrace", "(I)Ljava/lang/Throwable;"⟩, 6), (⟨"AddressWords", "forgetPlaces", "()V"⟩, 11), (⟨"AddressWords", "knownStreet", "(I)LAddressWords$Street;"⟩, 11), (⟨"AddressWords", "hasLandmarkNamed", "(LAddressWords$Name;)Z"⟩, 11), (⟨"AddressWords", "metresOfCorner", "(II)I"⟩, 11), (⟨"AddressWords$Said", "takeLetter", "(I)V"⟩, 8), (⟨"AddressWords$Said", "takeDigit", "(I)V"⟩, 8), (⟨"AddressWords", "rank", "(I)V"⟩, 11), (⟨"AddressWords", "distanceOfStreet", "(LAddressWords$Street;)I"⟩, 11), (⟨"AddressWords", "nearerDistance", "(LAddressWords$Name;I)I"⟩, 11), (⟨"AddressWords$Edits", "turnRows", "()V"⟩, 3), (⟨"AddressWords$Edits", "fillRow", "(ICCLAddressWords$Name;)V"⟩, 3), (⟨"AddressWords", "tellCandidate", "(LAddressWords$Place;II)V"⟩, 11), (⟨"AddressWords", "tellLandmark", "(LAddressWords$Place;I)V"⟩, 11)]
theorem lw_r1 : ∀ q ∈ lw_privs_1, lw_okq q := List.forall_mem_cons.mpr ⟨lw_p0, List.forall_mem_cons.mpr ⟨lw_p1, List.forall_mem_cons.mpr ⟨lw_p2, List.forall_mem_cons.mpr ⟨lw_p3, List.forall_mem_cons.mpr ⟨lw_p4, List.forall_mem_cons.mpr ⟨lw_p5, List.forall_mem_cons.mpr ⟨lw_p6, List.forall_mem_cons.mpr ⟨lw_p7, List.forall_mem_cons.mpr ⟨lw_p8, List.forall_mem_cons.mpr ⟨lw_p9, List.forall_mem_cons.mpr ⟨lw_p10, List.forall_mem_cons.mpr ⟨lw_p11, List.forall_mem_cons.mpr ⟨lw_p12, List.forall_mem_cons.mpr ⟨lw_p13, List.forall_mem_cons.mpr ⟨lw_p14, List.forall_mem_cons.mpr ⟨lw_p15, fun _ h => absurd h List.not_mem_nil⟩⟩⟩⟩⟩⟩⟩⟩⟩⟩⟩⟩⟩⟩⟩⟩
theorem lw_p16 : lw_okq (⟨"AddressWords", "tellWhere", "(LAddressWords$Place;II)V"⟩, 11) := ⟨⟨by decide +kernel, by decide +kernel⟩, List.mem_of_getElem? (i := 21) (by decide +kernel), List.mem_of_getElem? (i := 716) (by decide +kernel), List.mem_of_getElem? (i := 717) (by decide +kernel)⟩
theorem lw_p17 : lw_okq (⟨"AddressWords", "tellStreet", "(LAddressWords$Place;I)V"⟩, 11) := ⟨⟨by decide +kernel, by decide +kernel⟩, List.mem_of_getElem? (i := 21) (by decide +kernel), List.mem_of_getElem? (i := 720) (by decide +kernel), List.mem_of_getElem? (i := 721) (by decide +kernel)⟩
theorem lw_p18 : lw_okq (⟨"AddressWordsModel", "goes", "(IZZZZ)Z"⟩, 35) := ⟨⟨by decide +kernel, by decide +kernel⟩, List.mem_of_getElem? (i := 750) (by decide +kernel), List.mem_of_getElem? (i := 874) (by decide +kernel), List.mem_of_getElem? (i := 875) (by decide +kernel)⟩
theorem lw_p19 : lw_okq (⟨"AddressWordsModel", "isStreet", "(I)Z"⟩, 35) := ⟨⟨by decide +kernel, by decide +kernel⟩, List.mem_of_getElem? (i := 750) (by decide +kernel), List.mem_of_getElem? (i := 882) (by decide +kernel), List.mem_of_getElem? (i := 883) (by decide +kernel)⟩
theorem lw_p20 : lw_okq (⟨"AddressWordsModel", "hasMark", "(JI)Z"⟩, 35) := ⟨⟨by decide +kernel, by decide +kernel⟩, List.mem_of_getElem? (i := 750) (by decide +kernel), List.mem_of_getElem? (i := 919) (by decide +kernel), List.mem_of_getElem? (i := 920) (by decide +kernel)⟩
theorem lw_p21 : lw_okq (⟨"AddressWordsModel", "cornerOf", "(II)I"⟩, 35) := ⟨⟨by decide +kernel, by decide +kernel⟩, List.mem_of_getElem? (i := 750) (by decide +kernel), List.mem_of_getElem? (i := 927) (by decide +kernel), List.mem_of_getElem? (i := 928) (by decide +kernel)⟩
theorem lw_p22 : lw_okq (⟨"AddressWordsModel", "houseSaid", "()I"⟩, 35) := ⟨⟨by decide +kernel, by decide +kernel⟩, List.mem_of_getElem? (i := 750) (by decide +kernel), List.mem_of_getElem? (i := 958) (by decide +kernel), List.mem_of_getElem? (i := 959) (by decide +kernel)⟩
theorem lw_p23 : lw_okq (⟨"AddressWordsModel", "apartStreet", "(I)I"⟩, 35) := ⟨⟨by decide +kernel, by decide +kernel⟩, List.mem_of_getElem? (i := 750) (by decide +kernel), List.mem_of_getElem? (i := 962) (by decide +kernel), List.mem_of_getElem? (i := 963) (by decide +kernel)⟩
theorem lw_p24 : lw_okq (⟨"AddressWordsModel", "nearest", "(I)I"⟩, 35) := ⟨⟨by decide +kernel, by decide +kernel⟩, List.mem_of_getElem? (i := 750) (by decide +kernel), List.mem_of_getElem? (i := 966) (by decide +kernel), List.mem_of_getElem? (i := 967) (by decide +kernel)⟩
theorem lw_p25 : lw_okq (⟨"AddressWordsModel", "distance", "(II)I"⟩, 35) := ⟨⟨by decide +kernel, by decide +kernel⟩, List.mem_of_getElem? (i := 750) (by decide +kernel), List.mem_of_getElem? (i := 970) (by decide +kernel), List.mem_of_getElem? (i := 971) (by decide +kernel)⟩
theorem lw_p26 : lw_okq (⟨"AddressWordsModel", "apartMark", "(I)I"⟩, 35) := ⟨⟨by decide +kernel, by decide +kernel⟩, List.mem_of_getElem? (i := 750) (by decide +kernel), List.mem_of_getElem? (i := 977) (by decide +kernel), List.mem_of_getElem? (i := 978) (by decide +kernel)⟩
theorem lw_p27 : lw_okq (⟨"AddressWordsModel", "isFound", "(I)Z"⟩, 35) := ⟨⟨by decide +kernel, by decide +kernel⟩, List.mem_of_getElem? (i := 750) (by decide +kernel), List.mem_of_getElem? (i := 981) (by decide +kernel), List.mem_of_getElem? (i := 982) (by decide +kernel)⟩
theorem lw_p28 : lw_okq (⟨"AddressWordsModel", "reason", "(I)I"⟩, 35) := ⟨⟨by decide +kernel, by decide +kernel⟩, List.mem_of_getElem? (i := 750) (by decide +kernel), List.mem_of_getElem? (i := 989) (by decide +kernel), List.mem_of_getElem? (i := 990) (by decide +kernel)⟩
theorem lw_p29 : lw_okq (⟨"AddressWordsModel", "isHouse", "(II)Z"⟩, 35) := ⟨⟨by decide +kernel, by decide +kernel⟩, List.mem_of_getElem? (i := 750) (by decide +kernel), List.mem_of_getElem? (i := 993) (by decide +kernel), List.mem_of_getElem? (i := 994) (by decide +kernel)⟩
theorem lw_p30 : lw_okq (⟨"AddressWordsModel", "nearestHouse", "(II)I"⟩, 35) := ⟨⟨by decide +kernel, by decide +kernel⟩, List.mem_of_getElem? (i := 750) (by decide +kernel), List.mem_of_getElem? (i := 997) (by decide +kernel), List.mem_of_getElem? (i := 998) (by decide +kernel)⟩
theorem lw_p31 : lw_okq (⟨"AddressWordsModel", "share", "(II)Z"⟩, 35) := ⟨⟨by decide +kernel, by decide +kernel⟩, List.mem_of_getElem? (i := 750) (by decide +kernel), List.mem_of_getElem? (i := 1005) (by decide +kernel), List.mem_of_getElem? (i := 1006) (by decide +kernel)⟩
def lw_privs_2 : List (MethodName × Nat) := [(⟨"AddressWords", "tellWhere", "(LAddressWords$Place;II)V"⟩, 11), (⟨"AddressWords", "tellStreet", "(LAddressWords$Place;I)V"⟩, 11), (⟨"AddressWordsModel", "goes", "(IZZZZ)Z"⟩, 35), (⟨"AddressWordsModel", "isStreet", "(I)Z"⟩, 35), (⟨"AddressWordsModel", "hasMark", "(JI)Z"⟩, 35), (⟨"AddressWordsModel", "cornerOf", "(II)I"⟩, 35), (⟨"AddressWordsModel", "houseSaid", "()I"⟩, 35), (⟨"AddressWordsModel", "apartStreet", "(I)I"⟩, 35), (⟨"AddressWordsModel", "nearest", "(I)I"⟩, 35), (⟨"AddressWordsModel", "distance", "(II)I"⟩, 35), (⟨"AddressWordsModel", "apartMark", "(I)I"⟩, 35), (⟨"AddressWordsModel", "isFound", "(I)Z"⟩, 35), (⟨"AddressWordsModel", "reason", "(I)I"⟩, 35), (⟨"AddressWordsModel", "isHouse", "(II)Z"⟩, 35), (⟨"AddressWordsModel", "nearestHouse", "(II)I"⟩, 35), (⟨"AddressWordsModel", "share", "(II)Z"⟩, 35)]
theorem lw_r2 : ∀ q ∈ lw_privs_2, lw_okq q := List.forall_mem_cons.mpr ⟨lw_p16, List.forall_mem_cons.mpr ⟨lw_p17, List.forall_mem_cons.mpr ⟨lw_p18, List.forall_mem_cons.mpr ⟨lw_p19, List.forall_mem_cons.mpr ⟨lw_p20, List.forall_mem_cons.mpr ⟨lw_p21, List.forall_mem_cons.mpr ⟨lw_p22, List.forall_mem_cons.mpr ⟨lw_p23, List.forall_mem_cons.mpr ⟨lw_p24, List.forall_mem_cons.mpr ⟨lw_p25, List.forall_mem_cons.mpr ⟨lw_p26, List.forall_mem_cons.mpr ⟨lw_p27, List.forall_mem_cons.mpr ⟨lw_p28, List.forall_mem_cons.mpr ⟨lw_p29, List.forall_mem_cons.mpr ⟨lw_p30, List.forall_mem_cons.mpr ⟨lw_p31, fun _ h => absurd h List.not_mem_nil⟩⟩⟩⟩⟩⟩⟩⟩⟩⟩⟩⟩⟩⟩⟩⟩
theorem lw_p32 : lw_okq (⟨"AddressWordsModel", "isSame", "(II)Z"⟩, 35) := ⟨⟨by decide +kernel, by decide +kernel⟩, List.mem_of_getElem? (i := 750) (by decide +kernel), List.mem_of_getElem? (i := 1009) (by decide +kernel), List.mem_of_getElem? (i := 1010) (by decide +kernel)⟩
def lw_privs_3 : List (MethodName × Nat) := [(⟨"AddressWordsModel", "isSame", "(II)Z"⟩, 35)]
theorem lw_r3 : ∀ q ∈ lw_privs_3, lw_okq q := List.forall_mem_cons.mpr ⟨lw_p32, fun _ h => absurd h List.not_mem_nil⟩
def lw_privs : List (MethodName × Nat) := lw_privs_1 ++ (lw_privs_2 ++ (lw_privs_3))
def lw_tbl : List Cond := k2_sels lw_privs ++ tables_1
theorem lw_privs_ok : ∀ q ∈ lw_privs, lw_okq q := by
  show ∀ q ∈ lw_privs_1 ++ (lw_privs_2 ++ (lw_privs_3)), lw_okq q
  exact List.forall_mem_append.mpr ⟨lw_r1, List.forall_mem_append.mpr ⟨lw_r2, lw_r3⟩⟩
end
section
/-! ===== BEGIN words of one list among another's, by their places ===== -/
theorem goodIn_r {big : List Cond} (ws : List Cond) (ps : List Nat) (hp : ws = ps.filterMap (fun i => big[i]?)) (h : ws.all goodWord = true) : GoodIn big ws := by
  intro w hw
  have h1 := List.all_eq_true.mp h w hw
  rw [hp] at hw
  obtain ⟨i, -, hi⟩ := List.mem_filterMap.mp hw
  have hm : w ∈ big := by first | exact List.mem_of_getElem? hi | exact List.getElem?_mem hi
  exact ⟨hm, good_of_word h1⟩
theorem goodIn_app {big a b : List Cond} (ha : GoodIn big a) (hb : GoodIn big b) : GoodIn big (a ++ b) := fun w h => (List.mem_append.mp h).elim (ha w) (hb w)
theorem goodIn_ca {big a b : List Cond} {c : Cond} (ha : GoodIn big (c :: a)) (hb : GoodIn big b) : GoodIn big (c :: (a ++ b)) := fun w h => (List.mem_cons.mp h).elim (fun e => ha w (List.mem_cons.mpr (Or.inl e))) (fun h => (List.mem_append.mp h).elim (fun h => ha w (List.mem_cons.mpr (Or.inr h))) (hb w))
theorem goodIn_sub {big ws : List Cond} (hm : ∀ w ∈ ws, w ∈ big) (h : ws.all goodWord = true) : GoodIn big ws := fun w hw => ⟨hm w hw, good_of_word (List.all_eq_true.mp h w hw)⟩
/-! ===== END ===== -/

/-! ===== BEGIN exceptions that leave a method, and their catching by the caller (launches without stack traces) ===== -/
section VXA
/-! The laws vx_back, vx_callV, vx_callS, vx_callSW, vx_throw0, vx_throwS follow proofs of the library, with one case more: JvmDerived/Free/Laws.lean (Back.of_free), Shelf42/LK1.lean (callV, callS), Shelf/KitTraced.lean (throwNew0V, throwNewS). -/
/-- where a method has thrown q: the class by its name, the cell, what was written, the world -/
def vx_T (XC : String → State → State → Prop) (st : State) (q : Addr) (t : State) (mc ms : Nat) (free : Addr → Prop) : Prop :=
  ∃ (E : String) (ce : Cell) (L : List Loc), XC E st t ∧ t.heap[q]? = some ce ∧ ce.vm = .none ∧ st.vm.findClass E = some ce.cls ∧ st.WarmedH t.vm ∧ st.sameButNew ({ t with vm := st.vm } : State) L mc ms ∧ ∀ z ∈ L, free z.base
def vx_Q (Qc : Array Value → State → Outcome → State → Prop) (XC : String → State → State → Prop) (mc ms : Nat) (free : Addr → Prop) : Array Value → State → Outcome → State → Prop := fun a st o t =>
  (Qc a st o t ∧ ∃ L, FrameEnd st o t L mc ms ∧ ∀ q ∈ L, free q.base) ∨ ∃ q, o = .threw q ∧ vx_T XC st q t mc ms free
/-- a callee that returns or throws -/
def vx_Met (l : Launch) (y : MethodName) (ws : List Cond) (rm : Room) (Pc : Array Value → State → Prop) (Qc : Array Value → State → Outcome → State → Prop) (XC : String → State → State → Prop) (mc ms : Nat) (free : Addr → Prop) : Prop :=
  MetFree l y (headSpec ws rm) Pc (fun _ _ _ _ _ => True) (vx_Q Qc XC mc ms free)
def vx_Post (XC : String → State → State → Prop) (mc ms : Nat) (free : Addr → Prop) : Pt → Array Value → Addr → Pt → Prop := fun A a q B =>
  ∃ (g : JFrame) (mk : MethodId) (t : State) (L : List Loc) (E : String) (ce : Cell), B.U.heap = t.heap ∧ B.U.vm = t.vm ∧ XC E (A.U.calling g mk a) t ∧ t.heap[q]? = some ce ∧ ce.vm = .none ∧ A.U.vm.findClass E = some ce.cls ∧ B.locs = A.locs ++ L ∧ (∀ z ∈ L, free z.base) ∧ B.cells = A.cells + mc ∧ B.slots = A.slots + ms
def vx_Back (l : Launch) (R : Room) (p : Program) (e : Env) (below : List Frame) (s : State) (sargs : Array Value) (y : MethodName) (len W9 : Nat)
    (Pre : Pt → Array Value → Prop) (Post : Pt → Array Value → Option Value → Pt → Prop) (PostX : Pt → Array Value → Addr → Pt → Prop) : Prop :=
  ∀ (m : MethodId) (meth : Method) (c : Code) (A : Pt) (g : JFrame) (ig : Instr) (mk : MethodId) (a : Array Value),
    Stand p l e R s m sargs below meth c A.U A.locs A.cells A.slots → g.method = m → g.locals.size = c.maxLocals → decode c.code g.pc = .ok (ig, len) →
    2 * g.monitorRoom + (g.stack.map fun v => v.category).sum ≤ W9 → A.U.methodNamed? y = some mk → Pre A a →
    (∃ (v : Option Value) (B : Pt), Stand p l e R s m sargs below meth c B.U B.locs B.cells B.slots ∧ Post A a v B ∧
      Steps p.tables e below (doInvoke e (A.U.setTop g) [] mk a).1 (B.U.setTop { g with pc := g.pc + len, stack := v.toList ++ g.stack })) ∨
    (∃ (q : Addr) (B : Pt), Stand p l e R s m sargs below meth c B.U B.locs B.cells B.slots ∧ PostX A a q B ∧
      Steps p.tables e below (doInvoke e (A.U.setTop g) [] mk a).1 ((B.U.setTop g).pushFrame (.throwing q)))
section Payer
variable {l : Launch} {R : Room} {p : Program} {e : Env} {below : List Frame} {s : State} {sargs : Array Value} {y : MethodName} {len W9 : Nat}
theorem vx_back {ws : List Cond} {rm : Room} {Pc : Array Value → State → Prop} {Qc : Array Value → State → Outcome → State → Prop} {XC : String → State → State → Prop} {mc ms : Nat} {free : Addr → Prop} {bytes : ByteArray} {maxL : Nat} {ret : Option FieldType}
    (hM : vx_Met l y ws rm Pc Qc XC mc ms free) (hblind : FrameBlind Pc) (hrc : rm.cells = mc) (hrs : rm.slots = ms)
    (hframes : rm.frames + 1 ≤ R.frames) (hlocals : W9 + (maxL + 11) + rm.locals ≤ R.locals)
    (hws : ∀ w ∈ ws, ∀ a' U, s.WarmedH U.vm → w.before a' U = true) (hcode : Cond.code y bytes maxL ret ∈ ws) (hinit : ∀ a' U, s.WarmedH U.vm → (Cond.initialized y.cls).before a' U = true) :
    vx_Back l R p e below s sargs y len W9 (PreOf R mc ms Pc) (PostOf Qc mc ms free) (vx_Post XC mc ms free) := by
  intro m meth c A g ig mk a X hg hsize hdg hW hn hp
  have h1 : (headSpec ws rm).pre.before a A.U = true := atoms_intro fun w hw => hws w hw _ _ X.warmed
  have h2 : (Cond.code y bytes maxL ret).before a A.U = true := hws _ hcode _ _ X.warmed
  have h3 : (Cond.initialized y.cls).before a A.U = true := hinit _ _ X.warmed
  have h4 : A.cells + (headSpec ws rm).room.cells ≤ R.cells := by rw [show (headSpec ws rm).room.cells = mc from hrc]; exact hp.1
  have h5 : A.slots + (headSpec ws rm).room.slots ≤ R.slots := by rw [show (headSpec ws rm).room.slots = ms from hrs]; exact hp.2.1
  have hPc : Pc a (A.U.calling g mk a) := hblind _ _ _ _ hp.2.2
  obtain ⟨U, Ls, c0, s0⟩ := A
  dsimp only [Pt.U, Pt.locs, Pt.cells, Pt.slots] at h1 h2 h3 h4 h5 X hn hPc ⊢
  obtain ⟨methY, cY, hmY, hcY, -, hlY, -, -, -, -⟩ := Cond.code_spec hn h2
  obtain ⟨kY, hkY, -⟩ := className_of_methodNamed hn
  have hinitY : kY.init = .initialized := Cond.initialized_spec (findClass_of_methodNamed hn) hkY h3
  have h : At U g.method c below := by rw [hg]; exact X.here
  have hlocals9 : W9 + (maxL + 11) + (headSpec ws rm).room.locals ≤ R.locals := hlocals
  have happ : (headSpec ws rm).appliesLoose y e.platform (U.calling g mk a) = true :=
    Spec.appliesLoose_calling (g := g) h hdg hn hkY hinitY
      (X.room_calling (g := g) (R' := (headSpec ws rm).room) hsize hmY hcY hframes (by rw [hlY]; omega) h4 h5) h1
  obtain ⟨mid, hmid⟩ := h.above
  have hfr : (U.setTop g).frames = (.java g :: mid) ++ below := by rw [State.frames_setTop' g h.top, hmid]; rfl
  obtain ⟨o, s₂, hsteps, -, hend, hq⟩ := Steps.callFree hM p X.admits X.cas X.clock (acts := []) hfr happ hPc trivial
  have hq' : vx_Q Qc XC mc ms free a (U.calling g mk a) o s₂ := hq
  rw [State.frames_setTop' g h.top] at hend
  obtain ⟨g₀, hg0⟩ := Option.isSome_iff_exists.mp h.top
  obtain ⟨r, hr⟩ := State.topJava?_eq_some.mp hg0
  have hr' : (({ U with heap := s₂.heap, slotsUsed := s₂.slotsUsed } : State).setVm s₂.vm).frames = .java g₀ :: r := hr
  rcases hq' with ⟨hqc, L, hfe, hL⟩ | ⟨q, rfl, E, ce, L, hx, hce, hcv, hcl, hW₂, hsm, hL⟩
  · obtain ⟨⟨v, rfl⟩, hW₂, e2, q2, q3, q4, q5, q6⟩ := id hfe
    have e3 : s₂ = ({ (U.calling g mk a).setFrames s₂.frames with heap := s₂.heap, slotsUsed := s₂.slotsUsed } : State).setVm s₂.vm := by
      have : s₂ = ({ s₂ with vm := (U.calling g mk a).vm } : State).setVm s₂.vm := rfl
      rw [e2] at this
      exact this
    obtain ⟨c₂, i₂, len₂, hc₂, hd₂, hf₂⟩ := hend
    have hW' : U.WarmedH s₂.vm := hW₂
    have hcc : c₂ = c := by
      have h1 : s₂.code? g.method = U.code? g.method := by
        rw [State.code?_eq, State.code?_eq, hW'.alike.method?]
      exact Option.some.inj (hc₂.symm.trans (h1.trans h.code))
    subst hcc
    have hlen : len₂ = len := by rw [hdg] at hd₂; cases hd₂; rfl
    subst hlen
    have hs₂ : s₂ = (({ U with heap := s₂.heap, slotsUsed := s₂.slotsUsed } : State).setVm s₂.vm).setTop { g with pc := g.pc + len₂, stack := v.toList ++ g.stack } := by
      refine e3.trans ?_
      rw [hf₂, State.calling_eq h.top, State.setFrames_setFrames, State.setTop_of_frames _ hr', hr]
      rfl
    have hsame : U.sameButNew ({ U with heap := s₂.heap, slotsUsed := s₂.slotsUsed } : State) L mc ms := by
      refine ⟨?_, q2, q3, q4, q5, q6⟩
      obtain ⟨t, ht, -⟩ := State.frames_cons hr
      show ({ U with heap := s₂.heap, slotsUsed := s₂.slotsUsed } : State) = { U.setFrames U.frames with heap := s₂.heap, slotsUsed := s₂.slotsUsed }
      rw [State.setFrames_self ht]
    subst hg
    refine Or.inl ⟨v, ⟨(({ U with heap := s₂.heap, slotsUsed := s₂.slotsUsed } : State).setVm s₂.vm), Ls ++ L, c0 + mc, s0 + ms⟩,
      ⟨X.admits, X.cas, X.clock, X.frames, X.room, X.hears, X.method, X.code, (X.here.setHeapUsed s₂.heap s₂.slotsUsed).setVm hW'.alike, X.tail, State.WarmedH.trans X.warmed hW', X.limits, X.bytes, X.same.trans (hsame.setVm s.vm)⟩,
      ⟨g, mk, s₂, L, rfl, rfl, hqc, rfl, hL, rfl, rfl⟩, ?_⟩
    show Steps p.tables e below _ ((({ U with heap := s₂.heap, slotsUsed := s₂.slotsUsed } : State).setVm s₂.vm).setTop { g with pc := g.pc + len₂, stack := v.toList ++ g.stack })
    rw [← hs₂]
    exact hsteps
  · obtain ⟨e2, q2, q3, q4, q5, q6⟩ := id hsm
    have e3 : s₂ = ({ (U.calling g mk a).setFrames s₂.frames with heap := s₂.heap, slotsUsed := s₂.slotsUsed } : State).setVm s₂.vm := by
      have : s₂ = ({ s₂ with vm := (U.calling g mk a).vm } : State).setVm s₂.vm := rfl
      rw [e2] at this
      exact this
    have hf₂ : s₂.frames = .throwing q :: .java g :: U.frames.tail := hend
    have hW' : U.WarmedH s₂.vm := hW₂
    have hs₂ : s₂ = ((({ U with heap := s₂.heap, slotsUsed := s₂.slotsUsed } : State).setVm s₂.vm).setTop g).pushFrame (.throwing q) := by
      refine e3.trans ?_
      rw [hf₂, State.calling_eq h.top, State.setFrames_setFrames, State.pushFrame, State.frames_setTop _ hr', State.setTop_of_frames _ hr', State.setFrames_setFrames, hr]
      rfl
    have hsame : U.sameButNew ({ U with heap := s₂.heap, slotsUsed := s₂.slotsUsed } : State) L mc ms := by
      refine ⟨?_, q2, q3, q4, q5, q6⟩
      obtain ⟨t, ht, -⟩ := State.frames_cons hr
      show ({ U with heap := s₂.heap, slotsUsed := s₂.slotsUsed } : State) = { U.setFrames U.frames with heap := s₂.heap, slotsUsed := s₂.slotsUsed }
      rw [State.setFrames_self ht]
    subst hg
    refine Or.inr ⟨q, ⟨(({ U with heap := s₂.heap, slotsUsed := s₂.slotsUsed } : State).setVm s₂.vm), Ls ++ L, c0 + mc, s0 + ms⟩,
      ⟨X.admits, X.cas, X.clock, X.frames, X.room, X.hears, X.method, X.code, (X.here.setHeapUsed s₂.heap s₂.slotsUsed).setVm hW'.alike, X.tail, State.WarmedH.trans X.warmed hW', X.limits, X.bytes, X.same.trans (hsame.setVm s.vm)⟩,
      ⟨g, mk, s₂, L, E, ce, rfl, rfl, hx, hce, hcv, hcl, rfl, hL, rfl, rfl⟩, ?_⟩
    show Steps p.tables e below _ (((({ U with heap := s₂.heap, slotsUsed := s₂.slotsUsed } : State).setVm s₂.vm).setTop g).pushFrame (.throwing q))
    rw [← hs₂]
    exact hsteps
end Payer
section Calls
variable {p : Program} {l : Launch} {e : Env} {R : Room} {s : State} {m : MethodId} {args : Array Value} {below : List Frame} {meth : Method} {c : Code} {T : State} {locs : List Loc} {cells slots : Nat}
theorem vx_callV (X : Stand p l e R s m args below meth c T locs cells slots) (hexec : p.tables.exec = Jvm.exec) {own C : String} {index : Nat} {y : MethodName} {bytes : ByteArray} {maxL : Nat} {ret : Option FieldType}
    (hown : s.vm.findClass own = some m.cls) (hlink : (Cond.methodLink own index y).before args s = true) (hinst : (Cond.instanceMethod y).before args s = true) (hsel : (Cond.selects C y y).before args s = true)
    (hcode : (Cond.code y bytes maxL ret).before args s = true) (hy : y.cls ≠ "java/lang/invoke/MethodHandle" ∧ y.cls ≠ "java/lang/invoke/VarHandle")
    {W9 : Nat} {Pre : Pt → Array Value → Prop} {Post : Pt → Array Value → Option Value → Pt → Prop} {PostX : Pt → Array Value → Addr → Pt → Prop} (hK : vx_Back l R p e below s args y 3 W9 Pre Post PostX)
    {b : Addr} {cellB : Cell} (hcell : T.heap[b]? = some cellB) (hobj : cellB.vm.isStatics = false) (hcls : s.vm.findClass C = some cellB.cls)
    {g : JFrame} (hg : g.method = m) (hsize : g.locals.size = c.maxLocals) {argsL rest : List Value} (hlen : ∀ sig, parseMethodDescriptor y.desc = some sig → argsL.length = sig.parameters.length)
    (hstack : g.stack = argsL.reverse ++ .ref b :: rest) (hW : 2 * g.monitorRoom + (rest.map fun v => v.category).sum ≤ W9) (hdg : decode c.code g.pc = .ok (.invokevirtual index, 3))
    (hpre : ∀ vm₁, s.WarmedH vm₁ → Pre ⟨T.setVm vm₁, locs, cells, slots⟩ (Value.ref b :: argsL).toArray) :
    (∃ (v : Option Value) (vm₁ : Vm) (B : Pt), s.WarmedH vm₁ ∧ Stand p l e R s m args below meth c B.U B.locs B.cells B.slots ∧ Post ⟨T.setVm vm₁, locs, cells, slots⟩ (Value.ref b :: argsL).toArray v B ∧
      ∀ target, Steps p.tables e below (B.U.setTop { g with pc := g.pc + 3, stack := v.toList ++ rest }) target → Steps p.tables e below (T.setTop g) target) ∨
    (∃ (q : Addr) (vm₁ : Vm) (B : Pt), s.WarmedH vm₁ ∧ Stand p l e R s m args below meth c B.U B.locs B.cells B.slots ∧ PostX ⟨T.setVm vm₁, locs, cells, slots⟩ (Value.ref b :: argsL).toArray q B ∧
      Steps p.tables e below (T.setTop g) ((B.U.setTop { g with stack := rest }).pushFrame (.throwing q))) := by
  obtain ⟨mk, methM, hnamed, hmethM, hstM, habM⟩ := Cond.instanceMethod_spec hinst
  obtain ⟨methM', cM, hmethM', -, -, -, -, -, -, hsigM⟩ := Cond.code_spec hnamed hcode
  cases hmethM.symm.trans hmethM'
  obtain ⟨c2, r2, m2, q1, q2, q3, q4, kP, hkP, hkPi⟩ := Cond.selects_spec hsel
  cases hcls.symm.trans q1
  cases (State.methodFound?_of_named hnamed hy).symm.trans q2
  cases hnamed.symm.trans q3
  have hselP : selectMethod e.platform s.vm cellB.cls mk = .method mk := by rw [Launch.admits_selectMethod X.admits]; exact q4
  obtain ⟨vm₁, X₁, hstep₁⟩ := X.invokevirtual hexec hown hlink hnamed hmethM hstM hkP hkPi hy (a := b) (cell := cellB) hcell
    (fun z h => by rw [h] at hobj; cases hobj) hselP hmethM habM hkP hkPi (g := g) hg (argsL := argsL) (rest := rest) (hlen _ hsigM) hstack hdg
  rcases hK m meth c ⟨T.setVm vm₁, locs, cells, slots⟩ { g with stack := rest } (.invokevirtual index) mk (Value.ref b :: argsL).toArray X₁ hg hsize hdg hW (X₁.named hnamed) (hpre vm₁ X₁.warmed) with ⟨v, B, X', hpost, hsteps⟩ | ⟨q, B, X', hpost, hsteps⟩
  · exact Or.inl ⟨v, vm₁, B, X₁.warmed, X', hpost, fun target h => hstep₁ _ fun acts => by rw [doInvoke_state]; exact hsteps.trans h⟩
  · exact Or.inr ⟨q, vm₁, B, X₁.warmed, X', hpost, hstep₁ _ fun acts => by rw [doInvoke_state]; exact hsteps⟩
theorem vx_callS (X : Stand p l e R s m args below meth c T locs cells slots) (hexec : p.tables.exec = Jvm.exec) {own : String} {index : Nat} {y : MethodName} {bytes : ByteArray} {maxL : Nat} {ret : Option FieldType}
    (hown : s.vm.findClass own = some m.cls) (hlink : (Cond.methodLink own index y).before args s = true) (hstat : (Cond.static y).before args s = true) (hinit : (Cond.initialized y.cls).before args s = true)
    (hcode : (Cond.code y bytes maxL ret).before args s = true) (hy : y.cls ≠ "java/lang/invoke/MethodHandle" ∧ y.cls ≠ "java/lang/invoke/VarHandle")
    {W9 : Nat} {Pre : Pt → Array Value → Prop} {Post : Pt → Array Value → Option Value → Pt → Prop} {PostX : Pt → Array Value → Addr → Pt → Prop} (hK : vx_Back l R p e below s args y 3 W9 Pre Post PostX)
    {g : JFrame} (hg : g.method = m) (hsize : g.locals.size = c.maxLocals) {argsL rest : List Value} (hlen : ∀ sig, parseMethodDescriptor y.desc = some sig → argsL.length = sig.parameters.length)
    (hstack : g.stack = argsL.reverse ++ rest) (hW : 2 * g.monitorRoom + (rest.map fun v => v.category).sum ≤ W9) (hdg : decode c.code g.pc = .ok (.invokestatic index, 3))
    (hpre : ∀ vm₁, s.WarmedH vm₁ → Pre ⟨T.setVm vm₁, locs, cells, slots⟩ argsL.toArray) :
    (∃ (v : Option Value) (vm₁ : Vm) (B : Pt), s.WarmedH vm₁ ∧ Stand p l e R s m args below meth c B.U B.locs B.cells B.slots ∧ Post ⟨T.setVm vm₁, locs, cells, slots⟩ argsL.toArray v B ∧
      ∀ target, Steps p.tables e below (B.U.setTop { g with pc := g.pc + 3, stack := v.toList ++ rest }) target → Steps p.tables e below (T.setTop g) target) ∨
    (∃ (q : Addr) (vm₁ : Vm) (B : Pt), s.WarmedH vm₁ ∧ Stand p l e R s m args below meth c B.U B.locs B.cells B.slots ∧ PostX ⟨T.setVm vm₁, locs, cells, slots⟩ argsL.toArray q B ∧
      Steps p.tables e below (T.setTop g) ((B.U.setTop { g with stack := rest }).pushFrame (.throwing q))) := by
  obtain ⟨mk, hnamed⟩ := Cond.code_named hcode
  obtain ⟨methM, cM, hmethM, -, -, -, -, -, -, hsigM⟩ := Cond.code_spec hnamed hcode
  have hstatic : methM.isStatic = true := Cond.static_spec hnamed hmethM hstat
  obtain ⟨kP, hkP, -⟩ := className_of_methodNamed hnamed
  have hinitP : kP.init = .initialized := Cond.initialized_spec (findClass_of_methodNamed hnamed) hkP hinit
  obtain ⟨vm₁, X₁, hstep₁⟩ := X.invokestatic hexec hown hlink hnamed hmethM hstatic hkP hinitP hy (g := g) hg (argsL := argsL) (rest := rest) (hlen _ hsigM) hstack hdg
  rcases hK m meth c ⟨T.setVm vm₁, locs, cells, slots⟩ { g with stack := rest } (.invokestatic index) mk argsL.toArray X₁ hg hsize hdg hW (X₁.named hnamed) (hpre vm₁ X₁.warmed) with ⟨v, B, X', hpost, hsteps⟩ | ⟨q, B, X', hpost, hsteps⟩
  · exact Or.inl ⟨v, vm₁, B, X₁.warmed, X', hpost, fun target h => hstep₁ _ fun acts => by rw [doInvoke_state]; exact hsteps.trans h⟩
  · exact Or.inr ⟨q, vm₁, B, X₁.warmed, X', hpost, hstep₁ _ fun acts => by rw [doInvoke_state]; exact hsteps⟩
end Calls
theorem vx_cls {s : State} {T : State} {vm₁ : Vm} {E : String} {k : ClassId} (hW : s.WarmedH vm₁) (h : (T.setVm vm₁).vm.findClass E = some k) : s.vm.findClass E = some k := by
  have h1 : vm₁.findClass E = some k := h
  rw [hW.alike.findClass] at h1
  exact h1
/-- the method's frame g, with q thrown over it -/
def vx_W (p : Program) (l : Launch) (e : Env) (R : Room) (s : State) (m : MethodId) (args : Array Value) (below : List Frame) (meth : Method) (c : Code) (H : Heap) (locs : List Loc) (cells slots : Nat) (Q : State → Prop) (g : JFrame) (q : Addr) : Prop :=
  ∀ T : State, T.heap = H → Stand p l e R s m args below meth c T locs cells slots → ∃ t, Steps p.tables e below ((T.setTop g).pushFrame (.throwing q)) t ∧ Q t
def vx_Run (p : Program) (l : Launch) (e : Env) (R : Room) (s : State) (m : MethodId) (args : Array Value) (below : List Frame) (meth : Method) (c : Code) (H : Heap) (locs : List Loc) (cells slots mc ms : Nat) (g : JFrame) (rest : List Value) (Qa : State → Outcome → State → Prop) (XC : String → State → State → Prop) (free : Addr → Prop) : Prop :=
  ∀ T : State, T.heap = H → Stand p l e R s m args below meth c T locs cells slots →
    (∃ (v : Option Value) (st₀ t T' : State) (L : List Loc), st₀.heap = H ∧ Stand p l e R s m args below meth c T' (locs ++ L) (cells + mc) (slots + ms) ∧ (∀ q ∈ L, free q.base) ∧ T'.heap = t.heap ∧ T'.vm = t.vm ∧ Qa st₀ (.returned v) t ∧
      Goes p e below T g T' { g with pc := g.pc + 3, stack := v.toList ++ rest }) ∨
    (∃ (q : Addr) (st₀ t T' : State) (L : List Loc) (E : String) (ce : Cell), st₀.heap = H ∧ Stand p l e R s m args below meth c T' (locs ++ L) (cells + mc) (slots + ms) ∧ (∀ z ∈ L, free z.base) ∧ T'.heap = t.heap ∧ T'.vm = t.vm ∧ XC E st₀ t ∧ t.heap[q]? = some ce ∧ ce.vm = .none ∧ s.vm.findClass E = some ce.cls ∧
      Steps p.tables e below (T.setTop g) ((T'.setTop { g with stack := rest }).pushFrame (.throwing q)))
def vx_X {S : Type} (px : S → Prop) (B : String → S → State → Prop) (A : Nat → Prop) : String → State → State → Prop := fun E st t => ∃ u : S, px u ∧ B E u t ∧ va_F A st t
section Runs
variable {p : Program} {l : Launch} {e : Env} {R : Room} {s : State} {m : MethodId} {args : Array Value} {below : List Frame} {meth : Method} {c : Code} {H : Heap} {locs : List Loc} {cells slots : Nat}
variable {y : MethodName} {bytes cc : ByteArray} {maxL nL mc ms n index : Nat} {ret : Option FieldType} {ws : List Cond} {rm : Room} {Pc : Array Value → State → Prop} {Qc : Array Value → State → Outcome → State → Prop} {XC : String → State → State → Prop} {free : Addr → Prop} {Ts : List Cond} {own C : String} {b : Addr} {As rest : List Value} {g : JFrame}
theorem vx_callBack (cb : CallB R s args own index y bytes maxL ret ws rm mc ms n) (hM : vx_Met l y ws rm Pc Qc XC mc ms free) (hbl : FrameBlind Pc) : vx_Back l R p e below s args y 3 8 (PreOf R mc ms Pc) (PostOf Qc mc ms free) (vx_Post XC mc ms free) := by
  obtain ⟨hrc, hrs, hfr, hlo, hws, hcw, -, hini, -⟩ := cb
  exact vx_back (bytes := bytes) (maxL := maxL) (ret := ret) hM hbl hrc hrs hfr hlo hws hcw (fun a' U hW => word_at hW (Or.inl (by first | rfl | simp [Cond.onTables, Cond.keeps, Cond.steady])) hini)
theorem vx_runV (S : CallFix p m c cc nL s args Ts own) (hM : vx_Met l y ws rm Pc Qc XC mc ms free) (cw : CallW R s args own C index y bytes maxL ret ws rm mc ms n) (hp : PreV s H C b Pc As)
    (hg : g.method = m) (hn : As.length = n) (hsize : g.locals.size = nL) (hstack : g.stack = As.reverse ++ .ref b :: rest) (hW : 2 * g.monitorRoom + (rest.map fun v => v.category).sum ≤ 8) (hdg : decode cc g.pc = .ok (.invokevirtual index, 3)) (hf : cells + mc ≤ R.cells ∧ slots + ms ≤ R.slots) :
    vx_Run p l e R s m args below meth c H locs cells slots mc ms g rest (Qc (Value.ref b :: As).toArray) XC free := by
  have hK : vx_Back l R p e below s args y 3 8 (PreOf R mc ms Pc) (PostOf Qc mc ms free) (vx_Post XC mc ms free) := vx_callBack cw.1 hM hp.1
  obtain ⟨⟨-, -, -, -, -, -, hcode, -, hy, hlen, hl⟩, hin, hse⟩ := cw
  obtain ⟨hx, hb, hml, ho, -⟩ := S
  obtain ⟨-, ⟨cellB, hcB, hoB, hclB⟩, hPc⟩ := hp
  intro T hT X
  rcases vx_callV X hx (C := C) (bytes := bytes) (maxL := maxL) (ret := ret) ho hl hin hse hcode hy hK (by rw [hT]; exact hcB) hoB hclB hg (hsize.trans hml.symm) (argsL := As) (rest := rest) (fun sig h => hn.trans (hlen sig h)) hstack hW (by rw [hb]; exact hdg)
    (fun vm₁ hW₁ => ⟨hf.1, hf.2, hPc (T.setVm vm₁) hT hW₁⟩) with ⟨v, vm₁, ⟨U', l2, c2, s2⟩, hW₁, X', ⟨g', mk, t, L, e1, e2, hq, h1, hL, h2, h3⟩, st⟩ | ⟨q, vm₁, ⟨U', l2, c2, s2⟩, hW₁, X', ⟨g', mk, t, L, E, ce, e1, e2, hq, hce, hcv, hcl, h1, hL, h2, h3⟩, st⟩
  · dsimp only [Pt.U, Pt.locs, Pt.cells, Pt.slots] at X' e1 e2 h1 h2 h3 st
    subst h1; subst h2; subst h3
    exact Or.inl ⟨v, (T.setVm vm₁).calling g' mk (Value.ref b :: As).toArray, t, U', L, hT, X', hL, e1, e2, hq, st⟩
  · dsimp only [Pt.U, Pt.locs, Pt.cells, Pt.slots] at X' e1 e2 h1 h2 h3 st hcl
    subst h1; subst h2; subst h3
    exact Or.inr ⟨q, (T.setVm vm₁).calling g' mk (Value.ref b :: As).toArray, t, U', L, E, ce, hT, X', hL, e1, e2, hq, hce, hcv, vx_cls hW₁ hcl, st⟩
theorem vx_runS (S : CallFix p m c cc nL s args Ts own) (hM : vx_Met l y ws rm Pc Qc XC mc ms free) (cw : CallB R s args own index y bytes maxL ret ws rm mc ms n ∧ (Cond.static y).before args s = true) (hp : PreS s H Pc As)
    (hg : g.method = m) (hn : As.length = n) (hsize : g.locals.size = nL) (hstack : g.stack = As.reverse ++ rest) (hW : 2 * g.monitorRoom + (rest.map fun v => v.category).sum ≤ 8) (hdg : decode cc g.pc = .ok (.invokestatic index, 3)) (hf : cells + mc ≤ R.cells ∧ slots + ms ≤ R.slots) :
    vx_Run p l e R s m args below meth c H locs cells slots mc ms g rest (Qc As.toArray) XC free := by
  have hK : vx_Back l R p e below s args y 3 8 (PreOf R mc ms Pc) (PostOf Qc mc ms free) (vx_Post XC mc ms free) := vx_callBack cw.1 hM hp.1
  obtain ⟨⟨-, -, -, -, -, -, hcode, hini, hy, hlen, hl⟩, hstt⟩ := cw
  obtain ⟨hx, hb, hml, ho, -⟩ := S
  intro T hT X
  rcases vx_callS X hx (bytes := bytes) (maxL := maxL) (ret := ret) ho hl hstt hini hcode hy hK hg (hsize.trans hml.symm) (argsL := As) (rest := rest) (fun sig h => hn.trans (hlen sig h)) hstack hW (by rw [hb]; exact hdg)
    (fun vm₁ hW₁ => ⟨hf.1, hf.2, hp.2 (T.setVm vm₁) hT hW₁⟩) with ⟨v, vm₁, ⟨U', l2, c2, s2⟩, hW₁, X', ⟨g', mk, t, L, e1, e2, hq, h1, hL, h2, h3⟩, st⟩ | ⟨q, vm₁, ⟨U', l2, c2, s2⟩, hW₁, X', ⟨g', mk, t, L, E, ce, e1, e2, hq, hce, hcv, hcl, h1, hL, h2, h3⟩, st⟩
  · dsimp only [Pt.U, Pt.locs, Pt.cells, Pt.slots] at X' e1 e2 h1 h2 h3 st
    subst h1; subst h2; subst h3
    exact Or.inl ⟨v, (T.setVm vm₁).calling g' mk As.toArray, t, U', L, hT, X', hL, e1, e2, hq, st⟩
  · dsimp only [Pt.U, Pt.locs, Pt.cells, Pt.slots] at X' e1 e2 h1 h2 h3 st hcl
    subst h1; subst h2; subst h3
    exact Or.inr ⟨q, (T.setVm vm₁).calling g' mk As.toArray, t, U', L, E, ce, hT, X', hL, e1, e2, hq, hce, hcv, vx_cls hW₁ hcl, st⟩
end Runs
section Rows
variable {p : Program} {l : Launch} {e : Env} {R : Room} {s : State} {m : MethodId} {args : Array Value} {below : List Frame} {meth : Method} {c : Code} {H : Heap} {locs : List Loc} {cells slots : Nat} {Q : State → Prop}
variable {mc ms : Nat} {free : Addr → Prop} {A0 A1 : Nat → Prop} {H0 : Heap} {a : Array Value} {pc : Nat} {ls : Array Slot} {st0 rest : List Value}
theorem vx_keep {st₀ t T' : State} {L : List Loc} (h0 : st₀.heap = H) (e1 : T'.heap = t.heap) (hS : va_S A0 H0 H locs) (hA : ∀ q, q < H.size → A1 q → A0 q) (hf : ∀ q, free q → A0 q) (hL : ∀ q ∈ L, free q.base) (hF : va_F A1 st₀ t) :
    H.size ≤ T'.heap.size ∧ (∀ q : Nat, q < H.size → ¬ A1 q → T'.heap[q]? = H[q]?) ∧ va_S A0 H0 T'.heap (locs ++ L) := by
  obtain ⟨hz, hk⟩ := hF
  rw [h0] at hz hk
  exact ⟨by rw [e1]; exact hz, fun q h1 h2 => by rw [e1]; exact hk q h1 h2,
    ⟨Nat.le_trans hS.1 (by rw [e1]; exact hz), fun q h1 h2 => by rw [e1, hk q (Nat.lt_of_lt_of_le h1 hS.1) (fun z => h2 (hA q (Nat.lt_of_lt_of_le h1 hS.1) z))]; exact hS.2.1 q h1 h2, fun q hq => by
      rcases List.mem_append.mp hq with h | h
      · exact hS.2.2 q h
      · exact hf _ (hL q h)⟩⟩
theorem vx_calli {S SX : Type} {post : Int32 → S → Prop} {px : SX → Prop} {B : S → State → Prop} {BX : String → SX → State → Prop} {AX : Nat → Prop} (hr : vx_Run p l e R s m args below meth c H locs cells slots mc ms (F0 m pc ls st0) rest (va_Qi post B A1 a) (vx_X px BX AX) free) (hS : va_S A0 H0 H locs) (hA : ∀ q, q < H.size → A1 q → A0 q) (hf : ∀ q, free q → A0 q) (hAX : ∀ q, q < H.size → AX q → A0 q)
    (kx : ∀ (E : String) (ce : Cell) (q9 : Addr) (u : SX) (t : State) (H1 : Heap) (locs1 : List Loc), t.heap = H1 → s.vm.Alike t.vm → px u → BX E u t → H.size ≤ H1.size → (∀ q : Nat, q < H.size → ¬ AX q → H1[q]? = H[q]?) → va_S A0 H0 H1 locs1 → H1[q9]? = some ce → ce.vm = .none → s.vm.findClass E = some ce.cls → vx_W p l e R s m args below meth c H1 locs1 (cells + mc) (slots + ms) Q (F0 m pc ls rest) q9)
    (kk : ∀ (r : Int32) (u : S) (t : State) (H1 : Heap) (locs1 : List Loc), t.heap = H1 → s.vm.Alike t.vm → post r u → B u t → H.size ≤ H1.size → (∀ q : Nat, q < H.size → ¬ A1 q → H1[q]? = H[q]?) → va_S A0 H0 H1 locs1 → W p l e R s m args below meth c H1 locs1 (cells + mc) (slots + ms) Q (F0 m (pc + 3) ls (.int r :: rest))) : W p l e R s m args below meth c H locs cells slots Q (F0 m pc ls st0) := by
  intro T hT X
  rcases hr T hT X with ⟨v, st₀, t, T', L, h0, X', hL, e1, e2, ⟨⟨r, u, hv, hp, hb⟩, hF⟩, st⟩ | ⟨q, st₀, t, T', L, E, ce, h0, X', hL, e1, e2, ⟨u, hp, hb, hF⟩, hce, hcv, hcl, st⟩
  · cases hv
    obtain ⟨k1, k2, k3⟩ := vx_keep h0 e1 hS hA hf hL hF
    obtain ⟨t2, a1, b1⟩ := kk r u t T'.heap (locs ++ L) e1.symm (by rw [← e2]; exact X'.warmed.alike) hp hb k1 k2 k3 T' rfl X'
    exact ⟨t2, st t2 a1, b1⟩
  · obtain ⟨k1, k2, k3⟩ := vx_keep h0 e1 hS hAX hf hL hF
    obtain ⟨t2, a1, b1⟩ := kx E ce q u t T'.heap (locs ++ L) e1.symm (by rw [← e2]; exact X'.warmed.alike) hp hb k1 k2 k3 (by rw [e1]; exact hce) hcv hcl T' rfl X'
    exact ⟨t2, st.trans a1, b1⟩
theorem vx_calll {S SX : Type} {post : Int64 → S → Prop} {px : SX → Prop} {B : S → State → Prop} {BX : String → SX → State → Prop} {AX : Nat → Prop} (hr : vx_Run p l e R s m args below meth c H locs cells slots mc ms (F0 m pc ls st0) rest (va_Ql post B A1 a) (vx_X px BX AX) free) (hS : va_S A0 H0 H locs) (hA : ∀ q, q < H.size → A1 q → A0 q) (hf : ∀ q, free q → A0 q) (hAX : ∀ q, q < H.size → AX q → A0 q)
    (kx : ∀ (E : String) (ce : Cell) (q9 : Addr) (u : SX) (t : State) (H1 : Heap) (locs1 : List Loc), t.heap = H1 → s.vm.Alike t.vm → px u → BX E u t → H.size ≤ H1.size → (∀ q : Nat, q < H.size → ¬ AX q → H1[q]? = H[q]?) → va_S A0 H0 H1 locs1 → H1[q9]? = some ce → ce.vm = .none → s.vm.findClass E = some ce.cls → vx_W p l e R s m args below meth c H1 locs1 (cells + mc) (slots + ms) Q (F0 m pc ls rest) q9)
    (kk : ∀ (r : Int64) (u : S) (t : State) (H1 : Heap) (locs1 : List Loc), t.heap = H1 → s.vm.Alike t.vm → post r u → B u t → H.size ≤ H1.size → (∀ q : Nat, q < H.size → ¬ A1 q → H1[q]? = H[q]?) → va_S A0 H0 H1 locs1 → W p l e R s m args below meth c H1 locs1 (cells + mc) (slots + ms) Q (F0 m (pc + 3) ls (.long r :: rest))) : W p l e R s m args below meth c H locs cells slots Q (F0 m pc ls st0) := by
  intro T hT X
  rcases hr T hT X with ⟨v, st₀, t, T', L, h0, X', hL, e1, e2, ⟨⟨r, u, hv, hp, hb⟩, hF⟩, st⟩ | ⟨q, st₀, t, T', L, E, ce, h0, X', hL, e1, e2, ⟨u, hp, hb, hF⟩, hce, hcv, hcl, st⟩
  · cases hv
    obtain ⟨k1, k2, k3⟩ := vx_keep h0 e1 hS hA hf hL hF
    obtain ⟨t2, a1, b1⟩ := kk r u t T'.heap (locs ++ L) e1.symm (by rw [← e2]; exact X'.warmed.alike) hp hb k1 k2 k3 T' rfl X'
    exact ⟨t2, st t2 a1, b1⟩
  · obtain ⟨k1, k2, k3⟩ := vx_keep h0 e1 hS hAX hf hL hF
    obtain ⟨t2, a1, b1⟩ := kx E ce q u t T'.heap (locs ++ L) e1.symm (by rw [← e2]; exact X'.warmed.alike) hp hb k1 k2 k3 (by rw [e1]; exact hce) hcv hcl T' rfl X'
    exact ⟨t2, st.trans a1, b1⟩
theorem vx_callf {S SX : Type} {post : UInt32 → S → Prop} {px : SX → Prop} {B : S → State → Prop} {BX : String → SX → State → Prop} {AX : Nat → Prop} (hr : vx_Run p l e R s m args below meth c H locs cells slots mc ms (F0 m pc ls st0) rest (va_Qf post B A1 a) (vx_X px BX AX) free) (hS : va_S A0 H0 H locs) (hA : ∀ q, q < H.size → A1 q → A0 q) (hf : ∀ q, free q → A0 q) (hAX : ∀ q, q < H.size → AX q → A0 q)
    (kx : ∀ (E : String) (ce : Cell) (q9 : Addr) (u : SX) (t : State) (H1 : Heap) (locs1 : List Loc), t.heap = H1 → s.vm.Alike t.vm → px u → BX E u t → H.size ≤ H1.size → (∀ q : Nat, q < H.size → ¬ AX q → H1[q]? = H[q]?) → va_S A0 H0 H1 locs1 → H1[q9]? = some ce → ce.vm = .none → s.vm.findClass E = some ce.cls → vx_W p l e R s m args below meth c H1 locs1 (cells + mc) (slots + ms) Q (F0 m pc ls rest) q9)
    (kk : ∀ (r : UInt32) (u : S) (t : State) (H1 : Heap) (locs1 : List Loc), t.heap = H1 → s.vm.Alike t.vm → post r u → B u t → H.size ≤ H1.size → (∀ q : Nat, q < H.size → ¬ A1 q → H1[q]? = H[q]?) → va_S A0 H0 H1 locs1 → W p l e R s m args below meth c H1 locs1 (cells + mc) (slots + ms) Q (F0 m (pc + 3) ls (.float r :: rest))) : W p l e R s m args below meth c H locs cells slots Q (F0 m pc ls st0) := by
  intro T hT X
  rcases hr T hT X with ⟨v, st₀, t, T', L, h0, X', hL, e1, e2, ⟨⟨r, u, hv, hp, hb⟩, hF⟩, st⟩ | ⟨q, st₀, t, T', L, E, ce, h0, X', hL, e1, e2, ⟨u, hp, hb, hF⟩, hce, hcv, hcl, st⟩
  · cases hv
    obtain ⟨k1, k2, k3⟩ := vx_keep h0 e1 hS hA hf hL hF
    obtain ⟨t2, a1, b1⟩ := kk r u t T'.heap (locs ++ L) e1.symm (by rw [← e2]; exact X'.warmed.alike) hp hb k1 k2 k3 T' rfl X'
    exact ⟨t2, st t2 a1, b1⟩
  · obtain ⟨k1, k2, k3⟩ := vx_keep h0 e1 hS hAX hf hL hF
    obtain ⟨t2, a1, b1⟩ := kx E ce q u t T'.heap (locs ++ L) e1.symm (by rw [← e2]; exact X'.warmed.alike) hp hb k1 k2 k3 (by rw [e1]; exact hce) hcv hcl T' rfl X'
    exact ⟨t2, st.trans a1, b1⟩
theorem vx_calld {S SX : Type} {post : UInt64 → S → Prop} {px : SX → Prop} {B : S → State → Prop} {BX : String → SX → State → Prop} {AX : Nat → Prop} (hr : vx_Run p l e R s m args below meth c H locs cells slots mc ms (F0 m pc ls st0) rest (va_Qd post B A1 a) (vx_X px BX AX) free) (hS : va_S A0 H0 H locs) (hA : ∀ q, q < H.size → A1 q → A0 q) (hf : ∀ q, free q → A0 q) (hAX : ∀ q, q < H.size → AX q → A0 q)
    (kx : ∀ (E : String) (ce : Cell) (q9 : Addr) (u : SX) (t : State) (H1 : Heap) (locs1 : List Loc), t.heap = H1 → s.vm.Alike t.vm → px u → BX E u t → H.size ≤ H1.size → (∀ q : Nat, q < H.size → ¬ AX q → H1[q]? = H[q]?) → va_S A0 H0 H1 locs1 → H1[q9]? = some ce → ce.vm = .none → s.vm.findClass E = some ce.cls → vx_W p l e R s m args below meth c H1 locs1 (cells + mc) (slots + ms) Q (F0 m pc ls rest) q9)
    (kk : ∀ (r : UInt64) (u : S) (t : State) (H1 : Heap) (locs1 : List Loc), t.heap = H1 → s.vm.Alike t.vm → post r u → B u t → H.size ≤ H1.size → (∀ q : Nat, q < H.size → ¬ A1 q → H1[q]? = H[q]?) → va_S A0 H0 H1 locs1 → W p l e R s m args below meth c H1 locs1 (cells + mc) (slots + ms) Q (F0 m (pc + 3) ls (.double r :: rest))) : W p l e R s m args below meth c H locs cells slots Q (F0 m pc ls st0) := by
  intro T hT X
  rcases hr T hT X with ⟨v, st₀, t, T', L, h0, X', hL, e1, e2, ⟨⟨r, u, hv, hp, hb⟩, hF⟩, st⟩ | ⟨q, st₀, t, T', L, E, ce, h0, X', hL, e1, e2, ⟨u, hp, hb, hF⟩, hce, hcv, hcl, st⟩
  · cases hv
    obtain ⟨k1, k2, k3⟩ := vx_keep h0 e1 hS hA hf hL hF
    obtain ⟨t2, a1, b1⟩ := kk r u t T'.heap (locs ++ L) e1.symm (by rw [← e2]; exact X'.warmed.alike) hp hb k1 k2 k3 T' rfl X'
    exact ⟨t2, st t2 a1, b1⟩
  · obtain ⟨k1, k2, k3⟩ := vx_keep h0 e1 hS hAX hf hL hF
    obtain ⟨t2, a1, b1⟩ := kx E ce q u t T'.heap (locs ++ L) e1.symm (by rw [← e2]; exact X'.warmed.alike) hp hb k1 k2 k3 (by rw [e1]; exact hce) hcv hcl T' rfl X'
    exact ⟨t2, st.trans a1, b1⟩
theorem vx_callv {S SX : Type} {post : S → Prop} {px : SX → Prop} {B : S → State → Prop} {BX : String → SX → State → Prop} {AX : Nat → Prop} (hr : vx_Run p l e R s m args below meth c H locs cells slots mc ms (F0 m pc ls st0) rest (va_Qv post B A1 a) (vx_X px BX AX) free) (hS : va_S A0 H0 H locs) (hA : ∀ q, q < H.size → A1 q → A0 q) (hf : ∀ q, free q → A0 q) (hAX : ∀ q, q < H.size → AX q → A0 q)
    (kx : ∀ (E : String) (ce : Cell) (q9 : Addr) (u : SX) (t : State) (H1 : Heap) (locs1 : List Loc), t.heap = H1 → s.vm.Alike t.vm → px u → BX E u t → H.size ≤ H1.size → (∀ q : Nat, q < H.size → ¬ AX q → H1[q]? = H[q]?) → va_S A0 H0 H1 locs1 → H1[q9]? = some ce → ce.vm = .none → s.vm.findClass E = some ce.cls → vx_W p l e R s m args below meth c H1 locs1 (cells + mc) (slots + ms) Q (F0 m pc ls rest) q9)
    (kk : ∀ (u : S) (t : State) (H1 : Heap) (locs1 : List Loc), t.heap = H1 → s.vm.Alike t.vm → post u → B u t → H.size ≤ H1.size → (∀ q : Nat, q < H.size → ¬ A1 q → H1[q]? = H[q]?) → va_S A0 H0 H1 locs1 → W p l e R s m args below meth c H1 locs1 (cells + mc) (slots + ms) Q (F0 m (pc + 3) ls (rest))) : W p l e R s m args below meth c H locs cells slots Q (F0 m pc ls st0) := by
  intro T hT X
  rcases hr T hT X with ⟨v, st₀, t, T', L, h0, X', hL, e1, e2, ⟨⟨u, hv, hp, hb⟩, hF⟩, st⟩ | ⟨q, st₀, t, T', L, E, ce, h0, X', hL, e1, e2, ⟨u, hp, hb, hF⟩, hce, hcv, hcl, st⟩
  · cases hv
    obtain ⟨k1, k2, k3⟩ := vx_keep h0 e1 hS hA hf hL hF
    obtain ⟨t2, a1, b1⟩ := kk u t T'.heap (locs ++ L) e1.symm (by rw [← e2]; exact X'.warmed.alike) hp hb k1 k2 k3 T' rfl X'
    exact ⟨t2, st t2 a1, b1⟩
  · obtain ⟨k1, k2, k3⟩ := vx_keep h0 e1 hS hAX hf hL hF
    obtain ⟨t2, a1, b1⟩ := kx E ce q u t T'.heap (locs ++ L) e1.symm (by rw [← e2]; exact X'.warmed.alike) hp hb k1 k2 k3 (by rw [e1]; exact hce) hcv hcl T' rfl X'
    exact ⟨t2, st.trans a1, b1⟩
/-- caught by the row x of this method's table; the rows ahead don't take it -/
theorem vx_catch {own name : String} {E : String} {ce : Cell} {q : Addr} (hown : s.vm.findClass own = some m.cls) (pre : List ExceptionTableEntry) (x : ExceptionTableEntry) (suf : List ExceptionTableEntry) (hsplit : c.exceptionTable.toList = pre ++ x :: suf)
    (hpass : ∀ z ∈ pre, covers z pc = false ∨ (z.catchType ≠ 0 ∧ ∃ nm : String, (Cond.classLink own z.catchType nm).before args s = true ∧ va_Nc E nm s)) (hx : covers x pc = true) (h0 : x.catchType ≠ 0)
    (hlink : (Cond.classLink own x.catchType name).before args s = true) (hcast : (Cond.castable E name).before args s = true) (hcell : H[q]? = some ce) (hv : ce.vm = .none) (hcl : s.vm.findClass E = some ce.cls)
    (kk : W p l e R s m args below meth c H locs cells slots Q (F0 m x.handlerPc ls [.ref q])) : vx_W p l e R s m args below meth c H locs cells slots Q (F0 m pc ls rest) q := by
  intro T hT X
  have hpl : e.platform.magicAccessors = ({} : Platform).magicAccessors := by rw [X.admits.platform]
  obtain ⟨c3, c4, hc3, hc4, hasg⟩ := Cond.castable_spec hcast
  cases Option.some.inj (hc3.symm.trans hcl)
  obtain ⟨c5, hc5, hcl5⟩ := Cond.classLink_spec hown hlink e.platform hpl
  cases Option.some.inj (hc4.symm.trans hc5)
  obtain ⟨vm', X', st⟩ := X.thenCaughtThrough q (g := F0 m pc ls rest) rfl (Steps.refl _) (by rw [hT]; exact hcell) (by rw [hv]; rfl) (by obtain ⟨k9, h9, -⟩ := Vm.findClass_spec hcl; exact ⟨k9, h9⟩) pre x suf hsplit
    (fun z hz => by
      rcases hpass z hz with h | ⟨hz0, nm, hl1, hn1⟩
      · exact Or.inl h
      · obtain ⟨c6, hc6, hcl6⟩ := Cond.classLink_spec hown hl1 e.platform hpl
        obtain ⟨a8, b8, h1, h2, h3⟩ := hn1
        cases Option.some.inj (h1.symm.trans hcl)
        cases Option.some.inj (h2.symm.trans hc6)
        exact Or.inr ⟨hz0, _, hcl6, h3⟩) hx (Or.inr ⟨h0, c4, hcl5, hasg⟩)
  obtain ⟨t, a1, b1⟩ := kk (T.setVm vm') hT X'
  exact ⟨t, st.trans a1, b1⟩
end Rows
section Ends
variable {p : Program} {l : Launch} {e : Env} {R : Room} {s : State} {m : MethodId} {args : Array Value} {below : List Frame} {meth : Method} {c : Code} {H : Heap} {locs : List Loc} {cells slots : Nat} {Q : State → Prop}
variable {mc ms : Nat} {free : Addr → Prop} {A0 A1 : Nat → Prop} {H0 : Heap} {a : Array Value} {ls : Array Slot} {st0 rest : List Value}
variable {Qc : Array Value → State → Outcome → State → Prop} {XC : String → State → State → Prop}
/-- what a body that may throw owes at its end -/
def vx_MQ (below : List Frame) (Qc : Array Value → State → Outcome → State → Prop) (XC : String → State → State → Prop) (a : Array Value) (s : State) (mc ms : Nat) (free : Addr → Prop) : State → Prop := fun t =>
  ∃ o, t.status = .running ∧ Ended t below o ∧ vx_Q Qc XC mc ms free a s o t
theorem vx_ret {g : JFrame} {mc ms : Nat} (k : W p l e R s m args below meth c H locs cells slots (MQ below Qc args s mc ms free) g) : W p l e R s m args below meth c H locs cells slots (vx_MQ below Qc XC args s mc ms free) g := by
  intro T hT X
  obtain ⟨t, a1, o, b1, b2, b3, b4⟩ := k T hT X
  exact ⟨t, a1, o, b1, b2, Or.inl ⟨b3, b4⟩⟩
/-- not caught here: it goes on to the caller -/
theorem vx_widen {g : JFrame} {q : Addr} {k n : Nat} (h1 : cells ≤ k) (h2 : slots ≤ n) (kk : vx_W p l e R s m args below meth c H locs k n Q g q) : vx_W p l e R s m args below meth c H locs cells slots Q g q := fun T hT X => kk T hT (stand_widen X h1 h2)
theorem vx_out {pc : Nat} {E : String} {ce : Cell} {q : Addr} {mc ms : Nat} (hout : ∀ x ∈ c.exceptionTable.toList, covers x pc = false) (hlocks : meth.locks = false) (hcell : H[q]? = some ce) (hv : ce.vm = .none) (hcl : s.vm.findClass E = some ce.cls)
    (hx : ∀ t : State, t.heap = H → s.vm.Alike t.vm → XC E s t) (hf : ∀ z ∈ locs, free z.base) (hc : cells ≤ mc) (hs : slots ≤ ms) :
    vx_W p l e R s m args below meth c H locs cells slots (vx_MQ below Qc XC args s mc ms free) (F0 m pc ls rest) q := by
  intro T hT X
  obtain ⟨st1, hrun, hend, hW, hsm⟩ := X.leaveThrown q (g := F0 m pc ls rest) rfl rfl rfl hout hlocks
  have hcell9 : (T.setFrames (.throwing q :: below)).heap[q]? = some ce := by
    show T.heap[q]? = some ce
    rw [hT]; exact hcell
  exact ⟨_, st1, .threw q, hrun, hend, Or.inr ⟨q, rfl, E, ce, locs, hx _ hT hW.alike, hcell9, hv, hcl, hW, hsm.mono hc hs, hf⟩⟩
theorem vx_frame {U : State} {k n : Nat} (h : s.sameButNew ({ U with vm := s.vm } : State) locs k n) : s.heap.size ≤ U.heap.size ∧ ∀ q : Nat, q < s.heap.size → (∀ z ∈ locs, z.base ≠ q) → U.heap[q]? = s.heap[q]? := by
  obtain ⟨-, h2, -, -, -, h6⟩ := h
  refine ⟨h2, fun q hq hz => ?_⟩
  obtain ⟨c9, e1, e2, e3, e4⟩ := h6 q _ (Array.getElem?_eq_getElem hq)
  have hs : c9.slots = (s.heap[q]).slots := Array.ext_getElem? fun i => e4 i fun hm => hz _ hm rfl
  have h9 : c9 = s.heap[q] := by
    rw [hs] at e2
    exact e2
  have e5 : U.heap[q]? = some c9 := e1
  rw [e5, h9, Array.getElem?_eq_getElem hq]
/-- the words of a throw but the four that speak of the heap -/
def vx_no (w : Cond) : Bool := decide (w ≠ .isRef (.static Bundle.tN "UNASSIGNED_STACK" Bundle.steD)) && decide (w ≠ .isRef (.static Bundle.tN "SUPPRESSED_SENTINEL" Bundle.listD)) && decide (w ≠ .laysStatic Bundle.tN "UNASSIGNED_STACK" Bundle.steD) && decide (w ≠ .laysStatic Bundle.tN "SUPPRESSED_SENTINEL" Bundle.listD)
def vx_at0 (own : String) (ic : Nat) (X : String) (names : List String) : List Cond := (Bundle.ownAtoms0 own ic X names).filter vx_no
def vx_atS (own : String) (ic : Nat) (X : String) (names : List String) : List Cond := (Bundle.ownAtoms own ic X names).filter vx_no
/-- a word that the tables alone decide, or a good one -/
def vx_ot (w : Cond) : Bool := w.onTables || goodWord w
theorem vx_ot_at {args a' : Array Value} {s U : State} {w : Cond} (hW : s.WarmedH U.vm) (hvm : s.vm = U.vm) (hg : vx_ot w = true) (h : w.before args s = true) : w.before a' U = true := by
  simp only [vx_ot, Bool.or_eq_true] at hg
  rcases hg with hg | hg
  · exact va_tabs hg hvm h
  · exact word_at hW (good_of_word hg) h
/-- a list's words: the good ones out of the method's own list, the others by premises of their own -/
theorem vx_hat {args : Array Value} {s : State} {L B : List Cond} (h1 : ∀ w ∈ L.filter goodWord, w.before args s = true) (h2 : ∀ w ∈ L.filter (fun w => !goodWord w), w ∈ B) (h3 : ∀ w ∈ B, w.before args s = true) : ∀ w ∈ L, w.before args s = true := by
  intro w hw
  by_cases g : goodWord w = true
  · exact h1 w (List.mem_filter.mpr ⟨hw, g⟩)
  · refine h3 w (h2 w (List.mem_filter.mpr ⟨hw, ?_⟩))
    show (!goodWord w) = true
    cases hgw : goodWord w
    · rfl
    · exact absurd hgw g
theorem vx_c {args : Array Value} {s : State} {w : Cond} {B : List Cond} (h : w.before args s = true) (t : ∀ w ∈ B, w.before args s = true) : ∀ w' ∈ w :: B, w'.before args s = true := fun w' h' => (List.mem_cons.mp h').elim (fun e => by rw [e]; exact h) (t w')
theorem vx_n {args : Array Value} {s : State} : ∀ w ∈ ([] : List Cond), w.before args s = true := fun _ h => nomatch h
theorem vx_own {args : Array Value} {s : State} {L : List Cond} (h1 : ∀ w ∈ L.filter vx_no, w.before args s = true)
    (hU : (Cond.isRef (.static Bundle.tN "UNASSIGNED_STACK" Bundle.steD)).before args s = true) (hN : (Cond.isRef (.static Bundle.tN "SUPPRESSED_SENTINEL" Bundle.listD)).before args s = true)
    (lU : (Cond.laysStatic Bundle.tN "UNASSIGNED_STACK" Bundle.steD).before args s = true) (lN : (Cond.laysStatic Bundle.tN "SUPPRESSED_SENTINEL" Bundle.listD).before args s = true) : ∀ w ∈ L, w.before args s = true := by
  intro w hw
  by_cases e1 : w = .isRef (.static Bundle.tN "UNASSIGNED_STACK" Bundle.steD)
  · rw [e1]; exact hU
  · by_cases e2 : w = .isRef (.static Bundle.tN "SUPPRESSED_SENTINEL" Bundle.listD)
    · rw [e2]; exact hN
    · by_cases e3 : w = .laysStatic Bundle.tN "UNASSIGNED_STACK" Bundle.steD
      · rw [e3]; exact lU
      · by_cases e4 : w = .laysStatic Bundle.tN "SUPPRESSED_SENTINEL" Bundle.listD
        · rw [e4]; exact lN
        · exact h1 w (List.mem_filter.mpr ⟨hw, by unfold vx_no; rw [decide_eq_true e1, decide_eq_true e2, decide_eq_true e3, decide_eq_true e4]; rfl⟩)
/-- where a static field lies, its class's statics cell in H -/
def vx_L (C n d : String) (A : Nat → Prop) (U : State) (H : Heap) : Prop := ∃ (c : ClassId) (k : Class) (i : Nat) (f : Field) (a : Nat) (cell : Cell), U.vm.findClass C = some c ∧ U.fieldFound? C n d = some (c, k, i, f) ∧ f.isStatic = true ∧ k.statics = some a ∧ H[a]? = some cell ∧ cell.vm.isStatics = true ∧ cell.cls = c ∧ f.slot < cell.slots.size ∧ k.staticTypes[f.slot]? = some f.type ∧ ¬ A a
theorem vx_L.moved {C n d : String} {A : Nat → Prop} {u U : State} {H : Heap} (hvm : u.vm.Alike U.vm) (h : vx_L C n d A u H) : vx_L C n d A U H := by
  obtain ⟨c, k, i, f, a, cell, h1, h2, h3, h4, h5, h6, h7, h8, h9, h10⟩ := h
  obtain ⟨k', hi', he⟩ := State.fieldFound?_setVm hvm h2
  exact ⟨c, k', i, f, a, cell, by rw [hvm.findClass]; exact h1, hi', h3, by rw [he]; exact h4, h5, h6, h7, h8, by rw [he]; exact h9, h10⟩
theorem vx_L.kept {C n d : String} {A : Nat → Prop} {U : State} {H H1 : Heap} (h : vx_L C n d A U H) (hq : ∀ a : Nat, a < H.size → ¬ A a → H1[a]? = H[a]?) : vx_L C n d A U H1 := by
  obtain ⟨c, k, i, f, a, cell, h1, h2, h3, h4, h5, h6, h7, h8, h9, h10⟩ := h
  exact ⟨c, k, i, f, a, cell, h1, h2, h3, h4, by rw [hq a (Array.getElem?_eq_some_iff.mp h5).1 h10]; exact h5, h6, h7, h8, h9, h10⟩
theorem vx_L.narrow {C n d : String} {A B : Nat → Prop} {U : State} {H : Heap} (h : vx_L C n d A U H) (hAB : ∀ q, B q → A q) : vx_L C n d B U H := by
  obtain ⟨c, k, i, f, a, cell, h1, h2, h3, h4, h5, h6, h7, h8, h9, h10⟩ := h
  exact ⟨c, k, i, f, a, cell, h1, h2, h3, h4, h5, h6, h7, h8, h9, fun z => h10 (hAB _ z)⟩
theorem vx_L.word {C n d : String} {A : Nat → Prop} {s : State} {args : Array Value} (h : vx_L C n d A s s.heap) : (Cond.laysStatic C n d).before args s = true := by
  obtain ⟨c, k, i, f, a, cell, h1, h2, h3, h4, h5, h6, h7, h8, h9, -⟩ := h
  show (Cond.laysStatic C n d).holds args s none s [] = true
  exact Cond.laysStatic_of h1 h2 h3 h4 h5 h6 h7 h8 h9
/-- .. and what it holds: null or some reference -/
def vx_Zq (C n d : String) (A : Nat → Prop) (U : State) (H : Heap) : Prop := va_Zq C n d A U H ∧ vx_L C n d A U H
theorem vx_Zq.moved {C n d : String} {A : Nat → Prop} {u U : State} {H : Heap} (hvm : u.vm.Alike U.vm) (h : vx_Zq C n d A u H) : vx_Zq C n d A U H := ⟨va_Zq.moved hvm h.1, vx_L.moved hvm h.2⟩
theorem vx_Zq.kept {C n d : String} {A : Nat → Prop} {U : State} {H H1 : Heap} (h : vx_Zq C n d A U H) (hq : ∀ a : Nat, a < H.size → ¬ A a → H1[a]? = H[a]?) : vx_Zq C n d A U H1 := ⟨va_Zq.kept h.1 hq, vx_L.kept h.2 hq⟩
theorem vx_Zq.narrow {C n d : String} {A B : Nat → Prop} {U : State} {H : Heap} (h : vx_Zq C n d A U H) (hAB : ∀ q, B q → A q) : vx_Zq C n d B U H := ⟨va_Zq.narrow h.1 hAB, vx_L.narrow h.2 hAB⟩
theorem vx_Zqof {args : Array Value} {s : State} {C n d : String} {A : Nat → Prop} (hl : (Cond.laysStatic C n d).before args s = true) (hini : (Cond.initialized C).before args s = true) (h : (Cond.isRef (.static C n d)).before args s = true) (hA : ∀ a : Nat, a < s.heap.size → ¬ A a) : vx_Zq C n d A s s.heap := by
  refine ⟨va_Zqof hl hini h hA, ?_⟩
  obtain ⟨c, k, i, f, a, cell, h1, h2, h3, h4, h5, h6, h7, h8, h9⟩ := Cond.laysStatic_spec hl
  exact ⟨c, k, i, f, a, cell, h1, h2, h3, h4, h5, h6, h7, h8, h9, hA a (Array.getElem?_eq_some_iff.mp h5).1⟩
theorem vx_isRef {C n d : String} {v : Value} {A : Nat → Prop} {s : State} {args : Array Value} (h : va_Z C n d v A s s.heap) (hv : v.isRef = true) : (Cond.isRef (.static C n d)).before args s = true := by
  obtain ⟨cf, kf, fi, f, a, cell, h1, h2, h3, h4, h5, h6, h7, -⟩ := h
  have he : (Term.static C n d).eval args s none [] s = some v := by
    simp [Term.eval, State.fieldNamed?, h1, h2, h4, h5, h6, h7]
  simp only [Cond.before, Cond.holds, Cond.value, he]
  cases v <;> simp_all [Value.isRef]
theorem vx_isRefq {C n d : String} {A : Nat → Prop} {s : State} {args : Array Value} (h : va_Zq C n d A s s.heap) : (Cond.isRef (.static C n d)).before args s = true := by
  rcases h with h | ⟨t, h⟩
  · exact vx_isRef h rfl
  · exact vx_isRef h rfl
/-- the same frame, seen from here: as if the method were called anew in this heap -/
theorem vx_rebase {T : State} (X : Stand p l e R s m args below meth c T locs cells slots) {R' : Room} (hf : R'.frames ≤ R.frames) (hl : R'.locals ≤ R.locals) (hc : cells + R'.cells ≤ R.cells) (hs : slots + R'.slots ≤ R.slots) :
    Stand p l e R' ((T.setVm s.vm).setFrames (.invoking m args :: below)) m args below meth c T [] 0 0 := by
  have htop : (T.setVm s.vm).topJava?.isSome := X.here.top
  have hF : ((T.setVm s.vm).setFrames (.invoking m args :: below)).frames = .invoking m args :: below := State.frames_setFrames _ (State.cur_lt_of_top htop)
  obtain ⟨g₀, hg0⟩ := Option.isSome_iff_exists.mp htop
  obtain ⟨r, hr⟩ := State.topJava?_eq_some.mp hg0
  have hl9 : e.platform.stackLimits (T.setVm s.vm).me = e.platform.stackLimits s.me := X.limits
  have hb9 : (T.setVm s.vm).me.stackBytes = s.me.stackBytes := X.bytes
  refine ⟨X.admits, X.cas, X.clock, hF, ?_, X.hears, X.method, X.code, X.here, X.tail, X.warmed, ?_, ?_, ?_⟩
  · have h := X.room
    have hU : ((T.setVm s.vm).setFrames (.invoking m args :: below)).localsInUse = s.localsInUse := by
      rw [State.localsInUse_invoking hF (meth := meth) (c := c) X.method X.code, State.localsInUse_invoking X.frames X.method X.code]
    simp only [State.hasRoom, Bool.and_eq_true, decide_eq_true_eq] at h ⊢
    obtain ⟨⟨⟨⟨h1, h2, h3, h4, h5, h6⟩, h7⟩, h8⟩, h9⟩ := h
    rw [X.frames, List.length_cons] at h2 h3
    have q1 := X.heapSize
    have q2 := X.used
    simp only [hF, hU, List.length_cons, State.stackLimits_setFrames, State.stackBytes_setFrames, hl9, hb9]
    refine ⟨⟨⟨⟨by omega, by omega, by omega, by omega, by omega, h6⟩, ?_⟩, ?_⟩, X.book⟩
    · show T.heap.size + R'.cells ≤ e.platform.maxCells
      omega
    · show T.slotsUsed + R'.slots ≤ e.platform.maxSlots
      omega
  · rw [State.stackLimits_setFrames]; rfl
  · rw [State.stackBytes_setFrames]; rfl
  · refine ⟨?_, Nat.le_refl _, Nat.le_refl _, ?_, ?_, fun a c9 h9 => ⟨c9, h9, rfl, rfl, fun _ _ => rfl⟩⟩
    · obtain ⟨t, ht, -⟩ := State.frames_cons hr
      show T.setVm s.vm = { ((T.setVm s.vm).setFrames (.invoking m args :: below)).setFrames (T.setVm s.vm).frames with heap := T.heap, slotsUsed := T.slotsUsed }
      rw [State.setFrames_setFrames, State.setFrames_self ht]
      rfl
    · show T.slotsUsed = T.slotsUsed + ((T.heap.toList.drop T.heap.size).map (·.slots.size)).sum
      rw [List.drop_eq_nil_of_le (Nat.le_of_eq Array.length_toList)]
      rfl
    · show ((T.heap.toList.drop T.heap.size).map (·.slots.size)).sum ≤ 0
      rw [List.drop_eq_nil_of_le (Nat.le_of_eq Array.length_toList)]
      exact Nat.le_refl _
/-- 'throw new E()': new; dup; invokespecial; athrow -/
theorem vx_throw0 {cc : ByteArray} {pc : Nat} (hexec : p.tables.exec = Jvm.exec) (hb : c.code = cc) (hl : l.stackTraces = false) {own cls : String} {names : List String} {ik ic mc ms : Nat} {A : Nat → Prop}
    (hown : s.vm.findClass own = some m.cls) (hcls : Bundle.fit cls = true) (hnames : ∀ n ∈ names, Bundle.fit n = true)
    (hk : (Cond.classLink own ik cls).before args s = true) (hini : (Cond.initialized cls).before args s = true) (hat : ∀ w ∈ vx_at0 own ic cls names, w.before args s = true)
    (hgood : ∀ w ∈ Cond.classLink own ik cls :: Cond.initialized cls :: vx_at0 own ic cls names, vx_ot w = true)
    (hU : vx_Zq Bundle.tN "UNASSIGNED_STACK" Bundle.steD A s s.heap) (hN : vx_Zq Bundle.tN "SUPPRESSED_SENTINEL" Bundle.listD A s s.heap) (hS : va_S A s.heap H locs) (hsize : ls.size = c.maxLocals)
    (d0 : decode cc pc = .ok (.new ik, 3)) (d3 : decode cc (pc + 3) = .ok (.dup, 1)) (d4 : decode cc (pc + 4) = .ok (.invokespecial ic, 3)) (d7 : decode cc (pc + 7) = .ok (.athrow, 1))
    (hout : ∀ x ∈ c.exceptionTable.toList, covers x (pc + 7) = false)
    (hRframes : names.length + 3 < R.frames) (hRlocals : (rest.map fun v => v.category).sum + (13 * (names.length + 1) + 42) ≤ R.locals) (hRcells : cells + 1 ≤ R.cells) (hRslots : slots + 6 ≤ R.slots) (hlocks : meth.locks = false)
    (hx : ∀ t : State, s.vm.Alike t.vm → H.size ≤ t.heap.size → (∀ q : Nat, q < H.size → t.heap[q]? = H[q]?) → XC cls s t)
    (hf : ∀ z ∈ locs, free z.base) (hc : cells + 1 ≤ mc) (hs : slots + 6 ≤ ms) :
    W p l e R s m args below meth c H locs cells slots (vx_MQ below Qc XC args s mc ms free) (F0 m pc ls rest) := by
  intro T hT X
  have htr : e.platform.stackTraces = false := (show e.platform.stackTraces = l.stackTraces by rw [X.admits.platform]).trans hl
  have Y := vx_rebase X (R' := { frames := R.frames, locals := R.locals, cells := 1, slots := 6 }) (Nat.le_refl _) (Nat.le_refl _) hRcells hRslots
  obtain ⟨s', hA⟩ : ∃ z, z = (T.setVm s.vm).setFrames (.invoking m args :: below) := ⟨_, rfl⟩
  rw [← hA] at Y
  have hvm : s'.vm = s.vm := by rw [hA]; rfl
  have hhp : s'.heap = H := by rw [hA]; exact hT
  have hW0 : s.WarmedH s'.vm := by rw [hvm]; exact State.WarmedH.refl s
  have hat' : ∀ w ∈ vx_at0 own ic cls names, w.before args s' = true := fun w hw => vx_ot_at hW0 hvm.symm (hgood w (List.mem_cons_of_mem _ (List.mem_cons_of_mem _ hw))) (hat w hw)
  have hk' : (Cond.classLink own ik cls).before args s' = true := vx_ot_at hW0 hvm.symm (hgood _ List.mem_cons_self) hk
  have hini' : (Cond.initialized cls).before args s' = true := vx_ot_at hW0 hvm.symm (hgood _ (List.mem_cons_of_mem _ List.mem_cons_self)) hini
  have hU' : vx_Zq Bundle.tN "UNASSIGNED_STACK" Bundle.steD A s' s'.heap := by rw [hhp]; exact vx_Zq.moved hW0.alike (hU.kept hS.2.1)
  have hN' : vx_Zq Bundle.tN "SUPPRESSED_SENTINEL" Bundle.listD A s' s'.heap := by rw [hhp]; exact vx_Zq.moved hW0.alike (hN.kept hS.2.1)
  have h : ∀ w ∈ Bundle.ownAtoms0 own ic cls names, w.before args s' = true := vx_own hat' (vx_isRefq hU'.1) (vx_isRefq hN'.1) hU'.2.word hN'.2.word
  have hown' : s'.vm.findClass own = some m.cls := by rw [hvm]; exact hown
  have hins : (Cond.instantiable cls 6).before args s' = true := h _ (by simp [Bundle.ownAtoms0])
  obtain ⟨vm₁, cX, kX, hfX, hkX, -, -, X₁, st1⟩ := Y.newCold hexec (own := own) (C := cls) (index := ik) (n := 6) hown' hk' hins hini'
    (g := F0 m pc ls rest) rfl (by rw [hb]; exact d0) (Nat.le_refl _) (Nat.le_refl _)
  generalize hT1 : (T.setVm vm₁).pushCell { cls := cX, slots := kX.instanceTypes.map defaultValue, vm := .none } = T1 at X₁ st1
  have hcat : (Value.ref T.heap.size).category = 1 := rfl
  have hcellA : T1.heap[T.heap.size]? = some (freshCell cX kX) := by rw [← hT1]; exact State.heap_pushCell_size _ _
  have d3' : decode c.code (pc + 3) = .ok (.dup, 1) := by rw [hb]; exact d3
  obtain ⟨U, hsteps, hrun, hend, hW, hsame, ce, hce, hO⟩ := X₁.ctorThrow0 hexec htr (own := own) (cls := cls) (names := names) (ic := ic) hown' hcls hnames h (fun x hx => nomatch hx) hfX hkX hcellA (by rw [hhp, hT]; exact Nat.le_refl _)
    (g := { method := m, pc := pc + 4, locals := ls, stack := .ref T.heap.size :: .ref T.heap.size :: rest, locked := none }) rfl hsize rfl rfl (rest := rest) rfl
    (by rw [hb]; exact d4) (by rw [hb]; exact d7) hout hRframes (by simp only [List.map_cons, List.sum_cons, hcat]; omega) hlocks
  obtain ⟨f1, f2⟩ := vx_frame hsame
  rw [hhp] at f1 f2
  have hWs : s.WarmedH U.vm := State.WarmedH.trans hW0 hW
  have hcl : s.vm.findClass cls = some ce.cls := by
    have h9 := hO.cls
    rw [hvm] at h9
    exact h9
  have hall : s.sameButNew ({ U with vm := s.vm } : State) locs mc ms := by
    subst hA
    obtain ⟨e1, e2⟩ := hsame
    rw [State.setFrames_setFrames] at e1
    have h2 : (T.setVm s.vm).sameButNew ({ U with vm := s.vm } : State) [] (0 + 1) (0 + 6) := ⟨e1, e2⟩
    have h3 := X.same.trans h2
    rw [List.append_nil] at h3
    exact h3.mono hc hs
  refine ⟨U, ?_, .threw T.heap.size, hrun, hend, Or.inr ⟨T.heap.size, rfl, cls, ce, locs, hx U hWs.alike f1 (fun q hq => f2 q hq (fun z hz => nomatch hz)), hce, hO.vm, hcl, hWs, hall, hf⟩⟩
  refine st1 _ ?_
  show Steps p.tables e below (T1.setTop { method := m, pc := pc + 3, locals := ls, stack := .ref T.heap.size :: rest, locked := none }) _
  jvm_step X₁.here [X₁.here.top, hexec, d3', Value.category]
  exact hsteps
/-- 'throw new E("text")': new; dup; ldc; invokespecial; athrow -/
theorem vx_throwS {cc : ByteArray} {pc : Nat} (hexec : p.tables.exec = Jvm.exec) (hb : c.code = cc) (hl : l.stackTraces = false) {own cls text : String} {names : List String} {ik is ic mc ms sa : Nat} {A : Nat → Prop}
    (hown : s.vm.findClass own = some m.cls) (hcls : Bundle.fit cls = true) (hnames : ∀ n ∈ names, Bundle.fit n = true)
    (hk : (Cond.classLink own ik cls).before args s = true) (hini : (Cond.initialized cls).before args s = true) (hstr : vk_R own is text sa s) (hat : ∀ w ∈ vx_atS own ic cls names, w.before args s = true)
    (hgood : ∀ w ∈ Cond.classLink own ik cls :: Cond.initialized cls :: vx_atS own ic cls names, vx_ot w = true)
    (hU : vx_Zq Bundle.tN "UNASSIGNED_STACK" Bundle.steD A s s.heap) (hN : vx_Zq Bundle.tN "SUPPRESSED_SENTINEL" Bundle.listD A s s.heap) (hS : va_S A s.heap H locs) (hsize : ls.size = c.maxLocals)
    (d0 : decode cc pc = .ok (.new ik, 3)) (d3 : decode cc (pc + 3) = .ok (.dup, 1)) (d4 : decode cc (pc + 4) = .ok (.ldc is, 2)) (d6 : decode cc (pc + 6) = .ok (.invokespecial ic, 3)) (d9 : decode cc (pc + 9) = .ok (.athrow, 1))
    (hout : ∀ x ∈ c.exceptionTable.toList, covers x (pc + 9) = false)
    (hRframes : names.length + 3 < R.frames) (hRlocals : (rest.map fun v => v.category).sum + (13 * (names.length + 1) + 43) ≤ R.locals) (hRcells : cells + 1 ≤ R.cells) (hRslots : slots + 6 ≤ R.slots) (hlocks : meth.locks = false)
    (hx : ∀ t : State, s.vm.Alike t.vm → H.size ≤ t.heap.size → (∀ q : Nat, q < H.size → t.heap[q]? = H[q]?) → XC cls s t)
    (hf : ∀ z ∈ locs, free z.base) (hc : cells + 1 ≤ mc) (hs : slots + 6 ≤ ms) :
    W p l e R s m args below meth c H locs cells slots (vx_MQ below Qc XC args s mc ms free) (F0 m pc ls rest) := by
  intro T hT X
  have htr : e.platform.stackTraces = false := (show e.platform.stackTraces = l.stackTraces by rw [X.admits.platform]).trans hl
  have Y := vx_rebase X (R' := { frames := R.frames, locals := R.locals, cells := 1, slots := 6 }) (Nat.le_refl _) (Nat.le_refl _) hRcells hRslots
  obtain ⟨s', hA⟩ : ∃ z, z = (T.setVm s.vm).setFrames (.invoking m args :: below) := ⟨_, rfl⟩
  rw [← hA] at Y
  have hvm : s'.vm = s.vm := by rw [hA]; rfl
  have hhp : s'.heap = H := by rw [hA]; exact hT
  have hW0 : s.WarmedH s'.vm := by rw [hvm]; exact State.WarmedH.refl s
  have hat' : ∀ w ∈ vx_atS own ic cls names, w.before args s' = true := fun w hw => vx_ot_at hW0 hvm.symm (hgood w (List.mem_cons_of_mem _ (List.mem_cons_of_mem _ hw))) (hat w hw)
  have hk' : (Cond.classLink own ik cls).before args s' = true := vx_ot_at hW0 hvm.symm (hgood _ List.mem_cons_self) hk
  have hini' : (Cond.initialized cls).before args s' = true := vx_ot_at hW0 hvm.symm (hgood _ (List.mem_cons_of_mem _ List.mem_cons_self)) hini
  have hU' : vx_Zq Bundle.tN "UNASSIGNED_STACK" Bundle.steD A s' s'.heap := by rw [hhp]; exact vx_Zq.moved hW0.alike (hU.kept hS.2.1)
  have hN' : vx_Zq Bundle.tN "SUPPRESSED_SENTINEL" Bundle.listD A s' s'.heap := by rw [hhp]; exact vx_Zq.moved hW0.alike (hN.kept hS.2.1)
  have h : ∀ w ∈ Bundle.ownAtoms own ic cls names, w.before args s' = true := vx_own hat' (vx_isRefq hU'.1) (vx_isRefq hN'.1) hU'.2.word hN'.2.word
  have hown' : s'.vm.findClass own = some m.cls := by rw [hvm]; exact hown
  have hins : (Cond.instantiable cls 6).before args s' = true := h _ (by simp [Bundle.ownAtoms])
  obtain ⟨vm₁, cX, kX, hfX, hkX, -, -, X₁, st1⟩ := Y.newCold hexec (own := own) (C := cls) (index := ik) (n := 6) hown' hk' hins hini'
    (g := F0 m pc ls rest) rfl (by rw [hb]; exact d0) (Nat.le_refl _) (Nat.le_refl _)
  generalize hT1 : (T.setVm vm₁).pushCell { cls := cX, slots := kX.instanceTypes.map defaultValue, vm := .none } = T1 at X₁ st1
  have hcat : (Value.ref T.heap.size).category = 1 := rfl
  have hcellA : T1.heap[T.heap.size]? = some (freshCell cX kX) := by rw [← hT1]; exact State.heap_pushCell_size _ _
  have d3' : decode c.code (pc + 3) = .ok (.dup, 1) := by rw [hb]; exact d3
  have d4' : decode c.code (pc + 4) = .ok (.ldc is, 2) := by rw [hb]; exact d4
  have hstr' : vk_R own is text sa s' := vk_R.warm hW0 hstr
  obtain ⟨U, hsteps, hrun, hend, hW, hsame, ce, hce, hO⟩ := X₁.ctorThrowS hexec htr (own := own) (cls := cls) (names := names) (ic := ic) hown' hcls hnames h (fun x hx => nomatch hx) hfX hkX hcellA (by rw [hhp, hT]; exact Nat.le_refl _) (msg := .ref sa) rfl
    (g := { method := m, pc := pc + 6, locals := ls, stack := .ref sa :: .ref T.heap.size :: .ref T.heap.size :: rest, locked := none }) rfl hsize rfl rfl (rest := rest) rfl
    (by rw [hb]; exact d6) (by rw [hb]; exact d9) hout hRframes (by simp only [List.map_cons, List.sum_cons, hcat]; omega) hlocks
  obtain ⟨f1, f2⟩ := vx_frame hsame
  rw [hhp] at f1 f2
  have hWs : s.WarmedH U.vm := State.WarmedH.trans hW0 hW
  have hcl : s.vm.findClass cls = some ce.cls := by
    have h9 := hO.cls
    rw [hvm] at h9
    exact h9
  have hall : s.sameButNew ({ U with vm := s.vm } : State) locs mc ms := by
    subst hA
    obtain ⟨e1, e2⟩ := hsame
    rw [State.setFrames_setFrames] at e1
    have h2 : (T.setVm s.vm).sameButNew ({ U with vm := s.vm } : State) [] (0 + 1) (0 + 6) := ⟨e1, e2⟩
    have h3 := X.same.trans h2
    rw [List.append_nil] at h3
    exact h3.mono hc hs
  refine ⟨U, ?_, .threw T.heap.size, hrun, hend, Or.inr ⟨T.heap.size, rfl, cls, ce, locs, hx U hWs.alike f1 (fun q hq => f2 q hq (fun z hz => nomatch hz)), hce, hO.vm, hcl, hWs, hall, hf⟩⟩
  refine st1 _ ?_
  show Steps p.tables e below (T1.setTop { method := m, pc := pc + 3, locals := ls, stack := .ref T.heap.size :: rest, locked := none }) _
  jvm_step X₁.here [X₁.here.top, hexec, d3', Value.category]
  exact X₁.ldcString hexec (own := own) (text := text) (index := is) (a := sa) hown' hstr'.1 hstr'.2
    (g := { method := m, pc := pc + 4, locals := ls, stack := .ref T.heap.size :: .ref T.heap.size :: rest, locked := none }) rfl d4' _ hsteps
/-- 'throw new E("text")', the text by a wide index -/
theorem vx_throwSW {cc : ByteArray} {pc : Nat} (hexec : p.tables.exec = Jvm.exec) (hb : c.code = cc) (hl : l.stackTraces = false) {own cls text : String} {names : List String} {ik is ic mc ms sa : Nat} {A : Nat → Prop}
    (hown : s.vm.findClass own = some m.cls) (hcls : Bundle.fit cls = true) (hnames : ∀ n ∈ names, Bundle.fit n = true)
    (hk : (Cond.classLink own ik cls).before args s = true) (hini : (Cond.initialized cls).before args s = true) (hstr : vk_R own is text sa s) (hat : ∀ w ∈ vx_atS own ic cls names, w.before args s = true)
    (hgood : ∀ w ∈ Cond.classLink own ik cls :: Cond.initialized cls :: vx_atS own ic cls names, vx_ot w = true)
    (hU : vx_Zq Bundle.tN "UNASSIGNED_STACK" Bundle.steD A s s.heap) (hN : vx_Zq Bundle.tN "SUPPRESSED_SENTINEL" Bundle.listD A s s.heap) (hS : va_S A s.heap H locs) (hsize : ls.size = c.maxLocals)
    (d0 : decode cc pc = .ok (.new ik, 3)) (d3 : decode cc (pc + 3) = .ok (.dup, 1)) (d4 : decode cc (pc + 4) = .ok (.ldc_w is, 3)) (d7 : decode cc (pc + 7) = .ok (.invokespecial ic, 3)) (d10 : decode cc (pc + 10) = .ok (.athrow, 1))
    (hout : ∀ x ∈ c.exceptionTable.toList, covers x (pc + 10) = false)
    (hRframes : names.length + 3 < R.frames) (hRlocals : (rest.map fun v => v.category).sum + (13 * (names.length + 1) + 43) ≤ R.locals) (hRcells : cells + 1 ≤ R.cells) (hRslots : slots + 6 ≤ R.slots) (hlocks : meth.locks = false)
    (hx : ∀ t : State, s.vm.Alike t.vm → H.size ≤ t.heap.size → (∀ q : Nat, q < H.size → t.heap[q]? = H[q]?) → XC cls s t)
    (hf : ∀ z ∈ locs, free z.base) (hc : cells + 1 ≤ mc) (hs : slots + 6 ≤ ms) :
    W p l e R s m args below meth c H locs cells slots (vx_MQ below Qc XC args s mc ms free) (F0 m pc ls rest) := by
  intro T hT X
  have htr : e.platform.stackTraces = false := (show e.platform.stackTraces = l.stackTraces by rw [X.admits.platform]).trans hl
  have Y := vx_rebase X (R' := { frames := R.frames, locals := R.locals, cells := 1, slots := 6 }) (Nat.le_refl _) (Nat.le_refl _) hRcells hRslots
  obtain ⟨s', hA⟩ : ∃ z, z = (T.setVm s.vm).setFrames (.invoking m args :: below) := ⟨_, rfl⟩
  rw [← hA] at Y
  have hvm : s'.vm = s.vm := by rw [hA]; rfl
  have hhp : s'.heap = H := by rw [hA]; exact hT
  have hW0 : s.WarmedH s'.vm := by rw [hvm]; exact State.WarmedH.refl s
  have hat' : ∀ w ∈ vx_atS own ic cls names, w.before args s' = true := fun w hw => vx_ot_at hW0 hvm.symm (hgood w (List.mem_cons_of_mem _ (List.mem_cons_of_mem _ hw))) (hat w hw)
  have hk' : (Cond.classLink own ik cls).before args s' = true := vx_ot_at hW0 hvm.symm (hgood _ List.mem_cons_self) hk
  have hini' : (Cond.initialized cls).before args s' = true := vx_ot_at hW0 hvm.symm (hgood _ (List.mem_cons_of_mem _ List.mem_cons_self)) hini
  have hU' : vx_Zq Bundle.tN "UNASSIGNED_STACK" Bundle.steD A s' s'.heap := by rw [hhp]; exact vx_Zq.moved hW0.alike (hU.kept hS.2.1)
  have hN' : vx_Zq Bundle.tN "SUPPRESSED_SENTINEL" Bundle.listD A s' s'.heap := by rw [hhp]; exact vx_Zq.moved hW0.alike (hN.kept hS.2.1)
  have h : ∀ w ∈ Bundle.ownAtoms own ic cls names, w.before args s' = true := vx_own hat' (vx_isRefq hU'.1) (vx_isRefq hN'.1) hU'.2.word hN'.2.word
  have hown' : s'.vm.findClass own = some m.cls := by rw [hvm]; exact hown
  have hins : (Cond.instantiable cls 6).before args s' = true := h _ (by simp [Bundle.ownAtoms])
  obtain ⟨vm₁, cX, kX, hfX, hkX, -, -, X₁, st1⟩ := Y.newCold hexec (own := own) (C := cls) (index := ik) (n := 6) hown' hk' hins hini'
    (g := F0 m pc ls rest) rfl (by rw [hb]; exact d0) (Nat.le_refl _) (Nat.le_refl _)
  generalize hT1 : (T.setVm vm₁).pushCell { cls := cX, slots := kX.instanceTypes.map defaultValue, vm := .none } = T1 at X₁ st1
  have hcat : (Value.ref T.heap.size).category = 1 := rfl
  have hcellA : T1.heap[T.heap.size]? = some (freshCell cX kX) := by rw [← hT1]; exact State.heap_pushCell_size _ _
  have d3' : decode c.code (pc + 3) = .ok (.dup, 1) := by rw [hb]; exact d3
  have d4' : decode c.code (pc + 4) = .ok (.ldc_w is, 3) := by rw [hb]; exact d4
  have hstr' : vk_R own is text sa s' := vk_R.warm hW0 hstr
  obtain ⟨U, hsteps, hrun, hend, hW, hsame, ce, hce, hO⟩ := X₁.ctorThrowS hexec htr (own := own) (cls := cls) (names := names) (ic := ic) hown' hcls hnames h (fun x hx => nomatch hx) hfX hkX hcellA (by rw [hhp, hT]; exact Nat.le_refl _) (msg := .ref sa) rfl
    (g := { method := m, pc := pc + 7, locals := ls, stack := .ref sa :: .ref T.heap.size :: .ref T.heap.size :: rest, locked := none }) rfl hsize rfl rfl (rest := rest) rfl
    (by rw [hb]; exact d7) (by rw [hb]; exact d10) hout hRframes (by simp only [List.map_cons, List.sum_cons, hcat]; omega) hlocks
  obtain ⟨f1, f2⟩ := vx_frame hsame
  rw [hhp] at f1 f2
  have hWs : s.WarmedH U.vm := State.WarmedH.trans hW0 hW
  have hcl : s.vm.findClass cls = some ce.cls := by
    have h9 := hO.cls
    rw [hvm] at h9
    exact h9
  have hall : s.sameButNew ({ U with vm := s.vm } : State) locs mc ms := by
    subst hA
    obtain ⟨e1, e2⟩ := hsame
    rw [State.setFrames_setFrames] at e1
    have h2 : (T.setVm s.vm).sameButNew ({ U with vm := s.vm } : State) [] (0 + 1) (0 + 6) := ⟨e1, e2⟩
    have h3 := X.same.trans h2
    rw [List.append_nil] at h3
    exact h3.mono hc hs
  refine ⟨U, ?_, .threw T.heap.size, hrun, hend, Or.inr ⟨T.heap.size, rfl, cls, ce, locs, hx U hWs.alike f1 (fun q hq => f2 q hq (fun z hz => nomatch hz)), hce, hO.vm, hcl, hWs, hall, hf⟩⟩
  refine st1 _ ?_
  show Steps p.tables e below (T1.setTop { method := m, pc := pc + 3, locals := ls, stack := .ref T.heap.size :: rest, locked := none }) _
  jvm_step X₁.here [X₁.here.top, hexec, d3', Value.category]
  exact X₁.ldcStringW hexec (own := own) (text := text) (index := is) (a := sa) hown' hstr'.1 hstr'.2
    (g := { method := m, pc := pc + 4, locals := ls, stack := .ref T.heap.size :: .ref T.heap.size :: rest, locked := none }) rfl d4' _ hsteps
end Ends
section Bodies
variable {l : Launch}
theorem vx_ofW {y : MethodName} {ws ws' : List Cond} {rm : Room} {Pc : Array Value → State → Prop} {Qc : Array Value → State → Outcome → State → Prop} {XC : String → State → State → Prop} {mc ms : Nat} {free : Addr → Prop} {cc : ByteArray} {maxL : Nat} {ret : Option FieldType}
    (hy : plainName y.cls = true) (hw : ws = Cond.code y cc maxL ret :: ws')
    (body : ∀ p e s m args below meth c s₁, BodyLoose p l y (headSpec ws rm) cc maxL ret e s m args below meth c s₁ → c.maxLocals = maxL → (∀ x ∈ c.exceptionTable.toList, False) → Pc args s →
      W p l e (headSpec ws rm).room s m args below meth c s.heap [] 0 0 (vx_MQ below Qc XC args s mc ms free) (entryFrame m args maxL)) : vx_Met l y ws rm Pc Qc XC mc ms free := by
  refine MetFree.of_bodyS (code := cc) (maxLocals := maxL) (ret := ret) hy ?_ ?_
  · intro args s m h hn
    obtain ⟨meth, c, h1, h2, h3, h4, h5, h6, -, -⟩ := Cond.code_spec hn (atoms_spec (ws := ws) h _ (by rw [hw]; exact List.mem_cons_self))
    exact ⟨meth, c, h1, h2, h3, h4, h5, h6⟩
  · intro p e s m args below meth c s₁ B hml hP _
    have hh0 : s₁.heap = s.heap := by rw [B.state]; rfl
    have ht : ∀ x ∈ c.exceptionTable.toList, False := by
      obtain ⟨meth9, c9, h1, h2, -, -, -, -, h7, -⟩ := Cond.code_spec B.named (atoms_spec (ws := ws) B.pre _ (by rw [hw]; exact List.mem_cons_self))
      cases Option.some.inj (h1.symm.trans B.method)
      cases Option.some.inj (h2.symm.trans (Stand.of_body B).code)
      intro x hx
      rw [Array.isEmpty_iff.mp h7] at hx
      cases hx
    obtain ⟨t, a1, o, b1, b2, b3⟩ := body p e s m args below meth c s₁ B hml ht hP s₁ hh0 (Stand.of_body B)
    exact ⟨t, o, a1, b1, b2, b3⟩
/-- the table of a body with handlers -/
theorem vx_table {p : Program} {x y : MethodName} {S : Spec} {cc bytes : ByteArray} {maxL maxL' : Nat} {ret ret' : Option FieldType} {e : Env} {s s₁ : State} {m : MethodId} {args : Array Value} {below : List Frame} {meth : Method} {c : Code} {hh : List (Nat × Nat × Nat × Nat)}
    (B : BodyLoose p l y S cc maxL ret e s m args below meth c s₁) (h : (Cond.codeWith y bytes maxL' ret' hh).before args s = true) : c.exceptionTable.toList = tableOf hh := by
  obtain ⟨m9, meth9, c9, hn9, h1, h2, -, -, h6, -⟩ := Cond.codeWith_spec h
  cases Option.some.inj (hn9.symm.trans B.named)
  cases Option.some.inj (h1.symm.trans B.method)
  cases Option.some.inj (h2.symm.trans (Stand.of_body B).code)
  rw [← h6, table_eq]
end Bodies
end VXA
/-! ===== END ===== -/
/-! ===== BEGIN a static call of a method with an exception table ===== -/
section VXS
variable {p : Program} {l : Launch} {e : Env} {R : Room} {s : State} {m : MethodId} {args : Array Value} {below : List Frame} {meth : Method} {c : Code} {T : State} {H : Heap} {locs : List Loc} {cells slots : Nat}
abbrev vx_CSW (R : Room) (s : State) (args : Array Value) (own : String) (index : Nat) (y : MethodName) (bytes : ByteArray) (maxL : Nat) (ret : Option FieldType) (hh : List (Nat × Nat × Nat × Nat)) (ws : List Cond) (rm : Room) (mc ms n : Nat) : Prop :=
  (rm.cells = mc ∧ rm.slots = ms ∧ rm.frames + 1 ≤ R.frames ∧ 8 + (maxL + 11) + rm.locals ≤ R.locals ∧ (∀ w ∈ ws, ∀ (a' : Array Value) (U : State), s.WarmedH U.vm → w.before a' U = true) ∧ Cond.codeWith y bytes maxL ret hh ∈ ws) ∧
  (Cond.codeWith y bytes maxL ret hh).before args s = true ∧ (Cond.initialized y.cls).before args s = true ∧ (y.cls ≠ "java/lang/invoke/MethodHandle" ∧ y.cls ≠ "java/lang/invoke/VarHandle") ∧
  (∀ sig, parseMethodDescriptor y.desc = some sig → n = sig.parameters.length) ∧ (Cond.methodLink own index y).before args s = true ∧ (Cond.static y).before args s = true
theorem vx_cwSW {own : String} {index maxL mc ms : Nat} {y : MethodName} {bytes : ByteArray} {ret : Option FieldType} {hh : List (Nat × Nat × Nat × Nat)} {Ts ws ws' : List Cond} {rm : Room} (n : Nat) (ht : ∀ w ∈ Ts, w.before args s = true) (hT : GoodIn Ts (va_wsS own index y ws)) (hw : ws = Cond.codeWith y bytes maxL ret hh :: ws') (hrc : rm.cells = mc) (hrs : rm.slots = ms)
    (hd : y.cls ≠ "java/lang/invoke/MethodHandle" ∧ y.cls ≠ "java/lang/invoke/VarHandle" ∧ (parseMethodDescriptor y.desc).map (fun d => d.parameters.length) = some n) (hR : rm.frames + 1 ≤ R.frames ∧ 8 + (maxL + 11) + rm.locals ≤ R.locals) :
    vx_CSW R s args own index y bytes maxL ret hh ws rm mc ms n := by
  have ok : ∀ w ∈ va_wsS own index y ws, w.before args s = true := fun w h => ht w (hT w h).1
  have hG : GoodIn Ts ws := fun w h => hT w (by unfold va_wsS; exact List.mem_append_right _ h)
  have hc : Cond.codeWith y bytes maxL ret hh ∈ ws := by rw [hw]; exact List.mem_cons_self
  refine ⟨⟨hrc, hrs, hR.1, hR.2, pay_in ht hG, hc⟩, ht _ (hG _ hc).1, ok _ (by simp [va_wsS]), ⟨hd.1, hd.2.1⟩, fun sig h => ?_, ok _ (by simp [va_wsS]), ok _ (by simp [va_wsS])⟩
  have h2 := hd.2.2
  rw [h] at h2
  exact (Option.some.inj h2).symm
theorem vx_callSW (X : Stand p l e R s m args below meth c T locs cells slots) (hexec : p.tables.exec = Jvm.exec) {own : String} {index : Nat} {y : MethodName} {bytes : ByteArray} {maxL : Nat} {ret : Option FieldType} {hh : List (Nat × Nat × Nat × Nat)}
    (hown : s.vm.findClass own = some m.cls) (hlink : (Cond.methodLink own index y).before args s = true) (hstat : (Cond.static y).before args s = true) (hinit : (Cond.initialized y.cls).before args s = true)
    (hcode : (Cond.codeWith y bytes maxL ret hh).before args s = true) (hy : y.cls ≠ "java/lang/invoke/MethodHandle" ∧ y.cls ≠ "java/lang/invoke/VarHandle")
    {W9 : Nat} {Pre : Pt → Array Value → Prop} {Post : Pt → Array Value → Option Value → Pt → Prop} (hK : Back l R p e below s args y 3 W9 Pre Post)
    {g : JFrame} (hg : g.method = m) (hsize : g.locals.size = c.maxLocals) {argsL rest : List Value} (hlen : ∀ sig, parseMethodDescriptor y.desc = some sig → argsL.length = sig.parameters.length)
    (hstack : g.stack = argsL.reverse ++ rest) (hW : 2 * g.monitorRoom + (rest.map fun v => v.category).sum ≤ W9) (hdg : decode c.code g.pc = .ok (.invokestatic index, 3))
    (hpre : ∀ vm₁, s.WarmedH vm₁ → Pre ⟨T.setVm vm₁, locs, cells, slots⟩ argsL.toArray) :
    ∃ (v : Option Value) (vm₁ : Vm) (B : Pt), s.WarmedH vm₁ ∧ Stand p l e R s m args below meth c B.U B.locs B.cells B.slots ∧ Post ⟨T.setVm vm₁, locs, cells, slots⟩ argsL.toArray v B ∧
      ∀ target, Steps p.tables e below (B.U.setTop { g with pc := g.pc + 3, stack := v.toList ++ rest }) target → Steps p.tables e below (T.setTop g) target := by
  obtain ⟨mk, methM, cM, hnamed, hmethM, -, -, -, -, -, -, hsigM⟩ := Cond.codeWith_spec hcode
  have hstatic : methM.isStatic = true := Cond.static_spec hnamed hmethM hstat
  obtain ⟨kP, hkP, -⟩ := className_of_methodNamed hnamed
  have hinitP : kP.init = .initialized := Cond.initialized_spec (findClass_of_methodNamed hnamed) hkP hinit
  obtain ⟨vm₁, X₁, hstep₁⟩ := X.invokestatic hexec hown hlink hnamed hmethM hstatic hkP hinitP hy (g := g) hg (argsL := argsL) (rest := rest) (hlen _ hsigM) hstack hdg
  obtain ⟨v, B, X', hpost, hsteps⟩ := hK m meth c ⟨T.setVm vm₁, locs, cells, slots⟩ { g with stack := rest } (.invokestatic index) mk argsL.toArray X₁ hg hsize hdg hW (X₁.named hnamed) (hpre vm₁ X₁.warmed)
  exact ⟨v, vm₁, B, X₁.warmed, X', hpost, fun target h => hstep₁ _ fun acts => by rw [doInvoke_state]; exact hsteps.trans h⟩
theorem vx_runSW {y : MethodName} {bytes cc : ByteArray} {maxL nL mc ms n index : Nat} {ret : Option FieldType} {hh : List (Nat × Nat × Nat × Nat)} {ws : List Cond} {rm : Room} {Pc : Array Value → State → Prop} {Qc : Array Value → State → Outcome → State → Prop} {free : Addr → Prop} {Ts : List Cond} {own : String} {As rest : List Value} {g : JFrame}
    (S : CallFix p m c cc nL s args Ts own) (hM : Met l y ws rm Pc Qc mc ms free) (cw : vx_CSW R s args own index y bytes maxL ret hh ws rm mc ms n) (hp : PreS s H Pc As)
    (hg : g.method = m) (hn : As.length = n) (hsize : g.locals.size = nL) (hstack : g.stack = As.reverse ++ rest) (hW : 2 * g.monitorRoom + (rest.map fun v => v.category).sum ≤ 8) (hdg : decode cc g.pc = .ok (.invokestatic index, 3)) (hf : cells + mc ≤ R.cells ∧ slots + ms ≤ R.slots) :
    va_Run p l e R s m args below meth c H locs cells slots mc ms g rest (Qc As.toArray) (free) := by
  obtain ⟨⟨hrc, hrs, hfr, hlo, hws, hcw⟩, hcode, hini, hy, hlen, hl, hstt⟩ := cw
  have hK : Back l R p e below s args y 3 8 (PreOf R mc ms Pc) (PostOf Qc mc ms free) := va_backW (hh := hh) (bytes := bytes) (maxL := maxL) (ret := ret) hM hp.1 hrc hrs hfr hlo hws hcw (fun a' U hW => word_at hW (Or.inl (by first | rfl | simp [Cond.onTables, Cond.keeps, Cond.steady])) hini)
  obtain ⟨hx, hb, hml, ho, -⟩ := S
  intro T hT X
  obtain ⟨v, vm₁, ⟨U', l2, c2, s2⟩, hW₁, X', ⟨g', mk, t, L, e1, e2, hq, h1, hL, h2, h3⟩, st⟩ := vx_callSW X hx (hh := hh) (bytes := bytes) (maxL := maxL) (ret := ret) ho hl hstt hini hcode hy hK hg (hsize.trans hml.symm) (argsL := As) (rest := rest) (fun sig h => hn.trans (hlen sig h)) hstack hW (by rw [hb]; exact hdg)
    (fun vm₁ hW₁ => ⟨hf.1, hf.2, hp.2 (T.setVm vm₁) hT hW₁⟩)
  dsimp only [Pt.U, Pt.locs, Pt.cells, Pt.slots] at X' e1 e2 h1 h2 h3 st
  subst h1; subst h2; subst h3
  exact ⟨v, (T.setVm vm₁).calling g' mk As.toArray, t, U', L, hT, X', hL, e1, e2, hq, st⟩
/-- not caught here, past rows that name other classes: it goes on to the caller -/
theorem vx_outP {p : Program} {l : Launch} {e : Env} {R : Room} {s : State} {m : MethodId} {args : Array Value} {below : List Frame} {meth : Method} {c : Code} {H : Heap} {locs : List Loc} {cells slots : Nat} {free : Addr → Prop} {ls : Array Slot} {rest : List Value} {Qc : Array Value → State → Outcome → State → Prop} {XC : String → State → State → Prop}
    {pc : Nat} {own E : String} {ce : Cell} {q : Addr} {mc ms : Nat} (hown : s.vm.findClass own = some m.cls) (hlocks : meth.locks = false)
    (hpass : ∀ z ∈ c.exceptionTable.toList, covers z pc = false ∨ (z.catchType ≠ 0 ∧ ∃ nm : String, (Cond.classLink own z.catchType nm).before args s = true ∧ va_Nc E nm s)) (hcell : H[q]? = some ce) (hv : ce.vm = .none) (hcl : s.vm.findClass E = some ce.cls)
    (hx : ∀ t : State, t.heap = H → s.vm.Alike t.vm → XC E s t) (hf : ∀ z ∈ locs, free z.base) (hc : cells ≤ mc) (hs : slots ≤ ms) :
    vx_W p l e R s m args below meth c H locs cells slots (vx_MQ below Qc XC args s mc ms free) (F0 m pc ls rest) q := by
  intro T hT X
  have hpl : e.platform.magicAccessors = ({} : Platform).magicAccessors := by rw [X.admits.platform]
  obtain ⟨vm', hW', X', st⟩ := X.outThrough hlocks q (g := F0 m pc ls rest) rfl rfl rfl (cell := ce) (by rw [hT]; exact hcell) (by rw [hv]; rfl)
    (by obtain ⟨k9, h9, -⟩ := Vm.findClass_spec hcl; exact ⟨k9, h9⟩) (fun z hz => by
      rcases hpass z hz with h | ⟨hz0, nm, hl1, hn1⟩
      · exact Or.inl h
      · obtain ⟨c6, hc6, hcl6⟩ := Cond.classLink_spec hown hl1 e.platform hpl
        obtain ⟨a8, b8, h1, h2, h3⟩ := hn1
        cases Option.some.inj (h1.symm.trans hcl)
        cases Option.some.inj (h2.symm.trans hc6)
        exact Or.inr ⟨hz0, _, hcl6, h3⟩)
  obtain ⟨g₀, hfr⟩ := X'.frames_eq
  have hcell9 : ((T.setVm vm').setFrames (.throwing q :: below)).heap[q]? = some ce := by
    show T.heap[q]? = some ce
    rw [hT]; exact hcell
  have hend : Ended ((T.setVm vm').setFrames (.throwing q :: below)) below (.threw q) := State.frames_setFrames _ (State.cur_lt_of_frames hfr)
  refine ⟨(T.setVm vm').setFrames (.throwing q :: below), ?_, .threw q, X'.here.running, hend, Or.inr ⟨q, rfl, E, ce, locs, hx _ hT (X'.ends _).1.alike, hcell9, hv, hcl, (X'.ends _).1, (X'.ends _).2.mono hc hs, hf⟩⟩
  rw [X.pushThrowing_eq]
  exact st
/-- a thing of a world lies in the heap -/
theorem vx_lt {D : va_G} {cl : List vw_C} {ws : va_W} {H1 : Heap} (h : va_P D cl ws H1) {k : Nat} {q : Nat × va_E} (hk : ws[k]? = some q) : q.1 < H1.size := (h k q hk).lt
end VXS
/-! ===== END ===== -/
/-! ===== BEGIN methods with a table of their own: called by a name, returning or throwing ===== -/
section VXH
/-! vx_backW, vx_callVX, vx_callSX, vx_callVW, vx_runVW, vx_runVX, vx_runSX, vx_ofWH follow the same proofs as their sisters above (Free/Laws.lean, Shelf42/LK1.lean); vx_outP calls Shelf42/NT130.lean (outThrough). -/
section
variable {l : Launch} {R : Room} {p : Program} {e : Env} {below : List Frame} {s : State} {sargs : Array Value} {y : MethodName} {len W9 : Nat}
theorem vx_backW {ws : List Cond} {rm : Room} {Pc : Array Value → State → Prop} {Qc : Array Value → State → Outcome → State → Prop} {XC : String → State → State → Prop} {mc ms : Nat} {free : Addr → Prop} {bytes : ByteArray} {maxL : Nat} {ret : Option FieldType} {hh : List (Nat × Nat × Nat × Nat)}
    (hM : vx_Met l y ws rm Pc Qc XC mc ms free) (hblind : FrameBlind Pc) (hrc : rm.cells = mc) (hrs : rm.slots = ms)
    (hframes : rm.frames + 1 ≤ R.frames) (hlocals : W9 + (maxL + 11) + rm.locals ≤ R.locals)
    (hws : ∀ w ∈ ws, ∀ a' U, s.WarmedH U.vm → w.before a' U = true) (hcode : Cond.codeWith y bytes maxL ret hh ∈ ws) (hinit : ∀ a' U, s.WarmedH U.vm → (Cond.initialized y.cls).before a' U = true) :
    vx_Back l R p e below s sargs y len W9 (PreOf R mc ms Pc) (PostOf Qc mc ms free) (vx_Post XC mc ms free) := by
  intro m meth c A g ig mk a X hg hsize hdg hW hn hp
  have h1 : (headSpec ws rm).pre.before a A.U = true := atoms_intro fun w hw => hws w hw _ _ X.warmed
  have h2 : (Cond.codeWith y bytes maxL ret hh).before a A.U = true := hws _ hcode _ _ X.warmed
  have h3 : (Cond.initialized y.cls).before a A.U = true := hinit _ _ X.warmed
  have h4 : A.cells + (headSpec ws rm).room.cells ≤ R.cells := by rw [show (headSpec ws rm).room.cells = mc from hrc]; exact hp.1
  have h5 : A.slots + (headSpec ws rm).room.slots ≤ R.slots := by rw [show (headSpec ws rm).room.slots = ms from hrs]; exact hp.2.1
  have hPc : Pc a (A.U.calling g mk a) := hblind _ _ _ _ hp.2.2
  obtain ⟨U, Ls, c0, s0⟩ := A
  dsimp only [Pt.U, Pt.locs, Pt.cells, Pt.slots] at h1 h2 h3 h4 h5 X hn hPc ⊢
  obtain ⟨m9, methY, cY, hn9, hmY, hcY, -, hlY, -⟩ := Cond.codeWith_spec h2
  cases Option.some.inj (hn9.symm.trans hn)
  obtain ⟨kY, hkY, -⟩ := className_of_methodNamed hn
  have hinitY : kY.init = .initialized := Cond.initialized_spec (findClass_of_methodNamed hn) hkY h3
  have h : At U g.method c below := by rw [hg]; exact X.here
  have hlocals9 : W9 + (maxL + 11) + (headSpec ws rm).room.locals ≤ R.locals := hlocals
  have happ : (headSpec ws rm).appliesLoose y e.platform (U.calling g mk a) = true :=
    Spec.appliesLoose_calling (g := g) h hdg hn hkY hinitY
      (X.room_calling (g := g) (R' := (headSpec ws rm).room) hsize hmY hcY hframes (by rw [hlY]; omega) h4 h5) h1
  obtain ⟨mid, hmid⟩ := h.above
  have hfr : (U.setTop g).frames = (.java g :: mid) ++ below := by rw [State.frames_setTop' g h.top, hmid]; rfl
  obtain ⟨o, s₂, hsteps, -, hend, hq⟩ := Steps.callFree hM p X.admits X.cas X.clock (acts := []) hfr happ hPc trivial
  have hq' : vx_Q Qc XC mc ms free a (U.calling g mk a) o s₂ := hq
  rw [State.frames_setTop' g h.top] at hend
  obtain ⟨g₀, hg0⟩ := Option.isSome_iff_exists.mp h.top
  obtain ⟨r, hr⟩ := State.topJava?_eq_some.mp hg0
  have hr' : (({ U with heap := s₂.heap, slotsUsed := s₂.slotsUsed } : State).setVm s₂.vm).frames = .java g₀ :: r := hr
  rcases hq' with ⟨hqc, L, hfe, hL⟩ | ⟨q, rfl, E, ce, L, hx, hce, hcv, hcl, hW₂, hsm, hL⟩
  · obtain ⟨⟨v, rfl⟩, hW₂, e2, q2, q3, q4, q5, q6⟩ := id hfe
    have e3 : s₂ = ({ (U.calling g mk a).setFrames s₂.frames with heap := s₂.heap, slotsUsed := s₂.slotsUsed } : State).setVm s₂.vm := by
      have : s₂ = ({ s₂ with vm := (U.calling g mk a).vm } : State).setVm s₂.vm := rfl
      rw [e2] at this
      exact this
    obtain ⟨c₂, i₂, len₂, hc₂, hd₂, hf₂⟩ := hend
    have hW' : U.WarmedH s₂.vm := hW₂
    have hcc : c₂ = c := by
      have h1 : s₂.code? g.method = U.code? g.method := by
        rw [State.code?_eq, State.code?_eq, hW'.alike.method?]
      exact Option.some.inj (hc₂.symm.trans (h1.trans h.code))
    subst hcc
    have hlen : len₂ = len := by rw [hdg] at hd₂; cases hd₂; rfl
    subst hlen
    have hs₂ : s₂ = (({ U with heap := s₂.heap, slotsUsed := s₂.slotsUsed } : State).setVm s₂.vm).setTop { g with pc := g.pc + len₂, stack := v.toList ++ g.stack } := by
      refine e3.trans ?_
      rw [hf₂, State.calling_eq h.top, State.setFrames_setFrames, State.setTop_of_frames _ hr', hr]
      rfl
    have hsame : U.sameButNew ({ U with heap := s₂.heap, slotsUsed := s₂.slotsUsed } : State) L mc ms := by
      refine ⟨?_, q2, q3, q4, q5, q6⟩
      obtain ⟨t, ht, -⟩ := State.frames_cons hr
      show ({ U with heap := s₂.heap, slotsUsed := s₂.slotsUsed } : State) = { U.setFrames U.frames with heap := s₂.heap, slotsUsed := s₂.slotsUsed }
      rw [State.setFrames_self ht]
    subst hg
    refine Or.inl ⟨v, ⟨(({ U with heap := s₂.heap, slotsUsed := s₂.slotsUsed } : State).setVm s₂.vm), Ls ++ L, c0 + mc, s0 + ms⟩,
      ⟨X.admits, X.cas, X.clock, X.frames, X.room, X.hears, X.method, X.code, (X.here.setHeapUsed s₂.heap s₂.slotsUsed).setVm hW'.alike, X.tail, State.WarmedH.trans X.warmed hW', X.limits, X.bytes, X.same.trans (hsame.setVm s.vm)⟩,
      ⟨g, mk, s₂, L, rfl, rfl, hqc, rfl, hL, rfl, rfl⟩, ?_⟩
    show Steps p.tables e below _ ((({ U with heap := s₂.heap, slotsUsed := s₂.slotsUsed } : State).setVm s₂.vm).setTop { g with pc := g.pc + len₂, stack := v.toList ++ g.stack })
    rw [← hs₂]
    exact hsteps
  · obtain ⟨e2, q2, q3, q4, q5, q6⟩ := id hsm
    have e3 : s₂ = ({ (U.calling g mk a).setFrames s₂.frames with heap := s₂.heap, slotsUsed := s₂.slotsUsed } : State).setVm s₂.vm := by
      have : s₂ = ({ s₂ with vm := (U.calling g mk a).vm } : State).setVm s₂.vm := rfl
      rw [e2] at this
      exact this
    have hf₂ : s₂.frames = .throwing q :: .java g :: U.frames.tail := hend
    have hW' : U.WarmedH s₂.vm := hW₂
    have hs₂ : s₂ = ((({ U with heap := s₂.heap, slotsUsed := s₂.slotsUsed } : State).setVm s₂.vm).setTop g).pushFrame (.throwing q) := by
      refine e3.trans ?_
      rw [hf₂, State.calling_eq h.top, State.setFrames_setFrames, State.pushFrame, State.frames_setTop _ hr', State.setTop_of_frames _ hr', State.setFrames_setFrames, hr]
      rfl
    have hsame : U.sameButNew ({ U with heap := s₂.heap, slotsUsed := s₂.slotsUsed } : State) L mc ms := by
      refine ⟨?_, q2, q3, q4, q5, q6⟩
      obtain ⟨t, ht, -⟩ := State.frames_cons hr
      show ({ U with heap := s₂.heap, slotsUsed := s₂.slotsUsed } : State) = { U.setFrames U.frames with heap := s₂.heap, slotsUsed := s₂.slotsUsed }
      rw [State.setFrames_self ht]
    subst hg
    refine Or.inr ⟨q, ⟨(({ U with heap := s₂.heap, slotsUsed := s₂.slotsUsed } : State).setVm s₂.vm), Ls ++ L, c0 + mc, s0 + ms⟩,
      ⟨X.admits, X.cas, X.clock, X.frames, X.room, X.hears, X.method, X.code, (X.here.setHeapUsed s₂.heap s₂.slotsUsed).setVm hW'.alike, X.tail, State.WarmedH.trans X.warmed hW', X.limits, X.bytes, X.same.trans (hsame.setVm s.vm)⟩,
      ⟨g, mk, s₂, L, E, ce, rfl, rfl, hx, hce, hcv, hcl, rfl, hL, rfl, rfl⟩, ?_⟩
    show Steps p.tables e below _ (((({ U with heap := s₂.heap, slotsUsed := s₂.slotsUsed } : State).setVm s₂.vm).setTop g).pushFrame (.throwing q))
    rw [← hs₂]
    exact hsteps
end
variable {p : Program} {l : Launch} {e : Env} {R : Room} {s : State} {m : MethodId} {args : Array Value} {below : List Frame} {meth : Method} {c : Code} {T : State} {H : Heap} {locs : List Loc} {cells slots : Nat}
theorem vx_callVX (X : Stand p l e R s m args below meth c T locs cells slots) (hexec : p.tables.exec = Jvm.exec) {own C : String} {index : Nat} {y : MethodName} {bytes : ByteArray} {maxL : Nat} {ret : Option FieldType} {hh : List (Nat × Nat × Nat × Nat)}
    (hown : s.vm.findClass own = some m.cls) (hlink : (Cond.methodLink own index y).before args s = true) (hinst : (Cond.instanceMethod y).before args s = true) (hsel : (Cond.selects C y y).before args s = true)
    (hcode : (Cond.codeWith y bytes maxL ret hh).before args s = true) (hy : y.cls ≠ "java/lang/invoke/MethodHandle" ∧ y.cls ≠ "java/lang/invoke/VarHandle")
    {W9 : Nat} {Pre : Pt → Array Value → Prop} {Post : Pt → Array Value → Option Value → Pt → Prop} {PostX : Pt → Array Value → Addr → Pt → Prop} (hK : vx_Back l R p e below s args y 3 W9 Pre Post PostX)
    {b : Addr} {cellB : Cell} (hcell : T.heap[b]? = some cellB) (hobj : cellB.vm.isStatics = false) (hcls : s.vm.findClass C = some cellB.cls)
    {g : JFrame} (hg : g.method = m) (hsize : g.locals.size = c.maxLocals) {argsL rest : List Value} (hlen : ∀ sig, parseMethodDescriptor y.desc = some sig → argsL.length = sig.parameters.length)
    (hstack : g.stack = argsL.reverse ++ .ref b :: rest) (hW : 2 * g.monitorRoom + (rest.map fun v => v.category).sum ≤ W9) (hdg : decode c.code g.pc = .ok (.invokevirtual index, 3))
    (hpre : ∀ vm₁, s.WarmedH vm₁ → Pre ⟨T.setVm vm₁, locs, cells, slots⟩ (Value.ref b :: argsL).toArray) :
    (∃ (v : Option Value) (vm₁ : Vm) (B : Pt), s.WarmedH vm₁ ∧ Stand p l e R s m args below meth c B.U B.locs B.cells B.slots ∧ Post ⟨T.setVm vm₁, locs, cells, slots⟩ (Value.ref b :: argsL).toArray v B ∧
      ∀ target, Steps p.tables e below (B.U.setTop { g with pc := g.pc + 3, stack := v.toList ++ rest }) target → Steps p.tables e below (T.setTop g) target) ∨
    (∃ (q : Addr) (vm₁ : Vm) (B : Pt), s.WarmedH vm₁ ∧ Stand p l e R s m args below meth c B.U B.locs B.cells B.slots ∧ PostX ⟨T.setVm vm₁, locs, cells, slots⟩ (Value.ref b :: argsL).toArray q B ∧
      Steps p.tables e below (T.setTop g) ((B.U.setTop { g with stack := rest }).pushFrame (.throwing q))) := by
  obtain ⟨mk, methM, hnamed, hmethM, hstM, habM⟩ := Cond.instanceMethod_spec hinst
  obtain ⟨m8, methM', cM, hn8, hmethM', -, -, -, -, -, -, hsigM⟩ := Cond.codeWith_spec hcode
  cases Option.some.inj (hn8.symm.trans hnamed)
  cases hmethM.symm.trans hmethM'
  obtain ⟨c2, r2, m2, q1, q2, q3, q4, kP, hkP, hkPi⟩ := Cond.selects_spec hsel
  cases hcls.symm.trans q1
  cases (State.methodFound?_of_named hnamed hy).symm.trans q2
  cases hnamed.symm.trans q3
  have hselP : selectMethod e.platform s.vm cellB.cls mk = .method mk := by rw [Launch.admits_selectMethod X.admits]; exact q4
  obtain ⟨vm₁, X₁, hstep₁⟩ := X.invokevirtual hexec hown hlink hnamed hmethM hstM hkP hkPi hy (a := b) (cell := cellB) hcell
    (fun z h => by rw [h] at hobj; cases hobj) hselP hmethM habM hkP hkPi (g := g) hg (argsL := argsL) (rest := rest) (hlen _ hsigM) hstack hdg
  rcases hK m meth c ⟨T.setVm vm₁, locs, cells, slots⟩ { g with stack := rest } (.invokevirtual index) mk (Value.ref b :: argsL).toArray X₁ hg hsize hdg hW (X₁.named hnamed) (hpre vm₁ X₁.warmed) with ⟨v, B, X', hpost, hsteps⟩ | ⟨q, B, X', hpost, hsteps⟩
  · exact Or.inl ⟨v, vm₁, B, X₁.warmed, X', hpost, fun target h => hstep₁ _ fun acts => by rw [doInvoke_state]; exact hsteps.trans h⟩
  · exact Or.inr ⟨q, vm₁, B, X₁.warmed, X', hpost, hstep₁ _ fun acts => by rw [doInvoke_state]; exact hsteps⟩
theorem vx_callSX (X : Stand p l e R s m args below meth c T locs cells slots) (hexec : p.tables.exec = Jvm.exec) {own : String} {index : Nat} {y : MethodName} {bytes : ByteArray} {maxL : Nat} {ret : Option FieldType} {hh : List (Nat × Nat × Nat × Nat)}
    (hown : s.vm.findClass own = some m.cls) (hlink : (Cond.methodLink own index y).before args s = true) (hstat : (Cond.static y).before args s = true) (hinit : (Cond.initialized y.cls).before args s = true)
    (hcode : (Cond.codeWith y bytes maxL ret hh).before args s = true) (hy : y.cls ≠ "java/lang/invoke/MethodHandle" ∧ y.cls ≠ "java/lang/invoke/VarHandle")
    {W9 : Nat} {Pre : Pt → Array Value → Prop} {Post : Pt → Array Value → Option Value → Pt → Prop} {PostX : Pt → Array Value → Addr → Pt → Prop} (hK : vx_Back l R p e below s args y 3 W9 Pre Post PostX)
    {g : JFrame} (hg : g.method = m) (hsize : g.locals.size = c.maxLocals) {argsL rest : List Value} (hlen : ∀ sig, parseMethodDescriptor y.desc = some sig → argsL.length = sig.parameters.length)
    (hstack : g.stack = argsL.reverse ++ rest) (hW : 2 * g.monitorRoom + (rest.map fun v => v.category).sum ≤ W9) (hdg : decode c.code g.pc = .ok (.invokestatic index, 3))
    (hpre : ∀ vm₁, s.WarmedH vm₁ → Pre ⟨T.setVm vm₁, locs, cells, slots⟩ argsL.toArray) :
    (∃ (v : Option Value) (vm₁ : Vm) (B : Pt), s.WarmedH vm₁ ∧ Stand p l e R s m args below meth c B.U B.locs B.cells B.slots ∧ Post ⟨T.setVm vm₁, locs, cells, slots⟩ argsL.toArray v B ∧
      ∀ target, Steps p.tables e below (B.U.setTop { g with pc := g.pc + 3, stack := v.toList ++ rest }) target → Steps p.tables e below (T.setTop g) target) ∨
    (∃ (q : Addr) (vm₁ : Vm) (B : Pt), s.WarmedH vm₁ ∧ Stand p l e R s m args below meth c B.U B.locs B.cells B.slots ∧ PostX ⟨T.setVm vm₁, locs, cells, slots⟩ argsL.toArray q B ∧
      Steps p.tables e below (T.setTop g) ((B.U.setTop { g with stack := rest }).pushFrame (.throwing q))) := by
  obtain ⟨mk, methM, cM, hnamed, hmethM, -, -, -, -, -, -, hsigM⟩ := Cond.codeWith_spec hcode
  have hstatic : methM.isStatic = true := Cond.static_spec hnamed hmethM hstat
  obtain ⟨kP, hkP, -⟩ := className_of_methodNamed hnamed
  have hinitP : kP.init = .initialized := Cond.initialized_spec (findClass_of_methodNamed hnamed) hkP hinit
  obtain ⟨vm₁, X₁, hstep₁⟩ := X.invokestatic hexec hown hlink hnamed hmethM hstatic hkP hinitP hy (g := g) hg (argsL := argsL) (rest := rest) (hlen _ hsigM) hstack hdg
  rcases hK m meth c ⟨T.setVm vm₁, locs, cells, slots⟩ { g with stack := rest } (.invokestatic index) mk argsL.toArray X₁ hg hsize hdg hW (X₁.named hnamed) (hpre vm₁ X₁.warmed) with ⟨v, B, X', hpost, hsteps⟩ | ⟨q, B, X', hpost, hsteps⟩
  · exact Or.inl ⟨v, vm₁, B, X₁.warmed, X', hpost, fun target h => hstep₁ _ fun acts => by rw [doInvoke_state]; exact hsteps.trans h⟩
  · exact Or.inr ⟨q, vm₁, B, X₁.warmed, X', hpost, hstep₁ _ fun acts => by rw [doInvoke_state]; exact hsteps⟩
theorem vx_callVW (X : Stand p l e R s m args below meth c T locs cells slots) (hexec : p.tables.exec = Jvm.exec) {own C : String} {index : Nat} {y : MethodName} {bytes : ByteArray} {maxL : Nat} {ret : Option FieldType} {hh : List (Nat × Nat × Nat × Nat)}
    (hown : s.vm.findClass own = some m.cls) (hlink : (Cond.methodLink own index y).before args s = true) (hinst : (Cond.instanceMethod y).before args s = true) (hsel : (Cond.selects C y y).before args s = true)
    (hcode : (Cond.codeWith y bytes maxL ret hh).before args s = true) (hy : y.cls ≠ "java/lang/invoke/MethodHandle" ∧ y.cls ≠ "java/lang/invoke/VarHandle")
    {W9 : Nat} {Pre : Pt → Array Value → Prop} {Post : Pt → Array Value → Option Value → Pt → Prop} (hK : Back l R p e below s args y 3 W9 Pre Post)
    {b : Addr} {cellB : Cell} (hcell : T.heap[b]? = some cellB) (hobj : cellB.vm.isStatics = false) (hcls : s.vm.findClass C = some cellB.cls)
    {g : JFrame} (hg : g.method = m) (hsize : g.locals.size = c.maxLocals) {argsL rest : List Value} (hlen : ∀ sig, parseMethodDescriptor y.desc = some sig → argsL.length = sig.parameters.length)
    (hstack : g.stack = argsL.reverse ++ .ref b :: rest) (hW : 2 * g.monitorRoom + (rest.map fun v => v.category).sum ≤ W9) (hdg : decode c.code g.pc = .ok (.invokevirtual index, 3))
    (hpre : ∀ vm₁, s.WarmedH vm₁ → Pre ⟨T.setVm vm₁, locs, cells, slots⟩ (Value.ref b :: argsL).toArray) :
    ∃ (v : Option Value) (vm₁ : Vm) (B : Pt), s.WarmedH vm₁ ∧ Stand p l e R s m args below meth c B.U B.locs B.cells B.slots ∧ Post ⟨T.setVm vm₁, locs, cells, slots⟩ (Value.ref b :: argsL).toArray v B ∧
      ∀ target, Steps p.tables e below (B.U.setTop { g with pc := g.pc + 3, stack := v.toList ++ rest }) target → Steps p.tables e below (T.setTop g) target := by
  obtain ⟨mk, methM, hnamed, hmethM, hstM, habM⟩ := Cond.instanceMethod_spec hinst
  obtain ⟨m8, methM', cM, hn8, hmethM', -, -, -, -, -, -, hsigM⟩ := Cond.codeWith_spec hcode
  cases Option.some.inj (hn8.symm.trans hnamed)
  cases hmethM.symm.trans hmethM'
  obtain ⟨c2, r2, m2, q1, q2, q3, q4, kP, hkP, hkPi⟩ := Cond.selects_spec hsel
  cases hcls.symm.trans q1
  cases (State.methodFound?_of_named hnamed hy).symm.trans q2
  cases hnamed.symm.trans q3
  have hselP : selectMethod e.platform s.vm cellB.cls mk = .method mk := by rw [Launch.admits_selectMethod X.admits]; exact q4
  obtain ⟨vm₁, X₁, hstep₁⟩ := X.invokevirtual hexec hown hlink hnamed hmethM hstM hkP hkPi hy (a := b) (cell := cellB) hcell
    (fun z h => by rw [h] at hobj; cases hobj) hselP hmethM habM hkP hkPi (g := g) hg (argsL := argsL) (rest := rest) (hlen _ hsigM) hstack hdg
  obtain ⟨v, B, X', hpost, hsteps⟩ := hK m meth c ⟨T.setVm vm₁, locs, cells, slots⟩ { g with stack := rest } (.invokevirtual index) mk (Value.ref b :: argsL).toArray X₁ hg hsize hdg hW (X₁.named hnamed) (hpre vm₁ X₁.warmed)
  exact ⟨v, vm₁, B, X₁.warmed, X', hpost, fun target h => hstep₁ _ fun acts => by rw [doInvoke_state]; exact hsteps.trans h⟩
abbrev vx_CVW (R : Room) (s : State) (args : Array Value) (own C : String) (index : Nat) (y : MethodName) (bytes : ByteArray) (maxL : Nat) (ret : Option FieldType) (hh : List (Nat × Nat × Nat × Nat)) (ws : List Cond) (rm : Room) (mc ms n : Nat) : Prop :=
  (rm.cells = mc ∧ rm.slots = ms ∧ rm.frames + 1 ≤ R.frames ∧ 8 + (maxL + 11) + rm.locals ≤ R.locals ∧ (∀ w ∈ ws, ∀ (a' : Array Value) (U : State), s.WarmedH U.vm → w.before a' U = true) ∧ Cond.codeWith y bytes maxL ret hh ∈ ws) ∧
  (Cond.codeWith y bytes maxL ret hh).before args s = true ∧ (Cond.initialized y.cls).before args s = true ∧ (y.cls ≠ "java/lang/invoke/MethodHandle" ∧ y.cls ≠ "java/lang/invoke/VarHandle") ∧
  (∀ sig, parseMethodDescriptor y.desc = some sig → n = sig.parameters.length) ∧ (Cond.methodLink own index y).before args s = true ∧ (Cond.instanceMethod y).before args s = true ∧ (Cond.selects C y y).before args s = true
theorem vx_cwVW {own C : String} {index maxL mc ms : Nat} {y : MethodName} {bytes : ByteArray} {ret : Option FieldType} {hh : List (Nat × Nat × Nat × Nat)} {Ts ws ws' : List Cond} {rm : Room} (n : Nat) (ht : ∀ w ∈ Ts, w.before args s = true) (hT : GoodIn Ts (wsV own index C y ws)) (hw : ws = Cond.codeWith y bytes maxL ret hh :: ws') (hrc : rm.cells = mc) (hrs : rm.slots = ms)
    (hd : y.cls = C ∧ y.cls ≠ "java/lang/invoke/MethodHandle" ∧ y.cls ≠ "java/lang/invoke/VarHandle" ∧ (parseMethodDescriptor y.desc).map (fun d => d.parameters.length) = some n) (hR : rm.frames + 1 ≤ R.frames ∧ 8 + (maxL + 11) + rm.locals ≤ R.locals) :
    vx_CVW R s args own C index y bytes maxL ret hh ws rm mc ms n := by
  obtain ⟨hC, hd⟩ := hd
  subst hC
  have ok : ∀ w ∈ wsV own index y.cls y ws, w.before args s = true := fun w h => ht w (hT w h).1
  have hG : GoodIn Ts ws := fun w h => hT w (by unfold wsV; exact List.mem_append_right _ h)
  have hc : Cond.codeWith y bytes maxL ret hh ∈ ws := by rw [hw]; exact List.mem_cons_self
  refine ⟨⟨hrc, hrs, hR.1, hR.2, pay_in ht hG, hc⟩, ht _ (hG _ hc).1, ok _ (by simp [wsV]), ⟨hd.1, hd.2.1⟩, fun sig h => ?_, ok _ (by simp [wsV]), ok _ (by simp [wsV]), ok _ (by simp [wsV])⟩
  have h2 := hd.2.2
  rw [h] at h2
  exact (Option.some.inj h2).symm
theorem vx_runVW {y : MethodName} {bytes cc : ByteArray} {maxL nL mc ms n index : Nat} {ret : Option FieldType} {hh : List (Nat × Nat × Nat × Nat)} {ws : List Cond} {rm : Room} {Pc : Array Value → State → Prop} {Qc : Array Value → State → Outcome → State → Prop} {free : Addr → Prop} {Ts : List Cond} {own C : String} {b : Addr} {As rest : List Value} {g : JFrame}
    (S : CallFix p m c cc nL s args Ts own) (hM : Met l y ws rm Pc Qc mc ms free) (cw : vx_CVW R s args own C index y bytes maxL ret hh ws rm mc ms n) (hp : PreV s H C b Pc As)
    (hg : g.method = m) (hn : As.length = n) (hsize : g.locals.size = nL) (hstack : g.stack = As.reverse ++ .ref b :: rest) (hW : 2 * g.monitorRoom + (rest.map fun v => v.category).sum ≤ 8) (hdg : decode cc g.pc = .ok (.invokevirtual index, 3)) (hf : cells + mc ≤ R.cells ∧ slots + ms ≤ R.slots) :
    va_Run p l e R s m args below meth c H locs cells slots mc ms g rest (Qc (Value.ref b :: As).toArray) free := by
  obtain ⟨⟨hrc, hrs, hfr, hlo, hws, hcw⟩, hcode, hini, hy, hlen, hl, hin, hse⟩ := cw
  have hK : Back l R p e below s args y 3 8 (PreOf R mc ms Pc) (PostOf Qc mc ms free) := va_backW (hh := hh) (bytes := bytes) (maxL := maxL) (ret := ret) hM hp.1 hrc hrs hfr hlo hws hcw (fun a' U hW => word_at hW (Or.inl (by first | rfl | simp [Cond.onTables, Cond.keeps, Cond.steady])) hini)
  obtain ⟨hx, hb, hml, ho, -⟩ := S
  obtain ⟨-, ⟨cellB, hcB, hoB, hclB⟩, hPc⟩ := hp
  intro T hT X
  obtain ⟨v, vm₁, ⟨U', l2, c2, s2⟩, hW₁, X', ⟨g', mk, t, L, e1, e2, hq, h1, hL, h2, h3⟩, st⟩ := vx_callVW X hx (C := C) (hh := hh) (bytes := bytes) (maxL := maxL) (ret := ret) ho hl hin hse hcode hy hK (by rw [hT]; exact hcB) hoB hclB hg (hsize.trans hml.symm) (argsL := As) (rest := rest) (fun sig h => hn.trans (hlen sig h)) hstack hW (by rw [hb]; exact hdg)
    (fun vm₁ hW₁ => ⟨hf.1, hf.2, hPc (T.setVm vm₁) hT hW₁⟩)
  dsimp only [Pt.U, Pt.locs, Pt.cells, Pt.slots] at X' e1 e2 h1 h2 h3 st
  subst h1; subst h2; subst h3
  exact ⟨v, (T.setVm vm₁).calling g' mk (Value.ref b :: As).toArray, t, U', L, hT, X', hL, e1, e2, hq, st⟩
section
variable {y : MethodName} {bytes cc : ByteArray} {maxL nL mc ms n index : Nat} {ret : Option FieldType} {ws : List Cond} {rm : Room} {Pc : Array Value → State → Prop} {Qc : Array Value → State → Outcome → State → Prop} {XC : String → State → State → Prop} {free : Addr → Prop} {Ts : List Cond} {own C : String} {b : Addr} {As rest : List Value} {g : JFrame}
theorem vx_runVX {hh : List (Nat × Nat × Nat × Nat)} (S : CallFix p m c cc nL s args Ts own) (hM : vx_Met l y ws rm Pc Qc XC mc ms free) (cw : vx_CVW R s args own C index y bytes maxL ret hh ws rm mc ms n) (hp : PreV s H C b Pc As)
    (hg : g.method = m) (hn : As.length = n) (hsize : g.locals.size = nL) (hstack : g.stack = As.reverse ++ .ref b :: rest) (hW : 2 * g.monitorRoom + (rest.map fun v => v.category).sum ≤ 8) (hdg : decode cc g.pc = .ok (.invokevirtual index, 3)) (hf : cells + mc ≤ R.cells ∧ slots + ms ≤ R.slots) :
    vx_Run p l e R s m args below meth c H locs cells slots mc ms g rest (Qc (Value.ref b :: As).toArray) XC free := by
  obtain ⟨⟨hrc, hrs, hfr, hlo, hws, hcw⟩, hcode, hini, hy, hlen, hl, hin, hse⟩ := cw
  have hK : vx_Back l R p e below s args y 3 8 (PreOf R mc ms Pc) (PostOf Qc mc ms free) (vx_Post XC mc ms free) := vx_backW (hh := hh) (bytes := bytes) (maxL := maxL) (ret := ret) hM hp.1 hrc hrs hfr hlo hws hcw (fun a' U hW => word_at hW (Or.inl (by first | rfl | simp [Cond.onTables, Cond.keeps, Cond.steady])) hini)
  obtain ⟨hx, hb, hml, ho, -⟩ := S
  obtain ⟨-, ⟨cellB, hcB, hoB, hclB⟩, hPc⟩ := hp
  intro T hT X
  rcases vx_callVX X hx (C := C) (hh := hh) (bytes := bytes) (maxL := maxL) (ret := ret) ho hl hin hse hcode hy hK (by rw [hT]; exact hcB) hoB hclB hg (hsize.trans hml.symm) (argsL := As) (rest := rest) (fun sig h => hn.trans (hlen sig h)) hstack hW (by rw [hb]; exact hdg)
    (fun vm₁ hW₁ => ⟨hf.1, hf.2, hPc (T.setVm vm₁) hT hW₁⟩) with ⟨v, vm₁, ⟨U', l2, c2, s2⟩, hW₁, X', ⟨g', mk, t, L, e1, e2, hq, h1, hL, h2, h3⟩, st⟩ | ⟨q, vm₁, ⟨U', l2, c2, s2⟩, hW₁, X', ⟨g', mk, t, L, E, ce, e1, e2, hq, hce, hcv, hcl, h1, hL, h2, h3⟩, st⟩
  · dsimp only [Pt.U, Pt.locs, Pt.cells, Pt.slots] at X' e1 e2 h1 h2 h3 st
    subst h1; subst h2; subst h3
    exact Or.inl ⟨v, (T.setVm vm₁).calling g' mk (Value.ref b :: As).toArray, t, U', L, hT, X', hL, e1, e2, hq, st⟩
  · dsimp only [Pt.U, Pt.locs, Pt.cells, Pt.slots] at X' e1 e2 h1 h2 h3 st hcl
    subst h1; subst h2; subst h3
    exact Or.inr ⟨q, (T.setVm vm₁).calling g' mk (Value.ref b :: As).toArray, t, U', L, E, ce, hT, X', hL, e1, e2, hq, hce, hcv, vx_cls hW₁ hcl, st⟩
theorem vx_runSX {hh : List (Nat × Nat × Nat × Nat)} (S : CallFix p m c cc nL s args Ts own) (hM : vx_Met l y ws rm Pc Qc XC mc ms free) (cw : vx_CSW R s args own index y bytes maxL ret hh ws rm mc ms n) (hp : PreS s H Pc As)
    (hg : g.method = m) (hn : As.length = n) (hsize : g.locals.size = nL) (hstack : g.stack = As.reverse ++ rest) (hW : 2 * g.monitorRoom + (rest.map fun v => v.category).sum ≤ 8) (hdg : decode cc g.pc = .ok (.invokestatic index, 3)) (hf : cells + mc ≤ R.cells ∧ slots + ms ≤ R.slots) :
    vx_Run p l e R s m args below meth c H locs cells slots mc ms g rest (Qc As.toArray) XC free := by
  obtain ⟨⟨hrc, hrs, hfr, hlo, hws, hcw⟩, hcode, hini, hy, hlen, hl, hstt⟩ := cw
  have hK : vx_Back l R p e below s args y 3 8 (PreOf R mc ms Pc) (PostOf Qc mc ms free) (vx_Post XC mc ms free) := vx_backW (hh := hh) (bytes := bytes) (maxL := maxL) (ret := ret) hM hp.1 hrc hrs hfr hlo hws hcw (fun a' U hW => word_at hW (Or.inl (by first | rfl | simp [Cond.onTables, Cond.keeps, Cond.steady])) hini)
  obtain ⟨hx, hb, hml, ho, -⟩ := S
  intro T hT X
  rcases vx_callSX X hx (hh := hh) (bytes := bytes) (maxL := maxL) (ret := ret) ho hl hstt hini hcode hy hK hg (hsize.trans hml.symm) (argsL := As) (rest := rest) (fun sig h => hn.trans (hlen sig h)) hstack hW (by rw [hb]; exact hdg)
    (fun vm₁ hW₁ => ⟨hf.1, hf.2, hp.2 (T.setVm vm₁) hT hW₁⟩) with ⟨v, vm₁, ⟨U', l2, c2, s2⟩, hW₁, X', ⟨g', mk, t, L, e1, e2, hq, h1, hL, h2, h3⟩, st⟩ | ⟨q, vm₁, ⟨U', l2, c2, s2⟩, hW₁, X', ⟨g', mk, t, L, E, ce, e1, e2, hq, hce, hcv, hcl, h1, hL, h2, h3⟩, st⟩
  · dsimp only [Pt.U, Pt.locs, Pt.cells, Pt.slots] at X' e1 e2 h1 h2 h3 st
    subst h1; subst h2; subst h3
    exact Or.inl ⟨v, (T.setVm vm₁).calling g' mk As.toArray, t, U', L, hT, X', hL, e1, e2, hq, st⟩
  · dsimp only [Pt.U, Pt.locs, Pt.cells, Pt.slots] at X' e1 e2 h1 h2 h3 st hcl
    subst h1; subst h2; subst h3
    exact Or.inr ⟨q, (T.setVm vm₁).calling g' mk As.toArray, t, U', L, E, ce, hT, X', hL, e1, e2, hq, hce, hcv, vx_cls hW₁ hcl, st⟩
end
end VXH
theorem vx_ofWH {l : Launch} {y : MethodName} {ws ws' : List Cond} {rm : Room} {Pc : Array Value → State → Prop} {Qc : Array Value → State → Outcome → State → Prop} {XC : String → State → State → Prop} {mc ms : Nat} {free : Addr → Prop} {cc : ByteArray} {maxL : Nat} {ret : Option FieldType} {hh : List (Nat × Nat × Nat × Nat)}
    (hy : plainName y.cls = true) (hw : ws = Cond.codeWith y cc maxL ret hh :: ws')
    (body : ∀ p e s m args below meth c s₁, BodyLoose p l y (headSpec ws rm) cc maxL ret e s m args below meth c s₁ → c.maxLocals = maxL → Pc args s →
      W p l e (headSpec ws rm).room s m args below meth c s.heap [] 0 0 (vx_MQ below Qc XC args s mc ms free) (entryFrame m args maxL)) : vx_Met l y ws rm Pc Qc XC mc ms free := by
  refine MetFree.of_bodyS (code := cc) (maxLocals := maxL) (ret := ret) hy ?_ ?_
  · intro args s m h hn
    obtain ⟨m9, meth, c, hn9, h1, h2, h3, h4, -, h5, h6, -⟩ := Cond.codeWith_spec (atoms_spec (ws := ws) h _ (by rw [hw]; exact List.mem_cons_self))
    cases hn.symm.trans hn9
    exact ⟨meth, c, h1, h2, h3, h4, h5, h6⟩
  · intro p e s m args below meth c s₁ B hml hP _
    have hh0 : s₁.heap = s.heap := by rw [B.state]; rfl
    obtain ⟨t, a1, o, b1, b2, b3⟩ := body p e s m args below meth c s₁ B hml hP s₁ hh0 (Stand.of_body B)
    exact ⟨t, o, a1, b1, b2, b3⟩
/-! ===== END ===== -/
end
section
def R_AW : String := "AddressWords"
def T_AW : u_T := fun k => match k with
  | 0 => ("AddressWords", "streets", "[LAddressWords$Street;", true)
  | 1 => ("AddressWords", "streetCount", "I", false)
  | 2 => ("AddressWords", "landmarks", "[LAddressWords$Landmark;", true)
  | 3 => ("AddressWords", "landmarkCount", "I", false)
  | 4 => ("AddressWords", "corners", "[LAddressWords$Corner;", true)
  | 5 => ("AddressWords", "cornerCount", "I", false)
  | 6 => ("AddressWords", "said", "LAddressWords$Said;", true)
  | 7 => ("AddressWords", "edits", "LAddressWords$Edits;", true)
  | 8 => ("AddressWords", "ranking", "LAddressWords$Ranking;", true)
  | 9 => ("AddressWords", "places", "[LAddressWords$Place;", true)
  | _ => ("AddressWords", "placeCount", "I", false)
def ty_AW : Nat → FieldType := fun k => match k with
  | 0 => .array (.object "AddressWords$Street")
  | 1 => .int
  | 2 => .array (.object "AddressWords$Landmark")
  | 3 => .int
  | 4 => .array (.object "AddressWords$Corner")
  | 5 => .int
  | 6 => .object "AddressWords$Said"
  | 7 => .object "AddressWords$Edits"
  | 8 => .object "AddressWords$Ranking"
  | 9 => .array (.object "AddressWords$Place")
  | _ => .int
def R_Co : String := "AddressWords$Corner"
def T_Co : u_T := fun k => match k with
  | 0 => ("AddressWords$Corner", "street", "I", true)
  | 1 => ("AddressWords$Corner", "other", "I", true)
  | 2 => ("AddressWords$Corner", "metres", "I", true)
  | _ => ("AddressWords$Corner", "otherMetres", "I", true)
def ty_Co : Nat → FieldType := fun k => match k with
  | 0 => .int
  | 1 => .int
  | 2 => .int
  | _ => .int
def R_Ed : String := "AddressWords$Edits"
def T_Ed : u_T := fun k => match k with
  | 0 => ("AddressWords$Edits", "beforeLast", "[I", false)
  | 1 => ("AddressWords$Edits", "last", "[I", false)
  | _ => ("AddressWords$Edits", "row", "[I", false)
def ty_Ed : Nat → FieldType := fun k => match k with
  | 0 => .array .int
  | 1 => .array .int
  | _ => .array .int
def R_HR : String := "AddressWords$HouseRange"
def T_HR : u_T := fun k => match k with
  | 0 => ("AddressWords$HouseRange", "side", "I", true)
  | 1 => ("AddressWords$HouseRange", "first", "I", true)
  | _ => ("AddressWords$HouseRange", "last", "I", true)
def ty_HR : Nat → FieldType := fun k => match k with
  | 0 => .int
  | 1 => .int
  | _ => .int
def R_LM : String := "AddressWords$Landmark"
def T_LM : u_T := fun k => match k with
  | 0 => ("AddressWords$Landmark", "street", "I", true)
  | 1 => ("AddressWords$Landmark", "house", "I", true)
  | _ => ("AddressWords$Landmark", "name", "LAddressWords$Name;", true)
def ty_LM : Nat → FieldType := fun k => match k with
  | 0 => .int
  | 1 => .int
  | _ => .object "AddressWords$Name"
def R_Na : String := "AddressWords$Name"
def T_Na : u_T := fun k => match k with
  | 0 => ("AddressWords$Name", "letters", "[C", true)
  | _ => ("AddressWords$Name", "length", "I", false)
def ty_Na : Nat → FieldType := fun k => match k with
  | 0 => .array .char
  | _ => .int
def R_Pl : String := "AddressWords$Place"
def T_Pl : u_T := fun k => match k with
  | 0 => ("AddressWords$Place", "street", "I", false)
  | 1 => ("AddressWords$Place", "house", "I", false)
  | 2 => ("AddressWords$Place", "reason", "I", false)
  | 3 => ("AddressWords$Place", "distance", "I", false)
  | 4 => ("AddressWords$Place", "area", "I", false)
  | _ => ("AddressWords$Place", "landmark", "I", false)
def ty_Pl : Nat → FieldType := fun k => match k with
  | 0 => .int
  | 1 => .int
  | 2 => .int
  | 3 => .int
  | 4 => .int
  | _ => .int
def R_Ra : String := "AddressWords$Ranking"
def T_Ra : u_T := fun k => match k with
  | 0 => ("AddressWords$Ranking", "candidates", "[I", true)
  | 1 => ("AddressWords$Ranking", "distances", "[I", true)
  | 2 => ("AddressWords$Ranking", "wanted", "I", false)
  | _ => ("AddressWords$Ranking", "size", "I", false)
def ty_Ra : Nat → FieldType := fun k => match k with
  | 0 => .array .int
  | 1 => .array .int
  | 2 => .int
  | _ => .int
def R_Sa : String := "AddressWords$Said"
def T_Sa : u_T := fun k => match k with
  | 0 => ("AddressWords$Said", "signs", "[C", true)
  | 1 => ("AddressWords$Said", "length", "I", false)
  | 2 => ("AddressWords$Said", "wordStarts", "[I", true)
  | 3 => ("AddressWords$Said", "wordLengths", "[I", true)
  | 4 => ("AddressWords$Said", "wordCount", "I", false)
  | 5 => ("AddressWords$Said", "numberCount", "I", false)
  | 6 => ("AddressWords$Said", "digitCount", "I", false)
  | _ => ("AddressWords$Said", "house", "I", false)
def ty_Sa : Nat → FieldType := fun k => match k with
  | 0 => .array .char
  | 1 => .int
  | 2 => .array .int
  | 3 => .array .int
  | 4 => .int
  | 5 => .int
  | 6 => .int
  | _ => .int
def R_St : String := "AddressWords$Street"
def T_St : u_T := fun k => match k with
  | 0 => ("AddressWords$Street", "area", "I", true)
  | 1 => ("AddressWords$Street", "names", "[LAddressWords$Name;", true)
  | 2 => ("AddressWords$Street", "nameCount", "I", false)
  | 3 => ("AddressWords$Street", "ranges", "[LAddressWords$HouseRange;", true)
  | 4 => ("AddressWords$Street", "rangeCount", "I", false)
  | 5 => ("AddressWords$Street", "x", "I", false)
  | 6 => ("AddressWords$Street", "y", "I", false)
  | 7 => ("AddressWords$Street", "toX", "I", false)
  | 8 => ("AddressWords$Street", "toY", "I", false)
  | 9 => ("AddressWords$Street", "length", "I", false)
  | _ => ("AddressWords$Street", "closed", "Z", false)
def ty_St : Nat → FieldType := fun k => match k with
  | 0 => .int
  | 1 => .array (.object "AddressWords$Name")
  | 2 => .int
  | 3 => .array (.object "AddressWords$HouseRange")
  | 4 => .int
  | 5 => .int
  | 6 => .int
  | 7 => .int
  | 8 => .int
  | 9 => .int
  | _ => .boolean
def R_Mo : String := "AddressWordsModel"
def T_Mo : u_T := fun k => match k with
  | 0 => ("AddressWordsModel", "thrown", "I", false)
  | 1 => ("AddressWordsModel", "streets", "I", false)
  | 2 => ("AddressWordsModel", "area", "[I", true)
  | 3 => ("AddressWordsModel", "closed", "[Z", true)
  | 4 => ("AddressWordsModel", "names", "[I", true)
  | 5 => ("AddressWordsModel", "length", "[I", true)
  | 6 => ("AddressWordsModel", "letter", "[I", true)
  | 7 => ("AddressWordsModel", "ranges", "[I", true)
  | 8 => ("AddressWordsModel", "side", "[I", true)
  | 9 => ("AddressWordsModel", "low", "[I", true)
  | 10 => ("AddressWordsModel", "high", "[I", true)
  | 11 => ("AddressWordsModel", "x", "[I", true)
  | 12 => ("AddressWordsModel", "y", "[I", true)
  | 13 => ("AddressWordsModel", "dx", "[I", true)
  | 14 => ("AddressWordsModel", "dy", "[I", true)
  | 15 => ("AddressWordsModel", "metres", "[I", true)
  | 16 => ("AddressWordsModel", "landmarks", "I", false)
  | 17 => ("AddressWordsModel", "onStreet", "[I", true)
  | 18 => ("AddressWordsModel", "house", "[I", true)
  | 19 => ("AddressWordsModel", "markLength", "[I", true)
  | 20 => ("AddressWordsModel", "mark", "[I", true)
  | 21 => ("AddressWordsModel", "corners", "I", false)
  | 22 => ("AddressWordsModel", "one", "[I", true)
  | 23 => ("AddressWordsModel", "two", "[I", true)
  | 24 => ("AddressWordsModel", "oneAt", "[I", true)
  | 25 => ("AddressWordsModel", "twoAt", "[I", true)
  | 26 => ("AddressWordsModel", "said", "I", false)
  | 27 => ("AddressWordsModel", "sign", "[I", true)
  | 28 => ("AddressWordsModel", "found", "I", false)
  | 29 => ("AddressWordsModel", "place", "[I", true)
  | 30 => ("AddressWordsModel", "apart", "[I", true)
  | 31 => ("AddressWordsModel", "asked", "I", false)
  | 32 => ("AddressWordsModel", "a", "[I", true)
  | 33 => ("AddressWordsModel", "b", "[I", true)
  | _ => ("AddressWordsModel", "table", "[I", true)
def ty_Mo : Nat → FieldType := fun k => match k with
  | 0 => .int
  | 1 => .int
  | 2 => .array .int
  | 3 => .array .boolean
  | 4 => .array .int
  | 5 => .array .int
  | 6 => .array .int
  | 7 => .array .int
  | 8 => .array .int
  | 9 => .array .int
  | 10 => .array .int
  | 11 => .array .int
  | 12 => .array .int
  | 13 => .array .int
  | 14 => .array .int
  | 15 => .array .int
  | 16 => .int
  | 17 => .array .int
  | 18 => .array .int
  | 19 => .array .int
  | 20 => .array .int
  | 21 => .int
  | 22 => .array .int
  | 23 => .array .int
  | 24 => .array .int
  | 25 => .array .int
  | 26 => .int
  | 27 => .array .int
  | 28 => .int
  | 29 => .array .int
  | 30 => .array .int
  | 31 => .int
  | 32 => .array .int
  | 33 => .array .int
  | _ => .array .int
def R_La : String := "AddressWordsLaw"
def kcl : List vw_C := [(R_AW, T_AW, 11), (R_Co, T_Co, 4), (R_Ed, T_Ed, 3), (R_HR, T_HR, 3), (R_LM, T_LM, 3), (R_Na, T_Na, 2), (R_Pl, T_Pl, 6), (R_Ra, T_Ra, 4), (R_Sa, T_Sa, 8), (R_St, T_St, 11), (R_Mo, T_Mo, 35)]
def kty : List FieldType := [.int, .char, .boolean, .long, .object R_St, .object R_LM, .object R_Co, .object R_Pl, .object R_Na, .object R_HR]
def x_IA : String := "java/lang/IllegalArgumentException"
def x_IO : String := "java/lang/IndexOutOfBoundsException"
def x_IS : String := "java/lang/IllegalStateException"
def x_UO : String := "java/lang/UnsupportedOperationException"
def x_up : List String := ["java/lang/RuntimeException", "java/lang/Exception"]
def knc : List (String × String) := [(x_IA, x_IO), (x_IA, x_IS), (x_IA, x_UO), (x_IO, x_IA), (x_IO, x_IS), (x_IO, x_UO), (x_IS, x_IA), (x_IS, x_IO), (x_IS, x_UO), (x_UO, x_IA), (x_UO, x_IO), (x_UO, x_IS)]
theorem nm_AW : ∀ a, a < 11 → ∀ b, b < 11 → a ≠ b → (T_AW a).2.1 ≠ (T_AW b).2.1 := by decide +kernel
theorem tyok_AW : ∀ k, k < 11 → parseFieldDescriptor (T_AW k).2.2.1 = some (ty_AW k) := by decide +kernel
theorem in_AW : ∀ w ∈ u_ws R_AW T_AW 11, w ∈ lw_tbl := by decide +kernel
theorem ins_AW : Cond.instantiable R_AW 11 ∈ lw_tbl := List.mem_of_getElem? (i := 54) (by decide +kernel)
theorem ini_AW : Cond.initialized R_AW ∈ lw_tbl := List.mem_of_getElem? (i := 34) (by decide +kernel)
theorem nm_Co : ∀ a, a < 4 → ∀ b, b < 4 → a ≠ b → (T_Co a).2.1 ≠ (T_Co b).2.1 := by decide +kernel
theorem tyok_Co : ∀ k, k < 4 → parseFieldDescriptor (T_Co k).2.2.1 = some (ty_Co k) := by decide +kernel
theorem in_Co : ∀ w ∈ u_ws R_Co T_Co 4, w ∈ lw_tbl := by decide +kernel
theorem ins_Co : Cond.instantiable R_Co 4 ∈ lw_tbl := List.mem_of_getElem? (i := 598) (by decide +kernel)
theorem ini_Co : Cond.initialized R_Co ∈ lw_tbl := List.mem_of_getElem? (i := 51) (by decide +kernel)
theorem nm_Ed : ∀ a, a < 3 → ∀ b, b < 3 → a ≠ b → (T_Ed a).2.1 ≠ (T_Ed b).2.1 := by decide +kernel
theorem tyok_Ed : ∀ k, k < 3 → parseFieldDescriptor (T_Ed k).2.2.1 = some (ty_Ed k) := by decide +kernel
theorem in_Ed : ∀ w ∈ u_ws R_Ed T_Ed 3, w ∈ lw_tbl := by decide +kernel
theorem ins_Ed : Cond.instantiable R_Ed 3 ∈ lw_tbl := List.mem_of_getElem? (i := 107) (by decide +kernel)
theorem ini_Ed : Cond.initialized R_Ed ∈ lw_tbl := List.mem_of_getElem? (i := 36) (by decide +kernel)
theorem nm_HR : ∀ a, a < 3 → ∀ b, b < 3 → a ≠ b → (T_HR a).2.1 ≠ (T_HR b).2.1 := by decide +kernel
theorem tyok_HR : ∀ k, k < 3 → parseFieldDescriptor (T_HR k).2.2.1 = some (ty_HR k) := by decide +kernel
theorem in_HR : ∀ w ∈ u_ws R_HR T_HR 3, w ∈ lw_tbl := by decide +kernel
theorem ins_HR : Cond.instantiable R_HR 3 ∈ lw_tbl := List.mem_of_getElem? (i := 501) (by decide +kernel)
theorem ini_HR : Cond.initialized R_HR ∈ lw_tbl := List.mem_of_getElem? (i := 49) (by decide +kernel)
theorem nm_LM : ∀ a, a < 3 → ∀ b, b < 3 → a ≠ b → (T_LM a).2.1 ≠ (T_LM b).2.1 := by decide +kernel
theorem tyok_LM : ∀ k, k < 3 → parseFieldDescriptor (T_LM k).2.2.1 = some (ty_LM k) := by decide +kernel
theorem in_LM : ∀ w ∈ u_ws R_LM T_LM 3, w ∈ lw_tbl := by decide +kernel
theorem ins_LM : Cond.instantiable R_LM 3 ∈ lw_tbl := List.mem_of_getElem? (i := 553) (by decide +kernel)
theorem ini_LM : Cond.initialized R_LM ∈ lw_tbl := List.mem_of_getElem? (i := 50) (by decide +kernel)
theorem nm_Na : ∀ a, a < 2 → ∀ b, b < 2 → a ≠ b → (T_Na a).2.1 ≠ (T_Na b).2.1 := by decide +kernel
theorem tyok_Na : ∀ k, k < 2 → parseFieldDescriptor (T_Na k).2.2.1 = some (ty_Na k) := by decide +kernel
theorem in_Na : ∀ w ∈ u_ws R_Na T_Na 2, w ∈ lw_tbl := by decide +kernel
theorem ins_Na : Cond.instantiable R_Na 2 ∈ lw_tbl := List.mem_of_getElem? (i := 331) (by decide +kernel)
theorem ini_Na : Cond.initialized R_Na ∈ lw_tbl := List.mem_of_getElem? (i := 46) (by decide +kernel)
theorem nm_Pl : ∀ a, a < 6 → ∀ b, b < 6 → a ≠ b → (T_Pl a).2.1 ≠ (T_Pl b).2.1 := by decide +kernel
theorem tyok_Pl : ∀ k, k < 6 → parseFieldDescriptor (T_Pl k).2.2.1 = some (ty_Pl k) := by decide +kernel
theorem in_Pl : ∀ w ∈ u_ws R_Pl T_Pl 6, w ∈ lw_tbl := by decide +kernel
theorem ins_Pl : Cond.instantiable R_Pl 6 ∈ lw_tbl := List.mem_of_getElem? (i := 146) (by decide +kernel)
theorem ini_Pl : Cond.initialized R_Pl ∈ lw_tbl := List.mem_of_getElem? (i := 38) (by decide +kernel)
theorem nm_Ra : ∀ a, a < 4 → ∀ b, b < 4 → a ≠ b → (T_Ra a).2.1 ≠ (T_Ra b).2.1 := by decide +kernel
theorem tyok_Ra : ∀ k, k < 4 → parseFieldDescriptor (T_Ra k).2.2.1 = some (ty_Ra k) := by decide +kernel
theorem in_Ra : ∀ w ∈ u_ws R_Ra T_Ra 4, w ∈ lw_tbl := by decide +kernel
theorem ins_Ra : Cond.instantiable R_Ra 4 ∈ lw_tbl := List.mem_of_getElem? (i := 123) (by decide +kernel)
theorem ini_Ra : Cond.initialized R_Ra ∈ lw_tbl := List.mem_of_getElem? (i := 37) (by decide +kernel)
theorem nm_Sa : ∀ a, a < 8 → ∀ b, b < 8 → a ≠ b → (T_Sa a).2.1 ≠ (T_Sa b).2.1 := by decide +kernel
theorem tyok_Sa : ∀ k, k < 8 → parseFieldDescriptor (T_Sa k).2.2.1 = some (ty_Sa k) := by decide +kernel
theorem in_Sa : ∀ w ∈ u_ws R_Sa T_Sa 8, w ∈ lw_tbl := by decide +kernel
theorem ins_Sa : Cond.instantiable R_Sa 8 ∈ lw_tbl := List.mem_of_getElem? (i := 68) (by decide +kernel)
theorem ini_Sa : Cond.initialized R_Sa ∈ lw_tbl := List.mem_of_getElem? (i := 35) (by decide +kernel)
theorem nm_St : ∀ a, a < 11 → ∀ b, b < 11 → a ≠ b → (T_St a).2.1 ≠ (T_St b).2.1 := by decide +kernel
theorem tyok_St : ∀ k, k < 11 → parseFieldDescriptor (T_St k).2.2.1 = some (ty_St k) := by decide +kernel
theorem in_St : ∀ w ∈ u_ws R_St T_St 11, w ∈ lw_tbl := by decide +kernel
theorem ins_St : Cond.instantiable R_St 11 ∈ lw_tbl := List.mem_of_getElem? (i := 219) (by decide +kernel)
theorem ini_St : Cond.initialized R_St ∈ lw_tbl := List.mem_of_getElem? (i := 45) (by decide +kernel)
theorem nm_Mo : ∀ a, a < 35 → ∀ b, b < 35 → a ≠ b → (T_Mo a).2.1 ≠ (T_Mo b).2.1 := by decide +kernel
theorem tyok_Mo : ∀ k, k < 35 → parseFieldDescriptor (T_Mo k).2.2.1 = some (ty_Mo k) := by decide +kernel
theorem in_Mo : ∀ w ∈ u_ws R_Mo T_Mo 35, w ∈ lw_tbl := by decide +kernel
theorem ins_Mo : Cond.instantiable R_Mo 35 ∈ lw_tbl := List.mem_of_getElem? (i := 783) (by decide +kernel)
theorem ini_Mo : Cond.initialized R_Mo ∈ lw_tbl := List.mem_of_getElem? (i := 39) (by decide +kernel)
theorem ini_La : Cond.initialized R_La ∈ lw_tbl := List.mem_of_getElem? (i := 33) (by decide +kernel)
abbrev c_AW_init : ByteArray := prog_1_method_1_code
def y_AW_init : MethodName := ⟨R_AW, "<init>", "()V"⟩
abbrev c_AW_street : ByteArray := prog_1_method_2_code
def y_AW_street : MethodName := ⟨R_AW, "street", "(I)I"⟩
abbrev c_AW_sign : ByteArray := prog_1_method_3_code
def y_AW_sign : MethodName := ⟨R_AW, "sign", "(IJI)I"⟩
abbrev c_AW_alias : ByteArray := prog_1_method_4_code
def y_AW_alias : MethodName := ⟨R_AW, "alias", "(I)I"⟩
abbrev c_AW_range : ByteArray := prog_1_method_5_code
def y_AW_range : MethodName := ⟨R_AW, "range", "(IIII)I"⟩
abbrev c_AW_line : ByteArray := prog_1_method_6_code
def y_AW_line : MethodName := ⟨R_AW, "line", "(IIIII)I"⟩
abbrev c_AW_close : ByteArray := prog_1_method_7_code
def y_AW_close : MethodName := ⟨R_AW, "close", "(IZ)V"⟩
abbrev c_AW_landmark : ByteArray := prog_1_method_8_code
def y_AW_landmark : MethodName := ⟨R_AW, "landmark", "(IIJI)I"⟩
abbrev c_AW_meet : ByteArray := prog_1_method_9_code
def y_AW_meet : MethodName := ⟨R_AW, "meet", "(IIII)V"⟩
abbrev c_AW_corner : ByteArray := prog_1_method_10_code
def y_AW_corner : MethodName := ⟨R_AW, "corner", "(II)I"⟩
abbrev c_AW_post : ByteArray := prog_1_method_11_code
def y_AW_post : MethodName := ⟨R_AW, "post", "(II)I"⟩
abbrev c_AW_near : ByteArray := prog_1_method_12_code
def y_AW_near : MethodName := ⟨R_AW, "near", "(II)I"⟩
abbrev c_AW_word : ByteArray := prog_1_method_13_code
def y_AW_word : MethodName := ⟨R_AW, "word", "(JI)I"⟩
abbrev c_AW_find : ByteArray := prog_1_method_14_code
def y_AW_find : MethodName := ⟨R_AW, "find", "(I)I"⟩
abbrev c_AW_place : ByteArray := prog_1_method_15_code
def y_AW_place : MethodName := ⟨R_AW, "place", "(II)I"⟩
abbrev c_AW_twice : ByteArray := prog_1_method_16_code
def y_AW_twice : MethodName := ⟨R_AW, "twice", "()I"⟩
abbrev c_AW_knownStreet : ByteArray := prog_1_method_17_code
def y_AW_knownStreet : MethodName := ⟨R_AW, "knownStreet", "(I)LAddressWords$Street;"⟩
abbrev c_AW_forgetPlaces : ByteArray := prog_1_method_18_code
def y_AW_forgetPlaces : MethodName := ⟨R_AW, "forgetPlaces", "()V"⟩
abbrev c_AW_hasLandmarkNamed : ByteArray := prog_1_method_19_code
def y_AW_hasLandmarkNamed : MethodName := ⟨R_AW, "hasLandmarkNamed", "(LAddressWords$Name;)Z"⟩
abbrev c_AW_metresOfCorner : ByteArray := prog_1_method_20_code
def y_AW_metresOfCorner : MethodName := ⟨R_AW, "metresOfCorner", "(II)I"⟩
abbrev c_AW_sharesName : ByteArray := prog_1_method_21_code
def y_AW_sharesName : MethodName := ⟨R_AW, "sharesName", "(I)Z"⟩
abbrev c_AW_rank : ByteArray := prog_1_method_22_code
def y_AW_rank : MethodName := ⟨R_AW, "rank", "(I)V"⟩
abbrev c_AW_distanceOfStreet : ByteArray := prog_1_method_23_code
def y_AW_distanceOfStreet : MethodName := ⟨R_AW, "distanceOfStreet", "(LAddressWords$Street;)I"⟩
abbrev c_AW_nearerDistance : ByteArray := prog_1_method_24_code
def y_AW_nearerDistance : MethodName := ⟨R_AW, "nearerDistance", "(LAddressWords$Name;I)I"⟩
abbrev c_AW_tellCandidate : ByteArray := prog_1_method_25_code
def y_AW_tellCandidate : MethodName := ⟨R_AW, "tellCandidate", "(LAddressWords$Place;II)V"⟩
abbrev c_AW_tellLandmark : ByteArray := prog_1_method_26_code
def y_AW_tellLandmark : MethodName := ⟨R_AW, "tellLandmark", "(LAddressWords$Place;I)V"⟩
abbrev c_AW_tellStreet : ByteArray := prog_1_method_27_code
def y_AW_tellStreet : MethodName := ⟨R_AW, "tellStreet", "(LAddressWords$Place;I)V"⟩
abbrev c_AW_tellWhere : ByteArray := prog_1_method_28_code
def y_AW_tellWhere : MethodName := ⟨R_AW, "tellWhere", "(LAddressWords$Place;II)V"⟩
abbrev c_AW_requireLetters : ByteArray := prog_1_method_29_code
def y_AW_requireLetters : MethodName := ⟨R_AW, "requireLetters", "(JI)V"⟩
abbrev c_AW_requireSigns : ByteArray := prog_1_method_30_code
def y_AW_requireSigns : MethodName := ⟨R_AW, "requireSigns", "(JI)V"⟩
abbrev c_AW_requireHouses : ByteArray := prog_1_method_31_code
def y_AW_requireHouses : MethodName := ⟨R_AW, "requireHouses", "(III)V"⟩
abbrev c_AW_requireHouse : ByteArray := prog_1_method_32_code
def y_AW_requireHouse : MethodName := ⟨R_AW, "requireHouse", "(I)V"⟩
abbrev c_AW_requirePoint : ByteArray := prog_1_method_33_code
def y_AW_requirePoint : MethodName := ⟨R_AW, "requirePoint", "(II)V"⟩
abbrev c_AW_requireMetres : ByteArray := prog_1_method_34_code
def y_AW_requireMetres : MethodName := ⟨R_AW, "requireMetres", "(LAddressWords$Street;I)V"⟩
abbrev c_AW_signAt : ByteArray := prog_1_method_35_code
def y_AW_signAt : MethodName := ⟨R_AW, "signAt", "(JII)C"⟩
abbrev c_AW_isLetter : ByteArray := prog_1_method_36_code
def y_AW_isLetter : MethodName := ⟨R_AW, "isLetter", "(C)Z"⟩
abbrev c_AW_isDigit : ByteArray := prog_1_method_37_code
def y_AW_isDigit : MethodName := ⟨R_AW, "isDigit", "(C)Z"⟩
abbrev c_AW_squareOfWay : ByteArray := prog_1_method_38_code
def y_AW_squareOfWay : MethodName := ⟨R_AW, "squareOfWay", "(IIII)I"⟩
abbrev c_AW_wholeRoot : ByteArray := prog_1_method_39_code
def y_AW_wholeRoot : MethodName := ⟨R_AW, "wholeRoot", "(I)I"⟩
abbrev c_Mo_init : ByteArray := prog_12_method_1_code
def y_Mo_init : MethodName := ⟨R_Mo, "<init>", "()V"⟩
abbrev c_Mo_thrown : ByteArray := prog_12_method_2_code
def y_Mo_thrown : MethodName := ⟨R_Mo, "thrown", "()I"⟩
abbrev c_Mo_in : ByteArray := prog_12_method_3_code
def y_Mo_in : MethodName := ⟨R_Mo, "in", "(III)Z"⟩
abbrev c_Mo_goes : ByteArray := prog_12_method_4_code
def y_Mo_goes : MethodName := ⟨R_Mo, "goes", "(IZZZZ)Z"⟩
abbrev c_Mo_isStreet : ByteArray := prog_12_method_5_code
def y_Mo_isStreet : MethodName := ⟨R_Mo, "isStreet", "(I)Z"⟩
abbrev c_Mo_byteOf : ByteArray := prog_12_method_6_code
def y_Mo_byteOf : MethodName := ⟨R_Mo, "byteOf", "(JII)I"⟩
abbrev c_Mo_areLetters : ByteArray := prog_12_method_7_code
def y_Mo_areLetters : MethodName := ⟨R_Mo, "areLetters", "(JI)Z"⟩
abbrev c_Mo_street : ByteArray := prog_12_method_8_code
def y_Mo_street : MethodName := ⟨R_Mo, "street", "(I)I"⟩
abbrev c_Mo_sign : ByteArray := prog_12_method_9_code
def y_Mo_sign : MethodName := ⟨R_Mo, "sign", "(IJI)I"⟩
abbrev c_Mo_alias : ByteArray := prog_12_method_10_code
def y_Mo_alias : MethodName := ⟨R_Mo, "alias", "(I)I"⟩
abbrev c_Mo_isOf : ByteArray := prog_12_method_11_code
def y_Mo_isOf : MethodName := ⟨R_Mo, "isOf", "(II)Z"⟩
abbrev c_Mo_range : ByteArray := prog_12_method_12_code
def y_Mo_range : MethodName := ⟨R_Mo, "range", "(IIII)I"⟩
abbrev c_Mo_isPlace : ByteArray := prog_12_method_13_code
def y_Mo_isPlace : MethodName := ⟨R_Mo, "isPlace", "(I)Z"⟩
abbrev c_Mo_line : ByteArray := prog_12_method_14_code
def y_Mo_line : MethodName := ⟨R_Mo, "line", "(IIIII)I"⟩
abbrev c_Mo_close : ByteArray := prog_12_method_15_code
def y_Mo_close : MethodName := ⟨R_Mo, "close", "(IZ)V"⟩
abbrev c_Mo_hasMark : ByteArray := prog_12_method_16_code
def y_Mo_hasMark : MethodName := ⟨R_Mo, "hasMark", "(JI)Z"⟩
abbrev c_Mo_landmark : ByteArray := prog_12_method_17_code
def y_Mo_landmark : MethodName := ⟨R_Mo, "landmark", "(IIJI)I"⟩
abbrev c_Mo_cornerOf : ByteArray := prog_12_method_18_code
def y_Mo_cornerOf : MethodName := ⟨R_Mo, "cornerOf", "(II)I"⟩
abbrev c_Mo_meet : ByteArray := prog_12_method_19_code
def y_Mo_meet : MethodName := ⟨R_Mo, "meet", "(IIII)V"⟩
abbrev c_Mo_corner : ByteArray := prog_12_method_20_code
def y_Mo_corner : MethodName := ⟨R_Mo, "corner", "(II)I"⟩
abbrev c_Mo_part : ByteArray := prog_12_method_21_code
def y_Mo_part : MethodName := ⟨R_Mo, "part", "(III)I"⟩
abbrev c_Mo_post : ByteArray := prog_12_method_22_code
def y_Mo_post : MethodName := ⟨R_Mo, "post", "(II)I"⟩
abbrev c_Mo_near : ByteArray := prog_12_method_23_code
def y_Mo_near : MethodName := ⟨R_Mo, "near", "(II)I"⟩
abbrev c_Mo_isSign : ByteArray := prog_12_method_24_code
def y_Mo_isSign : MethodName := ⟨R_Mo, "isSign", "(I)Z"⟩
abbrev c_Mo_word : ByteArray := prog_12_method_25_code
def y_Mo_word : MethodName := ⟨R_Mo, "word", "(JI)I"⟩
abbrev c_Mo_houseSaid : ByteArray := prog_12_method_26_code
def y_Mo_houseSaid : MethodName := ⟨R_Mo, "houseSaid", "()I"⟩
abbrev c_Mo_least : ByteArray := prog_12_method_27_code
def y_Mo_least : MethodName := ⟨R_Mo, "least", "(II)I"⟩
abbrev c_Mo_distance : ByteArray := prog_12_method_28_code
def y_Mo_distance : MethodName := ⟨R_Mo, "distance", "(II)I"⟩
abbrev c_Mo_nearest : ByteArray := prog_12_method_29_code
def y_Mo_nearest : MethodName := ⟨R_Mo, "nearest", "(I)I"⟩
abbrev c_Mo_apartStreet : ByteArray := prog_12_method_30_code
def y_Mo_apartStreet : MethodName := ⟨R_Mo, "apartStreet", "(I)I"⟩
abbrev c_Mo_apartMark : ByteArray := prog_12_method_31_code
def y_Mo_apartMark : MethodName := ⟨R_Mo, "apartMark", "(I)I"⟩
abbrev c_Mo_find : ByteArray := prog_12_method_32_code
def y_Mo_find : MethodName := ⟨R_Mo, "find", "(I)I"⟩
abbrev c_Mo_isFound : ByteArray := prog_12_method_33_code
def y_Mo_isFound : MethodName := ⟨R_Mo, "isFound", "(I)Z"⟩
abbrev c_Mo_isHouse : ByteArray := prog_12_method_34_code
def y_Mo_isHouse : MethodName := ⟨R_Mo, "isHouse", "(II)Z"⟩
abbrev c_Mo_nearestHouse : ByteArray := prog_12_method_35_code
def y_Mo_nearestHouse : MethodName := ⟨R_Mo, "nearestHouse", "(II)I"⟩
abbrev c_Mo_reason : ByteArray := prog_12_method_36_code
def y_Mo_reason : MethodName := ⟨R_Mo, "reason", "(I)I"⟩
abbrev c_Mo_place : ByteArray := prog_12_method_37_code
def y_Mo_place : MethodName := ⟨R_Mo, "place", "(II)I"⟩
abbrev c_Mo_isSame : ByteArray := prog_12_method_38_code
def y_Mo_isSame : MethodName := ⟨R_Mo, "isSame", "(II)Z"⟩
abbrev c_Mo_share : ByteArray := prog_12_method_39_code
def y_Mo_share : MethodName := ⟨R_Mo, "share", "(II)Z"⟩
abbrev c_Mo_twice : ByteArray := prog_12_method_40_code
def y_Mo_twice : MethodName := ⟨R_Mo, "twice", "()I"⟩
abbrev c_Co_init : ByteArray := prog_2_method_1_code
def y_Co_init : MethodName := ⟨R_Co, "<init>", "(IIII)V"⟩
abbrev c_Ed_init : ByteArray := prog_3_method_1_code
def y_Ed_init : MethodName := ⟨R_Ed, "<init>", "()V"⟩
abbrev c_Ed_count : ByteArray := prog_3_method_2_code
def y_Ed_count : MethodName := ⟨R_Ed, "count", "([CIILAddressWords$Name;)I"⟩
abbrev c_Ed_turnRows : ByteArray := prog_3_method_3_code
def y_Ed_turnRows : MethodName := ⟨R_Ed, "turnRows", "()V"⟩
abbrev c_Ed_fillRow : ByteArray := prog_3_method_4_code
def y_Ed_fillRow : MethodName := ⟨R_Ed, "fillRow", "(ICCLAddressWords$Name;)V"⟩
abbrev c_HR_init : ByteArray := prog_4_method_1_code
def y_HR_init : MethodName := ⟨R_HR, "<init>", "(III)V"⟩
abbrev c_HR_firstFrom : ByteArray := prog_4_method_2_code
def y_HR_firstFrom : MethodName := ⟨R_HR, "firstFrom", "(II)I"⟩
abbrev c_HR_lastTo : ByteArray := prog_4_method_3_code
def y_HR_lastTo : MethodName := ⟨R_HR, "lastTo", "(II)I"⟩
abbrev c_HR_isOnSide : ByteArray := prog_4_method_4_code
def y_HR_isOnSide : MethodName := ⟨R_HR, "isOnSide", "(II)Z"⟩
abbrev c_HR_nearestTo : ByteArray := prog_4_method_5_code
def y_HR_nearestTo : MethodName := ⟨R_HR, "nearestTo", "(I)I"⟩
abbrev c_LM_init : ByteArray := prog_5_method_1_code
def y_LM_init : MethodName := ⟨R_LM, "<init>", "(II)V"⟩
abbrev c_Na_init : ByteArray := prog_6_method_1_code
def y_Na_init : MethodName := ⟨R_Na, "<init>", "()V"⟩
abbrev c_Na_isEmpty : ByteArray := prog_6_method_2_code
def y_Na_isEmpty : MethodName := ⟨R_Na, "isEmpty", "()Z"⟩
abbrev c_Na_hasRoomFor : ByteArray := prog_6_method_3_code
def y_Na_hasRoomFor : MethodName := ⟨R_Na, "hasRoomFor", "(I)Z"⟩
abbrev c_Na_append : ByteArray := prog_6_method_4_code
def y_Na_append : MethodName := ⟨R_Na, "append", "(JI)V"⟩
abbrev c_Na_isSameAs : ByteArray := prog_6_method_5_code
def y_Na_isSameAs : MethodName := ⟨R_Na, "isSameAs", "(LAddressWords$Name;)Z"⟩
abbrev c_Pl_init : ByteArray := prog_7_method_1_code
def y_Pl_init : MethodName := ⟨R_Pl, "<init>", "()V"⟩
abbrev c_Ra_init : ByteArray := prog_8_method_1_code
def y_Ra_init : MethodName := ⟨R_Ra, "<init>", "()V"⟩
abbrev c_Ra_begin : ByteArray := prog_8_method_2_code
def y_Ra_begin : MethodName := ⟨R_Ra, "begin", "(I)V"⟩
abbrev c_Ra_offer : ByteArray := prog_8_method_3_code
def y_Ra_offer : MethodName := ⟨R_Ra, "offer", "(II)V"⟩
abbrev c_Sa_init : ByteArray := prog_9_method_1_code
def y_Sa_init : MethodName := ⟨R_Sa, "<init>", "()V"⟩
abbrev c_Sa_hasRoomFor : ByteArray := prog_9_method_2_code
def y_Sa_hasRoomFor : MethodName := ⟨R_Sa, "hasRoomFor", "(I)Z"⟩
abbrev c_Sa_clear : ByteArray := prog_9_method_3_code
def y_Sa_clear : MethodName := ⟨R_Sa, "clear", "()V"⟩
abbrev c_Sa_append : ByteArray := prog_9_method_4_code
def y_Sa_append : MethodName := ⟨R_Sa, "append", "(JI)V"⟩
abbrev c_Sa_lookThrough : ByteArray := prog_9_method_5_code
def y_Sa_lookThrough : MethodName := ⟨R_Sa, "lookThrough", "()V"⟩
abbrev c_Sa_takeLetter : ByteArray := prog_9_method_6_code
def y_Sa_takeLetter : MethodName := ⟨R_Sa, "takeLetter", "(I)V"⟩
abbrev c_Sa_takeDigit : ByteArray := prog_9_method_7_code
def y_Sa_takeDigit : MethodName := ⟨R_Sa, "takeDigit", "(I)V"⟩
abbrev c_St_init : ByteArray := prog_10_method_1_code
def y_St_init : MethodName := ⟨R_St, "<init>", "(I)V"⟩
abbrev c_St_latestName : ByteArray := prog_10_method_2_code
def y_St_latestName : MethodName := ⟨R_St, "latestName", "()LAddressWords$Name;"⟩
abbrev c_St_draw : ByteArray := prog_10_method_3_code
def y_St_draw : MethodName := ⟨R_St, "draw", "(IIII)V"⟩
abbrev c_St_between : ByteArray := prog_10_method_4_code
def y_St_between : MethodName := ⟨R_St, "between", "(III)I"⟩
abbrev c_St_hasHouse : ByteArray := prog_10_method_5_code
def y_St_hasHouse : MethodName := ⟨R_St, "hasHouse", "(I)Z"⟩
abbrev c_St_nearestHouse : ByteArray := prog_10_method_6_code
def y_St_nearestHouse : MethodName := ⟨R_St, "nearestHouse", "(I)I"⟩
abbrev c_St_isNearer : ByteArray := prog_10_method_7_code
def y_St_isNearer : MethodName := ⟨R_St, "isNearer", "(III)Z"⟩
abbrev c_St_sharesNameWith : ByteArray := prog_10_method_8_code
def y_St_sharesNameWith : MethodName := ⟨R_St, "sharesNameWith", "(LAddressWords$Street;)Z"⟩
abbrev c_St_hasName : ByteArray := prog_10_method_9_code
def y_St_hasName : MethodName := ⟨R_St, "hasName", "(LAddressWords$Name;)Z"⟩
abbrev c_La_street : ByteArray := method_3_code
def y_La_street : MethodName := ⟨R_La, "street", "(LAddressWords;I[J)I"⟩
abbrev c_La_sign : ByteArray := method_4_code
def y_La_sign : MethodName := ⟨R_La, "sign", "(LAddressWords;IJI[J)I"⟩
abbrev c_La_alias : ByteArray := method_5_code
def y_La_alias : MethodName := ⟨R_La, "alias", "(LAddressWords;I[J)I"⟩
abbrev c_La_range : ByteArray := method_6_code
def y_La_range : MethodName := ⟨R_La, "range", "(LAddressWords;IIII[J)I"⟩
abbrev c_La_line : ByteArray := method_7_code
def y_La_line : MethodName := ⟨R_La, "line", "(LAddressWords;IIIII[J)I"⟩
abbrev c_La_close : ByteArray := method_8_code
def y_La_close : MethodName := ⟨R_La, "close", "(LAddressWords;IZ)I"⟩
abbrev c_La_landmark : ByteArray := method_9_code
def y_La_landmark : MethodName := ⟨R_La, "landmark", "(LAddressWords;IIJI[J)I"⟩
abbrev c_La_meet : ByteArray := method_10_code
def y_La_meet : MethodName := ⟨R_La, "meet", "(LAddressWords;IIII)I"⟩
abbrev c_La_corner : ByteArray := method_11_code
def y_La_corner : MethodName := ⟨R_La, "corner", "(LAddressWords;II[J)I"⟩
abbrev c_La_post : ByteArray := method_12_code
def y_La_post : MethodName := ⟨R_La, "post", "(LAddressWords;II[J)I"⟩
abbrev c_La_near : ByteArray := method_13_code
def y_La_near : MethodName := ⟨R_La, "near", "(LAddressWords;II[J)I"⟩
abbrev c_La_word : ByteArray := method_14_code
def y_La_word : MethodName := ⟨R_La, "word", "(LAddressWords;JI[J)I"⟩
abbrev c_La_find : ByteArray := method_15_code
def y_La_find : MethodName := ⟨R_La, "find", "(LAddressWords;I[J)I"⟩
abbrev c_La_place : ByteArray := method_16_code
def y_La_place : MethodName := ⟨R_La, "place", "(LAddressWords;II[J)I"⟩
abbrev c_La_law : ByteArray := code
def y_La_law : MethodName := ⟨R_La, "law", "([I)Z"⟩
end
section
theorem d_AW_init_0 : decode c_AW_init 0 = .ok (.aload_n 0, 1) := by decide +kernel
theorem d_AW_init_1 : decode c_AW_init 1 = .ok (.invokespecial 1, 3) := by decide +kernel
theorem d_AW_init_4 : decode c_AW_init 4 = .ok (.aload_n 0, 1) := by decide +kernel
theorem d_AW_init_5 : decode c_AW_init 5 = .ok (.bipush 30, 2) := by decide +kernel
theorem d_AW_init_7 : decode c_AW_init 7 = .ok (.anewarray 9, 3) := by decide +kernel
theorem d_AW_init_10 : decode c_AW_init 10 = .ok (.putfield 11, 3) := by decide +kernel
theorem d_AW_init_13 : decode c_AW_init 13 = .ok (.aload_n 0, 1) := by decide +kernel
theorem d_AW_init_14 : decode c_AW_init 14 = .ok (.bipush 20, 2) := by decide +kernel
theorem d_AW_init_16 : decode c_AW_init 16 = .ok (.anewarray 15, 3) := by decide +kernel
theorem d_AW_init_19 : decode c_AW_init 19 = .ok (.putfield 17, 3) := by decide +kernel
theorem d_AW_init_22 : decode c_AW_init 22 = .ok (.aload_n 0, 1) := by decide +kernel
theorem d_AW_init_23 : decode c_AW_init 23 = .ok (.bipush 40, 2) := by decide +kernel
theorem d_AW_init_25 : decode c_AW_init 25 = .ok (.anewarray 21, 3) := by decide +kernel
theorem d_AW_init_28 : decode c_AW_init 28 = .ok (.putfield 23, 3) := by decide +kernel
theorem d_AW_init_31 : decode c_AW_init 31 = .ok (.aload_n 0, 1) := by decide +kernel
theorem d_AW_init_32 : decode c_AW_init 32 = .ok (.new 27, 3) := by decide +kernel
theorem d_AW_init_35 : decode c_AW_init 35 = .ok (.dup, 1) := by decide +kernel
theorem d_AW_init_36 : decode c_AW_init 36 = .ok (.invokespecial 29, 3) := by decide +kernel
theorem d_AW_init_39 : decode c_AW_init 39 = .ok (.putfield 30, 3) := by decide +kernel
theorem d_AW_init_42 : decode c_AW_init 42 = .ok (.aload_n 0, 1) := by decide +kernel
theorem d_AW_init_43 : decode c_AW_init 43 = .ok (.new 34, 3) := by decide +kernel
theorem d_AW_init_46 : decode c_AW_init 46 = .ok (.dup, 1) := by decide +kernel
theorem d_AW_init_47 : decode c_AW_init 47 = .ok (.invokespecial 36, 3) := by decide +kernel
theorem d_AW_init_50 : decode c_AW_init 50 = .ok (.putfield 37, 3) := by decide +kernel
theorem d_AW_init_53 : decode c_AW_init 53 = .ok (.aload_n 0, 1) := by decide +kernel
theorem d_AW_init_54 : decode c_AW_init 54 = .ok (.new 41, 3) := by decide +kernel
theorem d_AW_init_57 : decode c_AW_init 57 = .ok (.dup, 1) := by decide +kernel
theorem d_AW_init_58 : decode c_AW_init 58 = .ok (.invokespecial 43, 3) := by decide +kernel
theorem d_AW_init_61 : decode c_AW_init 61 = .ok (.putfield 44, 3) := by decide +kernel
theorem d_AW_init_64 : decode c_AW_init 64 = .ok (.aload_n 0, 1) := by decide +kernel
theorem d_AW_init_65 : decode c_AW_init 65 = .ok (.bipush 10, 2) := by decide +kernel
theorem d_AW_init_67 : decode c_AW_init 67 = .ok (.anewarray 48, 3) := by decide +kernel
theorem d_AW_init_70 : decode c_AW_init 70 = .ok (.putfield 50, 3) := by decide +kernel
theorem d_AW_init_73 : decode c_AW_init 73 = .ok (.iconst 0, 1) := by decide +kernel
theorem d_AW_init_74 : decode c_AW_init 74 = .ok (.istore_n 1, 1) := by decide +kernel
theorem d_AW_init_75 : decode c_AW_init 75 = .ok (.iload_n 1, 1) := by decide +kernel
theorem d_AW_init_76 : decode c_AW_init 76 = .ok (.bipush 10, 2) := by decide +kernel
theorem d_AW_init_78 : decode c_AW_init 78 = .ok (.if_icmp .ge 22, 3) := by decide +kernel
theorem d_AW_init_81 : decode c_AW_init 81 = .ok (.aload_n 0, 1) := by decide +kernel
theorem d_AW_init_82 : decode c_AW_init 82 = .ok (.getfield 50, 3) := by decide +kernel
theorem d_AW_init_85 : decode c_AW_init 85 = .ok (.iload_n 1, 1) := by decide +kernel
theorem d_AW_init_86 : decode c_AW_init 86 = .ok (.new 48, 3) := by decide +kernel
theorem d_AW_init_89 : decode c_AW_init 89 = .ok (.dup, 1) := by decide +kernel
theorem d_AW_init_90 : decode c_AW_init 90 = .ok (.invokespecial 54, 3) := by decide +kernel
theorem d_AW_init_93 : decode c_AW_init 93 = .ok (.aastore, 1) := by decide +kernel
theorem d_AW_init_94 : decode c_AW_init 94 = .ok (.iinc 1 1, 3) := by decide +kernel
theorem d_AW_init_97 : decode c_AW_init 97 = .ok (.goto (-22), 3) := by decide +kernel
theorem d_AW_init_100 : decode c_AW_init 100 = .ok (.return_, 1) := by decide +kernel
theorem d_AW_street_0 : decode c_AW_street 0 = .ok (.iload_n 1, 1) := by decide +kernel
theorem d_AW_street_1 : decode c_AW_street 1 = .ok (.ifCond .lt 9, 3) := by decide +kernel
theorem d_AW_street_4 : decode c_AW_street 4 = .ok (.iload_n 1, 1) := by decide +kernel
theorem d_AW_street_5 : decode c_AW_street 5 = .ok (.bipush 9, 2) := by decide +kernel
theorem d_AW_street_7 : decode c_AW_street 7 = .ok (.if_icmp .le 13, 3) := by decide +kernel
theorem d_AW_street_10 : decode c_AW_street 10 = .ok (.new 55, 3) := by decide +kernel
theorem d_AW_street_13 : decode c_AW_street 13 = .ok (.dup, 1) := by decide +kernel
theorem d_AW_street_14 : decode c_AW_street 14 = .ok (.ldc 57, 2) := by decide +kernel
theorem d_AW_street_16 : decode c_AW_street 16 = .ok (.invokespecial 59, 3) := by decide +kernel
theorem d_AW_street_19 : decode c_AW_street 19 = .ok (.athrow, 1) := by decide +kernel
theorem d_AW_street_20 : decode c_AW_street 20 = .ok (.aload_n 0, 1) := by decide +kernel
theorem d_AW_street_21 : decode c_AW_street 21 = .ok (.getfield 62, 3) := by decide +kernel
theorem d_AW_street_24 : decode c_AW_street 24 = .ok (.bipush 30, 2) := by decide +kernel
theorem d_AW_street_26 : decode c_AW_street 26 = .ok (.if_icmp .lt 13, 3) := by decide +kernel
theorem d_AW_street_29 : decode c_AW_street 29 = .ok (.new 66, 3) := by decide +kernel
theorem d_AW_street_32 : decode c_AW_street 32 = .ok (.dup, 1) := by decide +kernel
theorem d_AW_street_33 : decode c_AW_street 33 = .ok (.ldc 68, 2) := by decide +kernel
theorem d_AW_street_35 : decode c_AW_street 35 = .ok (.invokespecial 70, 3) := by decide +kernel
theorem d_AW_street_38 : decode c_AW_street 38 = .ok (.athrow, 1) := by decide +kernel
theorem d_AW_street_39 : decode c_AW_street 39 = .ok (.aload_n 0, 1) := by decide +kernel
theorem d_AW_street_40 : decode c_AW_street 40 = .ok (.getfield 11, 3) := by decide +kernel
theorem d_AW_street_43 : decode c_AW_street 43 = .ok (.aload_n 0, 1) := by decide +kernel
theorem d_AW_street_44 : decode c_AW_street 44 = .ok (.getfield 62, 3) := by decide +kernel
theorem d_AW_street_47 : decode c_AW_street 47 = .ok (.new 9, 3) := by decide +kernel
theorem d_AW_street_50 : decode c_AW_street 50 = .ok (.dup, 1) := by decide +kernel
theorem d_AW_street_51 : decode c_AW_street 51 = .ok (.iload_n 1, 1) := by decide +kernel
theorem d_AW_street_52 : decode c_AW_street 52 = .ok (.invokespecial 71, 3) := by decide +kernel
theorem d_AW_street_55 : decode c_AW_street 55 = .ok (.aastore, 1) := by decide +kernel
theorem d_AW_street_56 : decode c_AW_street 56 = .ok (.aload_n 0, 1) := by decide +kernel
theorem d_AW_street_57 : decode c_AW_street 57 = .ok (.dup, 1) := by decide +kernel
theorem d_AW_street_58 : decode c_AW_street 58 = .ok (.getfield 62, 3) := by decide +kernel
theorem d_AW_street_61 : decode c_AW_street 61 = .ok (.iconst 1, 1) := by decide +kernel
theorem d_AW_street_62 : decode c_AW_street 62 = .ok (.iadd, 1) := by decide +kernel
theorem d_AW_street_63 : decode c_AW_street 63 = .ok (.putfield 62, 3) := by decide +kernel
theorem d_AW_street_66 : decode c_AW_street 66 = .ok (.aload_n 0, 1) := by decide +kernel
theorem d_AW_street_67 : decode c_AW_street 67 = .ok (.invokevirtual 74, 3) := by decide +kernel
theorem d_AW_street_70 : decode c_AW_street 70 = .ok (.aload_n 0, 1) := by decide +kernel
theorem d_AW_street_71 : decode c_AW_street 71 = .ok (.getfield 62, 3) := by decide +kernel
theorem d_AW_street_74 : decode c_AW_street 74 = .ok (.iconst 1, 1) := by decide +kernel
theorem d_AW_street_75 : decode c_AW_street 75 = .ok (.isub, 1) := by decide +kernel
theorem d_AW_street_76 : decode c_AW_street 76 = .ok (.ireturn, 1) := by decide +kernel
theorem d_AW_sign_0 : decode c_AW_sign 0 = .ok (.aload_n 0, 1) := by decide +kernel
theorem d_AW_sign_1 : decode c_AW_sign 1 = .ok (.iload_n 1, 1) := by decide +kernel
theorem d_AW_sign_2 : decode c_AW_sign 2 = .ok (.invokevirtual 77, 3) := by decide +kernel
theorem d_AW_sign_5 : decode c_AW_sign 5 = .ok (.invokevirtual 81, 3) := by decide +kernel
theorem d_AW_sign_8 : decode c_AW_sign 8 = .ok (.astore 5, 2) := by decide +kernel
theorem d_AW_sign_10 : decode c_AW_sign 10 = .ok (.lload_n 2, 1) := by decide +kernel
theorem d_AW_sign_11 : decode c_AW_sign 11 = .ok (.iload 4, 2) := by decide +kernel
theorem d_AW_sign_13 : decode c_AW_sign 13 = .ok (.invokestatic 85, 3) := by decide +kernel
theorem d_AW_sign_16 : decode c_AW_sign 16 = .ok (.aload 5, 2) := by decide +kernel
theorem d_AW_sign_18 : decode c_AW_sign 18 = .ok (.iload 4, 2) := by decide +kernel
theorem d_AW_sign_20 : decode c_AW_sign 20 = .ok (.invokevirtual 89, 3) := by decide +kernel
theorem d_AW_sign_23 : decode c_AW_sign 23 = .ok (.ifCond .ne 13, 3) := by decide +kernel
theorem d_AW_sign_26 : decode c_AW_sign 26 = .ok (.new 66, 3) := by decide +kernel
theorem d_AW_sign_29 : decode c_AW_sign 29 = .ok (.dup, 1) := by decide +kernel
theorem d_AW_sign_30 : decode c_AW_sign 30 = .ok (.ldc 95, 2) := by decide +kernel
theorem d_AW_sign_32 : decode c_AW_sign 32 = .ok (.invokespecial 70, 3) := by decide +kernel
theorem d_AW_sign_35 : decode c_AW_sign 35 = .ok (.athrow, 1) := by decide +kernel
theorem d_AW_sign_36 : decode c_AW_sign 36 = .ok (.aload 5, 2) := by decide +kernel
theorem d_AW_sign_38 : decode c_AW_sign 38 = .ok (.lload_n 2, 1) := by decide +kernel
theorem d_AW_sign_39 : decode c_AW_sign 39 = .ok (.iload 4, 2) := by decide +kernel
theorem d_AW_sign_41 : decode c_AW_sign 41 = .ok (.invokevirtual 97, 3) := by decide +kernel
theorem d_AW_sign_44 : decode c_AW_sign 44 = .ok (.aload_n 0, 1) := by decide +kernel
theorem d_AW_sign_45 : decode c_AW_sign 45 = .ok (.invokevirtual 74, 3) := by decide +kernel
theorem d_AW_sign_48 : decode c_AW_sign 48 = .ok (.aload 5, 2) := by decide +kernel
theorem d_AW_sign_50 : decode c_AW_sign 50 = .ok (.getfield 100, 3) := by decide +kernel
theorem d_AW_sign_53 : decode c_AW_sign 53 = .ok (.ireturn, 1) := by decide +kernel
theorem d_AW_alias_0 : decode c_AW_alias 0 = .ok (.aload_n 0, 1) := by decide +kernel
theorem d_AW_alias_1 : decode c_AW_alias 1 = .ok (.iload_n 1, 1) := by decide +kernel
theorem d_AW_alias_2 : decode c_AW_alias 2 = .ok (.invokevirtual 77, 3) := by decide +kernel
theorem d_AW_alias_5 : decode c_AW_alias 5 = .ok (.astore_n 2, 1) := by decide +kernel
theorem d_AW_alias_6 : decode c_AW_alias 6 = .ok (.aload_n 2, 1) := by decide +kernel
theorem d_AW_alias_7 : decode c_AW_alias 7 = .ok (.invokevirtual 81, 3) := by decide +kernel
theorem d_AW_alias_10 : decode c_AW_alias 10 = .ok (.invokevirtual 103, 3) := by decide +kernel
theorem d_AW_alias_13 : decode c_AW_alias 13 = .ok (.ifCond .eq 13, 3) := by decide +kernel
theorem d_AW_alias_16 : decode c_AW_alias 16 = .ok (.new 107, 3) := by decide +kernel
theorem d_AW_alias_19 : decode c_AW_alias 19 = .ok (.dup, 1) := by decide +kernel
theorem d_AW_alias_20 : decode c_AW_alias 20 = .ok (.ldc 109, 2) := by decide +kernel
theorem d_AW_alias_22 : decode c_AW_alias 22 = .ok (.invokespecial 111, 3) := by decide +kernel
theorem d_AW_alias_25 : decode c_AW_alias 25 = .ok (.athrow, 1) := by decide +kernel
theorem d_AW_alias_26 : decode c_AW_alias 26 = .ok (.aload_n 2, 1) := by decide +kernel
theorem d_AW_alias_27 : decode c_AW_alias 27 = .ok (.getfield 112, 3) := by decide +kernel
theorem d_AW_alias_30 : decode c_AW_alias 30 = .ok (.iconst 3, 1) := by decide +kernel
theorem d_AW_alias_31 : decode c_AW_alias 31 = .ok (.if_icmp .lt 13, 3) := by decide +kernel
theorem d_AW_alias_34 : decode c_AW_alias 34 = .ok (.new 66, 3) := by decide +kernel
theorem d_AW_alias_37 : decode c_AW_alias 37 = .ok (.dup, 1) := by decide +kernel
theorem d_AW_alias_38 : decode c_AW_alias 38 = .ok (.ldc 115, 2) := by decide +kernel
theorem d_AW_alias_40 : decode c_AW_alias 40 = .ok (.invokespecial 70, 3) := by decide +kernel
theorem d_AW_alias_43 : decode c_AW_alias 43 = .ok (.athrow, 1) := by decide +kernel
theorem d_AW_alias_44 : decode c_AW_alias 44 = .ok (.aload_n 2, 1) := by decide +kernel
theorem d_AW_alias_45 : decode c_AW_alias 45 = .ok (.dup, 1) := by decide +kernel
theorem d_AW_alias_46 : decode c_AW_alias 46 = .ok (.getfield 112, 3) := by decide +kernel
theorem d_AW_alias_49 : decode c_AW_alias 49 = .ok (.iconst 1, 1) := by decide +kernel
theorem d_AW_alias_50 : decode c_AW_alias 50 = .ok (.iadd, 1) := by decide +kernel
theorem d_AW_alias_51 : decode c_AW_alias 51 = .ok (.putfield 112, 3) := by decide +kernel
theorem d_AW_alias_54 : decode c_AW_alias 54 = .ok (.aload_n 0, 1) := by decide +kernel
theorem d_AW_alias_55 : decode c_AW_alias 55 = .ok (.invokevirtual 74, 3) := by decide +kernel
theorem d_AW_alias_58 : decode c_AW_alias 58 = .ok (.aload_n 2, 1) := by decide +kernel
theorem d_AW_alias_59 : decode c_AW_alias 59 = .ok (.getfield 112, 3) := by decide +kernel
theorem d_AW_alias_62 : decode c_AW_alias 62 = .ok (.ireturn, 1) := by decide +kernel
theorem d_AW_range_0 : decode c_AW_range 0 = .ok (.aload_n 0, 1) := by decide +kernel
theorem d_AW_range_1 : decode c_AW_range 1 = .ok (.iload_n 1, 1) := by decide +kernel
theorem d_AW_range_2 : decode c_AW_range 2 = .ok (.invokevirtual 77, 3) := by decide +kernel
theorem d_AW_range_5 : decode c_AW_range 5 = .ok (.astore 5, 2) := by decide +kernel
theorem d_AW_range_7 : decode c_AW_range 7 = .ok (.iload_n 2, 1) := by decide +kernel
theorem d_AW_range_8 : decode c_AW_range 8 = .ok (.iload_n 3, 1) := by decide +kernel
theorem d_AW_range_9 : decode c_AW_range 9 = .ok (.iload 4, 2) := by decide +kernel
theorem d_AW_range_11 : decode c_AW_range 11 = .ok (.invokestatic 117, 3) := by decide +kernel
theorem d_AW_range_14 : decode c_AW_range 14 = .ok (.aload 5, 2) := by decide +kernel
theorem d_AW_range_16 : decode c_AW_range 16 = .ok (.getfield 121, 3) := by decide +kernel
theorem d_AW_range_19 : decode c_AW_range 19 = .ok (.bipush 6, 2) := by decide +kernel
theorem d_AW_range_21 : decode c_AW_range 21 = .ok (.if_icmp .lt 13, 3) := by decide +kernel
theorem d_AW_range_24 : decode c_AW_range 24 = .ok (.new 66, 3) := by decide +kernel
theorem d_AW_range_27 : decode c_AW_range 27 = .ok (.dup, 1) := by decide +kernel
theorem d_AW_range_28 : decode c_AW_range 28 = .ok (.ldc 124, 2) := by decide +kernel
theorem d_AW_range_30 : decode c_AW_range 30 = .ok (.invokespecial 70, 3) := by decide +kernel
theorem d_AW_range_33 : decode c_AW_range 33 = .ok (.athrow, 1) := by decide +kernel
theorem d_AW_range_34 : decode c_AW_range 34 = .ok (.aload 5, 2) := by decide +kernel
theorem d_AW_range_36 : decode c_AW_range 36 = .ok (.getfield 126, 3) := by decide +kernel
theorem d_AW_range_39 : decode c_AW_range 39 = .ok (.aload 5, 2) := by decide +kernel
theorem d_AW_range_41 : decode c_AW_range 41 = .ok (.getfield 121, 3) := by decide +kernel
theorem d_AW_range_44 : decode c_AW_range 44 = .ok (.new 130, 3) := by decide +kernel
theorem d_AW_range_47 : decode c_AW_range 47 = .ok (.dup, 1) := by decide +kernel
theorem d_AW_range_48 : decode c_AW_range 48 = .ok (.iload_n 2, 1) := by decide +kernel
theorem d_AW_range_49 : decode c_AW_range 49 = .ok (.iload_n 3, 1) := by decide +kernel
theorem d_AW_range_50 : decode c_AW_range 50 = .ok (.iload 4, 2) := by decide +kernel
theorem d_AW_range_52 : decode c_AW_range 52 = .ok (.invokespecial 132, 3) := by decide +kernel
theorem d_AW_range_55 : decode c_AW_range 55 = .ok (.aastore, 1) := by decide +kernel
theorem d_AW_range_56 : decode c_AW_range 56 = .ok (.aload 5, 2) := by decide +kernel
theorem d_AW_range_58 : decode c_AW_range 58 = .ok (.dup, 1) := by decide +kernel
theorem d_AW_range_59 : decode c_AW_range 59 = .ok (.getfield 121, 3) := by decide +kernel
theorem d_AW_range_62 : decode c_AW_range 62 = .ok (.iconst 1, 1) := by decide +kernel
theorem d_AW_range_63 : decode c_AW_range 63 = .ok (.iadd, 1) := by decide +kernel
theorem d_AW_range_64 : decode c_AW_range 64 = .ok (.putfield 121, 3) := by decide +kernel
theorem d_AW_range_67 : decode c_AW_range 67 = .ok (.aload_n 0, 1) := by decide +kernel
theorem d_AW_range_68 : decode c_AW_range 68 = .ok (.invokevirtual 74, 3) := by decide +kernel
theorem d_AW_range_71 : decode c_AW_range 71 = .ok (.aload 5, 2) := by decide +kernel
theorem d_AW_range_73 : decode c_AW_range 73 = .ok (.getfield 121, 3) := by decide +kernel
theorem d_AW_range_76 : decode c_AW_range 76 = .ok (.ireturn, 1) := by decide +kernel
theorem d_AW_line_0 : decode c_AW_line 0 = .ok (.aload_n 0, 1) := by decide +kernel
theorem d_AW_line_1 : decode c_AW_line 1 = .ok (.iload_n 1, 1) := by decide +kernel
theorem d_AW_line_2 : decode c_AW_line 2 = .ok (.invokevirtual 77, 3) := by decide +kernel
theorem d_AW_line_5 : decode c_AW_line 5 = .ok (.astore 6, 2) := by decide +kernel
theorem d_AW_line_7 : decode c_AW_line 7 = .ok (.iload_n 2, 1) := by decide +kernel
theorem d_AW_line_8 : decode c_AW_line 8 = .ok (.iload_n 3, 1) := by decide +kernel
theorem d_AW_line_9 : decode c_AW_line 9 = .ok (.invokestatic 134, 3) := by decide +kernel
theorem d_AW_line_12 : decode c_AW_line 12 = .ok (.iload 4, 2) := by decide +kernel
theorem d_AW_line_14 : decode c_AW_line 14 = .ok (.iload 5, 2) := by decide +kernel
theorem d_AW_line_16 : decode c_AW_line 16 = .ok (.invokestatic 134, 3) := by decide +kernel
theorem d_AW_line_19 : decode c_AW_line 19 = .ok (.aload 6, 2) := by decide +kernel
theorem d_AW_line_21 : decode c_AW_line 21 = .ok (.iload_n 2, 1) := by decide +kernel
theorem d_AW_line_22 : decode c_AW_line 22 = .ok (.iload_n 3, 1) := by decide +kernel
theorem d_AW_line_23 : decode c_AW_line 23 = .ok (.iload 4, 2) := by decide +kernel
theorem d_AW_line_25 : decode c_AW_line 25 = .ok (.iload 5, 2) := by decide +kernel
theorem d_AW_line_27 : decode c_AW_line 27 = .ok (.invokevirtual 138, 3) := by decide +kernel
theorem d_AW_line_30 : decode c_AW_line 30 = .ok (.aload_n 0, 1) := by decide +kernel
theorem d_AW_line_31 : decode c_AW_line 31 = .ok (.invokevirtual 74, 3) := by decide +kernel
theorem d_AW_line_34 : decode c_AW_line 34 = .ok (.aload 6, 2) := by decide +kernel
theorem d_AW_line_36 : decode c_AW_line 36 = .ok (.getfield 142, 3) := by decide +kernel
theorem d_AW_line_39 : decode c_AW_line 39 = .ok (.ireturn, 1) := by decide +kernel
theorem d_AW_close_0 : decode c_AW_close 0 = .ok (.aload_n 0, 1) := by decide +kernel
theorem d_AW_close_1 : decode c_AW_close 1 = .ok (.iload_n 1, 1) := by decide +kernel
theorem d_AW_close_2 : decode c_AW_close 2 = .ok (.invokevirtual 77, 3) := by decide +kernel
theorem d_AW_close_5 : decode c_AW_close 5 = .ok (.iload_n 2, 1) := by decide +kernel
theorem d_AW_close_6 : decode c_AW_close 6 = .ok (.putfield 143, 3) := by decide +kernel
theorem d_AW_close_9 : decode c_AW_close 9 = .ok (.aload_n 0, 1) := by decide +kernel
theorem d_AW_close_10 : decode c_AW_close 10 = .ok (.invokevirtual 74, 3) := by decide +kernel
theorem d_AW_close_13 : decode c_AW_close 13 = .ok (.return_, 1) := by decide +kernel
theorem d_AW_landmark_0 : decode c_AW_landmark 0 = .ok (.aload_n 0, 1) := by decide +kernel
theorem d_AW_landmark_1 : decode c_AW_landmark 1 = .ok (.iload_n 1, 1) := by decide +kernel
theorem d_AW_landmark_2 : decode c_AW_landmark 2 = .ok (.invokevirtual 77, 3) := by decide +kernel
theorem d_AW_landmark_5 : decode c_AW_landmark 5 = .ok (.pop, 1) := by decide +kernel
theorem d_AW_landmark_6 : decode c_AW_landmark 6 = .ok (.iload_n 2, 1) := by decide +kernel
theorem d_AW_landmark_7 : decode c_AW_landmark 7 = .ok (.invokestatic 147, 3) := by decide +kernel
theorem d_AW_landmark_10 : decode c_AW_landmark 10 = .ok (.lload_n 3, 1) := by decide +kernel
theorem d_AW_landmark_11 : decode c_AW_landmark 11 = .ok (.iload 5, 2) := by decide +kernel
theorem d_AW_landmark_13 : decode c_AW_landmark 13 = .ok (.invokestatic 85, 3) := by decide +kernel
theorem d_AW_landmark_16 : decode c_AW_landmark 16 = .ok (.new 15, 3) := by decide +kernel
theorem d_AW_landmark_19 : decode c_AW_landmark 19 = .ok (.dup, 1) := by decide +kernel
theorem d_AW_landmark_20 : decode c_AW_landmark 20 = .ok (.iload_n 1, 1) := by decide +kernel
theorem d_AW_landmark_21 : decode c_AW_landmark 21 = .ok (.iload_n 2, 1) := by decide +kernel
theorem d_AW_landmark_22 : decode c_AW_landmark 22 = .ok (.invokespecial 150, 3) := by decide +kernel
theorem d_AW_landmark_25 : decode c_AW_landmark 25 = .ok (.astore 6, 2) := by decide +kernel
theorem d_AW_landmark_27 : decode c_AW_landmark 27 = .ok (.aload 6, 2) := by decide +kernel
theorem d_AW_landmark_29 : decode c_AW_landmark 29 = .ok (.getfield 152, 3) := by decide +kernel
theorem d_AW_landmark_32 : decode c_AW_landmark 32 = .ok (.lload_n 3, 1) := by decide +kernel
theorem d_AW_landmark_33 : decode c_AW_landmark 33 = .ok (.iload 5, 2) := by decide +kernel
theorem d_AW_landmark_35 : decode c_AW_landmark 35 = .ok (.invokevirtual 97, 3) := by decide +kernel
theorem d_AW_landmark_38 : decode c_AW_landmark 38 = .ok (.aload_n 0, 1) := by decide +kernel
theorem d_AW_landmark_39 : decode c_AW_landmark 39 = .ok (.aload 6, 2) := by decide +kernel
theorem d_AW_landmark_41 : decode c_AW_landmark 41 = .ok (.getfield 152, 3) := by decide +kernel
theorem d_AW_landmark_44 : decode c_AW_landmark 44 = .ok (.invokevirtual 156, 3) := by decide +kernel
theorem d_AW_landmark_47 : decode c_AW_landmark 47 = .ok (.ifCond .eq 13, 3) := by decide +kernel
theorem d_AW_landmark_50 : decode c_AW_landmark 50 = .ok (.new 107, 3) := by decide +kernel
theorem d_AW_landmark_53 : decode c_AW_landmark 53 = .ok (.dup, 1) := by decide +kernel
theorem d_AW_landmark_54 : decode c_AW_landmark 54 = .ok (.ldc 160, 2) := by decide +kernel
theorem d_AW_landmark_56 : decode c_AW_landmark 56 = .ok (.invokespecial 111, 3) := by decide +kernel
theorem d_AW_landmark_59 : decode c_AW_landmark 59 = .ok (.athrow, 1) := by decide +kernel
theorem d_AW_landmark_60 : decode c_AW_landmark 60 = .ok (.aload_n 0, 1) := by decide +kernel
theorem d_AW_landmark_61 : decode c_AW_landmark 61 = .ok (.getfield 162, 3) := by decide +kernel
theorem d_AW_landmark_64 : decode c_AW_landmark 64 = .ok (.bipush 20, 2) := by decide +kernel
theorem d_AW_landmark_66 : decode c_AW_landmark 66 = .ok (.if_icmp .lt 13, 3) := by decide +kernel
theorem d_AW_landmark_69 : decode c_AW_landmark 69 = .ok (.new 66, 3) := by decide +kernel
theorem d_AW_landmark_72 : decode c_AW_landmark 72 = .ok (.dup, 1) := by decide +kernel
theorem d_AW_landmark_73 : decode c_AW_landmark 73 = .ok (.ldc 165, 2) := by decide +kernel
theorem d_AW_landmark_75 : decode c_AW_landmark 75 = .ok (.invokespecial 70, 3) := by decide +kernel
theorem d_AW_landmark_78 : decode c_AW_landmark 78 = .ok (.athrow, 1) := by decide +kernel
theorem d_AW_landmark_79 : decode c_AW_landmark 79 = .ok (.aload_n 0, 1) := by decide +kernel
theorem d_AW_landmark_80 : decode c_AW_landmark 80 = .ok (.getfield 17, 3) := by decide +kernel
theorem d_AW_landmark_83 : decode c_AW_landmark 83 = .ok (.aload_n 0, 1) := by decide +kernel
theorem d_AW_landmark_84 : decode c_AW_landmark 84 = .ok (.getfield 162, 3) := by decide +kernel
theorem d_AW_landmark_87 : decode c_AW_landmark 87 = .ok (.aload 6, 2) := by decide +kernel
theorem d_AW_landmark_89 : decode c_AW_landmark 89 = .ok (.aastore, 1) := by decide +kernel
theorem d_AW_landmark_90 : decode c_AW_landmark 90 = .ok (.aload_n 0, 1) := by decide +kernel
theorem d_AW_landmark_91 : decode c_AW_landmark 91 = .ok (.dup, 1) := by decide +kernel
theorem d_AW_landmark_92 : decode c_AW_landmark 92 = .ok (.getfield 162, 3) := by decide +kernel
theorem d_AW_landmark_95 : decode c_AW_landmark 95 = .ok (.iconst 1, 1) := by decide +kernel
theorem d_AW_landmark_96 : decode c_AW_landmark 96 = .ok (.iadd, 1) := by decide +kernel
theorem d_AW_landmark_97 : decode c_AW_landmark 97 = .ok (.putfield 162, 3) := by decide +kernel
theorem d_AW_landmark_100 : decode c_AW_landmark 100 = .ok (.aload_n 0, 1) := by decide +kernel
theorem d_AW_landmark_101 : decode c_AW_landmark 101 = .ok (.invokevirtual 74, 3) := by decide +kernel
theorem d_AW_landmark_104 : decode c_AW_landmark 104 = .ok (.aload_n 0, 1) := by decide +kernel
theorem d_AW_landmark_105 : decode c_AW_landmark 105 = .ok (.getfield 162, 3) := by decide +kernel
theorem d_AW_landmark_108 : decode c_AW_landmark 108 = .ok (.iconst 1, 1) := by decide +kernel
theorem d_AW_landmark_109 : decode c_AW_landmark 109 = .ok (.isub, 1) := by decide +kernel
theorem d_AW_landmark_110 : decode c_AW_landmark 110 = .ok (.ireturn, 1) := by decide +kernel
theorem d_AW_meet_0 : decode c_AW_meet 0 = .ok (.aload_n 0, 1) := by decide +kernel
theorem d_AW_meet_1 : decode c_AW_meet 1 = .ok (.iload_n 1, 1) := by decide +kernel
theorem d_AW_meet_2 : decode c_AW_meet 2 = .ok (.invokevirtual 77, 3) := by decide +kernel
theorem d_AW_meet_5 : decode c_AW_meet 5 = .ok (.astore 5, 2) := by decide +kernel
theorem d_AW_meet_7 : decode c_AW_meet 7 = .ok (.aload_n 0, 1) := by decide +kernel
theorem d_AW_meet_8 : decode c_AW_meet 8 = .ok (.iload_n 2, 1) := by decide +kernel
theorem d_AW_meet_9 : decode c_AW_meet 9 = .ok (.invokevirtual 77, 3) := by decide +kernel
theorem d_AW_meet_12 : decode c_AW_meet 12 = .ok (.astore 6, 2) := by decide +kernel
theorem d_AW_meet_14 : decode c_AW_meet 14 = .ok (.aload 5, 2) := by decide +kernel
theorem d_AW_meet_16 : decode c_AW_meet 16 = .ok (.iload_n 3, 1) := by decide +kernel
theorem d_AW_meet_17 : decode c_AW_meet 17 = .ok (.invokestatic 167, 3) := by decide +kernel
theorem d_AW_meet_20 : decode c_AW_meet 20 = .ok (.aload 6, 2) := by decide +kernel
theorem d_AW_meet_22 : decode c_AW_meet 22 = .ok (.iload 4, 2) := by decide +kernel
theorem d_AW_meet_24 : decode c_AW_meet 24 = .ok (.invokestatic 167, 3) := by decide +kernel
theorem d_AW_meet_27 : decode c_AW_meet 27 = .ok (.iload_n 1, 1) := by decide +kernel
theorem d_AW_meet_28 : decode c_AW_meet 28 = .ok (.iload_n 2, 1) := by decide +kernel
theorem d_AW_meet_29 : decode c_AW_meet 29 = .ok (.if_icmp .ne 13, 3) := by decide +kernel
theorem d_AW_meet_32 : decode c_AW_meet 32 = .ok (.new 107, 3) := by decide +kernel
theorem d_AW_meet_35 : decode c_AW_meet 35 = .ok (.dup, 1) := by decide +kernel
theorem d_AW_meet_36 : decode c_AW_meet 36 = .ok (.ldc 171, 2) := by decide +kernel
theorem d_AW_meet_38 : decode c_AW_meet 38 = .ok (.invokespecial 111, 3) := by decide +kernel
theorem d_AW_meet_41 : decode c_AW_meet 41 = .ok (.athrow, 1) := by decide +kernel
theorem d_AW_meet_42 : decode c_AW_meet 42 = .ok (.aload_n 0, 1) := by decide +kernel
theorem d_AW_meet_43 : decode c_AW_meet 43 = .ok (.iload_n 1, 1) := by decide +kernel
theorem d_AW_meet_44 : decode c_AW_meet 44 = .ok (.iload_n 2, 1) := by decide +kernel
theorem d_AW_meet_45 : decode c_AW_meet 45 = .ok (.invokevirtual 173, 3) := by decide +kernel
theorem d_AW_meet_48 : decode c_AW_meet 48 = .ok (.iconst (-1), 1) := by decide +kernel
theorem d_AW_meet_49 : decode c_AW_meet 49 = .ok (.if_icmp .eq 13, 3) := by decide +kernel
theorem d_AW_meet_52 : decode c_AW_meet 52 = .ok (.new 107, 3) := by decide +kernel
theorem d_AW_meet_55 : decode c_AW_meet 55 = .ok (.dup, 1) := by decide +kernel
theorem d_AW_meet_56 : decode c_AW_meet 56 = .ok (.ldc 177, 2) := by decide +kernel
theorem d_AW_meet_58 : decode c_AW_meet 58 = .ok (.invokespecial 111, 3) := by decide +kernel
theorem d_AW_meet_61 : decode c_AW_meet 61 = .ok (.athrow, 1) := by decide +kernel
theorem d_AW_meet_62 : decode c_AW_meet 62 = .ok (.aload_n 0, 1) := by decide +kernel
theorem d_AW_meet_63 : decode c_AW_meet 63 = .ok (.getfield 179, 3) := by decide +kernel
theorem d_AW_meet_66 : decode c_AW_meet 66 = .ok (.bipush 40, 2) := by decide +kernel
theorem d_AW_meet_68 : decode c_AW_meet 68 = .ok (.if_icmp .lt 13, 3) := by decide +kernel
theorem d_AW_meet_71 : decode c_AW_meet 71 = .ok (.new 66, 3) := by decide +kernel
theorem d_AW_meet_74 : decode c_AW_meet 74 = .ok (.dup, 1) := by decide +kernel
theorem d_AW_meet_75 : decode c_AW_meet 75 = .ok (.ldc 182, 2) := by decide +kernel
theorem d_AW_meet_77 : decode c_AW_meet 77 = .ok (.invokespecial 70, 3) := by decide +kernel
theorem d_AW_meet_80 : decode c_AW_meet 80 = .ok (.athrow, 1) := by decide +kernel
theorem d_AW_meet_81 : decode c_AW_meet 81 = .ok (.aload_n 0, 1) := by decide +kernel
theorem d_AW_meet_82 : decode c_AW_meet 82 = .ok (.getfield 23, 3) := by decide +kernel
theorem d_AW_meet_85 : decode c_AW_meet 85 = .ok (.aload_n 0, 1) := by decide +kernel
theorem d_AW_meet_86 : decode c_AW_meet 86 = .ok (.getfield 179, 3) := by decide +kernel
theorem d_AW_meet_89 : decode c_AW_meet 89 = .ok (.new 21, 3) := by decide +kernel
theorem d_AW_meet_92 : decode c_AW_meet 92 = .ok (.dup, 1) := by decide +kernel
theorem d_AW_meet_93 : decode c_AW_meet 93 = .ok (.iload_n 1, 1) := by decide +kernel
theorem d_AW_meet_94 : decode c_AW_meet 94 = .ok (.iload_n 2, 1) := by decide +kernel
theorem d_AW_meet_95 : decode c_AW_meet 95 = .ok (.iload_n 3, 1) := by decide +kernel
theorem d_AW_meet_96 : decode c_AW_meet 96 = .ok (.iload 4, 2) := by decide +kernel
theorem d_AW_meet_98 : decode c_AW_meet 98 = .ok (.invokespecial 184, 3) := by decide +kernel
theorem d_AW_meet_101 : decode c_AW_meet 101 = .ok (.aastore, 1) := by decide +kernel
theorem d_AW_meet_102 : decode c_AW_meet 102 = .ok (.aload_n 0, 1) := by decide +kernel
theorem d_AW_meet_103 : decode c_AW_meet 103 = .ok (.dup, 1) := by decide +kernel
theorem d_AW_meet_104 : decode c_AW_meet 104 = .ok (.getfield 179, 3) := by decide +kernel
theorem d_AW_meet_107 : decode c_AW_meet 107 = .ok (.iconst 1, 1) := by decide +kernel
theorem d_AW_meet_108 : decode c_AW_meet 108 = .ok (.iadd, 1) := by decide +kernel
theorem d_AW_meet_109 : decode c_AW_meet 109 = .ok (.putfield 179, 3) := by decide +kernel
theorem d_AW_meet_112 : decode c_AW_meet 112 = .ok (.return_, 1) := by decide +kernel
theorem d_AW_corner_0 : decode c_AW_corner 0 = .ok (.aload_n 0, 1) := by decide +kernel
theorem d_AW_corner_1 : decode c_AW_corner 1 = .ok (.iload_n 1, 1) := by decide +kernel
theorem d_AW_corner_2 : decode c_AW_corner 2 = .ok (.invokevirtual 77, 3) := by decide +kernel
theorem d_AW_corner_5 : decode c_AW_corner 5 = .ok (.pop, 1) := by decide +kernel
theorem d_AW_corner_6 : decode c_AW_corner 6 = .ok (.aload_n 0, 1) := by decide +kernel
theorem d_AW_corner_7 : decode c_AW_corner 7 = .ok (.iload_n 2, 1) := by decide +kernel
theorem d_AW_corner_8 : decode c_AW_corner 8 = .ok (.invokevirtual 77, 3) := by decide +kernel
theorem d_AW_corner_11 : decode c_AW_corner 11 = .ok (.pop, 1) := by decide +kernel
theorem d_AW_corner_12 : decode c_AW_corner 12 = .ok (.aload_n 0, 1) := by decide +kernel
theorem d_AW_corner_13 : decode c_AW_corner 13 = .ok (.iload_n 1, 1) := by decide +kernel
theorem d_AW_corner_14 : decode c_AW_corner 14 = .ok (.iload_n 2, 1) := by decide +kernel
theorem d_AW_corner_15 : decode c_AW_corner 15 = .ok (.invokevirtual 173, 3) := by decide +kernel
theorem d_AW_corner_18 : decode c_AW_corner 18 = .ok (.ireturn, 1) := by decide +kernel
theorem d_AW_post_0 : decode c_AW_post 0 = .ok (.aload_n 0, 1) := by decide +kernel
theorem d_AW_post_1 : decode c_AW_post 1 = .ok (.iload_n 1, 1) := by decide +kernel
theorem d_AW_post_2 : decode c_AW_post 2 = .ok (.invokevirtual 77, 3) := by decide +kernel
theorem d_AW_post_5 : decode c_AW_post 5 = .ok (.astore_n 3, 1) := by decide +kernel
theorem d_AW_post_6 : decode c_AW_post 6 = .ok (.aload_n 3, 1) := by decide +kernel
theorem d_AW_post_7 : decode c_AW_post 7 = .ok (.iload_n 2, 1) := by decide +kernel
theorem d_AW_post_8 : decode c_AW_post 8 = .ok (.invokestatic 167, 3) := by decide +kernel
theorem d_AW_post_11 : decode c_AW_post 11 = .ok (.aload_n 3, 1) := by decide +kernel
theorem d_AW_post_12 : decode c_AW_post 12 = .ok (.aload_n 3, 1) := by decide +kernel
theorem d_AW_post_13 : decode c_AW_post 13 = .ok (.getfield 186, 3) := by decide +kernel
theorem d_AW_post_16 : decode c_AW_post 16 = .ok (.aload_n 3, 1) := by decide +kernel
theorem d_AW_post_17 : decode c_AW_post 17 = .ok (.getfield 189, 3) := by decide +kernel
theorem d_AW_post_20 : decode c_AW_post 20 = .ok (.iload_n 2, 1) := by decide +kernel
theorem d_AW_post_21 : decode c_AW_post 21 = .ok (.invokevirtual 192, 3) := by decide +kernel
theorem d_AW_post_24 : decode c_AW_post 24 = .ok (.istore 4, 2) := by decide +kernel
theorem d_AW_post_26 : decode c_AW_post 26 = .ok (.aload_n 3, 1) := by decide +kernel
theorem d_AW_post_27 : decode c_AW_post 27 = .ok (.aload_n 3, 1) := by decide +kernel
theorem d_AW_post_28 : decode c_AW_post 28 = .ok (.getfield 196, 3) := by decide +kernel
theorem d_AW_post_31 : decode c_AW_post 31 = .ok (.aload_n 3, 1) := by decide +kernel
theorem d_AW_post_32 : decode c_AW_post 32 = .ok (.getfield 199, 3) := by decide +kernel
theorem d_AW_post_35 : decode c_AW_post 35 = .ok (.iload_n 2, 1) := by decide +kernel
theorem d_AW_post_36 : decode c_AW_post 36 = .ok (.invokevirtual 192, 3) := by decide +kernel
theorem d_AW_post_39 : decode c_AW_post 39 = .ok (.istore 5, 2) := by decide +kernel
theorem d_AW_post_41 : decode c_AW_post 41 = .ok (.sipush 20000, 3) := by decide +kernel
theorem d_AW_post_44 : decode c_AW_post 44 = .ok (.iload 4, 2) := by decide +kernel
theorem d_AW_post_46 : decode c_AW_post 46 = .ok (.sipush 10000, 3) := by decide +kernel
theorem d_AW_post_49 : decode c_AW_post 49 = .ok (.iadd, 1) := by decide +kernel
theorem d_AW_post_50 : decode c_AW_post 50 = .ok (.imul, 1) := by decide +kernel
theorem d_AW_post_51 : decode c_AW_post 51 = .ok (.iload 5, 2) := by decide +kernel
theorem d_AW_post_53 : decode c_AW_post 53 = .ok (.iadd, 1) := by decide +kernel
theorem d_AW_post_54 : decode c_AW_post 54 = .ok (.sipush 10000, 3) := by decide +kernel
theorem d_AW_post_57 : decode c_AW_post 57 = .ok (.iadd, 1) := by decide +kernel
theorem d_AW_post_58 : decode c_AW_post 58 = .ok (.ireturn, 1) := by decide +kernel
theorem d_AW_near_0 : decode c_AW_near 0 = .ok (.iload_n 1, 1) := by decide +kernel
theorem d_AW_near_1 : decode c_AW_near 1 = .ok (.iload_n 2, 1) := by decide +kernel
theorem d_AW_near_2 : decode c_AW_near 2 = .ok (.invokestatic 134, 3) := by decide +kernel
theorem d_AW_near_5 : decode c_AW_near 5 = .ok (.iconst (-1), 1) := by decide +kernel
theorem d_AW_near_6 : decode c_AW_near 6 = .ok (.istore_n 3, 1) := by decide +kernel
theorem d_AW_near_7 : decode c_AW_near 7 = .ok (.iconst 0, 1) := by decide +kernel
theorem d_AW_near_8 : decode c_AW_near 8 = .ok (.istore 4, 2) := by decide +kernel
theorem d_AW_near_10 : decode c_AW_near 10 = .ok (.iconst 0, 1) := by decide +kernel
theorem d_AW_near_11 : decode c_AW_near 11 = .ok (.istore 5, 2) := by decide +kernel
theorem d_AW_near_13 : decode c_AW_near 13 = .ok (.iload 5, 2) := by decide +kernel
theorem d_AW_near_15 : decode c_AW_near 15 = .ok (.aload_n 0, 1) := by decide +kernel
theorem d_AW_near_16 : decode c_AW_near 16 = .ok (.getfield 62, 3) := by decide +kernel
theorem d_AW_near_19 : decode c_AW_near 19 = .ok (.if_icmp .ge 55, 3) := by decide +kernel
theorem d_AW_near_22 : decode c_AW_near 22 = .ok (.iload_n 1, 1) := by decide +kernel
theorem d_AW_near_23 : decode c_AW_near 23 = .ok (.iload_n 2, 1) := by decide +kernel
theorem d_AW_near_24 : decode c_AW_near 24 = .ok (.aload_n 0, 1) := by decide +kernel
theorem d_AW_near_25 : decode c_AW_near 25 = .ok (.getfield 11, 3) := by decide +kernel
theorem d_AW_near_28 : decode c_AW_near 28 = .ok (.iload 5, 2) := by decide +kernel
theorem d_AW_near_30 : decode c_AW_near 30 = .ok (.aaload, 1) := by decide +kernel
end
section
/-! ===== the heap as we see it: a cell is an object of class number ci with its fields' values, or an array of a type with its contents ===== -/
abbrev ma_E : Type := (Nat × List Value) ⊕ (FieldType × List Value)
abbrev ma_H : Type := Nat → Option ma_E
abbrev ma_D : Type := (Nat → ClassId) × (Nat → Nat → Nat) × (FieldType → ClassId)
def ma_arr (cA : ClassId) (l : List Value) : Cell := { cls := cA, slots := l.toArray, vm := .none }
def ma_at (D : ma_D) (a : Nat) (e : ma_E) (H : Heap) : Prop := match e with
  | .inl o => ∃ r : vw_C, kcl[o.1]? = some r ∧ o.2.length = r.2.2 ∧ t_OB a (D.1 o.1) r.2.2 (D.2.1 o.1) H (vp_V o.2)
  | .inr x => H[a]? = some (ma_arr (D.2.2 x.1) x.2)
def ma_P (D : ma_D) (M : ma_H) (H : Heap) : Prop := ∀ (a : Nat) (e : ma_E), M a = some e → ma_at D a e H
def ma_up (M : ma_H) (a : Nat) (e : ma_E) : ma_H := fun q => if q = a then some e else M q
theorem ma_at.kept {D : ma_D} {a : Nat} {e : ma_E} {H H1 : Heap} (h : ma_at D a e H) (hq : H1[a]? = H[a]?) : ma_at D a e H1 := by
  cases e with
  | inl o =>
    obtain ⟨r, h1, h2, h3⟩ := h
    exact ⟨r, h1, h2, h3.kept hq⟩
  | inr x => exact hq.trans h
theorem ma_at.lt {D : ma_D} {a : Nat} {e : ma_E} {H : Heap} (h : ma_at D a e H) : a < H.size := by
  cases e with
  | inl o =>
    obtain ⟨r, h1, h2, cell, h3, -⟩ := h
    exact (Array.getElem?_eq_some_iff.mp h3).1
  | inr x => exact (Array.getElem?_eq_some_iff.mp h).1
theorem ma_P.up {D : ma_D} {M : ma_H} {H H1 : Heap} {a : Nat} {e : ma_E} (h : ma_P D M H) (he : ma_at D a e H1) (oq : ∀ q : Nat, q ≠ a → q < H.size → H1[q]? = H[q]?) : ma_P D (ma_up M a e) H1 := by
  intro q x hx
  unfold ma_up at hx
  by_cases hq : q = a
  · subst hq
    rw [if_pos rfl] at hx
    cases hx
    exact he
  · rw [if_neg hq] at hx
    exact (h q x hx).kept (oq q hq (h q x hx).lt)
theorem ma_us {M : ma_H} {a : Nat} {e : ma_E} : ma_up M a e a = some e := if_pos rfl
theorem ma_un {M : ma_H} {a q : Nat} {e : ma_E} (h : q ≠ a) : ma_up M a e q = M q := if_neg h
theorem ma_uu {M : ma_H} {a : Nat} {e e' : ma_E} : ma_up (ma_up M a e) a e' = ma_up M a e' := by
  funext q
  unfold ma_up
  split <;> rfl
/-! ===== where everything begins: the law's entry state s0; what is known there is known everywhere ===== -/
def ma_B (s0 U : State) : Prop := s0.WarmedH U.vm ∧ s0.heap.size ≤ U.heap.size ∧ ∀ q : Nat, q < s0.heap.size → U.heap[q]? = s0.heap[q]?
def ma_K (D : ma_D) (s0 : State) (l : Launch) : Prop := l.stackTraces = false ∧ (∃ a0 : Array Value, ∀ w ∈ lw_tbl, w.before a0 s0 = true) ∧ (∀ (c : Nat) (q : vw_C), kcl[c]? = some q → u_Kn s0 q.1 q.2.1 q.2.2 (D.1 c) (D.2.1 c)) ∧ (∀ ty ∈ kty, ArrOfT s0 (D.2.2 ty) ty ∧ va_RA s0 (D.2.2 ty) ty) ∧ vx_Zq Bundle.tN "UNASSIGNED_STACK" Bundle.steD (fun q => s0.heap.size ≤ q) s0 s0.heap ∧ vx_Zq Bundle.tN "SUPPRESSED_SENTINEL" Bundle.listD (fun q => s0.heap.size ≤ q) s0 s0.heap ∧ ∀ z ∈ knc, va_Nc z.1 z.2 s0
theorem ma_word {D : ma_D} {s0 U : State} {l : Launch} (hK : ma_K D s0 l) (hB : ma_B s0 U) {w : Cond} (hw : w ∈ lw_tbl) (h1 : w.onTables = true) (h2 : w.keepsH = true) (a : Array Value) : w.before a U = true := by
  obtain ⟨a0, h⟩ := hK.2.1
  exact Cond.onTables_warmH (T := U) (vm₁ := U.vm) hB.1 h1 h2 (h w hw)
theorem ma_Kn {D : ma_D} {s0 U : State} {l : Launch} (hK : ma_K D s0 l) (hB : ma_B s0 U) {c : Nat} {q : vw_C} (h : kcl[c]? = some q) : u_Kn U q.1 q.2.1 q.2.2 (D.1 c) (D.2.1 c) := u_Kn_moved hB.1.alike (hK.2.2.1 c q h)
theorem ma_Kt {D : ma_D} {s0 U : State} {l : Launch} (hK : ma_K D s0 l) (hB : ma_B s0 U) {ty : FieldType} (h : ty ∈ kty) : ArrOfT U (D.2.2 ty) ty ∧ va_RA U (D.2.2 ty) ty := ⟨arrOfT_moved hB.1.alike (hK.2.2.2.1 ty h).1, (hK.2.2.2.1 ty h).2.moved hB.1.alike⟩
theorem ma_isArr {U : State} {cA : ClassId} {ty : FieldType} (h : ArrOfT U cA ty) (l : List Value) : U.isArrayOf (ma_arr cA l) ty := ⟨fun k q => (by cases q), (h 0 (fun _ => .null)).2⟩
/-! ===== locals, by their places ===== -/
def ma_c2 (w : Option Value) : Bool := match w with
  | some v => v.category == 2
  | none => false
/-- a value goes into a place: the second half of a long behind it is lost, a long before it too -/
def ma_st : Nat → Value → List (Option Value) → List (Option Value)
  | _, _, [] => []
  | 0, v, _ :: r => some v :: (if v.category = 2 then (match r with | [] => [] | _ :: r' => none :: r') else r)
  | n + 1, v, w :: r => (if n = 0 ∧ ma_c2 w = true then none else w) :: ma_st n v r
def ma_L (nL : Nat) (L : List (Option Value)) (ls : Array Slot) : Prop := ls.size = nL ∧ lv_wf ls ∧ ∀ (i : Nat) (v : Value), L[i]? = some (some v) → ls[i]? = some (.val v)
def ma_lv (L : List (Option Value)) : List (Nat × Value) := L.zipIdx.filterMap fun q => q.1.map fun v => (q.2, v)
theorem ma_lv_mem {L : List (Option Value)} {i : Nat} {v : Value} : (i, v) ∈ ma_lv L ↔ L[i]? = some (some v) := by
  unfold ma_lv
  rw [List.mem_filterMap]
  constructor
  · rintro ⟨⟨w, j⟩, h1, h2⟩
    rw [List.mem_zipIdx_iff_getElem?] at h1
    cases w with
    | none => simp at h2
    | some w =>
      simp at h2
      obtain ⟨rfl, rfl⟩ := h2
      exact h1
  · intro h
    exact ⟨(some v, i), by rw [List.mem_zipIdx_iff_getElem?]; exact h, rfl⟩
theorem ma_L.has {nL : Nat} {L : List (Option Value)} {ls : Array Slot} (h : ma_L nL L ls) : lv_has ls nL (ma_lv L) := ⟨h.1, h.2.1, fun q hq => h.2.2 q.1 q.2 (ma_lv_mem.mp hq)⟩
theorem ma_st_spec : ∀ (i : Nat) (v : Value) (L : List (Option Value)) (j : Nat) (w : Value), (ma_st i v L)[j]? = some (some w) → (j = i ∧ w = v) ∨ (j ≠ i ∧ L[j]? = some (some w) ∧ ¬ (j + 1 = i ∧ w.category = 2) ∧ (v.category = 2 → j ≠ i + 1)) := by
  intro i
  induction i with
  | zero =>
    intro v L j w h
    cases L with
    | nil => simp [ma_st] at h
    | cons x r =>
      cases j with
      | zero =>
        simp [ma_st] at h
        exact Or.inl ⟨rfl, h.symm⟩
      | succ j =>
        refine Or.inr ⟨by omega, ?_⟩
        simp only [ma_st, List.getElem?_cons_succ] at h ⊢
        by_cases hc : v.category = 2
        · rw [if_pos hc] at h
          cases r with
          | nil => simp at h
          | cons y r' =>
            cases j with
            | zero => simp at h
            | succ j =>
              simp only [List.getElem?_cons_succ] at h ⊢
              exact ⟨h, by omega, fun _ => by omega⟩
        · rw [if_neg hc] at h
          exact ⟨h, by omega, fun q => absurd q hc⟩
  | succ n ih =>
    intro v L j w h
    cases L with
    | nil => simp [ma_st] at h
    | cons x r =>
      cases j with
      | zero =>
        simp only [ma_st, List.getElem?_cons_zero, Option.some.injEq] at h
        refine Or.inr ⟨by omega, ?_⟩
        by_cases hc : n = 0 ∧ ma_c2 x = true
        · rw [if_pos hc] at h
          cases h
        · rw [if_neg hc] at h
          subst h
          refine ⟨rfl, fun q => hc ⟨by omega, ?_⟩, fun _ => by omega⟩
          simp [ma_c2, q.2]
      | succ j =>
        simp only [ma_st, List.getElem?_cons_succ] at h ⊢
        rcases ih v r j w h with ⟨h1, h2⟩ | ⟨h1, h2, h3, h4⟩
        · exact Or.inl ⟨by omega, h2⟩
        · exact Or.inr ⟨by omega, h2, fun q => h3 ⟨by omega, q.2⟩, fun q => by have := h4 q; omega⟩
theorem ma_st1 {nL i : Nat} {L : List (Option Value)} {v : Value} (hc : v.category = 1) {ls' : Array Slot} (h : lv_has ls' nL ((i, v) :: (ma_lv L).filter (fun q => !(q.1 == i) && !(q.1 + 1 == i && q.2.category == 2)))) : ma_L nL (ma_st i v L) ls' := by
  refine ⟨h.1, h.2.1, fun j w hj => ?_⟩
  rcases ma_st_spec i v L j w hj with ⟨rfl, rfl⟩ | ⟨h1, h2, h3, -⟩
  · exact h.2.2 _ List.mem_cons_self
  · refine h.2.2 (j, w) (List.mem_cons_of_mem _ (List.mem_filter.mpr ⟨ma_lv_mem.mpr h2, ?_⟩))
    simp only [Bool.and_eq_true, Bool.not_eq_true', beq_eq_false_iff_ne, ne_eq, Bool.and_eq_false_iff]
    refine ⟨h1, ?_⟩
    by_cases q : j + 1 = i
    · exact Or.inr fun z => h3 ⟨q, z⟩
    · exact Or.inl q
theorem ma_st2 {nL i : Nat} {L : List (Option Value)} {v : Value} (hc : v.category = 2) {ls' : Array Slot} (h : lv_has ls' nL ((i, v) :: (ma_lv L).filter (fun q => !(q.1 == i) && (!(q.1 == i + 1) && !(q.1 + 1 == i && q.2.category == 2))))) : ma_L nL (ma_st i v L) ls' := by
  refine ⟨h.1, h.2.1, fun j w hj => ?_⟩
  rcases ma_st_spec i v L j w hj with ⟨rfl, rfl⟩ | ⟨h1, h2, h3, h4⟩
  · exact h.2.2 _ List.mem_cons_self
  · refine h.2.2 (j, w) (List.mem_cons_of_mem _ (List.mem_filter.mpr ⟨ma_lv_mem.mpr h2, ?_⟩))
    simp only [Bool.and_eq_true, Bool.not_eq_true', beq_eq_false_iff_ne, ne_eq, Bool.and_eq_false_iff]
    refine ⟨h1, h4 hc, ?_⟩
    by_cases q : j + 1 = i
    · exact Or.inr fun z => h3 ⟨q, z⟩
    · exact Or.inl q
/-! ===== the judgement: from here, with these cells, at this pc, with these locals and this stack, the machine comes to the end that G names ===== -/
/-- what has become of the cells M0 that a method began with: those outside Wr are as they were; what is there beside them is new -/
def ma_V (M0 : ma_H) (Wr : Nat → Prop) (sz : Nat) (M : ma_H) : Prop := (∀ q : Nat, M0 q ≠ none → ¬ Wr q → M q = M0 q) ∧ ∀ q : Nat, M0 q = none → M q ≠ none → sz ≤ q
theorem ma_V.up {M0 M : ma_H} {Wr : Nat → Prop} {sz a : Nat} {e : ma_E} (h : ma_V M0 Wr sz M) (h0 : ∀ q : Nat, M0 q ≠ none → q < sz) (ha : Wr a ∨ sz ≤ a) (hn : M a ≠ none ∨ sz ≤ a) : ma_V M0 Wr sz (ma_up M a e) := by
  refine ⟨fun q h1 h2 => ?_, fun q h1 h2 => ?_⟩
  · have hq : q ≠ a := by
      rintro rfl
      have := h0 q h1
      rcases ha with z | z
      · exact h2 z
      · omega
    rw [ma_un hq]
    exact h.1 q h1 h2
  · by_cases hq : q = a
    · subst hq
      rcases hn with z | z
      · exact h.2 q h1 z
      · exact z
    · rw [ma_un hq] at h2
      exact h.2 q h1 h2
abbrev ma_A0 (Wr : Nat → Prop) (sz : Nat) : Nat → Prop := fun q => Wr q ∨ sz ≤ q
abbrev ma_G : Type := ma_D × State × Program × Launch × Env × Room × State × MethodId × Array Value × List Frame × Method × Code × (State → Prop) × ma_H × (Nat → Prop)
def ma_C (G : ma_G) (cc : ByteArray) (nL : Nat) (own : String) (fr mc ms lo : Nat) : Prop := match G with
  | (D, s0, p, l, _, R, s, m, _, _, meth, c, _, M0, Wr) => p.tables.exec = Jvm.exec ∧ c.code = cc ∧ c.maxLocals = nL ∧ s.vm.findClass own = some m.cls ∧ meth.locks = false ∧ R = { frames := fr, cells := mc, slots := ms, locals := lo } ∧ ma_B s0 s ∧ ma_K D s0 l ∧ (∀ q : Nat, Wr q → s0.heap.size ≤ q) ∧ (∀ q : Nat, M0 q ≠ none → q < s.heap.size)
/-- the cell may be written -/
def ma_Wr (G : ma_G) (a : Nat) : Prop := match G with
  | (_, _, _, _, _, _, s, _, _, _, _, _, _, _, Wr) => Wr a ∨ s.heap.size ≤ a
def mj (G : ma_G) (nL k n : Nat) (M : ma_H) (pc : Nat) (L : List (Option Value)) (st : List Value) : Prop := match G with
  | (D, _, p, l, e, R, s, m, args, below, meth, c, Q, M0, Wr) => ∀ (H : Heap) (locs : List Loc) (ls : Array Slot), ma_P D M H → ma_V M0 Wr s.heap.size M → va_S (ma_A0 Wr s.heap.size) s.heap H locs → ma_L nL L ls → W p l e R s m args below meth c H locs k n Q (F0 m pc ls st)
theorem mj_L {G : ma_G} {nL k n : Nat} {M : ma_H} {pc : Nat} {L L' : List (Option Value)} {st : List Value} (h : ∀ (i : Nat) (v : Value), L'[i]? = some (some v) → L[i]? = some (some v)) (kk : mj G nL k n M pc L' st) : mj G nL k n M pc L st := by
  obtain ⟨D, s0, p, l, e, R, s, m, args, below, meth, c, Q, M0, Wr⟩ := G
  exact fun H locs ls h1 h2 h3 h4 => kk H locs ls h1 h2 h3 ⟨h4.1, h4.2.1, fun i v q => h4.2.2 i v (h i v q)⟩
theorem mj_widen {G : ma_G} {nL k n k' n' : Nat} {M : ma_H} {pc : Nat} {L : List (Option Value)} {st : List Value} (hk : k ≤ k') (hn : n ≤ n') (kk : mj G nL k' n' M pc L st) : mj G nL k n M pc L st := by
  obtain ⟨D, s0, p, l, e, R, s, m, args, below, meth, c, Q, M0, Wr⟩ := G
  exact fun H locs ls h1 h2 h3 h4 => W.widen hk hn (kk H locs ls h1 h2 h3 h4)
theorem m_iconst {G : ma_G} {cc : ByteArray} {own : String} {nL fr mc ms lo k n : Nat} {M : ma_H} {pc : Nat} {L : List (Option Value)} {st : List Value} {a : Int} {v : Int32} (C : ma_C G cc nL own fr mc ms lo) (d : decode cc pc = .ok (.iconst a, 1)) (hv : Int32.ofInt a = v) (kk : mj G nL k n M (pc + 1) L (.int v :: st)) : mj G nL k n M pc L (st) := by
  obtain ⟨D, s0, p, l, e, R, s, m, args, below, meth, c, Q, M0, Wr⟩ := G
  obtain ⟨hx, hb, -⟩ := C
  exact fun H locs ls h1 h2 h3 h4 => lv_iconst hx hb d hv (kk H locs ls h1 h2 h3 h4)
theorem m_bipush {G : ma_G} {cc : ByteArray} {own : String} {nL fr mc ms lo k n : Nat} {M : ma_H} {pc : Nat} {L : List (Option Value)} {st : List Value} {a : Int} {v : Int32} (C : ma_C G cc nL own fr mc ms lo) (d : decode cc pc = .ok (.bipush a, 2)) (hv : (Int8.ofInt a).toInt32 = v) (kk : mj G nL k n M (pc + 2) L (.int v :: st)) : mj G nL k n M pc L (st) := by
  obtain ⟨D, s0, p, l, e, R, s, m, args, below, meth, c, Q, M0, Wr⟩ := G
  obtain ⟨hx, hb, -⟩ := C
  exact fun H locs ls h1 h2 h3 h4 => lv_bipush hx hb d hv (kk H locs ls h1 h2 h3 h4)
theorem m_sipush {G : ma_G} {cc : ByteArray} {own : String} {nL fr mc ms lo k n : Nat} {M : ma_H} {pc : Nat} {L : List (Option Value)} {st : List Value} {a : Int} {v : Int32} (C : ma_C G cc nL own fr mc ms lo) (d : decode cc pc = .ok (.sipush a, 3)) (hv : (Int16.ofInt a).toInt32 = v) (kk : mj G nL k n M (pc + 3) L (.int v :: st)) : mj G nL k n M pc L (st) := by
  obtain ⟨D, s0, p, l, e, R, s, m, args, below, meth, c, Q, M0, Wr⟩ := G
  obtain ⟨hx, hb, -⟩ := C
  exact fun H locs ls h1 h2 h3 h4 => lv_sipush hx hb d hv (kk H locs ls h1 h2 h3 h4)
theorem m_lconst {G : ma_G} {cc : ByteArray} {own : String} {nL fr mc ms lo k n : Nat} {M : ma_H} {pc : Nat} {L : List (Option Value)} {st : List Value} {a : Fin 2} {v : Int64} (C : ma_C G cc nL own fr mc ms lo) (d : decode cc pc = .ok (.lconst a, 1)) (hv : Int64.ofNat (a : Nat) = v) (kk : mj G nL k n M (pc + 1) L (.long v :: st)) : mj G nL k n M pc L (st) := by
  obtain ⟨D, s0, p, l, e, R, s, m, args, below, meth, c, Q, M0, Wr⟩ := G
  obtain ⟨hx, hb, -⟩ := C
  exact fun H locs ls h1 h2 h3 h4 => lv_lconst hx hb d hv (kk H locs ls h1 h2 h3 h4)
theorem m_null {G : ma_G} {cc : ByteArray} {own : String} {nL fr mc ms lo k n : Nat} {M : ma_H} {pc : Nat} {L : List (Option Value)} {st : List Value}  (C : ma_C G cc nL own fr mc ms lo) (d : decode cc pc = .ok (.aconst_null, 1))  (kk : mj G nL k n M (pc + 1) L (.null :: st)) : mj G nL k n M pc L (st) := by
  obtain ⟨D, s0, p, l, e, R, s, m, args, below, meth, c, Q, M0, Wr⟩ := G
  obtain ⟨hx, hb, -⟩ := C
  exact fun H locs ls h1 h2 h3 h4 => lv_null hx hb d (kk H locs ls h1 h2 h3 h4)
theorem m_iload_n {G : ma_G} {cc : ByteArray} {own : String} {nL fr mc ms lo k n : Nat} {M : ma_H} {pc : Nat} {L : List (Option Value)} {st : List Value} {q : Fin 4} {i : Nat} {x : Int32} (C : ma_C G cc nL own fr mc ms lo) (d : decode cc pc = .ok (.iload_n q, 1)) (hi : (q : Nat) = i) (hl : L[i]? = some (some (.int x))) (kk : mj G nL k n M (pc + 1) L (.int x :: st)) : mj G nL k n M pc L (st) := by
  obtain ⟨D, s0, p, l, e, R, s, m, args, below, meth, c, Q, M0, Wr⟩ := G
  obtain ⟨hx, hb, -⟩ := C
  exact fun H locs ls h1 h2 h3 h4 => lv_iload_n hx hb d hi (h4.2.2 _ _ hl) (kk H locs ls h1 h2 h3 h4)
theorem m_iload {G : ma_G} {cc : ByteArray} {own : String} {nL fr mc ms lo k n : Nat} {M : ma_H} {pc : Nat} {L : List (Option Value)} {st : List Value} {i : Nat} {x : Int32} (C : ma_C G cc nL own fr mc ms lo) (d : decode cc pc = .ok (.iload i, 2)) (hl : L[i]? = some (some (.int x))) (kk : mj G nL k n M (pc + 2) L (.int x :: st)) : mj G nL k n M pc L (st) := by
  obtain ⟨D, s0, p, l, e, R, s, m, args, below, meth, c, Q, M0, Wr⟩ := G
  obtain ⟨hx, hb, -⟩ := C
  exact fun H locs ls h1 h2 h3 h4 => lv_iload hx hb d (h4.2.2 _ _ hl) (kk H locs ls h1 h2 h3 h4)
theorem m_istore_n {G : ma_G} {cc : ByteArray} {own : String} {nL fr mc ms lo k n : Nat} {M : ma_H} {pc : Nat} {L : List (Option Value)} {st : List Value} {q : Fin 4} {i : Nat} {x : Int32} {L' : List (Option Value)} (C : ma_C G cc nL own fr mc ms lo) (d : decode cc pc = .ok (.istore_n q, 1)) (hi : (q : Nat) = i) (hn : i < nL) (hL : ma_st i (.int x) L = L') (kk : mj G nL k n M (pc + 1) L' st) : mj G nL k n M pc L (.int x :: st) := by
  obtain ⟨D, s0, p, l, e, R, s, m, args, below, meth, c, Q, M0, Wr⟩ := G
  obtain ⟨hx, hb, -⟩ := C
  subst hL
  exact fun H locs ls h1 h2 h3 h4 => lv_istore_n hx hb d hi h4.has hn rfl fun ls' h5 => kk H locs ls' h1 h2 h3 (ma_st1 rfl h5)
theorem m_istore {G : ma_G} {cc : ByteArray} {own : String} {nL fr mc ms lo k n : Nat} {M : ma_H} {pc : Nat} {L : List (Option Value)} {st : List Value} {i : Nat} {x : Int32} {L' : List (Option Value)} (C : ma_C G cc nL own fr mc ms lo) (d : decode cc pc = .ok (.istore i, 2)) (hn : i < nL) (hL : ma_st i (.int x) L = L') (kk : mj G nL k n M (pc + 2) L' st) : mj G nL k n M pc L (.int x :: st) := by
  obtain ⟨D, s0, p, l, e, R, s, m, args, below, meth, c, Q, M0, Wr⟩ := G
  obtain ⟨hx, hb, -⟩ := C
  subst hL
  exact fun H locs ls h1 h2 h3 h4 => lv_istore hx hb d h4.has hn rfl fun ls' h5 => kk H locs ls' h1 h2 h3 (ma_st1 rfl h5)
theorem m_lload_n {G : ma_G} {cc : ByteArray} {own : String} {nL fr mc ms lo k n : Nat} {M : ma_H} {pc : Nat} {L : List (Option Value)} {st : List Value} {q : Fin 4} {i : Nat} {x : Int64} (C : ma_C G cc nL own fr mc ms lo) (d : decode cc pc = .ok (.lload_n q, 1)) (hi : (q : Nat) = i) (hl : L[i]? = some (some (.long x))) (kk : mj G nL k n M (pc + 1) L (.long x :: st)) : mj G nL k n M pc L (st) := by
  obtain ⟨D, s0, p, l, e, R, s, m, args, below, meth, c, Q, M0, Wr⟩ := G
  obtain ⟨hx, hb, -⟩ := C
  exact fun H locs ls h1 h2 h3 h4 => lv_lload_n hx hb d hi (h4.2.2 _ _ hl) (kk H locs ls h1 h2 h3 h4)
theorem m_lload {G : ma_G} {cc : ByteArray} {own : String} {nL fr mc ms lo k n : Nat} {M : ma_H} {pc : Nat} {L : List (Option Value)} {st : List Value} {i : Nat} {x : Int64} (C : ma_C G cc nL own fr mc ms lo) (d : decode cc pc = .ok (.lload i, 2)) (hl : L[i]? = some (some (.long x))) (kk : mj G nL k n M (pc + 2) L (.long x :: st)) : mj G nL k n M pc L (st) := by
  obtain ⟨D, s0, p, l, e, R, s, m, args, below, meth, c, Q, M0, Wr⟩ := G
  obtain ⟨hx, hb, -⟩ := C
  exact fun H locs ls h1 h2 h3 h4 => lv_lload hx hb d (h4.2.2 _ _ hl) (kk H locs ls h1 h2 h3 h4)
theorem m_lstore_n {G : ma_G} {cc : ByteArray} {own : String} {nL fr mc ms lo k n : Nat} {M : ma_H} {pc : Nat} {L : List (Option Value)} {st : List Value} {q : Fin 4} {i : Nat} {x : Int64} {L' : List (Option Value)} (C : ma_C G cc nL own fr mc ms lo) (d : decode cc pc = .ok (.lstore_n q, 1)) (hi : (q : Nat) = i) (hn : i + 1 < nL) (hL : ma_st i (.long x) L = L') (kk : mj G nL k n M (pc + 1) L' st) : mj G nL k n M pc L (.long x :: st) := by
  obtain ⟨D, s0, p, l, e, R, s, m, args, below, meth, c, Q, M0, Wr⟩ := G
  obtain ⟨hx, hb, -⟩ := C
  subst hL
  exact fun H locs ls h1 h2 h3 h4 => lv_lstore_n hx hb d hi h4.has hn rfl fun ls' h5 => kk H locs ls' h1 h2 h3 (ma_st2 rfl h5)
theorem m_lstore {G : ma_G} {cc : ByteArray} {own : String} {nL fr mc ms lo k n : Nat} {M : ma_H} {pc : Nat} {L : List (Option Value)} {st : List Value} {i : Nat} {x : Int64} {L' : List (Option Value)} (C : ma_C G cc nL own fr mc ms lo) (d : decode cc pc = .ok (.lstore i, 2)) (hn : i + 1 < nL) (hL : ma_st i (.long x) L = L') (kk : mj G nL k n M (pc + 2) L' st) : mj G nL k n M pc L (.long x :: st) := by
  obtain ⟨D, s0, p, l, e, R, s, m, args, below, meth, c, Q, M0, Wr⟩ := G
  obtain ⟨hx, hb, -⟩ := C
  subst hL
  exact fun H locs ls h1 h2 h3 h4 => lv_lstore hx hb d h4.has hn rfl fun ls' h5 => kk H locs ls' h1 h2 h3 (ma_st2 rfl h5)
theorem m_aload_n {G : ma_G} {cc : ByteArray} {own : String} {nL fr mc ms lo k n : Nat} {M : ma_H} {pc : Nat} {L : List (Option Value)} {st : List Value} {q : Fin 4} {i : Nat} {x : Nat} (C : ma_C G cc nL own fr mc ms lo) (d : decode cc pc = .ok (.aload_n q, 1)) (hi : (q : Nat) = i) (hl : L[i]? = some (some (.ref x))) (kk : mj G nL k n M (pc + 1) L (.ref x :: st)) : mj G nL k n M pc L (st) := by
  obtain ⟨D, s0, p, l, e, R, s, m, args, below, meth, c, Q, M0, Wr⟩ := G
  obtain ⟨hx, hb, -⟩ := C
  exact fun H locs ls h1 h2 h3 h4 => lv_aload_n hx hb d hi (h4.2.2 _ _ hl) (kk H locs ls h1 h2 h3 h4)
theorem m_aload {G : ma_G} {cc : ByteArray} {own : String} {nL fr mc ms lo k n : Nat} {M : ma_H} {pc : Nat} {L : List (Option Value)} {st : List Value} {i : Nat} {x : Nat} (C : ma_C G cc nL own fr mc ms lo) (d : decode cc pc = .ok (.aload i, 2)) (hl : L[i]? = some (some (.ref x))) (kk : mj G nL k n M (pc + 2) L (.ref x :: st)) : mj G nL k n M pc L (st) := by
  obtain ⟨D, s0, p, l, e, R, s, m, args, below, meth, c, Q, M0, Wr⟩ := G
  obtain ⟨hx, hb, -⟩ := C
  exact fun H locs ls h1 h2 h3 h4 => lv_aload hx hb d (h4.2.2 _ _ hl) (kk H locs ls h1 h2 h3 h4)
theorem m_astore_n {G : ma_G} {cc : ByteArray} {own : String} {nL fr mc ms lo k n : Nat} {M : ma_H} {pc : Nat} {L : List (Option Value)} {st : List Value} {q : Fin 4} {i : Nat} {x : Nat} {L' : List (Option Value)} (C : ma_C G cc nL own fr mc ms lo) (d : decode cc pc = .ok (.astore_n q, 1)) (hi : (q : Nat) = i) (hn : i < nL) (hL : ma_st i (.ref x) L = L') (kk : mj G nL k n M (pc + 1) L' st) : mj G nL k n M pc L (.ref x :: st) := by
  obtain ⟨D, s0, p, l, e, R, s, m, args, below, meth, c, Q, M0, Wr⟩ := G
  obtain ⟨hx, hb, -⟩ := C
  subst hL
  exact fun H locs ls h1 h2 h3 h4 => lv_astore_n hx hb d hi h4.has hn rfl fun ls' h5 => kk H locs ls' h1 h2 h3 (ma_st1 rfl h5)
theorem m_astore {G : ma_G} {cc : ByteArray} {own : String} {nL fr mc ms lo k n : Nat} {M : ma_H} {pc : Nat} {L : List (Option Value)} {st : List Value} {i : Nat} {x : Nat} {L' : List (Option Value)} (C : ma_C G cc nL own fr mc ms lo) (d : decode cc pc = .ok (.astore i, 2)) (hn : i < nL) (hL : ma_st i (.ref x) L = L') (kk : mj G nL k n M (pc + 2) L' st) : mj G nL k n M pc L (.ref x :: st) := by
  obtain ⟨D, s0, p, l, e, R, s, m, args, below, meth, c, Q, M0, Wr⟩ := G
  obtain ⟨hx, hb, -⟩ := C
  subst hL
  exact fun H locs ls h1 h2 h3 h4 => lv_astore hx hb d h4.has hn rfl fun ls' h5 => kk H locs ls' h1 h2 h3 (ma_st1 rfl h5)
theorem m_iinc {G : ma_G} {cc : ByteArray} {own : String} {nL fr mc ms lo k n : Nat} {M : ma_H} {pc : Nat} {L : List (Option Value)} {st : List Value} {i : Nat} {a : Int} {x v : Int32} {L' : List (Option Value)} (C : ma_C G cc nL own fr mc ms lo) (d : decode cc pc = .ok (.iinc i a, 3)) (hl : L[i]? = some (some (.int x))) (hv : x + Int32.ofInt a = v) (hn : i < nL) (hL : ma_st i (.int v) L = L') (kk : mj G nL k n M (pc + 3) L' st) : mj G nL k n M pc L st := by
  obtain ⟨D, s0, p, l, e, R, s, m, args, below, meth, c, Q, M0, Wr⟩ := G
  obtain ⟨hx, hb, -⟩ := C
  subst hL
  intro H locs ls h1 h2 h3 h4
  obtain ⟨z, hz⟩ := List.getElem?_of_mem (ma_lv_mem.mpr hl)
  exact lv_iinc hx hb d h4.has hz hv hn rfl fun ls' h5 => kk H locs ls' h1 h2 h3 (ma_st1 rfl h5)
theorem m_iadd {G : ma_G} {cc : ByteArray} {own : String} {nL fr mc ms lo k n : Nat} {M : ma_H} {pc : Nat} {L : List (Option Value)} {st : List Value} {x y : Int32} (C : ma_C G cc nL own fr mc ms lo) (d : decode cc pc = .ok (.iadd, 1))  (kk : mj G nL k n M (pc + 1) L (.int (x + y) :: st)) : mj G nL k n M pc L (.int y :: .int x :: st) := by
  obtain ⟨D, s0, p, l, e, R, s, m, args, below, meth, c, Q, M0, Wr⟩ := G
  obtain ⟨hx, hb, -⟩ := C
  exact fun H locs ls h1 h2 h3 h4 => lv_iadd hx hb d (kk H locs ls h1 h2 h3 h4)
theorem m_isub {G : ma_G} {cc : ByteArray} {own : String} {nL fr mc ms lo k n : Nat} {M : ma_H} {pc : Nat} {L : List (Option Value)} {st : List Value} {x y : Int32} (C : ma_C G cc nL own fr mc ms lo) (d : decode cc pc = .ok (.isub, 1))  (kk : mj G nL k n M (pc + 1) L (.int (x - y) :: st)) : mj G nL k n M pc L (.int y :: .int x :: st) := by
  obtain ⟨D, s0, p, l, e, R, s, m, args, below, meth, c, Q, M0, Wr⟩ := G
  obtain ⟨hx, hb, -⟩ := C
  exact fun H locs ls h1 h2 h3 h4 => lv_isub hx hb d (kk H locs ls h1 h2 h3 h4)
theorem m_imul {G : ma_G} {cc : ByteArray} {own : String} {nL fr mc ms lo k n : Nat} {M : ma_H} {pc : Nat} {L : List (Option Value)} {st : List Value} {x y : Int32} (C : ma_C G cc nL own fr mc ms lo) (d : decode cc pc = .ok (.imul, 1))  (kk : mj G nL k n M (pc + 1) L (.int (x * y) :: st)) : mj G nL k n M pc L (.int y :: .int x :: st) := by
  obtain ⟨D, s0, p, l, e, R, s, m, args, below, meth, c, Q, M0, Wr⟩ := G
  obtain ⟨hx, hb, -⟩ := C
  exact fun H locs ls h1 h2 h3 h4 => lv_imul hx hb d (kk H locs ls h1 h2 h3 h4)
theorem m_iand {G : ma_G} {cc : ByteArray} {own : String} {nL fr mc ms lo k n : Nat} {M : ma_H} {pc : Nat} {L : List (Option Value)} {st : List Value} {x y : Int32} (C : ma_C G cc nL own fr mc ms lo) (d : decode cc pc = .ok (.iand, 1))  (kk : mj G nL k n M (pc + 1) L (.int (x &&& y) :: st)) : mj G nL k n M pc L (.int y :: .int x :: st) := by
  obtain ⟨D, s0, p, l, e, R, s, m, args, below, meth, c, Q, M0, Wr⟩ := G
  obtain ⟨hx, hb, -⟩ := C
  exact fun H locs ls h1 h2 h3 h4 => lv_iand hx hb d (kk H locs ls h1 h2 h3 h4)
theorem m_ior {G : ma_G} {cc : ByteArray} {own : String} {nL fr mc ms lo k n : Nat} {M : ma_H} {pc : Nat} {L : List (Option Value)} {st : List Value} {x y : Int32} (C : ma_C G cc nL own fr mc ms lo) (d : decode cc pc = .ok (.ior, 1))  (kk : mj G nL k n M (pc + 1) L (.int (x ||| y) :: st)) : mj G nL k n M pc L (.int y :: .int x :: st) := by
  obtain ⟨D, s0, p, l, e, R, s, m, args, below, meth, c, Q, M0, Wr⟩ := G
  obtain ⟨hx, hb, -⟩ := C
  exact fun H locs ls h1 h2 h3 h4 => lv_ior hx hb d (kk H locs ls h1 h2 h3 h4)
theorem m_ixor {G : ma_G} {cc : ByteArray} {own : String} {nL fr mc ms lo k n : Nat} {M : ma_H} {pc : Nat} {L : List (Option Value)} {st : List Value} {x y : Int32} (C : ma_C G cc nL own fr mc ms lo) (d : decode cc pc = .ok (.ixor, 1))  (kk : mj G nL k n M (pc + 1) L (.int (x ^^^ y) :: st)) : mj G nL k n M pc L (.int y :: .int x :: st) := by
  obtain ⟨D, s0, p, l, e, R, s, m, args, below, meth, c, Q, M0, Wr⟩ := G
  obtain ⟨hx, hb, -⟩ := C
  exact fun H locs ls h1 h2 h3 h4 => lv_ixor hx hb d (kk H locs ls h1 h2 h3 h4)
theorem m_ishl {G : ma_G} {cc : ByteArray} {own : String} {nL fr mc ms lo k n : Nat} {M : ma_H} {pc : Nat} {L : List (Option Value)} {st : List Value} {x y : Int32} (C : ma_C G cc nL own fr mc ms lo) (d : decode cc pc = .ok (.ishl, 1))  (kk : mj G nL k n M (pc + 1) L (.int (x <<< (y &&& 31)) :: st)) : mj G nL k n M pc L (.int y :: .int x :: st) := by
  obtain ⟨D, s0, p, l, e, R, s, m, args, below, meth, c, Q, M0, Wr⟩ := G
  obtain ⟨hx, hb, -⟩ := C
  exact fun H locs ls h1 h2 h3 h4 => lv_ishl hx hb d (kk H locs ls h1 h2 h3 h4)
theorem m_ishr {G : ma_G} {cc : ByteArray} {own : String} {nL fr mc ms lo k n : Nat} {M : ma_H} {pc : Nat} {L : List (Option Value)} {st : List Value} {x y : Int32} (C : ma_C G cc nL own fr mc ms lo) (d : decode cc pc = .ok (.ishr, 1))  (kk : mj G nL k n M (pc + 1) L (.int (x >>> (y &&& 31)) :: st)) : mj G nL k n M pc L (.int y :: .int x :: st) := by
  obtain ⟨D, s0, p, l, e, R, s, m, args, below, meth, c, Q, M0, Wr⟩ := G
  obtain ⟨hx, hb, -⟩ := C
  exact fun H locs ls h1 h2 h3 h4 => lv_ishr hx hb d (kk H locs ls h1 h2 h3 h4)
theorem m_idiv {G : ma_G} {cc : ByteArray} {own : String} {nL fr mc ms lo k n : Nat} {M : ma_H} {pc : Nat} {L : List (Option Value)} {st : List Value} {x y : Int32} (C : ma_C G cc nL own fr mc ms lo) (d : decode cc pc = .ok (.idiv, 1)) (hne : ¬ y = 0) (kk : mj G nL k n M (pc + 1) L (.int (x / y) :: st)) : mj G nL k n M pc L (.int y :: .int x :: st) := by
  obtain ⟨D, s0, p, l, e, R, s, m, args, below, meth, c, Q, M0, Wr⟩ := G
  obtain ⟨hx, hb, -⟩ := C
  exact fun H locs ls h1 h2 h3 h4 => lv_idiv hx hb d hne (kk H locs ls h1 h2 h3 h4)
theorem m_irem {G : ma_G} {cc : ByteArray} {own : String} {nL fr mc ms lo k n : Nat} {M : ma_H} {pc : Nat} {L : List (Option Value)} {st : List Value} {x y : Int32} (C : ma_C G cc nL own fr mc ms lo) (d : decode cc pc = .ok (.irem, 1)) (hne : ¬ y = 0) (kk : mj G nL k n M (pc + 1) L (.int (x - x / y * y) :: st)) : mj G nL k n M pc L (.int y :: .int x :: st) := by
  obtain ⟨D, s0, p, l, e, R, s, m, args, below, meth, c, Q, M0, Wr⟩ := G
  obtain ⟨hx, hb, -⟩ := C
  exact fun H locs ls h1 h2 h3 h4 => lv_irem hx hb d hne (kk H locs ls h1 h2 h3 h4)
theorem m_ineg {G : ma_G} {cc : ByteArray} {own : String} {nL fr mc ms lo k n : Nat} {M : ma_H} {pc : Nat} {L : List (Option Value)} {st : List Value} {x : Int32} (C : ma_C G cc nL own fr mc ms lo) (d : decode cc pc = .ok (.ineg, 1))  (kk : mj G nL k n M (pc + 1) L (.int (-x) :: st)) : mj G nL k n M pc L (.int x :: st) := by
  obtain ⟨D, s0, p, l, e, R, s, m, args, below, meth, c, Q, M0, Wr⟩ := G
  obtain ⟨hx, hb, -⟩ := C
  exact fun H locs ls h1 h2 h3 h4 => lv_ineg hx hb d (kk H locs ls h1 h2 h3 h4)
theorem m_ladd {G : ma_G} {cc : ByteArray} {own : String} {nL fr mc ms lo k n : Nat} {M : ma_H} {pc : Nat} {L : List (Option Value)} {st : List Value} {x y : Int64} (C : ma_C G cc nL own fr mc ms lo) (d : decode cc pc = .ok (.ladd, 1))  (kk : mj G nL k n M (pc + 1) L (.long (x + y) :: st)) : mj G nL k n M pc L (.long y :: .long x :: st) := by
  obtain ⟨D, s0, p, l, e, R, s, m, args, below, meth, c, Q, M0, Wr⟩ := G
  obtain ⟨hx, hb, -⟩ := C
  exact fun H locs ls h1 h2 h3 h4 => lv_ladd hx hb d (kk H locs ls h1 h2 h3 h4)
theorem m_lsub {G : ma_G} {cc : ByteArray} {own : String} {nL fr mc ms lo k n : Nat} {M : ma_H} {pc : Nat} {L : List (Option Value)} {st : List Value} {x y : Int64} (C : ma_C G cc nL own fr mc ms lo) (d : decode cc pc = .ok (.lsub, 1))  (kk : mj G nL k n M (pc + 1) L (.long (x - y) :: st)) : mj G nL k n M pc L (.long y :: .long x :: st) := by
  obtain ⟨D, s0, p, l, e, R, s, m, args, below, meth, c, Q, M0, Wr⟩ := G
  obtain ⟨hx, hb, -⟩ := C
  exact fun H locs ls h1 h2 h3 h4 => lv_lsub hx hb d (kk H locs ls h1 h2 h3 h4)
theorem m_lmul {G : ma_G} {cc : ByteArray} {own : String} {nL fr mc ms lo k n : Nat} {M : ma_H} {pc : Nat} {L : List (Option Value)} {st : List Value} {x y : Int64} (C : ma_C G cc nL own fr mc ms lo) (d : decode cc pc = .ok (.lmul, 1))  (kk : mj G nL k n M (pc + 1) L (.long (x * y) :: st)) : mj G nL k n M pc L (.long y :: .long x :: st) := by
  obtain ⟨D, s0, p, l, e, R, s, m, args, below, meth, c, Q, M0, Wr⟩ := G
  obtain ⟨hx, hb, -⟩ := C
  exact fun H locs ls h1 h2 h3 h4 => lv_lmul hx hb d (kk H locs ls h1 h2 h3 h4)
theorem m_land {G : ma_G} {cc : ByteArray} {own : String} {nL fr mc ms lo k n : Nat} {M : ma_H} {pc : Nat} {L : List (Option Value)} {st : List Value} {x y : Int64} (C : ma_C G cc nL own fr mc ms lo) (d : decode cc pc = .ok (.land, 1))  (kk : mj G nL k n M (pc + 1) L (.long (x &&& y) :: st)) : mj G nL k n M pc L (.long y :: .long x :: st) := by
  obtain ⟨D, s0, p, l, e, R, s, m, args, below, meth, c, Q, M0, Wr⟩ := G
  obtain ⟨hx, hb, -⟩ := C
  exact fun H locs ls h1 h2 h3 h4 => lv_land hx hb d (kk H locs ls h1 h2 h3 h4)
theorem m_lor {G : ma_G} {cc : ByteArray} {own : String} {nL fr mc ms lo k n : Nat} {M : ma_H} {pc : Nat} {L : List (Option Value)} {st : List Value} {x y : Int64} (C : ma_C G cc nL own fr mc ms lo) (d : decode cc pc = .ok (.lor, 1))  (kk : mj G nL k n M (pc + 1) L (.long (x ||| y) :: st)) : mj G nL k n M pc L (.long y :: .long x :: st) := by
  obtain ⟨D, s0, p, l, e, R, s, m, args, below, meth, c, Q, M0, Wr⟩ := G
  obtain ⟨hx, hb, -⟩ := C
  exact fun H locs ls h1 h2 h3 h4 => lv_lor hx hb d (kk H locs ls h1 h2 h3 h4)
theorem m_lxor {G : ma_G} {cc : ByteArray} {own : String} {nL fr mc ms lo k n : Nat} {M : ma_H} {pc : Nat} {L : List (Option Value)} {st : List Value} {x y : Int64} (C : ma_C G cc nL own fr mc ms lo) (d : decode cc pc = .ok (.lxor, 1))  (kk : mj G nL k n M (pc + 1) L (.long (x ^^^ y) :: st)) : mj G nL k n M pc L (.long y :: .long x :: st) := by
  obtain ⟨D, s0, p, l, e, R, s, m, args, below, meth, c, Q, M0, Wr⟩ := G
  obtain ⟨hx, hb, -⟩ := C
  exact fun H locs ls h1 h2 h3 h4 => lv_lxor hx hb d (kk H locs ls h1 h2 h3 h4)
theorem m_ldiv {G : ma_G} {cc : ByteArray} {own : String} {nL fr mc ms lo k n : Nat} {M : ma_H} {pc : Nat} {L : List (Option Value)} {st : List Value} {x y : Int64} (C : ma_C G cc nL own fr mc ms lo) (d : decode cc pc = .ok (.ldiv, 1)) (hne : ¬ y = 0) (kk : mj G nL k n M (pc + 1) L (.long (x / y) :: st)) : mj G nL k n M pc L (.long y :: .long x :: st) := by
  obtain ⟨D, s0, p, l, e, R, s, m, args, below, meth, c, Q, M0, Wr⟩ := G
  obtain ⟨hx, hb, -⟩ := C
  exact fun H locs ls h1 h2 h3 h4 => lv_ldiv hx hb d hne (kk H locs ls h1 h2 h3 h4)
theorem m_lrem {G : ma_G} {cc : ByteArray} {own : String} {nL fr mc ms lo k n : Nat} {M : ma_H} {pc : Nat} {L : List (Option Value)} {st : List Value} {x y : Int64} (C : ma_C G cc nL own fr mc ms lo) (d : decode cc pc = .ok (.lrem, 1)) (hne : ¬ y = 0) (kk : mj G nL k n M (pc + 1) L (.long (x - x / y * y) :: st)) : mj G nL k n M pc L (.long y :: .long x :: st) := by
  obtain ⟨D, s0, p, l, e, R, s, m, args, below, meth, c, Q, M0, Wr⟩ := G
  obtain ⟨hx, hb, -⟩ := C
  exact fun H locs ls h1 h2 h3 h4 => lv_lrem hx hb d hne (kk H locs ls h1 h2 h3 h4)
theorem m_lneg {G : ma_G} {cc : ByteArray} {own : String} {nL fr mc ms lo k n : Nat} {M : ma_H} {pc : Nat} {L : List (Option Value)} {st : List Value} {x : Int64} (C : ma_C G cc nL own fr mc ms lo) (d : decode cc pc = .ok (.lneg, 1))  (kk : mj G nL k n M (pc + 1) L (.long (-x) :: st)) : mj G nL k n M pc L (.long x :: st) := by
  obtain ⟨D, s0, p, l, e, R, s, m, args, below, meth, c, Q, M0, Wr⟩ := G
  obtain ⟨hx, hb, -⟩ := C
  exact fun H locs ls h1 h2 h3 h4 => lv_lneg hx hb d (kk H locs ls h1 h2 h3 h4)
theorem m_i2l {G : ma_G} {cc : ByteArray} {own : String} {nL fr mc ms lo k n : Nat} {M : ma_H} {pc : Nat} {L : List (Option Value)} {st : List Value} {x : Int32} (C : ma_C G cc nL own fr mc ms lo) (d : decode cc pc = .ok (.i2l, 1))  (kk : mj G nL k n M (pc + 1) L (.long x.toInt64 :: st)) : mj G nL k n M pc L (.int x :: st) := by
  obtain ⟨D, s0, p, l, e, R, s, m, args, below, meth, c, Q, M0, Wr⟩ := G
  obtain ⟨hx, hb, -⟩ := C
  exact fun H locs ls h1 h2 h3 h4 => lv_i2l hx hb d rfl (kk H locs ls h1 h2 h3 h4)
theorem m_l2i {G : ma_G} {cc : ByteArray} {own : String} {nL fr mc ms lo k n : Nat} {M : ma_H} {pc : Nat} {L : List (Option Value)} {st : List Value} {x : Int64} (C : ma_C G cc nL own fr mc ms lo) (d : decode cc pc = .ok (.l2i, 1))  (kk : mj G nL k n M (pc + 1) L (.int x.toInt32 :: st)) : mj G nL k n M pc L (.long x :: st) := by
  obtain ⟨D, s0, p, l, e, R, s, m, args, below, meth, c, Q, M0, Wr⟩ := G
  obtain ⟨hx, hb, -⟩ := C
  exact fun H locs ls h1 h2 h3 h4 => lv_l2i hx hb d rfl (kk H locs ls h1 h2 h3 h4)
theorem m_i2c {G : ma_G} {cc : ByteArray} {own : String} {nL fr mc ms lo k n : Nat} {M : ma_H} {pc : Nat} {L : List (Option Value)} {st : List Value} {x : Int32} (C : ma_C G cc nL own fr mc ms lo) (d : decode cc pc = .ok (.i2c, 1))  (kk : mj G nL k n M (pc + 1) L (.int (x.toUInt32 % 65536).toInt32 :: st)) : mj G nL k n M pc L (.int x :: st) := by
  obtain ⟨D, s0, p, l, e, R, s, m, args, below, meth, c, Q, M0, Wr⟩ := G
  obtain ⟨hx, hb, -⟩ := C
  exact fun H locs ls h1 h2 h3 h4 => lv_i2c hx hb d rfl (kk H locs ls h1 h2 h3 h4)
theorem m_i2b {G : ma_G} {cc : ByteArray} {own : String} {nL fr mc ms lo k n : Nat} {M : ma_H} {pc : Nat} {L : List (Option Value)} {st : List Value} {x : Int32} (C : ma_C G cc nL own fr mc ms lo) (d : decode cc pc = .ok (.i2b, 1))  (kk : mj G nL k n M (pc + 1) L (.int x.toInt8.toInt32 :: st)) : mj G nL k n M pc L (.int x :: st) := by
  obtain ⟨D, s0, p, l, e, R, s, m, args, below, meth, c, Q, M0, Wr⟩ := G
  obtain ⟨hx, hb, -⟩ := C
  exact fun H locs ls h1 h2 h3 h4 => lv_i2b hx hb d rfl (kk H locs ls h1 h2 h3 h4)
theorem m_iushr {G : ma_G} {cc : ByteArray} {own : String} {nL fr mc ms lo k n : Nat} {M : ma_H} {pc : Nat} {L : List (Option Value)} {st : List Value} {x y : Int32} (C : ma_C G cc nL own fr mc ms lo) (d : decode cc pc = .ok (.iushr, 1))  (kk : mj G nL k n M (pc + 1) L (.int (x.toUInt32 >>> (y.toUInt32 &&& Int32.toUInt32 31)).toInt32 :: st)) : mj G nL k n M pc L (.int y :: .int x :: st) := by
  obtain ⟨D, s0, p, l, e, R, s, m, args, below, meth, c, Q, M0, Wr⟩ := G
  obtain ⟨hx, hb, -⟩ := C
  exact fun H locs ls h1 h2 h3 h4 => lv_iushr hx hb d rfl (kk H locs ls h1 h2 h3 h4)
theorem m_lushr {G : ma_G} {cc : ByteArray} {own : String} {nL fr mc ms lo k n : Nat} {M : ma_H} {pc : Nat} {L : List (Option Value)} {st : List Value} {x : Int64} {y : Int32} (C : ma_C G cc nL own fr mc ms lo) (d : decode cc pc = .ok (.lushr, 1))  (kk : mj G nL k n M (pc + 1) L (.long (x.toUInt64 >>> (y.toInt64.toUInt64 &&& Int64.toUInt64 63)).toInt64 :: st)) : mj G nL k n M pc L (.int y :: .long x :: st) := by
  obtain ⟨D, s0, p, l, e, R, s, m, args, below, meth, c, Q, M0, Wr⟩ := G
  obtain ⟨hx, hb, -⟩ := C
  exact fun H locs ls h1 h2 h3 h4 => lv_lushr hx hb d rfl (kk H locs ls h1 h2 h3 h4)
theorem m_lshl {G : ma_G} {cc : ByteArray} {own : String} {nL fr mc ms lo k n : Nat} {M : ma_H} {pc : Nat} {L : List (Option Value)} {st : List Value} {x : Int64} {y : Int32} (C : ma_C G cc nL own fr mc ms lo) (d : decode cc pc = .ok (.lshl, 1))  (kk : mj G nL k n M (pc + 1) L (.long (x <<< (y.toInt64 &&& 63)) :: st)) : mj G nL k n M pc L (.int y :: .long x :: st) := by
  obtain ⟨D, s0, p, l, e, R, s, m, args, below, meth, c, Q, M0, Wr⟩ := G
  obtain ⟨hx, hb, -⟩ := C
  exact fun H locs ls h1 h2 h3 h4 => lv_lshl hx hb d rfl (kk H locs ls h1 h2 h3 h4)
theorem m_lshr {G : ma_G} {cc : ByteArray} {own : String} {nL fr mc ms lo k n : Nat} {M : ma_H} {pc : Nat} {L : List (Option Value)} {st : List Value} {x : Int64} {y : Int32} (C : ma_C G cc nL own fr mc ms lo) (d : decode cc pc = .ok (.lshr, 1))  (kk : mj G nL k n M (pc + 1) L (.long (x >>> (y.toInt64 &&& 63)) :: st)) : mj G nL k n M pc L (.int y :: .long x :: st) := by
  obtain ⟨D, s0, p, l, e, R, s, m, args, below, meth, c, Q, M0, Wr⟩ := G
  obtain ⟨hx, hb, -⟩ := C
  exact fun H locs ls h1 h2 h3 h4 => lv_lshr hx hb d rfl (kk H locs ls h1 h2 h3 h4)
theorem m_dup {G : ma_G} {cc : ByteArray} {own : String} {nL fr mc ms lo k n : Nat} {M : ma_H} {pc : Nat} {L : List (Option Value)} {st : List Value} {v : Value} (C : ma_C G cc nL own fr mc ms lo) (d : decode cc pc = .ok (.dup, 1)) (hv : v.category = 1) (kk : mj G nL k n M (pc + 1) L (v :: v :: st)) : mj G nL k n M pc L (v :: st) := by
  obtain ⟨D, s0, p, l, e, R, s, m, args, below, meth, c, Q, M0, Wr⟩ := G
  obtain ⟨hx, hb, -⟩ := C
  exact fun H locs ls h1 h2 h3 h4 => lv_dup hx hb d hv (kk H locs ls h1 h2 h3 h4)
theorem m_pop {G : ma_G} {cc : ByteArray} {own : String} {nL fr mc ms lo k n : Nat} {M : ma_H} {pc : Nat} {L : List (Option Value)} {st : List Value} {v : Value} (C : ma_C G cc nL own fr mc ms lo) (d : decode cc pc = .ok (.pop, 1)) (hv : v.category = 1) (kk : mj G nL k n M (pc + 1) L (st)) : mj G nL k n M pc L (v :: st) := by
  obtain ⟨D, s0, p, l, e, R, s, m, args, below, meth, c, Q, M0, Wr⟩ := G
  obtain ⟨hx, hb, -⟩ := C
  exact fun H locs ls h1 h2 h3 h4 => lv_pop hx hb d hv (kk H locs ls h1 h2 h3 h4)
theorem m_dup_x1 {G : ma_G} {cc : ByteArray} {own : String} {nL fr mc ms lo k n : Nat} {M : ma_H} {pc : Nat} {L : List (Option Value)} {st : List Value} {v w : Value} (C : ma_C G cc nL own fr mc ms lo) (d : decode cc pc = .ok (.dup_x1, 1)) (hv : v.category = 1) (hw : w.category = 1) (kk : mj G nL k n M (pc + 1) L (v :: w :: v :: st)) : mj G nL k n M pc L (v :: w :: st) := by
  obtain ⟨D, s0, p, l, e, R, s, m, args, below, meth, c, Q, M0, Wr⟩ := G
  obtain ⟨hx, hb, -⟩ := C
  exact fun H locs ls h1 h2 h3 h4 => lv_dup_x1 hx hb d hv hw (kk H locs ls h1 h2 h3 h4)
theorem m_dup_x2 {G : ma_G} {cc : ByteArray} {own : String} {nL fr mc ms lo k n : Nat} {M : ma_H} {pc : Nat} {L : List (Option Value)} {st : List Value} {v w u : Value} (C : ma_C G cc nL own fr mc ms lo) (d : decode cc pc = .ok (.dup_x2, 1)) (hv : v.category = 1) (hw : w.category = 1) (hu : u.category = 1) (kk : mj G nL k n M (pc + 1) L (v :: w :: u :: v :: st)) : mj G nL k n M pc L (v :: w :: u :: st) := by
  obtain ⟨D, s0, p, l, e, R, s, m, args, below, meth, c, Q, M0, Wr⟩ := G
  obtain ⟨hx, hb, -⟩ := C
  exact fun H locs ls h1 h2 h3 h4 => lv_dup_x2 hx hb d hv hw hu (kk H locs ls h1 h2 h3 h4)
theorem m_dup2 {G : ma_G} {cc : ByteArray} {own : String} {nL fr mc ms lo k n : Nat} {M : ma_H} {pc : Nat} {L : List (Option Value)} {st : List Value} {v w : Value} (C : ma_C G cc nL own fr mc ms lo) (d : decode cc pc = .ok (.dup2, 1)) (hv : v.category = 1) (hw : w.category = 1) (kk : mj G nL k n M (pc + 1) L (v :: w :: v :: w :: st)) : mj G nL k n M pc L (v :: w :: st) := by
  obtain ⟨D, s0, p, l, e, R, s, m, args, below, meth, c, Q, M0, Wr⟩ := G
  obtain ⟨hx, hb, -⟩ := C
  exact fun H locs ls h1 h2 h3 h4 => lv_dup2_11 hx hb d hv hw (kk H locs ls h1 h2 h3 h4)
theorem m_if_eq {G : ma_G} {cc : ByteArray} {own : String} {nL fr mc ms lo k n : Nat} {M : ma_H} {pc : Nat} {L : List (Option Value)} {st : List Value} {x : Int32} {off : Int} {tgt : Nat} (C : ma_C G cc nL own fr mc ms lo) (d : decode cc pc = .ok (.ifCond .eq off, 3)) (ht : (pc : Int) + off = (tgt : Int)) (kt : x = 0 → mj G nL k n M tgt L st) (kf : ¬ x = 0 → mj G nL k n M (pc + 3) L st) : mj G nL k n M pc L (.int x :: st) := by
  obtain ⟨D, s0, p, l, e, R, s, m, args, below, meth, c, Q, M0, Wr⟩ := G
  obtain ⟨hx, hb, -⟩ := C
  exact fun H locs ls h1 h2 h3 h4 => lv_if_eq hx hb d ht (fun z => kt z H locs ls h1 h2 h3 h4) (fun z => kf z H locs ls h1 h2 h3 h4)
theorem m_icmp_eq {G : ma_G} {cc : ByteArray} {own : String} {nL fr mc ms lo k n : Nat} {M : ma_H} {pc : Nat} {L : List (Option Value)} {st : List Value} {x y : Int32} {off : Int} {tgt : Nat} (C : ma_C G cc nL own fr mc ms lo) (d : decode cc pc = .ok (.if_icmp .eq off, 3)) (ht : (pc : Int) + off = (tgt : Int)) (kt : x = y → mj G nL k n M tgt L st) (kf : ¬ x = y → mj G nL k n M (pc + 3) L st) : mj G nL k n M pc L (.int y :: .int x :: st) := by
  obtain ⟨D, s0, p, l, e, R, s, m, args, below, meth, c, Q, M0, Wr⟩ := G
  obtain ⟨hx, hb, -⟩ := C
  exact fun H locs ls h1 h2 h3 h4 => lv_icmp_eq hx hb d ht (fun z => kt z H locs ls h1 h2 h3 h4) (fun z => kf z H locs ls h1 h2 h3 h4)
theorem m_if_ne {G : ma_G} {cc : ByteArray} {own : String} {nL fr mc ms lo k n : Nat} {M : ma_H} {pc : Nat} {L : List (Option Value)} {st : List Value} {x : Int32} {off : Int} {tgt : Nat} (C : ma_C G cc nL own fr mc ms lo) (d : decode cc pc = .ok (.ifCond .ne off, 3)) (ht : (pc : Int) + off = (tgt : Int)) (kt : ¬ x = 0 → mj G nL k n M tgt L st) (kf : x = 0 → mj G nL k n M (pc + 3) L st) : mj G nL k n M pc L (.int x :: st) := by
  obtain ⟨D, s0, p, l, e, R, s, m, args, below, meth, c, Q, M0, Wr⟩ := G
  obtain ⟨hx, hb, -⟩ := C
  exact fun H locs ls h1 h2 h3 h4 => lv_if_ne hx hb d ht (fun z => kt z H locs ls h1 h2 h3 h4) (fun z => kf z H locs ls h1 h2 h3 h4)
theorem m_icmp_ne {G : ma_G} {cc : ByteArray} {own : String} {nL fr mc ms lo k n : Nat} {M : ma_H} {pc : Nat} {L : List (Option Value)} {st : List Value} {x y : Int32} {off : Int} {tgt : Nat} (C : ma_C G cc nL own fr mc ms lo) (d : decode cc pc = .ok (.if_icmp .ne off, 3)) (ht : (pc : Int) + off = (tgt : Int)) (kt : ¬ x = y → mj G nL k n M tgt L st) (kf : x = y → mj G nL k n M (pc + 3) L st) : mj G nL k n M pc L (.int y :: .int x :: st) := by
  obtain ⟨D, s0, p, l, e, R, s, m, args, below, meth, c, Q, M0, Wr⟩ := G
  obtain ⟨hx, hb, -⟩ := C
  exact fun H locs ls h1 h2 h3 h4 => lv_icmp_ne hx hb d ht (fun z => kt z H locs ls h1 h2 h3 h4) (fun z => kf z H locs ls h1 h2 h3 h4)
theorem m_if_lt {G : ma_G} {cc : ByteArray} {own : String} {nL fr mc ms lo k n : Nat} {M : ma_H} {pc : Nat} {L : List (Option Value)} {st : List Value} {x : Int32} {off : Int} {tgt : Nat} (C : ma_C G cc nL own fr mc ms lo) (d : decode cc pc = .ok (.ifCond .lt off, 3)) (ht : (pc : Int) + off = (tgt : Int)) (kt : x < 0 → mj G nL k n M tgt L st) (kf : ¬ x < 0 → mj G nL k n M (pc + 3) L st) : mj G nL k n M pc L (.int x :: st) := by
  obtain ⟨D, s0, p, l, e, R, s, m, args, below, meth, c, Q, M0, Wr⟩ := G
  obtain ⟨hx, hb, -⟩ := C
  exact fun H locs ls h1 h2 h3 h4 => lv_if_lt hx hb d ht (fun z => kt z H locs ls h1 h2 h3 h4) (fun z => kf z H locs ls h1 h2 h3 h4)
theorem m_icmp_lt {G : ma_G} {cc : ByteArray} {own : String} {nL fr mc ms lo k n : Nat} {M : ma_H} {pc : Nat} {L : List (Option Value)} {st : List Value} {x y : Int32} {off : Int} {tgt : Nat} (C : ma_C G cc nL own fr mc ms lo) (d : decode cc pc = .ok (.if_icmp .lt off, 3)) (ht : (pc : Int) + off = (tgt : Int)) (kt : x < y → mj G nL k n M tgt L st) (kf : ¬ x < y → mj G nL k n M (pc + 3) L st) : mj G nL k n M pc L (.int y :: .int x :: st) := by
  obtain ⟨D, s0, p, l, e, R, s, m, args, below, meth, c, Q, M0, Wr⟩ := G
  obtain ⟨hx, hb, -⟩ := C
  exact fun H locs ls h1 h2 h3 h4 => lv_icmp_lt hx hb d ht (fun z => kt z H locs ls h1 h2 h3 h4) (fun z => kf z H locs ls h1 h2 h3 h4)
theorem m_if_ge {G : ma_G} {cc : ByteArray} {own : String} {nL fr mc ms lo k n : Nat} {M : ma_H} {pc : Nat} {L : List (Option Value)} {st : List Value} {x : Int32} {off : Int} {tgt : Nat} (C : ma_C G cc nL own fr mc ms lo) (d : decode cc pc = .ok (.ifCond .ge off, 3)) (ht : (pc : Int) + off = (tgt : Int)) (kt : 0 ≤ x → mj G nL k n M tgt L st) (kf : ¬ 0 ≤ x → mj G nL k n M (pc + 3) L st) : mj G nL k n M pc L (.int x :: st) := by
  obtain ⟨D, s0, p, l, e, R, s, m, args, below, meth, c, Q, M0, Wr⟩ := G
  obtain ⟨hx, hb, -⟩ := C
  exact fun H locs ls h1 h2 h3 h4 => lv_if_ge hx hb d ht (fun z => kt z H locs ls h1 h2 h3 h4) (fun z => kf z H locs ls h1 h2 h3 h4)
theorem m_icmp_ge {G : ma_G} {cc : ByteArray} {own : String} {nL fr mc ms lo k n : Nat} {M : ma_H} {pc : Nat} {L : List (Option Value)} {st : List Value} {x y : Int32} {off : Int} {tgt : Nat} (C : ma_C G cc nL own fr mc ms lo) (d : decode cc pc = .ok (.if_icmp .ge off, 3)) (ht : (pc : Int) + off = (tgt : Int)) (kt : y ≤ x → mj G nL k n M tgt L st) (kf : ¬ y ≤ x → mj G nL k n M (pc + 3) L st) : mj G nL k n M pc L (.int y :: .int x :: st) := by
  obtain ⟨D, s0, p, l, e, R, s, m, args, below, meth, c, Q, M0, Wr⟩ := G
  obtain ⟨hx, hb, -⟩ := C
  exact fun H locs ls h1 h2 h3 h4 => lv_icmp_ge hx hb d ht (fun z => kt z H locs ls h1 h2 h3 h4) (fun z => kf z H locs ls h1 h2 h3 h4)
theorem m_if_gt {G : ma_G} {cc : ByteArray} {own : String} {nL fr mc ms lo k n : Nat} {M : ma_H} {pc : Nat} {L : List (Option Value)} {st : List Value} {x : Int32} {off : Int} {tgt : Nat} (C : ma_C G cc nL own fr mc ms lo) (d : decode cc pc = .ok (.ifCond .gt off, 3)) (ht : (pc : Int) + off = (tgt : Int)) (kt : 0 < x → mj G nL k n M tgt L st) (kf : ¬ 0 < x → mj G nL k n M (pc + 3) L st) : mj G nL k n M pc L (.int x :: st) := by
  obtain ⟨D, s0, p, l, e, R, s, m, args, below, meth, c, Q, M0, Wr⟩ := G
  obtain ⟨hx, hb, -⟩ := C
  exact fun H locs ls h1 h2 h3 h4 => lv_if_gt hx hb d ht (fun z => kt z H locs ls h1 h2 h3 h4) (fun z => kf z H locs ls h1 h2 h3 h4)
theorem m_icmp_gt {G : ma_G} {cc : ByteArray} {own : String} {nL fr mc ms lo k n : Nat} {M : ma_H} {pc : Nat} {L : List (Option Value)} {st : List Value} {x y : Int32} {off : Int} {tgt : Nat} (C : ma_C G cc nL own fr mc ms lo) (d : decode cc pc = .ok (.if_icmp .gt off, 3)) (ht : (pc : Int) + off = (tgt : Int)) (kt : y < x → mj G nL k n M tgt L st) (kf : ¬ y < x → mj G nL k n M (pc + 3) L st) : mj G nL k n M pc L (.int y :: .int x :: st) := by
  obtain ⟨D, s0, p, l, e, R, s, m, args, below, meth, c, Q, M0, Wr⟩ := G
  obtain ⟨hx, hb, -⟩ := C
  exact fun H locs ls h1 h2 h3 h4 => lv_icmp_gt hx hb d ht (fun z => kt z H locs ls h1 h2 h3 h4) (fun z => kf z H locs ls h1 h2 h3 h4)
theorem m_if_le {G : ma_G} {cc : ByteArray} {own : String} {nL fr mc ms lo k n : Nat} {M : ma_H} {pc : Nat} {L : List (Option Value)} {st : List Value} {x : Int32} {off : Int} {tgt : Nat} (C : ma_C G cc nL own fr mc ms lo) (d : decode cc pc = .ok (.ifCond .le off, 3)) (ht : (pc : Int) + off = (tgt : Int)) (kt : x ≤ 0 → mj G nL k n M tgt L st) (kf : ¬ x ≤ 0 → mj G nL k n M (pc + 3) L st) : mj G nL k n M pc L (.int x :: st) := by
  obtain ⟨D, s0, p, l, e, R, s, m, args, below, meth, c, Q, M0, Wr⟩ := G
  obtain ⟨hx, hb, -⟩ := C
  exact fun H locs ls h1 h2 h3 h4 => lv_if_le hx hb d ht (fun z => kt z H locs ls h1 h2 h3 h4) (fun z => kf z H locs ls h1 h2 h3 h4)
theorem m_icmp_le {G : ma_G} {cc : ByteArray} {own : String} {nL fr mc ms lo k n : Nat} {M : ma_H} {pc : Nat} {L : List (Option Value)} {st : List Value} {x y : Int32} {off : Int} {tgt : Nat} (C : ma_C G cc nL own fr mc ms lo) (d : decode cc pc = .ok (.if_icmp .le off, 3)) (ht : (pc : Int) + off = (tgt : Int)) (kt : x ≤ y → mj G nL k n M tgt L st) (kf : ¬ x ≤ y → mj G nL k n M (pc + 3) L st) : mj G nL k n M pc L (.int y :: .int x :: st) := by
  obtain ⟨D, s0, p, l, e, R, s, m, args, below, meth, c, Q, M0, Wr⟩ := G
  obtain ⟨hx, hb, -⟩ := C
  exact fun H locs ls h1 h2 h3 h4 => lv_icmp_le hx hb d ht (fun z => kt z H locs ls h1 h2 h3 h4) (fun z => kf z H locs ls h1 h2 h3 h4)
theorem m_goto {G : ma_G} {cc : ByteArray} {own : String} {nL fr mc ms lo k n : Nat} {M : ma_H} {pc : Nat} {L : List (Option Value)} {st : List Value} {off : Int} {tgt : Nat} (C : ma_C G cc nL own fr mc ms lo) (d : decode cc pc = .ok (.goto off, 3)) (ht : (pc : Int) + off = (tgt : Int)) (kk : mj G nL k n M tgt L st) : mj G nL k n M pc L st := by
  obtain ⟨D, s0, p, l, e, R, s, m, args, below, meth, c, Q, M0, Wr⟩ := G
  obtain ⟨hx, hb, -⟩ := C
  exact fun H locs ls h1 h2 h3 h4 => lv_goto hx hb d ht (kk H locs ls h1 h2 h3 h4)
theorem m_ldc {G : ma_G} {cc : ByteArray} {own : String} {nL fr mc ms lo k n : Nat} {M : ma_H} {pc : Nat} {L : List (Option Value)} {st : List Value} {index : Nat} {v : Int32} (C : ma_C G cc nL own fr mc ms lo) (d : decode cc pc = .ok (.ldc index, 2)) (hw : Cond.constant own index v ∈ lw_tbl) (kk : mj G nL k n M (pc + 2) L (.int v :: st)) : mj G nL k n M pc L st := by
  obtain ⟨D, s0, p, l, e, R, s, m, args, below, meth, c, Q, M0, Wr⟩ := G
  obtain ⟨hx, hb, hml, hown, hlk, hR, hB, hK, -⟩ := C
  exact fun H locs ls h1 h2 h3 h4 => lv_ldc hx hb hown (ma_word hK hB hw rfl rfl _) d (kk H locs ls h1 h2 h3 h4)
theorem m_ldc2 {G : ma_G} {cc : ByteArray} {own : String} {nL fr mc ms lo k n : Nat} {M : ma_H} {pc : Nat} {L : List (Option Value)} {st : List Value} {index : Nat} {v : Int64} (C : ma_C G cc nL own fr mc ms lo) (d : decode cc pc = .ok (.ldc2_w index, 3)) (hw : Cond.constantLong own index v ∈ lw_tbl) (kk : mj G nL k n M (pc + 3) L (.long v :: st)) : mj G nL k n M pc L st := by
  obtain ⟨D, s0, p, l, e, R, s, m, args, below, meth, c, Q, M0, Wr⟩ := G
  obtain ⟨hx, hb, hml, hown, hlk, hR, hB, hK, -⟩ := C
  exact fun H locs ls h1 h2 h3 h4 => lv_ldc2 hx hb hown (ma_word hK hB hw rfl rfl _) d (kk H locs ls h1 h2 h3 h4)
end
section
/-! ===== fields ===== -/
/-- what a field's entry at the place 'index' of the pool of 'own' means: the field number kf of class number ci, of the type ty -/
def ma_F (own : String) (index ci kf : Nat) (ty : FieldType) (fin : Bool) : Prop := ∃ (Cn : String) (T : u_T) (N : Nat) (ty0 : Nat → FieldType), kcl[ci]? = some (Cn, T, N) ∧ kf < N ∧ (∀ w ∈ u_ws Cn T N, w ∈ lw_tbl) ∧ (∀ q, q < N → parseFieldDescriptor (T q).2.2.1 = some (ty0 q)) ∧ (∀ a, a < N → ∀ b, b < N → a ≠ b → (T a).2.1 ≠ (T b).2.1) ∧ ty0 kf = ty ∧ (T kf).2.2.2 = fin ∧ (fin = true → (T kf).1 = own) ∧ (Cond.fieldLink own index (T kf).1 (T kf).2.1 (T kf).2.2.1 ∈ lw_tbl ∨ (fin = false ∧ ∃ host : String, Cond.fieldLinkNest own index (T kf).1 (T kf).2.1 (T kf).2.2.1 host ∈ lw_tbl))
/-- .. to read it -/
def ma_Fg (own : String) (index ci kf : Nat) : Prop := ∃ (Cn : String) (T : u_T) (N : Nat), kcl[ci]? = some (Cn, T, N) ∧ kf < N ∧ (∀ w ∈ u_ws Cn T N, w ∈ lw_tbl) ∧ (Cond.fieldLink own index (T kf).1 (T kf).2.1 (T kf).2.2.1 ∈ lw_tbl ∨ ∃ host : String, Cond.fieldLinkNest own index (T kf).1 (T kf).2.1 (T kf).2.2.1 host ∈ lw_tbl)
theorem ma_lays {D : ma_D} {s0 U : State} {l : Launch} (hK : ma_K D s0 l) (hB : ma_B s0 U) {Cn : String} {T : u_T} {N : Nat} (hin : ∀ w ∈ u_ws Cn T N, w ∈ lw_tbl) (a : Array Value) : ∀ w ∈ u_ws Cn T N, w.before a U = true := by
  intro w hw
  have h := hin w hw
  obtain ⟨q, -, rfl⟩ := List.mem_map.mp hw
  refine ma_word hK hB h ?_ ?_ a
  · unfold u_lay; split <;> rfl
  · unfold u_lay; split <;> rfl
section
variable {G : ma_G} {cc : ByteArray} {own : String} {nL fr mc ms lo k n : Nat} {M : ma_H} {pc : Nat} {L : List (Option Value)} {st : List Value}
theorem m_get {a ci kf index : Nat} {fs : List Value} {v : Value} (C : ma_C G cc nL own fr mc ms lo) (hF : ma_Fg own index ci kf) (d : decode cc pc = .ok (.getfield index, 3)) (hm : M a = some (.inl (ci, fs))) (hv : fs[kf]? = some v) (kk : mj G nL k n M (pc + 3) L (v :: st)) : mj G nL k n M pc L (.ref a :: st) := by
  obtain ⟨D, s0, p, l, e, R, s, m, args, below, meth, c, Q, M0, Wr⟩ := G
  obtain ⟨hx, hb, hml, hown, hlk, hR, hB, hK, hA1, h0⟩ := C
  obtain ⟨Cn, T, N, hc, hkN, hin, hl⟩ := hF
  intro H locs ls h1 h2 h3 h4
  obtain ⟨r, g1, g2, cell, q1, q2, q3, q4⟩ := h1 a _ hm
  have hr : r = (Cn, T, N) := Option.some.inj (g1.symm.trans hc)
  subst hr
  obtain ⟨hS, hfc, kC, hkC, hkind⟩ := ma_Kn hK hB hc
  obtain ⟨cf, kf', fi, f, hi, hsl⟩ := hS kf hkN
  have hw := ma_lays hK hB hin args
  have hst := (u_facts hfc hkC (u_lays hw (fun _ h => h) hkN) hi).1
  have hval : cell.slots[f.slot]? = some v := by
    rw [hsl, q4 kf hkN]
    simp [vp_V, hv]
  have hkn : cell.vm ≠ .unknown := by rw [q3]; exact fun h => by cases h
  rcases hl with hl | ⟨host, hl⟩
  · exact W.getf hx hb hown (ma_word hK hB hl rfl rfl _) hi hst q1 hkn hval rfl rfl d (kk H locs ls h1 h2 h3 h4)
  · exact va_Wgetf hx hb hown (ma_word hK hB hl rfl rfl _) hi hst q1 hkn hval rfl rfl d (kk H locs ls h1 h2 h3 h4)
theorem m_put {a ci kf index : Nat} {ty : FieldType} {fs : List Value} {v : Value} (C : ma_C G cc nL own fr mc ms lo) (hF : ma_F own index ci kf ty false) (d : decode cc pc = .ok (.putfield index, 3)) (ha : ma_Wr G a) (hm : M a = some (.inl (ci, fs))) (hn : narrow ty v = v) (hf : fits ty v = true) (kk : mj G nL k n (ma_up M a (.inl (ci, fs.set kf v))) (pc + 3) L st) : mj G nL k n M pc L (v :: .ref a :: st) := by
  obtain ⟨D, s0, p, l, e, R, s, m, args, below, meth, c, Q, M0, Wr⟩ := G
  obtain ⟨hx, hb, hml, hown, hlk, hR, hB, hK, hA1, h0⟩ := C
  obtain ⟨Cn, T, N, ty0, hc, hkN, hin, hty, hnm, rfl, hfin, -, hl⟩ := hF
  intro H locs ls h1 h2 h3 h4
  obtain ⟨r, g1, g2, cell, q1, q2, q3, q4⟩ := h1 a _ hm
  have hr : r = (Cn, T, N) := Option.some.inj (g1.symm.trans hc)
  subst hr
  obtain ⟨hS, hfc, kC, hkC, hkind⟩ := ma_Kn hK hB hc
  have hw := ma_lays hK hB hin args
  have hap : ∀ x y, x < N → y < N → x ≠ y → (D.2.1 ci) x ≠ (D.2.1 ci) y := by
    intro x y hx' hy' hne
    obtain ⟨_, _, _, fa, hia, ea⟩ := hS x hx'
    obtain ⟨_, _, _, fb, hib, eb⟩ := hS y hy'
    rw [← ea, ← eb]
    refine u_apart (u_lays hw (fun _ h => h) hx') (u_lays hw (fun _ h => h) hy') hia hib ?_
    rw [(State.fieldFound?_type hia (hty x hx')).1, (State.fieldFound?_type hib (hty y hy')).1]
    exact hnm x hx' y hy' hne
  obtain ⟨cf, kf', fi, f, hi, hsl⟩ := hS kf hkN
  have hst := (u_facts hfc hkC (u_lays hw (fun _ h => h) hkN) hi).1
  have hlay := hw _ (u_in_lay hkN)
  unfold u_lay at hlay
  rw [if_neg (by rw [hfin]; decide)] at hlay
  have h6 := u_store hfc hkC hkind hlay hi (hty kf hkN) hn hf
  have hl9 : kf < fs.length := by rw [g2]; exact hkN
  have goal : ∀ H' : Heap, H'[a]? = some (cell.setSlot f.slot v) → H'.size = H.size → (∀ q : Nat, q ≠ a → H'[q]? = H[q]?) → W p l e R s m args below meth c H' (locs ++ [⟨a, f.slot⟩]) k n Q (F0 m (pc + 3) ls st) := by
    intro H' e1 e2 e3
    rw [hsl] at e1 ⊢
    exact kk H' _ ls (h1.up ⟨_, hc, by rw [List.length_set]; exact g2, t_OB.to (V := updV (vp_V fs) kf v) ⟨_, e1, q2, q3, t_set q4 hap hkN v⟩ (fun j _ => vp_updV_set hl9 v j)⟩ (fun q hq _ => e3 q hq)) (h2.up h0 ha (Or.inl (by rw [hm]; simp))) (h3.put e2 e3 ha) h4
  rcases hl with hl | ⟨-, host, hl⟩
  · exact W.putK hx hb (f := f) ⟨hown, ma_word hK hB hl rfl rfl _, ⟨_, _, _, hi⟩, hst⟩ (by rw [q2]; exact h6) q1 q3 (by rw [hsl]; exact k2_hasslot (q4 kf hkN)) rfl rfl d goal
  · exact va_WputK hx hb (f := f) hown (ma_word hK hB hl rfl rfl _) hi hst (by rw [q2]; exact h6) q1 q3 (by rw [hsl]; exact k2_hasslot (q4 kf hkN)) rfl rfl d goal
/-- the method is a constructor -/
def ma_I (G : ma_G) : Prop := match G with
  | (_, _, _, _, _, _, _, _, _, _, meth, _, _, _) => meth.name = "<init>"
theorem m_putF {a ci kf index : Nat} {ty : FieldType} {fs : List Value} {v : Value} (C : ma_C G cc nL own fr mc ms lo) (hI : ma_I G) (hF : ma_F own index ci kf ty true) (d : decode cc pc = .ok (.putfield index, 3)) (ha : ma_Wr G a) (hm : M a = some (.inl (ci, fs))) (hn : narrow ty v = v) (hf : fits ty v = true) (kk : mj G nL k n (ma_up M a (.inl (ci, fs.set kf v))) (pc + 3) L st) : mj G nL k n M pc L (v :: .ref a :: st) := by
  obtain ⟨D, s0, p, l, e, R, s, m, args, below, meth, c, Q, M0, Wr⟩ := G
  obtain ⟨hx, hb, hml, hown, hlk, hR, hB, hK, hA1, h0⟩ := C
  obtain ⟨Cn, T, N, ty0, hc, hkN, hin, hty, hnm, rfl, hfin, hdecl, hl⟩ := hF
  intro H locs ls h1 h2 h3 h4
  obtain ⟨r, g1, g2, cell, q1, q2, q3, q4⟩ := h1 a _ hm
  have hr : r = (Cn, T, N) := Option.some.inj (g1.symm.trans hc)
  subst hr
  obtain ⟨hS, hfc, kC, hkC, hkind⟩ := ma_Kn hK hB hc
  have hw := ma_lays hK hB hin args
  have hap : ∀ x y, x < N → y < N → x ≠ y → (D.2.1 ci) x ≠ (D.2.1 ci) y := by
    intro x y hx' hy' hne
    obtain ⟨_, _, _, fa, hia, ea⟩ := hS x hx'
    obtain ⟨_, _, _, fb, hib, eb⟩ := hS y hy'
    rw [← ea, ← eb]
    refine u_apart (u_lays hw (fun _ h => h) hx') (u_lays hw (fun _ h => h) hy') hia hib ?_
    rw [(State.fieldFound?_type hia (hty x hx')).1, (State.fieldFound?_type hib (hty y hy')).1]
    exact hnm x hx' y hy' hne
  obtain ⟨cf, kf', fi, f, hi, hsl⟩ := hS kf hkN
  have hst := (u_facts hfc hkC (u_lays hw (fun _ h => h) hkN) hi).1
  have hlay := hw _ (u_in_lay hkN)
  unfold u_lay at hlay
  rw [if_pos hfin] at hlay
  have hcf : m.cls = cf := by
    obtain ⟨_, _, c', _, _, _, -, -, hf', -, -, -, hown2, -⟩ := Cond.laysFinal_spec hlay
    have e1 : c' = cf := by have := hi.symm.trans hf'; simp at this; exact this.1.symm
    rw [hdecl rfl] at hown2
    rw [← e1]; exact Option.some.inj (hown.symm.trans hown2)
  have h6 := u_fits hfc hkC hkind (Or.inr hlay) hi (hty kf hkN) hn hf
  have hl9 : kf < fs.length := by rw [g2]; exact hkN
  rcases hl with hl | ⟨hl, -⟩
  · refine W.putFinK hx hb hown (ma_word hK hB hl rfl rfl _) hi hst hcf hI (by rw [q2]; exact h6) q1 q3 (by rw [hsl]; exact k2_hasslot (q4 kf hkN)) rfl rfl d fun H' e1 e2 e3 => ?_
    rw [hsl] at e1 ⊢
    exact kk H' _ ls (h1.up ⟨_, hc, by rw [List.length_set]; exact g2, t_OB.to (V := updV (vp_V fs) kf v) ⟨_, e1, q2, q3, t_set q4 hap hkN v⟩ (fun j _ => vp_updV_set hl9 v j)⟩ (fun q hq _ => e3 q hq)) (h2.up h0 ha (Or.inl (by rw [hm]; simp))) (h3.put e2 e3 ha) h4
  · cases hl
/-! ===== arrays ===== -/
theorem ma_rd {cA : ClassId} {l : List Value} {j : Nat} {v : Value} (h : l[j]? = some v) : (ma_arr cA l).slots[j]? = some v := by
  show l.toArray[j]? = some v
  rw [List.getElem?_toArray]; exact h
theorem ma_sz {cA : ClassId} {l : List Value} : (ma_arr cA l).slots.size = l.length := by simp [ma_arr]
theorem ma_wr {cA : ClassId} {l : List Value} {j : Nat} {v : Value} : (ma_arr cA l).setSlot j v = ma_arr cA (l.set j v) := by
  simp [ma_arr, Cell.setSlot]
theorem ma_ix {cA : ClassId} {l : List Value} {j : Int32} {v : Value} (hj : ¬ j < 0) (hv : l[j.toNatClampNeg]? = some v) : ¬ (j < 0 ∨ (ma_arr cA l).slots.size ≤ j.toNatClampNeg) := by
  rw [ma_sz]
  rintro (h | h)
  · exact hj h
  · have := (List.getElem?_eq_some_iff.mp hv).1
    omega
theorem ma_ix2 {cA : ClassId} {l : List Value} {j : Int32} (hj : ¬ j < 0) (hv : j.toNatClampNeg < l.length) : ¬ (j < 0 ∨ (ma_arr cA l).slots.size ≤ j.toNatClampNeg) := by
  rw [ma_sz]
  rintro (h | h)
  · exact hj h
  · omega
theorem m_iald {a : Nat} {l : List Value} {j : Int32} {v : Value} (C : ma_C G cc nL own fr mc ms lo) (d : decode cc pc = .ok (.iaload, 1)) (hm : M a = some (.inr (.int, l))) (ht : FieldType.int ∈ kty) (hj : ¬ j < 0) (hv : l[j.toNatClampNeg]? = some v) (kk : mj G nL k n M (pc + 1) L (v :: st)) : mj G nL k n M pc L (.int j :: .ref a :: st) := by
  obtain ⟨D, s0, p, l', e, R, s, m, args, below, meth, c, Q, M0, Wr⟩ := G
  obtain ⟨hx, hb, hml, hown, hlk, hR, hB, hK, hA1, h0⟩ := C
  exact fun H locs ls h1 h2 h3 h4 => W.iald hx hb (h1 a _ hm) (ma_isArr (ma_Kt hK hB ht).1 l) (fun q => by cases q) (ma_ix hj hv) (ma_rd hv) rfl rfl d (kk H locs ls h1 h2 h3 h4)
theorem m_cald {a : Nat} {l : List Value} {j : Int32} {v : Value} (C : ma_C G cc nL own fr mc ms lo) (d : decode cc pc = .ok (.caload, 1)) (hm : M a = some (.inr (.char, l))) (ht : FieldType.char ∈ kty) (hj : ¬ j < 0) (hv : l[j.toNatClampNeg]? = some v) (kk : mj G nL k n M (pc + 1) L (v :: st)) : mj G nL k n M pc L (.int j :: .ref a :: st) := by
  obtain ⟨D, s0, p, l', e, R, s, m, args, below, meth, c, Q, M0, Wr⟩ := G
  obtain ⟨hx, hb, hml, hown, hlk, hR, hB, hK, hA1, h0⟩ := C
  exact fun H locs ls h1 h2 h3 h4 => W.cald hx hb (h1 a _ hm) (ma_isArr (ma_Kt hK hB ht).1 l) (fun q => by cases q) (ma_ix hj hv) (ma_rd hv) rfl rfl d (kk H locs ls h1 h2 h3 h4)
theorem m_lald {a : Nat} {l : List Value} {j : Int32} {v : Value} (C : ma_C G cc nL own fr mc ms lo) (d : decode cc pc = .ok (.laload, 1)) (hm : M a = some (.inr (.long, l))) (ht : FieldType.long ∈ kty) (hj : ¬ j < 0) (hv : l[j.toNatClampNeg]? = some v) (kk : mj G nL k n M (pc + 1) L (v :: st)) : mj G nL k n M pc L (.int j :: .ref a :: st) := by
  obtain ⟨D, s0, p, l', e, R, s, m, args, below, meth, c, Q, M0, Wr⟩ := G
  obtain ⟨hx, hb, hml, hown, hlk, hR, hB, hK, hA1, h0⟩ := C
  exact fun H locs ls h1 h2 h3 h4 => W.lald hx hb (h1 a _ hm) (ma_isArr (ma_Kt hK hB ht).1 l) (fun q => by cases q) (ma_ix hj hv) (ma_rd hv) rfl rfl d (kk H locs ls h1 h2 h3 h4)
theorem m_zald {a : Nat} {l : List Value} {j : Int32} {v : Value} (C : ma_C G cc nL own fr mc ms lo) (d : decode cc pc = .ok (.baload, 1)) (hm : M a = some (.inr (.boolean, l))) (ht : FieldType.boolean ∈ kty) (hj : ¬ j < 0) (hv : l[j.toNatClampNeg]? = some v) (kk : mj G nL k n M (pc + 1) L (v :: st)) : mj G nL k n M pc L (.int j :: .ref a :: st) := by
  obtain ⟨D, s0, p, l', e, R, s, m, args, below, meth, c, Q, M0, Wr⟩ := G
  obtain ⟨hx, hb, hml, hown, hlk, hR, hB, hK, hA1, h0⟩ := C
  exact fun H locs ls h1 h2 h3 h4 => W.zald hx hb (h1 a _ hm) (ma_isArr (ma_Kt hK hB ht).1 l) (fun q => by cases q) (ma_ix hj hv) (ma_rd hv) rfl rfl d (kk H locs ls h1 h2 h3 h4)
theorem m_aald {a : Nat} {l : List Value} {ty : FieldType} {j : Int32} {v : Value} (C : ma_C G cc nL own fr mc ms lo) (d : decode cc pc = .ok (.aaload, 1)) (hm : M a = some (.inr (ty, l))) (ht : ty ∈ kty) (hr : ty.isReference = true) (hj : ¬ j < 0) (hv : l[j.toNatClampNeg]? = some v) (kk : mj G nL k n M (pc + 1) L (v :: st)) : mj G nL k n M pc L (.int j :: .ref a :: st) := by
  obtain ⟨D, s0, p, l', e, R, s, m, args, below, meth, c, Q, M0, Wr⟩ := G
  obtain ⟨hx, hb, hml, hown, hlk, hR, hB, hK, hA1, h0⟩ := C
  exact fun H locs ls h1 h2 h3 h4 => W.aald hx hb (h1 a _ hm) (ma_isArr (ma_Kt hK hB ht).1 l) hr (fun q => by cases q) (ma_ix hj hv) (ma_rd hv) rfl rfl d (kk H locs ls h1 h2 h3 h4)
theorem m_alen {a : Nat} {l : List Value} {ty : FieldType} (C : ma_C G cc nL own fr mc ms lo) (d : decode cc pc = .ok (.arraylength, 1)) (hm : M a = some (.inr (ty, l))) (ht : ty ∈ kty) (kk : mj G nL k n M (pc + 1) L (.int (nI l.length) :: st)) : mj G nL k n M pc L (.ref a :: st) := by
  obtain ⟨D, s0, p, l', e, R, s, m, args, below, meth, c, Q, M0, Wr⟩ := G
  obtain ⟨hx, hb, hml, hown, hlk, hR, hB, hK, hA1, h0⟩ := C
  exact fun H locs ls h1 h2 h3 h4 => W.alen (n := nI l.length) hx hb (h1 a _ hm) (ma_isArr (ma_Kt hK hB ht).1 l) (by rw [ma_sz]; rfl) rfl rfl d (kk H locs ls h1 h2 h3 h4)
theorem m_iast {a : Nat} {l : List Value} {j x : Int32} (C : ma_C G cc nL own fr mc ms lo) (d : decode cc pc = .ok (.iastore, 1)) (ha : ma_Wr G a) (hm : M a = some (.inr (.int, l))) (ht : FieldType.int ∈ kty) (hj : ¬ j < 0) (hv : j.toNatClampNeg < l.length) (kk : mj G nL k n (ma_up M a (.inr (.int, l.set j.toNatClampNeg (.int x)))) (pc + 1) L st) : mj G nL k n M pc L (.int x :: .int j :: .ref a :: st) := by
  obtain ⟨D, s0, p, l', e, R, s, m, args, below, meth, c, Q, M0, Wr⟩ := G
  obtain ⟨hx, hb, hml, hown, hlk, hR, hB, hK, hA1, h0⟩ := C
  exact fun H locs ls h1 h2 h3 h4 => W.iast hx hb (h1 a _ hm) (ma_isArr (ma_Kt hK hB ht).1 l) (fun q => by cases q) (ma_ix2 hj hv) rfl rfl d fun H' e1 e2 e3 => kk H' _ ls (h1.up (show H'[a]? = some (ma_arr _ _) by rw [e1, ma_wr]) (fun q hq _ => e3 q hq)) (h2.up h0 ha (Or.inl (by rw [hm]; simp))) (h3.put e2 e3 ha) h4
theorem m_last {a : Nat} {l : List Value} {j : Int32} {x : Int64} (C : ma_C G cc nL own fr mc ms lo) (d : decode cc pc = .ok (.lastore, 1)) (ha : ma_Wr G a) (hm : M a = some (.inr (.long, l))) (ht : FieldType.long ∈ kty) (hj : ¬ j < 0) (hv : j.toNatClampNeg < l.length) (kk : mj G nL k n (ma_up M a (.inr (.long, l.set j.toNatClampNeg (.long x)))) (pc + 1) L st) : mj G nL k n M pc L (.long x :: .int j :: .ref a :: st) := by
  obtain ⟨D, s0, p, l', e, R, s, m, args, below, meth, c, Q, M0, Wr⟩ := G
  obtain ⟨hx, hb, hml, hown, hlk, hR, hB, hK, hA1, h0⟩ := C
  exact fun H locs ls h1 h2 h3 h4 => W.last hx hb (h1 a _ hm) (ma_isArr (ma_Kt hK hB ht).1 l) (fun q => by cases q) (ma_ix2 hj hv) rfl rfl d fun H' e1 e2 e3 => kk H' _ ls (h1.up (show H'[a]? = some (ma_arr _ _) by rw [e1, ma_wr]) (fun q hq _ => e3 q hq)) (h2.up h0 ha (Or.inl (by rw [hm]; simp))) (h3.put e2 e3 ha) h4
theorem m_cast {a : Nat} {l : List Value} {j x : Int32} (C : ma_C G cc nL own fr mc ms lo) (d : decode cc pc = .ok (.castore, 1)) (ha : ma_Wr G a) (hm : M a = some (.inr (.char, l))) (ht : FieldType.char ∈ kty) (hj : ¬ j < 0) (hv : j.toNatClampNeg < l.length) (hx9 : narrow .char (.int x) = .int x) (kk : mj G nL k n (ma_up M a (.inr (.char, l.set j.toNatClampNeg (.int x)))) (pc + 1) L st) : mj G nL k n M pc L (.int x :: .int j :: .ref a :: st) := by
  obtain ⟨D, s0, p, l', e, R, s, m, args, below, meth, c, Q, M0, Wr⟩ := G
  obtain ⟨hx, hb, hml, hown, hlk, hR, hB, hK, hA1, h0⟩ := C
  exact fun H locs ls h1 h2 h3 h4 => W.cast hx hb (h1 a _ hm) (ma_isArr (ma_Kt hK hB ht).1 l) (fun q => by cases q) (ma_ix2 hj hv) rfl rfl d fun H' e1 e2 e3 => kk H' _ ls (h1.up (show H'[a]? = some (ma_arr _ _) by rw [e1, hx9, ma_wr]) (fun q hq _ => e3 q hq)) (h2.up h0 ha (Or.inl (by rw [hm]; simp))) (h3.put e2 e3 ha) h4
theorem m_zast {a : Nat} {l : List Value} {j x : Int32} (C : ma_C G cc nL own fr mc ms lo) (d : decode cc pc = .ok (.bastore, 1)) (ha : ma_Wr G a) (hm : M a = some (.inr (.boolean, l))) (ht : FieldType.boolean ∈ kty) (hj : ¬ j < 0) (hv : j.toNatClampNeg < l.length) (hx9 : narrow .boolean (.int x) = .int x) (kk : mj G nL k n (ma_up M a (.inr (.boolean, l.set j.toNatClampNeg (.int x)))) (pc + 1) L st) : mj G nL k n M pc L (.int x :: .int j :: .ref a :: st) := by
  obtain ⟨D, s0, p, l', e, R, s, m, args, below, meth, c, Q, M0, Wr⟩ := G
  obtain ⟨hx, hb, hml, hown, hlk, hR, hB, hK, hA1, h0⟩ := C
  exact fun H locs ls h1 h2 h3 h4 => W.zast hx hb (h1 a _ hm) (ma_isArr (ma_Kt hK hB ht).1 l) (fun q => by cases q) (ma_ix2 hj hv) rfl rfl d fun H' e1 e2 e3 => kk H' _ ls (h1.up (show H'[a]? = some (ma_arr _ _) by rw [e1, hx9, ma_wr]) (fun q hq _ => e3 q hq)) (h2.up h0 ha (Or.inl (by rw [hm]; simp))) (h3.put e2 e3 ha) h4
/-- a reference to an object of class number ci into an array of that class -/
theorem m_aast {a b ci : Nat} {l fs : List Value} {r : vw_C} {j : Int32} (C : ma_C G cc nL own fr mc ms lo) (d : decode cc pc = .ok (.aastore, 1)) (ha : ma_Wr G a) (hm : M a = some (.inr (.object r.1, l))) (ht : FieldType.object r.1 ∈ kty) (hb9 : M b = some (.inl (ci, fs))) (hc : kcl[ci]? = some r) (hj : ¬ j < 0) (hv : j.toNatClampNeg < l.length) (kk : mj G nL k n (ma_up M a (.inr (.object r.1, l.set j.toNatClampNeg (.ref b)))) (pc + 1) L st) : mj G nL k n M pc L (.ref b :: .int j :: .ref a :: st) := by
  obtain ⟨D, s0, p, l', e, R, s, m, args, below, meth, c, Q, M0, Wr⟩ := G
  obtain ⟨hx, hb, hml, hown, hlk, hR, hB, hK, hA1, h0⟩ := C
  intro H locs ls h1 h2 h3 h4
  obtain ⟨r', hr', -, cellV, g1, g2, g3, -⟩ := h1 b _ hb9
  have hcls := (ma_Kn hK hB hc).2
  obtain ⟨kA, comp, k1, k2, k3, -⟩ := (ma_Kt hK hB ht).2
  have hcomp : comp = D.1 ci := Option.some.inj (k3.symm.trans hcls.1)
  subst hcomp
  obtain ⟨kC, hkC, hkd⟩ := id hcls.2
  exact W.aast hx hb (h1 a _ hm) (fun q h => by cases h) (fun h => by cases h) k1 k2 rfl hkC ⟨hj, by rw [ma_sz]; exact hv⟩ g1 (fun q h => by rw [g3] at h; cases h) (by rw [g2]; exact hkC) (by rw [g2]; exact va_assign hcls) rfl rfl d fun H' e1 e2 e3 => kk H' _ ls (h1.up (show H'[a]? = some (ma_arr _ _) by rw [e1, ma_wr]) (fun q hq _ => e3 q hq)) (h2.up h0 ha (Or.inl (by rw [hm]; simp))) (h3.put e2 e3 ha) h4
/-! ===== new cells ===== -/
theorem m_new {ci index : Nat} {Cn : String} {T : u_T} {N : Nat} {ty0 : Nat → FieldType} (fs : List Value) (C : ma_C G cc nL own fr mc ms lo) (d : decode cc pc = .ok (.new index, 3)) (hc : kcl[ci]? = some (Cn, T, N)) (hin : ∀ w ∈ u_ws Cn T N, w ∈ lw_tbl) (hty : ∀ q, q < N → parseFieldDescriptor (T q).2.2.1 = some (ty0 q)) (w1 : Cond.classLink own index Cn ∈ lw_tbl) (w2 : Cond.instantiable Cn N ∈ lw_tbl) (w3 : Cond.initialized Cn ∈ lw_tbl) (hfl : fs.length = N) (hfs : ∀ j, j < N → defaultValue (ty0 j) = vp_V fs j) (hk : k + 1 ≤ mc) (hn : n + N ≤ ms)
    (kk : ∀ a : Nat, M a = none → ma_Wr G a → mj G nL (k + 1) (n + N) (ma_up M a (.inl (ci, fs))) (pc + 3) L (.ref a :: st)) : mj G nL k n M pc L st := by
  obtain ⟨D, s0, p, l, e, R, s, m, args, below, meth, c, Q, M0, Wr⟩ := G
  obtain ⟨hx, hb, hml, hown, hlk, rfl, hB, hK, hA1, h0⟩ := C
  intro H locs ls h1 h2 h3 h4
  have hKn := ma_Kn hK hB hc
  have hw := ma_lays hK hB hin args
  have hno : M H.size = none := by
    cases hq : M H.size with
    | none => rfl
    | some x => exact absurd (h1 _ _ hq).lt (Nat.lt_irrefl _)
  refine W.newcK hx hb hown (ma_word hK hB w1 rfl rfl _) (ma_word hK hB w2 rfl rfl _) (ma_word hK hB w3 rfl rfl _) rfl d hk hn hKn.2.1 rfl fun H1 kC hkC e1 z1 o1 => ?_
  have ha : Wr H.size ∨ s.heap.size ≤ H.size := Or.inr h3.1
  refine kk H.size hno ha H1 locs ls (h1.up ⟨_, hc, hfl, (u_born ty0 hw (fun _ h => h) hKn hkC e1 hty).to hfs⟩ (fun q _ hq => o1 q hq)) (h2.up h0 ha (Or.inr h3.1)) ⟨Nat.le_trans h3.1 (by omega), fun x g1 g2 => (o1 x (Nat.lt_of_lt_of_le g1 h3.1)).trans (h3.2.1 x g1 g2), h3.2.2⟩ h4
theorem m_newa {at9 : ArrayType} {ty : FieldType} {x : Int32} {N : Nat} (C : ma_C G cc nL own fr mc ms lo) (d : decode cc pc = .ok (.newarray at9, 2)) (hty : newarray.typeOf at9 = ty) (ht : ty ∈ kty) (w1 : Cond.arrayClass ty ∈ lw_tbl) (hobj : ∀ Cn : String, ty ≠ .object Cn) (hx0 : ¬ x < 0) (hN : x.toNatClampNeg = N) (hbytes : N * componentBytes ty ≤ 536870912) (hk : k + 1 ≤ mc) (hn : n + N ≤ ms)
    (kk : ∀ a : Nat, M a = none → ma_Wr G a → mj G nL (k + 1) (n + N) (ma_up M a (.inr (ty, List.replicate N (defaultValue ty)))) (pc + 2) L (.ref a :: st)) : mj G nL k n M pc L (.int x :: st) := by
  obtain ⟨D, s0, p, l, e, R, s, m, args, below, meth, c, Q, M0, Wr⟩ := G
  obtain ⟨hx, hb, hml, hown, hlk, rfl, hB, hK, hA1, h0⟩ := C
  subst hty
  intro H locs ls h1 h2 h3 h4
  have hno : M H.size = none := by
    cases hq : M H.size with
    | none => rfl
    | some x => exact absurd (h1 _ _ hq).lt (Nat.lt_irrefl _)
  have harr : (Cond.arrayClass (newarray.typeOf at9)).before args s = true := by
    obtain ⟨a0, h⟩ := hK.2.1
    exact Cond.before_shiftedFace (State.Shifted.of_warmed hB.1) _ rfl (h _ w1)
  refine va_newaK hx hb harr rfl d rfl hx0 hN hbytes hk hn rfl fun H1 cA e1 z1 o1 hAr hNm => ?_
  have ha : Wr H.size ∨ s.heap.size ≤ H.size := Or.inr h3.1
  have hcA : cA = D.2.2 (newarray.typeOf at9) := by
    have h5 := (ma_Kt hK hB ht).2
    cases at9 <;> exact Option.some.inj (hNm.symm.trans h5)
  have hcell : H1[H.size]? = some (ma_arr (D.2.2 (newarray.typeOf at9)) (List.replicate N (defaultValue (newarray.typeOf at9)))) := by
    rw [e1, ← arrV_new, hcA]
    simp [ma_arr]
  exact kk H.size hno ha H1 locs ls (h1.up hcell (fun q _ hq => o1 q hq)) (h2.up h0 ha (Or.inr h3.1)) ⟨Nat.le_trans h3.1 (by omega), fun x g1 g2 => (o1 x (Nat.lt_of_lt_of_le g1 h3.1)).trans (h3.2.1 x g1 g2), h3.2.2⟩ h4
theorem m_anew {index : Nat} {Cn : String} {x : Int32} {N : Nat} (C : ma_C G cc nL own fr mc ms lo) (d : decode cc pc = .ok (.anewarray index, 3)) (ht : FieldType.object Cn ∈ kty) (w1 : Cond.classLink own index Cn ∈ lw_tbl) (w2 : Cond.arrayOver (.object Cn) ∈ lw_tbl) (hx0 : ¬ x < 0) (hN : x.toNatClampNeg = N) (hbytes : N * 4 ≤ 536870912) (hk : k + 1 ≤ mc) (hn : n + N ≤ ms)
    (kk : ∀ a : Nat, M a = none → ma_Wr G a → mj G nL (k + 1) (n + N) (ma_up M a (.inr (.object Cn, List.replicate N .null))) (pc + 3) L (.ref a :: st)) : mj G nL k n M pc L (.int x :: st) := by
  obtain ⟨D, s0, p, l, e, R, s, m, args, below, meth, c, Q, M0, Wr⟩ := G
  obtain ⟨hx, hb, hml, hown, hlk, rfl, hB, hK, hA1, h0⟩ := C
  subst hN
  intro H locs ls h1 h2 h3 h4
  have hno : M H.size = none := by
    cases hq : M H.size with
    | none => rfl
    | some x => exact absurd (h1 _ _ hq).lt (Nat.lt_irrefl _)
  have hover : (Cond.arrayOver (.object Cn)).before args s = true := by
    obtain ⟨a0, h⟩ := hK.2.1
    exact va_AO.use (va_AO.moved hB.1.alike (va_AO.of (h _ w2)))
  refine W.anew hx hb hown (ma_word hK hB w1 rfl rfl _) hover rfl d rfl hx0 hbytes hk hn fun cA kA comp f1 f2 f3 f4 => ?_
  have ha : Wr H.size ∨ s.heap.size ≤ H.size := Or.inr h3.1
  have hcA : cA = D.2.2 (.object Cn) := by
    obtain ⟨kA', comp', -, -, -, h5⟩ := (ma_Kt hK hB ht).2
    exact Option.some.inj (f1.symm.trans h5)
  generalize hH1 : H.push ({ cls := cA, slots := Array.replicate x.toNatClampNeg .null, vm := .none } : Cell) = H1
  have z1 : H1.size = H.size + 1 := by rw [← hH1, Array.size_push]
  have e1 : H1[H.size]? = some (ma_arr (D.2.2 (.object Cn)) (List.replicate x.toNatClampNeg .null)) := by
    rw [← hH1, Array.getElem?_push_size, ← hcA]
    simp [ma_arr]
  have o1 : ∀ q : Nat, q < H.size → H1[q]? = H[q]? := fun q hq => by rw [← hH1, Array.getElem?_push, if_neg (Nat.ne_of_lt hq)]
  exact kk H.size hno ha H1 locs ls (h1.up e1 (fun q _ hq => o1 q hq)) (h2.up h0 ha (Or.inr h3.1)) ⟨Nat.le_trans h3.1 (by omega), fun x g1 g2 => (o1 x (Nat.lt_of_lt_of_le g1 h3.1)).trans (h3.2.1 x g1 g2), h3.2.2⟩ h4
end
end
section
/-! ===== contracts: any heap that holds these cells; the whole of it goes in, the whole of it comes out ===== -/
def ma_Pc (D : ma_D) (s0 : State) (av : List Value) (M : ma_H) (sz : Nat) : Array Value → State → Prop := fun v U => v = av.toArray ∧ U.heap.size = sz ∧ ma_P D M U.heap ∧ ma_B s0 U
def ma_Qc (D : ma_D) (M : ma_H) (Wr : Nat → Prop) (sz : Nat) (post : Option Value → ma_H → Prop) : Array Value → State → Outcome → State → Prop := fun _ st oc t => ∃ (r : Option Value) (M' : ma_H), oc = .returned r ∧ post r M' ∧ ma_P D M' t.heap ∧ ma_V M Wr sz M' ∧ va_F (ma_A0 Wr sz) st t
/-- y, called with av where the heap holds M: returns, with 'post' of its answer and of what the heap holds then; of the old cells it writes those of Wr alone -/
def Ct (l : Launch) (D : ma_D) (s0 : State) (y : MethodName) (cc : ByteArray) (nL : Nat) (ret : Option FieldType) (fr mc ms lo : Nat) (av : List Value) (M : ma_H) (Wr : Nat → Prop) (post : Option Value → ma_H → Prop) : Prop :=
  ma_K D s0 l → (∀ q : Nat, Wr q → s0.heap.size ≤ q) → ∀ sz : Nat, s0.heap.size ≤ sz → Met l y [Cond.code y cc nL ret] { frames := fr, cells := mc, slots := ms, locals := lo } (ma_Pc D s0 av M sz) (ma_Qc D M Wr sz post) mc ms (ma_A0 Wr sz)
theorem ma_blind {D : ma_D} {s0 : State} {av : List Value} {M : ma_H} {sz : Nat} : FrameBlind (ma_Pc D s0 av M sz) := fun _ _ _ _ h => h
theorem ma_Bcall {s0 s U : State} {Wr : Nat → Prop} {H : Heap} {locs : List Loc} (hB : ma_B s0 s) (hA1 : ∀ q : Nat, Wr q → s0.heap.size ≤ q) (h3 : va_S (ma_A0 Wr s.heap.size) s.heap H locs) (hU : U.heap = H) (hW : s.WarmedH U.vm) : ma_B s0 U := by
  refine ⟨State.WarmedH.trans hB.1 hW, by rw [hU]; exact Nat.le_trans hB.2.1 h3.1, fun q hq => ?_⟩
  have h5 := hB.2.1
  rw [hU, h3.2.1 q (Nat.lt_of_lt_of_le hq hB.2.1) (fun z => z.elim (fun z => absurd (hA1 q z) (by omega)) (fun z => by omega))]
  exact hB.2.2 q hq
theorem ma_V.call {M0 M M' : ma_H} {Wr Wr' : Nat → Prop} {sz sz' : Nat} (h : ma_V M0 Wr sz M) (h' : ma_V M Wr' sz' M') (h0 : ∀ q : Nat, M0 q ≠ none → q < sz) (hW : ∀ q : Nat, Wr' q → Wr q ∨ sz ≤ q) (hz : sz ≤ sz') : ma_V M0 Wr sz M' := by
  refine ⟨fun q h1 h2 => ?_, fun q h1 h2 => ?_⟩
  · have e1 := h.1 q h1 h2
    rw [h'.1 q (by rw [e1]; exact h1) (fun z => (hW q z).elim h2 (fun y => by have := h0 q h1; omega))]
    exact e1
  · by_cases hq : M q = none
    · exact Nat.le_trans hz (h'.2 q hq h2)
    · exact h.2 q h1 hq
/-- the words of a call -/
def ma_w (own : String) (index : Nat) (y : MethodName) (bytes : ByteArray) (maxL : Nat) (ret : Option FieldType) (nA : Nat) : Prop := (Cond.methodLink own index y ∈ lw_tbl ∨ ∃ host : String, Cond.methodLinkNest own index y host ∈ lw_tbl) ∧ Cond.initialized y.cls ∈ lw_tbl ∧ Cond.code y bytes maxL ret ∈ lw_tbl ∧ (y.cls ≠ "java/lang/invoke/MethodHandle" ∧ y.cls ≠ "java/lang/invoke/VarHandle") ∧ (parseMethodDescriptor y.desc).map (fun d => d.parameters.length) = some nA
theorem ma_nA {y : MethodName} {nA : Nat} (h : (parseMethodDescriptor y.desc).map (fun d => d.parameters.length) = some nA) : ∀ sig, parseMethodDescriptor y.desc = some sig → nA = sig.parameters.length := by
  intro sig q
  rw [q] at h
  exact (Option.some.inj h).symm
theorem ma_ws {s : State} {args : Array Value} {y : MethodName} {bytes : ByteArray} {maxL : Nat} {ret : Option FieldType} (h : (Cond.code y bytes maxL ret).before args s = true) : ∀ w ∈ [Cond.code y bytes maxL ret], ∀ (a' : Array Value) (U : State), s.WarmedH U.vm → w.before a' U = true := by
  intro w hw a' U hW
  rw [List.mem_singleton] at hw
  subst hw
  exact word_at hW (Or.inl rfl) h
section
variable {G : ma_G} {cc : ByteArray} {own : String} {nL fr mc ms lo k n : Nat} {M : ma_H} {pc : Nat} {L : List (Option Value)} {st : List Value}
theorem ma_cont {D : ma_D} {s0 : State} {p : Program} {l : Launch} {e : Env} {R : Room} {s : State} {m : MethodId} {args : Array Value} {below : List Frame} {meth : Method} {c : Code} {Q : State → Prop} {M0 : ma_H} {Wr Wr' : Nat → Prop} {H : Heap} {locs : List Loc} {ls : Array Slot} {mc' ms' : Nat} {st0 rest : List Value} {a : Array Value} {post : Option Value → ma_H → Prop}
    (h0 : ∀ q : Nat, M0 q ≠ none → q < s.heap.size) (hW : ∀ q : Nat, Wr' q → Wr q ∨ s.heap.size ≤ q) (h2 : ma_V M0 Wr s.heap.size M) (h3 : va_S (ma_A0 Wr s.heap.size) s.heap H locs) (h4 : ma_L nL L ls)
    (hr : va_Run p l e R s m args below meth c H locs k n mc' ms' (F0 m pc ls st0) rest (ma_Qc D M Wr' H.size post a) (ma_A0 Wr' H.size))
    (kk : ∀ (r : Option Value) (M' : ma_H), post r M' → (∀ q : Nat, M q ≠ none → ¬ Wr' q → M' q = M q) → (∀ q : Nat, M q = none → M' q ≠ none → Wr q ∨ s.heap.size ≤ q) → mj (D, s0, p, l, e, R, s, m, args, below, meth, c, Q, M0, Wr) nL (k + mc') (n + ms') M' (pc + 3) L (r.toList ++ rest)) : W p l e R s m args below meth c H locs k n Q (F0 m pc ls st0) := by
  have hA : ∀ q : Nat, ma_A0 Wr' H.size q → ma_A0 Wr s.heap.size q := fun q h => h.elim (hW q) (fun z => Or.inr (Nat.le_trans h3.1 z))
  intro T hT X
  obtain ⟨v, st₀, t, T', L', e0, X', hL, e1, e2, ⟨r, M', hv, hp, hP', hd', hz, hkp⟩, stp⟩ := hr T hT X
  cases hv
  rw [e0] at hz hkp
  obtain ⟨t2, a1, b1⟩ := kk _ M' hp hd'.1 (fun q z1 z2 => Or.inr (Nat.le_trans h3.1 (hd'.2 q z1 z2))) T'.heap (locs ++ L') ls (by rw [e1]; exact hP') (h2.call hd' h0 hW h3.1)
    ⟨Nat.le_trans h3.1 (by rw [e1]; exact hz), fun q g1 g2 => by rw [e1, hkp q (Nat.lt_of_lt_of_le g1 h3.1) (fun z => g2 (hA q z))]; exact h3.2.1 q g1 g2, fun q hq => by
      rcases List.mem_append.mp hq with h | h
      · exact h3.2.2 q h
      · exact hA _ (hL q h)⟩ h4 T' rfl X'
  exact ⟨t2, stp t2 a1, b1⟩
theorem m_callV {index maxL fr' mc' ms' lo' nA b ci : Nat} {y : MethodName} {bytes : ByteArray} {ret : Option FieldType} {As rest fs : List Value} {r : vw_C} {Wr' : Nat → Prop} {post : Option Value → ma_H → Prop} (C : ma_C G cc nL own fr mc ms lo) (d : decode cc pc = .ok (.invokevirtual index, 3)) (hw : ma_w own index y bytes maxL ret nA) (hi : Cond.instanceMethod y ∈ lw_tbl) (hs : Cond.selects r.1 y y ∈ lw_tbl) (hc : kcl[ci]? = some r) (hM : Ct G.2.2.2.1 G.1 G.2.1 y bytes maxL ret fr' mc' ms' lo' (.ref b :: As) M Wr' post) (hWr : ∀ q : Nat, Wr' q → ma_Wr G q) (hnA : As.length = nA) (hst : st = As.reverse ++ .ref b :: rest) (hrs : (rest.map fun v => v.category).sum ≤ 8) (hm : M b = some (.inl (ci, fs))) (hnum : (fr' + 1 ≤ fr ∧ 8 + (maxL + 11) + lo' ≤ lo) ∧ k + mc' ≤ mc ∧ n + ms' ≤ ms)
    (kk : ∀ (v : Option Value) (M' : ma_H), post v M' → (∀ q : Nat, M q ≠ none → ¬ Wr' q → M' q = M q) → (∀ q : Nat, M q = none → M' q ≠ none → ma_Wr G q) → mj G nL (k + mc') (n + ms') M' (pc + 3) L (v.toList ++ rest)) : mj G nL k n M pc L st := by
  obtain ⟨D, s0, p, l, e, R, s, m, args, below, meth, c, Q, M0, Wr⟩ := G
  obtain ⟨hx, hb, hml, hown, hlk, rfl, hB, hK, hA1, h0⟩ := C
  subst hst
  intro H locs ls h1 h2 h3 h4
  obtain ⟨hl, w2, w3, hy, hpn⟩ := hw
  have hMet := hM hK (fun q z => (hWr q z).elim (hA1 q) (fun y => Nat.le_trans hB.2.1 y)) H.size (Nat.le_trans hB.2.1 h3.1)
  have hco := ma_word hK hB w3 rfl rfl args
  obtain ⟨r', g1, -, cell, q1, q2, q3, -⟩ := h1 b _ hm
  have hpv : PreV s H r.1 b (ma_Pc D s0 (.ref b :: As) M H.size) As := ⟨ma_blind, ⟨cell, q1, by rw [q3]; rfl, by rw [q2]; exact (ma_Kn hK hB hc).2.1⟩, fun U hU hW => ⟨rfl, by rw [hU], by rw [hU]; exact h1, ma_Bcall hB hA1 h3 hU hW⟩⟩
  have hroom : 2 * (F0 m pc ls (As.reverse ++ .ref b :: rest)).monitorRoom + (rest.map fun v => v.category).sum ≤ 8 := lv_room hrs
  rcases hl with hl | ⟨host, hl⟩
  · exact ma_cont h0 hWr h2 h3 h4 (va_runV (Ts := []) ⟨hx, hb, hml, hown, fun w hw => by cases hw⟩ hMet ⟨⟨rfl, rfl, hnum.1.1, hnum.1.2, ma_ws hco, List.mem_cons_self, hco, ma_word hK hB w2 rfl rfl _, hy, ma_nA hpn, ma_word hK hB hl rfl rfl _⟩, ma_word hK hB hi rfl rfl _, ma_word hK hB hs rfl rfl _⟩ hpv rfl hnA h4.1 rfl hroom d hnum.2) kk
  · exact ma_cont h0 hWr h2 h3 h4 (va_runVN (Ts := []) (host := host) ⟨hx, hb, hml, hown, fun w hw => by cases hw⟩ hMet ⟨⟨⟨rfl, rfl, hnum.1.1, hnum.1.2, ma_ws hco, List.mem_cons_self⟩, hco, ma_word hK hB w2 rfl rfl _, hy, ma_nA hpn, ma_word hK hB hl rfl rfl _⟩, ma_word hK hB hi rfl rfl _, ma_word hK hB hs rfl rfl _⟩ hpv rfl hnA h4.1 rfl hroom d hnum.2) kk
theorem m_callS {index maxL fr' mc' ms' lo' nA : Nat} {y : MethodName} {bytes : ByteArray} {ret : Option FieldType} {As rest : List Value} {Wr' : Nat → Prop} {post : Option Value → ma_H → Prop} (C : ma_C G cc nL own fr mc ms lo) (d : decode cc pc = .ok (.invokestatic index, 3)) (hw : ma_w own index y bytes maxL ret nA) (hi : Cond.static y ∈ lw_tbl) (hM : Ct G.2.2.2.1 G.1 G.2.1 y bytes maxL ret fr' mc' ms' lo' As M Wr' post) (hWr : ∀ q : Nat, Wr' q → ma_Wr G q) (hnA : As.length = nA) (hst : st = As.reverse ++ rest) (hrs : (rest.map fun v => v.category).sum ≤ 8) (hnum : (fr' + 1 ≤ fr ∧ 8 + (maxL + 11) + lo' ≤ lo) ∧ k + mc' ≤ mc ∧ n + ms' ≤ ms)
    (kk : ∀ (v : Option Value) (M' : ma_H), post v M' → (∀ q : Nat, M q ≠ none → ¬ Wr' q → M' q = M q) → (∀ q : Nat, M q = none → M' q ≠ none → ma_Wr G q) → mj G nL (k + mc') (n + ms') M' (pc + 3) L (v.toList ++ rest)) : mj G nL k n M pc L st := by
  obtain ⟨D, s0, p, l, e, R, s, m, args, below, meth, c, Q, M0, Wr⟩ := G
  obtain ⟨hx, hb, hml, hown, hlk, rfl, hB, hK, hA1, h0⟩ := C
  subst hst
  intro H locs ls h1 h2 h3 h4
  obtain ⟨hl, w2, w3, hy, hpn⟩ := hw
  have hMet := hM hK (fun q z => (hWr q z).elim (hA1 q) (fun y => Nat.le_trans hB.2.1 y)) H.size (Nat.le_trans hB.2.1 h3.1)
  have hco := ma_word hK hB w3 rfl rfl args
  have hpv : PreS s H (ma_Pc D s0 As M H.size) As := ⟨ma_blind, fun U hU hW => ⟨rfl, by rw [hU], by rw [hU]; exact h1, ma_Bcall hB hA1 h3 hU hW⟩⟩
  have hroom : 2 * (F0 m pc ls (As.reverse ++ rest)).monitorRoom + (rest.map fun v => v.category).sum ≤ 8 := lv_room hrs
  rcases hl with hl | ⟨host, hl⟩
  · exact ma_cont h0 hWr h2 h3 h4 (va_runS (Ts := []) ⟨hx, hb, hml, hown, fun w hw => by cases hw⟩ hMet ⟨⟨rfl, rfl, hnum.1.1, hnum.1.2, ma_ws hco, List.mem_cons_self, hco, ma_word hK hB w2 rfl rfl _, hy, ma_nA hpn, ma_word hK hB hl rfl rfl _⟩, ma_word hK hB hi rfl rfl _⟩ hpv rfl hnA h4.1 rfl hroom d hnum.2) kk
  · exact ma_cont h0 hWr h2 h3 h4 (va_runSN (Ts := []) (host := host) ⟨hx, hb, hml, hown, fun w hw => by cases hw⟩ hMet ⟨⟨⟨rfl, rfl, hnum.1.1, hnum.1.2, ma_ws hco, List.mem_cons_self⟩, hco, ma_word hK hB w2 rfl rfl _, hy, ma_nA hpn, ma_word hK hB hl rfl rfl _⟩, ma_word hK hB hi rfl rfl _, trivial⟩ hpv rfl hnA h4.1 rfl hroom d hnum.2) kk
theorem m_callI {index maxL fr' mc' ms' lo' nA b : Nat} {y : MethodName} {bytes : ByteArray} {As rest : List Value} {Wr' : Nat → Prop} {post : Option Value → ma_H → Prop} (C : ma_C G cc nL own fr mc ms lo) (d : decode cc pc = .ok (.invokespecial index, 3)) (hw : ma_w own index y bytes maxL none nA) (hi : Cond.instanceMethod y ∈ lw_tbl) (hy1 : y.name = "<init>") (hM : Ct G.2.2.2.1 G.1 G.2.1 y bytes maxL none fr' mc' ms' lo' (.ref b :: As) M Wr' post) (hWr : ∀ q : Nat, Wr' q → ma_Wr G q) (hnA : As.length = nA) (hst : st = As.reverse ++ .ref b :: rest) (hrs : (rest.map fun v => v.category).sum ≤ 8) (hnum : (fr' + 1 ≤ fr ∧ 8 + (maxL + 11) + lo' ≤ lo) ∧ k + mc' ≤ mc ∧ n + ms' ≤ ms)
    (kk : ∀ (v : Option Value) (M' : ma_H), post v M' → (∀ q : Nat, M q ≠ none → ¬ Wr' q → M' q = M q) → (∀ q : Nat, M q = none → M' q ≠ none → ma_Wr G q) → mj G nL (k + mc') (n + ms') M' (pc + 3) L (v.toList ++ rest)) : mj G nL k n M pc L st := by
  obtain ⟨D, s0, p, l, e, R, s, m, args, below, meth, c, Q, M0, Wr⟩ := G
  obtain ⟨hx, hb, hml, hown, hlk, rfl, hB, hK, hA1, h0⟩ := C
  subst hst
  intro H locs ls h1 h2 h3 h4
  obtain ⟨hl, w2, w3, hy, hpn⟩ := hw
  have hMet := hM hK (fun q z => (hWr q z).elim (hA1 q) (fun y => Nat.le_trans hB.2.1 y)) H.size (Nat.le_trans hB.2.1 h3.1)
  have hco := ma_word hK hB w3 rfl rfl args
  have hpv : PreS s H (ma_Pc D s0 (.ref b :: As) M H.size) (.ref b :: As) := ⟨ma_blind, fun U hU hW => ⟨rfl, by rw [hU], by rw [hU]; exact h1, ma_Bcall hB hA1 h3 hU hW⟩⟩
  have hroom : 2 * (F0 m pc ls (As.reverse ++ .ref b :: rest)).monitorRoom + (rest.map fun v => v.category).sum ≤ 8 := lv_room hrs
  rcases hl with hl | ⟨host, hl⟩
  · exact ma_cont h0 hWr h2 h3 h4 (va_runI (Ts := []) ⟨hx, hb, hml, hown, fun w hw => by cases hw⟩ hMet ⟨⟨rfl, rfl, hnum.1.1, hnum.1.2, ma_ws hco, List.mem_cons_self, hco, ma_word hK hB w2 rfl rfl _, hy, ma_nA hpn, ma_word hK hB hl rfl rfl _⟩, hy1, ma_word hK hB hi rfl rfl _⟩ hpv rfl hnA h4.1 rfl hroom d hnum.2) kk
  · exact ma_cont h0 hWr h2 h3 h4 (va_runIN (Ts := []) (host := host) ⟨hx, hb, hml, hown, fun w hw => by cases hw⟩ hMet ⟨⟨⟨rfl, rfl, hnum.1.1, hnum.1.2, ma_ws hco, List.mem_cons_self⟩, hco, ma_word hK hB w2 rfl rfl _, hy, ma_nA hpn, ma_word hK hB hl rfl rfl _⟩, hy1, ma_word hK hB hi rfl rfl _⟩ hpv rfl hnA h4.1 rfl hroom d hnum.2) kk
/-- Object's own constructor -/
theorem m_obj {index a : Nat} (C : ma_C G cc nL own fr mc ms lo) (d : decode cc pc = .ok (.invokespecial index, 3)) (w1 : Cond.methodLink own index objectInit ∈ lw_tbl) (w2 : Cond.instanceMethod objectInit ∈ lw_tbl) (w3 : Cond.code objectInit ⟨#[0xb1]⟩ 1 none ∈ lw_tbl) (hfr : 1 ≤ fr) (hlo : (st.map fun v => v.category).sum + 12 ≤ lo) (kk : mj G nL k n M (pc + 3) L st) : mj G nL k n M pc L (.ref a :: st) := by
  obtain ⟨D, s0, p, l, e, R, s, m, args, below, meth, c, Q, M0, Wr⟩ := G
  obtain ⟨hx, hb, hml, hown, hlk, rfl, hB, hK, hA1, h0⟩ := C
  exact fun H locs ls h1 h2 h3 h4 => W.objInit hx hb hown (ma_word hK hB w1 rfl rfl _) (ma_word hK hB w2 rfl rfl _) (ma_word hK hB w3 rfl rfl _) rfl (by rw [hml]; exact h4.1) rfl d hfr (by show 2 * 0 + _ + 12 ≤ lo; omega) (kk H locs ls h1 h2 h3 h4)
/-! ===== how a method ends ===== -/
def ma_Ri (G : ma_G) (cc : ByteArray) (nL mc ms : Nat) (post : Option Value → ma_H → Prop) : Prop := ∀ (k n : Nat) (M' : ma_H) (pc : Nat) (L : List (Option Value)) (v : Int32), k ≤ mc → n ≤ ms → decode cc pc = .ok (.ireturn, 1) → post (some (.int v)) M' → mj G nL k n M' pc L [.int v]
def ma_Rz (G : ma_G) (cc : ByteArray) (nL mc ms : Nat) (post : Option Value → ma_H → Prop) : Prop := ∀ (k n : Nat) (M' : ma_H) (pc : Nat) (L : List (Option Value)) (v : Int32), k ≤ mc → n ≤ ms → (v = 0 ∨ v = 1) → decode cc pc = .ok (.ireturn, 1) → post (some (.int v)) M' → mj G nL k n M' pc L [.int v]
def ma_Rc (G : ma_G) (cc : ByteArray) (nL mc ms : Nat) (post : Option Value → ma_H → Prop) : Prop := ∀ (k n : Nat) (M' : ma_H) (pc : Nat) (L : List (Option Value)) (v : Int32), k ≤ mc → n ≤ ms → narrow .char (.int v) = .int v → decode cc pc = .ok (.ireturn, 1) → post (some (.int v)) M' → mj G nL k n M' pc L [.int v]
def ma_Rv (G : ma_G) (cc : ByteArray) (nL mc ms : Nat) (post : Option Value → ma_H → Prop) : Prop := ∀ (k n : Nat) (M' : ma_H) (pc : Nat) (L : List (Option Value)), k ≤ mc → n ≤ ms → decode cc pc = .ok (.return_, 1) → post none M' → mj G nL k n M' pc L []
def ma_Ra (G : ma_G) (cc : ByteArray) (nL mc ms : Nat) (post : Option Value → ma_H → Prop) : Prop := ∀ (k n : Nat) (M' : ma_H) (pc : Nat) (L : List (Option Value)) (v : Nat), k ≤ mc → n ≤ ms → decode cc pc = .ok (.areturn, 1) → post (some (.ref v)) M' → mj G nL k n M' pc L [.ref v]
/-- the locals at a method's entry -/
def ma_en : List Value → List (Option Value)
  | [] => []
  | v :: vs => if v.category = 2 then some v :: none :: ma_en vs else some v :: ma_en vs
theorem ma_en_args : ∀ (vs : List Value) (o i : Nat) (v : Value), (ma_en vs)[i]? = some (some v) → (o + i, v) ∈ lv_args o vs
  | [], o, i, v, h => by simp [ma_en] at h
  | w :: vs, o, i, v, h => by
    unfold lv_args
    by_cases hc : w.category = 2
    · rw [if_pos hc]
      simp only [ma_en, if_pos hc] at h
      cases i with
      | zero =>
        simp at h
        subst h
        exact List.mem_cons_self
      | succ i =>
        cases i with
        | zero => simp at h
        | succ i =>
          simp only [List.getElem?_cons_succ] at h
          have := ma_en_args vs (o + 2) i v h
          rw [show o + (i + 1 + 1) = o + 2 + i by omega]
          exact List.mem_cons_of_mem _ this
    · rw [if_neg hc]
      simp only [ma_en, if_neg hc] at h
      cases i with
      | zero =>
        simp at h
        subst h
        exact List.mem_cons_self
      | succ i =>
        simp only [List.getElem?_cons_succ] at h
        have := ma_en_args vs (o + 1) i v h
        rw [show o + (i + 1) = o + 1 + i by omega]
        exact List.mem_cons_of_mem _ this
theorem ma_en_has {vs : List Value} {z : Nat} {i : Nat} {v : Value} (h : (ma_en vs ++ List.replicate z none)[i]? = some (some v)) : (i, v) ∈ lv_args 0 vs := by
  by_cases hl : i < (ma_en vs).length
  · rw [List.getElem?_append_left hl] at h
    have := ma_en_args vs 0 i v h
    rwa [Nat.zero_add] at this
  · rw [List.getElem?_append_right (by omega), List.getElem?_replicate] at h
    split at h <;> simp at h
end
section
variable {l : Launch} {D : ma_D} {s0 : State} {y : MethodName} {cc : ByteArray} {nL fr mc ms lo : Nat} {av : List Value} {M : ma_H} {Wr : Nat → Prop} {post : Option Value → ma_H → Prop}
theorem Ct_gen {ret : Option FieldType} (z : Nat) (Ls : List (Option Value)) (hy : plainName y.cls = true) (hsl : (lg_sl av).length ≤ nL) (hLs : ma_en av ++ List.replicate z none = Ls)
    (body : ∀ G : ma_G, G.1 = D → G.2.1 = s0 → G.2.2.2.1 = l → ma_C G cc nL y.cls fr mc ms lo → (∀ q : Nat, Wr q → ma_Wr G q) → (y.name = "<init>" → ma_I G) → (∀ (k n : Nat) (M' : ma_H) (pc : Nat) (L : List (Option Value)) (st : List Value) (r : Option Value), k ≤ mc → n ≤ ms → post r M' → ((ret = some .int ∧ ∃ v : Int32, r = some (.int v) ∧ st = [.int v] ∧ decode cc pc = .ok (.ireturn, 1)) ∨ (∃ ty, ret = some ty ∧ ∃ v : Int32, narrow ty (.int v) = .int v ∧ r = some (.int v) ∧ st = [.int v] ∧ decode cc pc = .ok (.ireturn, 1)) ∨ (ret = none ∧ r = none ∧ st = [] ∧ decode cc pc = .ok (.return_, 1)) ∨ (∃ rt, ret = some rt ∧ ((∃ n, rt = .object n) ∨ ∃ t, rt = .array t) ∧ ∃ v : Nat, r = some (.ref v) ∧ st = [.ref v] ∧ decode cc pc = .ok (.areturn, 1))) → mj G nL k n M' pc L st) → mj G nL 0 0 M 0 Ls []) : Ct l D s0 y cc nL ret fr mc ms lo av M Wr post := by
  intro hK hdom sz hsz
  refine Met.ofW (cc := cc) (maxL := nL) (ret := ret) hy rfl ?_
  intro p e s m args below meth c s₁ B hml hv
  obtain ⟨rfl, rfl, hP, hB⟩ := hv
  have hx := B.exec
  have hb := B.bytes
  have hr := B.returns
  have hown : s.vm.findClass y.cls = some m.cls := findClass_of_methodNamed B.named
  have hlocks := B.notSynchronized
  have hnm := (name_of_methodNamed B.named B.method).1
  have hl := lv_entry av (n := nL) hsl
  rw [lg_entry_eq]
  generalize (lg_sl av ++ List.replicate (nL - (lg_sl av).length) Slot.unset).toArray = ls at hl ⊢
  have hM0 : ∀ q : Nat, M q ≠ none → q < s.heap.size := by
    intro q hq
    cases hx9 : M q with
    | none => exact absurd hx9 hq
    | some x => exact (hP q x hx9).lt
  refine body (D, s0, p, l, e, { frames := fr, cells := mc, slots := ms, locals := lo }, s, m, av.toArray, below, meth, c, MQ below (ma_Qc D M Wr s.heap.size post) av.toArray s mc ms (ma_A0 Wr s.heap.size), M, Wr) rfl rfl rfl ⟨hx, hb, hml, hown, hlocks, rfl, hB, hK, hdom, hM0⟩ (fun q h => Or.inl h) (fun h => hnm.trans h) ?_ s.heap [] ls hP ⟨fun _ _ _ => rfl, fun _ h1 h2 => absurd h1 h2⟩ va_S.rf ⟨hl.1, hl.2.1, fun i v q => hl.2.2 (i, v) (ma_en_has (z := z) (by rw [hLs]; exact q))⟩
  intro k n M' pc L st r hk hn hp hcase H locs ls' h1 h2 h3 h4
  refine W.widen hk hn ?_
  have hq : ∀ t : State, t.heap = H → s.WarmedH t.vm → ma_Qc D M Wr s.heap.size post av.toArray s (.returned r) t := fun t ht _ => ⟨r, M', rfl, hp, by rw [ht]; exact h1, h2, h3.F ht⟩
  rcases hcase with ⟨h5, v, rfl, rfl, hd⟩ | ⟨ty, h5, v, h6, rfl, rfl, hd⟩ | ⟨h5, rfl, rfl, hd⟩ | ⟨rt, h5, h6, v, rfl, rfl, hd⟩
  · exact W.iret hx hb (hr.trans h5) hq h3.2.2 hd
  · exact W.zret hx hb (hr.trans h5) h6 hq h3.2.2 hd
  · exact W.vret hx hb (hr.trans h5) hq h3.2.2 hd
  · exact W.aret hx hb (hr.trans h5) h6 (Or.inr ⟨v, rfl⟩) hq h3.2.2 hd
theorem Ct_i (z : Nat) (Ls : List (Option Value)) (hy : plainName y.cls = true) (hsl : (lg_sl av).length ≤ nL) (hLs : ma_en av ++ List.replicate z none = Ls)
    (body : ∀ G : ma_G, G.1 = D → G.2.1 = s0 → G.2.2.2.1 = l → ma_C G cc nL y.cls fr mc ms lo → (∀ q : Nat, Wr q → ma_Wr G q) → ma_Ri G cc nL mc ms post → mj G nL 0 0 M 0 Ls []) : Ct l D s0 y cc nL (some .int) fr mc ms lo av M Wr post :=
  Ct_gen z Ls hy hsl hLs fun G e1 e2 e3 C hw _ h => body G e1 e2 e3 C hw fun k n M' pc L v hk hn hd hp => h k n M' pc L _ _ hk hn hp (Or.inl ⟨rfl, v, rfl, rfl, hd⟩)
theorem Ct_z (z : Nat) (Ls : List (Option Value)) (hy : plainName y.cls = true) (hsl : (lg_sl av).length ≤ nL) (hLs : ma_en av ++ List.replicate z none = Ls)
    (body : ∀ G : ma_G, G.1 = D → G.2.1 = s0 → G.2.2.2.1 = l → ma_C G cc nL y.cls fr mc ms lo → (∀ q : Nat, Wr q → ma_Wr G q) → ma_Rz G cc nL mc ms post → mj G nL 0 0 M 0 Ls []) : Ct l D s0 y cc nL (some .boolean) fr mc ms lo av M Wr post :=
  Ct_gen z Ls hy hsl hLs fun G e1 e2 e3 C hw _ h => body G e1 e2 e3 C hw fun k n M' pc L v hk hn hv hd hp => h k n M' pc L _ _ hk hn hp (Or.inr (Or.inl ⟨.boolean, rfl, v, by rcases hv with rfl | rfl <;> rfl, rfl, rfl, hd⟩))
theorem Ct_c (z : Nat) (Ls : List (Option Value)) (hy : plainName y.cls = true) (hsl : (lg_sl av).length ≤ nL) (hLs : ma_en av ++ List.replicate z none = Ls)
    (body : ∀ G : ma_G, G.1 = D → G.2.1 = s0 → G.2.2.2.1 = l → ma_C G cc nL y.cls fr mc ms lo → (∀ q : Nat, Wr q → ma_Wr G q) → ma_Rc G cc nL mc ms post → mj G nL 0 0 M 0 Ls []) : Ct l D s0 y cc nL (some .char) fr mc ms lo av M Wr post :=
  Ct_gen z Ls hy hsl hLs fun G e1 e2 e3 C hw _ h => body G e1 e2 e3 C hw fun k n M' pc L v hk hn hv hd hp => h k n M' pc L _ _ hk hn hp (Or.inr (Or.inl ⟨.char, rfl, v, hv, rfl, rfl, hd⟩))
theorem Ct_v (z : Nat) (Ls : List (Option Value)) (hy : plainName y.cls = true) (hsl : (lg_sl av).length ≤ nL) (hLs : ma_en av ++ List.replicate z none = Ls)
    (body : ∀ G : ma_G, G.1 = D → G.2.1 = s0 → G.2.2.2.1 = l → ma_C G cc nL y.cls fr mc ms lo → (∀ q : Nat, Wr q → ma_Wr G q) → (y.name = "<init>" → ma_I G) → ma_Rv G cc nL mc ms post → mj G nL 0 0 M 0 Ls []) : Ct l D s0 y cc nL none fr mc ms lo av M Wr post :=
  Ct_gen z Ls hy hsl hLs fun G e1 e2 e3 C hw hI h => body G e1 e2 e3 C hw hI fun k n M' pc L hk hn hd hp => h k n M' pc L _ _ hk hn hp (Or.inr (Or.inr (Or.inl ⟨rfl, rfl, rfl, hd⟩)))
theorem Ct_a {Cn : String} (z : Nat) (Ls : List (Option Value)) (hy : plainName y.cls = true) (hsl : (lg_sl av).length ≤ nL) (hLs : ma_en av ++ List.replicate z none = Ls)
    (body : ∀ G : ma_G, G.1 = D → G.2.1 = s0 → G.2.2.2.1 = l → ma_C G cc nL y.cls fr mc ms lo → (∀ q : Nat, Wr q → ma_Wr G q) → ma_Ra G cc nL mc ms post → mj G nL 0 0 M 0 Ls []) : Ct l D s0 y cc nL (some (.object Cn)) fr mc ms lo av M Wr post :=
  Ct_gen z Ls hy hsl hLs fun G e1 e2 e3 C hw _ h => body G e1 e2 e3 C hw fun k n M' pc L v hk hn hd hp => h k n M' pc L _ _ hk hn hp (Or.inr (Or.inr (Or.inr ⟨_, rfl, Or.inl ⟨_, rfl⟩, v, rfl, rfl, hd⟩)))
end
end
section
/-! ===== methods that may throw ===== -/
/-- the words of a throw of an E in the class own: 'new' at ik, the constructor at ic -/
def ma_X (own : String) (ik ic : Nat) (E : String) : Prop := Cond.classLink own ik E ∈ lw_tbl ∧ Cond.initialized E ∈ lw_tbl ∧ (∀ w ∈ vx_atS own ic E x_up, w ∈ lw_tbl ∧ w.onTables = true ∧ (w.keepsH || w.keepsFace) = true) ∧ (∀ w ∈ Cond.classLink own ik E :: Cond.initialized E :: vx_atS own ic E x_up, vx_ot w = true) ∧ Bundle.fit E = true
/-- the words of a static call of a method with handlers -/
def ma_wh (own : String) (index : Nat) (y : MethodName) (bytes : ByteArray) (maxL : Nat) (ret : Option FieldType) (hh : List (Nat × Nat × Nat × Nat)) (nA : Nat) : Prop := Cond.methodLink own index y ∈ lw_tbl ∧ Cond.initialized y.cls ∈ lw_tbl ∧ Cond.codeWith y bytes maxL ret hh ∈ lw_tbl ∧ (y.cls ≠ "java/lang/invoke/MethodHandle" ∧ y.cls ≠ "java/lang/invoke/VarHandle") ∧ (parseMethodDescriptor y.desc).map (fun d => d.parameters.length) = some nA
theorem ma_word2 {D : ma_D} {s0 U : State} {l : Launch} (hK : ma_K D s0 l) (hB : ma_B s0 U) {w : Cond} (hw : w ∈ lw_tbl) (h1 : w.onTables = true) (h2 : (w.keepsH || w.keepsFace) = true) (a : Array Value) : w.before a U = true := by
  rw [Bool.or_eq_true] at h2
  rcases h2 with h2 | h2
  · exact ma_word hK hB hw h1 h2 a
  · obtain ⟨a0, h⟩ := hK.2.1
    exact va_tabs (u := s0.setVm U.vm) h1 rfl (Cond.before_shiftedFace (State.Shifted.of_warmed hB.1) _ h2 (h _ hw))
theorem x_up_fit : ∀ n ∈ x_up, Bundle.fit n = true := by decide +kernel
def ma_XC (D : ma_D) (M : ma_H) (Wr : Nat → Prop) (sz : Nat) (postX : String → ma_H → Prop) : String → State → State → Prop := fun E st t => ∃ M' : ma_H, postX E M' ∧ ma_P D M' t.heap ∧ ma_V M Wr sz M' ∧ va_F (ma_A0 Wr sz) st t
/-- y, called with av where the heap holds M: returns, with 'post', or throws an E, with 'postX E' -/
def Cx (l : Launch) (D : ma_D) (s0 : State) (y : MethodName) (cc : ByteArray) (nL : Nat) (ret : Option FieldType) (fr mc ms lo : Nat) (av : List Value) (M : ma_H) (Wr : Nat → Prop) (post : Option Value → ma_H → Prop) (postX : String → ma_H → Prop) : Prop :=
  ma_K D s0 l → (∀ q : Nat, Wr q → s0.heap.size ≤ q) → ∀ sz : Nat, s0.heap.size ≤ sz → vx_Met l y [Cond.code y cc nL ret] { frames := fr, cells := mc, slots := ms, locals := lo } (ma_Pc D s0 av M sz) (ma_Qc D M Wr sz post) (ma_XC D M Wr sz postX) mc ms (ma_A0 Wr sz)
/-- in this frame, at pc, an E is thrown -/
def mjX (G : ma_G) (nL k n : Nat) (M : ma_H) (pc : Nat) (L : List (Option Value)) (E : String) : Prop := match G with
  | (D, _, p, l, e, R, s, m, args, below, meth, c, Q, M0, Wr) => ∀ (H : Heap) (locs : List Loc) (ls : Array Slot) (rest : List Value) (q : Nat) (ce : Cell), ma_P D M H → ma_V M0 Wr s.heap.size M → va_S (ma_A0 Wr s.heap.size) s.heap H locs → ma_L nL L ls → H[q]? = some ce → ce.vm = .none → s.vm.findClass E = some ce.cls → vx_W p l e R s m args below meth c H locs k n Q (F0 m pc ls rest) q
section
variable {G : ma_G} {cc : ByteArray} {own : String} {nL fr mc ms lo k n : Nat} {M : ma_H} {pc : Nat} {L : List (Option Value)} {st : List Value}
theorem ma_contX {D : ma_D} {s0 : State} {p : Program} {l : Launch} {e : Env} {R : Room} {s : State} {m : MethodId} {args : Array Value} {below : List Frame} {meth : Method} {c : Code} {Q : State → Prop} {M0 : ma_H} {Wr Wr' : Nat → Prop} {H : Heap} {locs : List Loc} {ls : Array Slot} {mc' ms' : Nat} {st0 rest : List Value} {a : Array Value} {post : Option Value → ma_H → Prop} {postX : String → ma_H → Prop}
    (h0 : ∀ q : Nat, M0 q ≠ none → q < s.heap.size) (hW : ∀ q : Nat, Wr' q → Wr q ∨ s.heap.size ≤ q) (h2 : ma_V M0 Wr s.heap.size M) (h3 : va_S (ma_A0 Wr s.heap.size) s.heap H locs) (h4 : ma_L nL L ls)
    (hr : vx_Run p l e R s m args below meth c H locs k n mc' ms' (F0 m pc ls st0) rest (ma_Qc D M Wr' H.size post a) (ma_XC D M Wr' H.size postX) (ma_A0 Wr' H.size))
    (kk : ∀ (r : Option Value) (M' : ma_H), post r M' → (∀ q : Nat, M q ≠ none → ¬ Wr' q → M' q = M q) → (∀ q : Nat, M q = none → M' q ≠ none → Wr q ∨ s.heap.size ≤ q) → mj (D, s0, p, l, e, R, s, m, args, below, meth, c, Q, M0, Wr) nL (k + mc') (n + ms') M' (pc + 3) L (r.toList ++ rest))
    (kx : ∀ (E : String) (M' : ma_H), postX E M' → (∀ q : Nat, M q ≠ none → ¬ Wr' q → M' q = M q) → (∀ q : Nat, M q = none → M' q ≠ none → Wr q ∨ s.heap.size ≤ q) → mjX (D, s0, p, l, e, R, s, m, args, below, meth, c, Q, M0, Wr) nL (k + mc') (n + ms') M' pc L E) : W p l e R s m args below meth c H locs k n Q (F0 m pc ls st0) := by
  have hA : ∀ q : Nat, ma_A0 Wr' H.size q → ma_A0 Wr s.heap.size q := fun q h => h.elim (hW q) (fun z => Or.inr (Nat.le_trans h3.1 z))
  intro T hT X
  rcases hr T hT X with ⟨v, st₀, t, T', L', e0, X', hL, e1, e2, ⟨r, M', hv, hp, hP', hd', hz, hkp⟩, stp⟩ | ⟨q, st₀, t, T', L', E, ce, e0, X', hL, e1, e2, ⟨M', hp, hP', hd', hz, hkp⟩, hce, hcv, hcl, stp⟩
  · cases hv
    rw [e0] at hz hkp
    obtain ⟨t2, a1, b1⟩ := kk _ M' hp hd'.1 (fun q z1 z2 => Or.inr (Nat.le_trans h3.1 (hd'.2 q z1 z2))) T'.heap (locs ++ L') ls (by rw [e1]; exact hP') (h2.call hd' h0 hW h3.1)
      ⟨Nat.le_trans h3.1 (by rw [e1]; exact hz), fun q g1 g2 => by rw [e1, hkp q (Nat.lt_of_lt_of_le g1 h3.1) (fun z => g2 (hA q z))]; exact h3.2.1 q g1 g2, fun q hq => by
        rcases List.mem_append.mp hq with h | h
        · exact h3.2.2 q h
        · exact hA _ (hL q h)⟩ h4 T' rfl X'
    exact ⟨t2, stp t2 a1, b1⟩
  · rw [e0] at hz hkp
    obtain ⟨t2, a1, b1⟩ := kx E M' hp hd'.1 (fun q z1 z2 => Or.inr (Nat.le_trans h3.1 (hd'.2 q z1 z2))) T'.heap (locs ++ L') ls rest q ce (by rw [e1]; exact hP') (h2.call hd' h0 hW h3.1)
      ⟨Nat.le_trans h3.1 (by rw [e1]; exact hz), fun q g1 g2 => by rw [e1, hkp q (Nat.lt_of_lt_of_le g1 h3.1) (fun z => g2 (hA q z))]; exact h3.2.1 q g1 g2, fun q hq => by
        rcases List.mem_append.mp hq with h | h
        · exact h3.2.2 q h
        · exact hA _ (hL q h)⟩ h4 (by rw [e1]; exact hce) hcv hcl T' rfl X'
    exact ⟨t2, stp.trans a1, b1⟩
theorem m_callVX {index maxL fr' mc' ms' lo' nA b ci : Nat} {y : MethodName} {bytes : ByteArray} {ret : Option FieldType} {As rest fs : List Value} {r : vw_C} {Wr' : Nat → Prop} {post : Option Value → ma_H → Prop} {postX : String → ma_H → Prop} (C : ma_C G cc nL own fr mc ms lo) (d : decode cc pc = .ok (.invokevirtual index, 3)) (hl : Cond.methodLink own index y ∈ lw_tbl) (hw : ma_w own index y bytes maxL ret nA) (hi : Cond.instanceMethod y ∈ lw_tbl) (hs : Cond.selects r.1 y y ∈ lw_tbl) (hc : kcl[ci]? = some r) (hM : Cx G.2.2.2.1 G.1 G.2.1 y bytes maxL ret fr' mc' ms' lo' (.ref b :: As) M Wr' post postX) (hWr : ∀ q : Nat, Wr' q → ma_Wr G q) (hnA : As.length = nA) (hst : st = As.reverse ++ .ref b :: rest) (hrs : (rest.map fun v => v.category).sum ≤ 8) (hm : M b = some (.inl (ci, fs))) (hnum : (fr' + 1 ≤ fr ∧ 8 + (maxL + 11) + lo' ≤ lo) ∧ k + mc' ≤ mc ∧ n + ms' ≤ ms)
    (kk : ∀ (v : Option Value) (M' : ma_H), post v M' → (∀ q : Nat, M q ≠ none → ¬ Wr' q → M' q = M q) → (∀ q : Nat, M q = none → M' q ≠ none → ma_Wr G q) → mj G nL (k + mc') (n + ms') M' (pc + 3) L (v.toList ++ rest))
    (kx : ∀ (E : String) (M' : ma_H), postX E M' → (∀ q : Nat, M q ≠ none → ¬ Wr' q → M' q = M q) → (∀ q : Nat, M q = none → M' q ≠ none → ma_Wr G q) → mjX G nL (k + mc') (n + ms') M' pc L E) : mj G nL k n M pc L st := by
  obtain ⟨D, s0, p, l, e, R, s, m, args, below, meth, c, Q, M0, Wr⟩ := G
  obtain ⟨hx, hb, hml, hown, hlk, rfl, hB, hK, hA1, h0⟩ := C
  subst hst
  intro H locs ls h1 h2 h3 h4
  obtain ⟨-, w2, w3, hy, hpn⟩ := hw
  have hMet := hM hK (fun q z => (hWr q z).elim (hA1 q) (fun y => Nat.le_trans hB.2.1 y)) H.size (Nat.le_trans hB.2.1 h3.1)
  have hco := ma_word hK hB w3 rfl rfl args
  obtain ⟨r', g1, -, cell, q1, q2, q3, -⟩ := h1 b _ hm
  have hpv : PreV s H r.1 b (ma_Pc D s0 (.ref b :: As) M H.size) As := ⟨ma_blind, ⟨cell, q1, by rw [q3]; rfl, by rw [q2]; exact (ma_Kn hK hB hc).2.1⟩, fun U hU hW => ⟨rfl, by rw [hU], by rw [hU]; exact h1, ma_Bcall hB hA1 h3 hU hW⟩⟩
  have hroom : 2 * (F0 m pc ls (As.reverse ++ .ref b :: rest)).monitorRoom + (rest.map fun v => v.category).sum ≤ 8 := lv_room hrs
  exact ma_contX h0 hWr h2 h3 h4 (vx_runV (Ts := []) ⟨hx, hb, hml, hown, fun w hw => by cases hw⟩ hMet ⟨⟨rfl, rfl, hnum.1.1, hnum.1.2, ma_ws hco, List.mem_cons_self, hco, ma_word hK hB w2 rfl rfl _, hy, ma_nA hpn, ma_word hK hB hl rfl rfl _⟩, ma_word hK hB hi rfl rfl _, ma_word hK hB hs rfl rfl _⟩ hpv rfl hnA h4.1 rfl hroom d hnum.2) kk kx
theorem m_callSX {index maxL fr' mc' ms' lo' nA : Nat} {y : MethodName} {bytes : ByteArray} {ret : Option FieldType} {As rest : List Value} {Wr' : Nat → Prop} {post : Option Value → ma_H → Prop} {postX : String → ma_H → Prop} (C : ma_C G cc nL own fr mc ms lo) (d : decode cc pc = .ok (.invokestatic index, 3)) (hl : Cond.methodLink own index y ∈ lw_tbl) (hw : ma_w own index y bytes maxL ret nA) (hi : Cond.static y ∈ lw_tbl) (hM : Cx G.2.2.2.1 G.1 G.2.1 y bytes maxL ret fr' mc' ms' lo' As M Wr' post postX) (hWr : ∀ q : Nat, Wr' q → ma_Wr G q) (hnA : As.length = nA) (hst : st = As.reverse ++ rest) (hrs : (rest.map fun v => v.category).sum ≤ 8) (hnum : (fr' + 1 ≤ fr ∧ 8 + (maxL + 11) + lo' ≤ lo) ∧ k + mc' ≤ mc ∧ n + ms' ≤ ms)
    (kk : ∀ (v : Option Value) (M' : ma_H), post v M' → (∀ q : Nat, M q ≠ none → ¬ Wr' q → M' q = M q) → (∀ q : Nat, M q = none → M' q ≠ none → ma_Wr G q) → mj G nL (k + mc') (n + ms') M' (pc + 3) L (v.toList ++ rest))
    (kx : ∀ (E : String) (M' : ma_H), postX E M' → (∀ q : Nat, M q ≠ none → ¬ Wr' q → M' q = M q) → (∀ q : Nat, M q = none → M' q ≠ none → ma_Wr G q) → mjX G nL (k + mc') (n + ms') M' pc L E) : mj G nL k n M pc L st := by
  obtain ⟨D, s0, p, l, e, R, s, m, args, below, meth, c, Q, M0, Wr⟩ := G
  obtain ⟨hx, hb, hml, hown, hlk, rfl, hB, hK, hA1, h0⟩ := C
  subst hst
  intro H locs ls h1 h2 h3 h4
  obtain ⟨-, w2, w3, hy, hpn⟩ := hw
  have hMet := hM hK (fun q z => (hWr q z).elim (hA1 q) (fun y => Nat.le_trans hB.2.1 y)) H.size (Nat.le_trans hB.2.1 h3.1)
  have hco := ma_word hK hB w3 rfl rfl args
  have hpv : PreS s H (ma_Pc D s0 As M H.size) As := ⟨ma_blind, fun U hU hW => ⟨rfl, by rw [hU], by rw [hU]; exact h1, ma_Bcall hB hA1 h3 hU hW⟩⟩
  have hroom : 2 * (F0 m pc ls (As.reverse ++ rest)).monitorRoom + (rest.map fun v => v.category).sum ≤ 8 := lv_room hrs
  exact ma_contX h0 hWr h2 h3 h4 (vx_runS (Ts := []) ⟨hx, hb, hml, hown, fun w hw => by cases hw⟩ hMet ⟨⟨rfl, rfl, hnum.1.1, hnum.1.2, ma_ws hco, List.mem_cons_self, hco, ma_word hK hB w2 rfl rfl _, hy, ma_nA hpn, ma_word hK hB hl rfl rfl _⟩, ma_word hK hB hi rfl rfl _⟩ hpv rfl hnA h4.1 rfl hroom d hnum.2) kk kx
/-- the thrown one is caught: the entries ahead of x don't take it -/
theorem mjX_catch {E nm : String} (C : ma_C G cc nL own fr mc ms lo) (hh : List (Nat × Nat × Nat × Nat)) (ht : match G with | (_, _, _, _, _, _, _, _, _, _, _, c, _, _, _) => c.exceptionTable.toList = tableOf hh) (pre suf : List (Nat × Nat × Nat × Nat)) (x : Nat × Nat × Nat × Nat) (hsp : hh = pre ++ x :: suf) (hpre : ∀ z ∈ pre, z.2.2.2 ≠ 0 ∧ ∃ n2 : String, Cond.classLink own z.2.2.2 n2 ∈ lw_tbl ∧ (E, n2) ∈ knc) (hx1 : x.1 ≤ pc ∧ pc < x.2.1) (hx0 : x.2.2.2 ≠ 0) (hl : Cond.classLink own x.2.2.2 E ∈ lw_tbl) (hca : Cond.castable E E ∈ lw_tbl)
    (kk : ∀ q : Nat, mj G nL k n M x.2.2.1 L [.ref q]) : mjX G nL k n M pc L E := by
  obtain ⟨D, s0, p, l, e, R, s, m, args, below, meth, c, Q, M0, Wr⟩ := G
  obtain ⟨hx, hb, hml, hown, hlk, rfl, hB, hK, hA1, h0⟩ := C
  intro H locs ls rest q ce h1 h2 h3 h4 h5 h6 h7
  have ht9 : c.exceptionTable.toList = tableOf hh := ht
  have hca9 : (Cond.castable E E).before args s = true := by
    obtain ⟨a0, h⟩ := hK.2.1
    exact va_tabs (u := s0.setVm s.vm) rfl rfl (Cond.before_shiftedFace (State.Shifted.of_warmed hB.1) _ rfl (h _ hca))
  refine vx_catch (own := own) (name := E) (E := E) (ce := ce) hown (pre := tableOf pre) (x := ⟨x.1, x.2.1, x.2.2.1, x.2.2.2⟩) (suf := tableOf suf) (by rw [ht9, hsp]; simp [tableOf]) ?_ (by simp [covers, hx1.1, hx1.2]) hx0 (ma_word hK hB hl rfl rfl _) hca9 h5 h6 h7 (kk q H locs ls h1 h2 h3 h4)
  intro z hz
  obtain ⟨z', hz', rfl⟩ := List.mem_map.mp hz
  obtain ⟨a1, n2, a2, a3⟩ := hpre z' hz'
  exact Or.inr ⟨a1, n2, ma_word hK hB a2 rfl rfl _, va_Nc.moved hB.1.alike (hK.2.2.2.2.2.2 _ a3)⟩
end
section
variable {l : Launch} {D : ma_D} {s0 : State} {y : MethodName} {cc : ByteArray} {nL fr mc ms lo : Nat} {av : List Value} {M : ma_H} {Wr : Nat → Prop} {post : Option Value → ma_H → Prop} {postX : String → ma_H → Prop}
theorem ma_str {D : ma_D} {s0 s : State} {l : Launch} {own tx : String} {is : Nat} {c9 : ClassId} (hK : ma_K D s0 l) (hB : ma_B s0 s) (hown : s.vm.findClass own = some c9) (hw : Cond.stringRef own is tx ∈ lw_tbl) : ∃ sa : Nat, vk_R own is tx sa s := by
  obtain ⟨a0, h⟩ := hK.2.1
  have h1 := h _ hw
  have hown0 : s0.vm.findClass own = some c9 := by rw [← hB.1.alike.findClass]; exact hown
  obtain ⟨-, -, -, sa, -, -, -, -, -, hev⟩ := Cond.stringRef_spec hown0 h1
  exact ⟨sa, vk_R.warm hB.1 (vk_R.of h1 hev)⟩
theorem ma_Zq {D : ma_D} {s0 s : State} {l : Launch} {n d : String} {Wr : Nat → Prop} (hB : ma_B s0 s) (hA1 : ∀ q : Nat, Wr q → s0.heap.size ≤ q) (h : vx_Zq Bundle.tN n d (fun q => s0.heap.size ≤ q) s0 s0.heap) : vx_Zq Bundle.tN n d (ma_A0 Wr s.heap.size) s s.heap :=
  ((h.moved hB.1.alike).kept (fun a h1 h2 => hB.2.2 a h1)).narrow (fun q h => h.elim (hA1 q) (fun z => Nat.le_trans hB.2.1 z))
theorem Cx_gen {ret : Option FieldType} (z : Nat) (Ls : List (Option Value)) (hy : plainName y.cls = true) (hsl : (lg_sl av).length ≤ nL) (hLs : ma_en av ++ List.replicate z none = Ls)
    (body : ∀ G : ma_G, G.1 = D → G.2.1 = s0 → G.2.2.2.1 = l → ma_C G cc nL y.cls fr mc ms lo → (∀ q : Nat, Wr q → ma_Wr G q) → (∀ (k n : Nat) (M' : ma_H) (pc : Nat) (L : List (Option Value)) (st : List Value) (r : Option Value), k ≤ mc → n ≤ ms → post r M' → ((ret = some .int ∧ ∃ v : Int32, r = some (.int v) ∧ st = [.int v] ∧ decode cc pc = .ok (.ireturn, 1)) ∨ (ret = none ∧ r = none ∧ st = [] ∧ decode cc pc = .ok (.return_, 1)) ∨ (∃ rt, ret = some rt ∧ ((∃ n, rt = .object n) ∨ ∃ t, rt = .array t) ∧ ∃ v : Nat, r = some (.ref v) ∧ st = [.ref v] ∧ decode cc pc = .ok (.areturn, 1))) → mj G nL k n M' pc L st) →
      (∀ (k n : Nat) (M' : ma_H) (pc : Nat) (L : List (Option Value)) (ik is ic : Nat) (E tx : String), ma_X y.cls ik ic E → Cond.stringRef y.cls is tx ∈ lw_tbl → decode cc pc = .ok (.new ik, 3) → decode cc (pc + 3) = .ok (.dup, 1) → ((decode cc (pc + 4) = .ok (.ldc is, 2) ∧ decode cc (pc + 6) = .ok (.invokespecial ic, 3) ∧ decode cc (pc + 9) = .ok (.athrow, 1)) ∨ (decode cc (pc + 4) = .ok (.ldc_w is, 3) ∧ decode cc (pc + 7) = .ok (.invokespecial ic, 3) ∧ decode cc (pc + 10) = .ok (.athrow, 1))) → k + 1 ≤ mc → n + 6 ≤ ms → 5 < fr → 82 ≤ lo → postX E M' → mj G nL k n M' pc L []) →
      (∀ (k n : Nat) (M' : ma_H) (pc : Nat) (L : List (Option Value)) (E : String), k ≤ mc → n ≤ ms → postX E M' → mjX G nL k n M' pc L E) → mj G nL 0 0 M 0 Ls []) : Cx l D s0 y cc nL ret fr mc ms lo av M Wr post postX := by
  intro hK hdom sz hsz
  refine vx_ofW (cc := cc) (maxL := nL) (ret := ret) hy rfl ?_
  intro p e s m args below meth c s₁ B hml hno hv
  obtain ⟨rfl, rfl, hP, hB⟩ := hv
  have hx := B.exec
  have hb := B.bytes
  have hr := B.returns
  have hown : s.vm.findClass y.cls = some m.cls := findClass_of_methodNamed B.named
  have hlocks := B.notSynchronized
  have hl := lv_entry av (n := nL) hsl
  rw [lg_entry_eq]
  generalize (lg_sl av ++ List.replicate (nL - (lg_sl av).length) Slot.unset).toArray = ls at hl ⊢
  have hM0 : ∀ q : Nat, M q ≠ none → q < s.heap.size := by
    intro q hq
    cases hx9 : M q with
    | none => exact absurd hx9 hq
    | some x => exact (hP q x hx9).lt
  refine body (D, s0, p, l, e, { frames := fr, cells := mc, slots := ms, locals := lo }, s, m, av.toArray, below, meth, c, vx_MQ below (ma_Qc D M Wr s.heap.size post) (ma_XC D M Wr s.heap.size postX) av.toArray s mc ms (ma_A0 Wr s.heap.size), M, Wr) rfl rfl rfl ⟨hx, hb, hml, hown, hlocks, rfl, hB, hK, hdom, hM0⟩ (fun q h => Or.inl h) ?_ ?_ ?_ s.heap [] ls hP ⟨fun _ _ _ => rfl, fun _ h1 h2 => absurd h1 h2⟩ va_S.rf ⟨hl.1, hl.2.1, fun i v q => hl.2.2 (i, v) (ma_en_has (z := z) (by rw [hLs]; exact q))⟩
  · intro k n M' pc L st r hk hn hp hcase H locs ls' h1 h2 h3 h4
    refine W.widen hk hn (vx_ret ?_)
    have hq : ∀ t : State, t.heap = H → s.WarmedH t.vm → ma_Qc D M Wr s.heap.size post av.toArray s (.returned r) t := fun t ht _ => ⟨r, M', rfl, hp, by rw [ht]; exact h1, h2, h3.F ht⟩
    rcases hcase with ⟨h5, v, rfl, rfl, hd⟩ | ⟨h5, rfl, rfl, hd⟩ | ⟨rt, h5, h6, v, rfl, rfl, hd⟩
    · exact W.iret hx hb (hr.trans h5) hq h3.2.2 hd
    · exact W.vret hx hb (hr.trans h5) hq h3.2.2 hd
    · exact W.aret hx hb (hr.trans h5) h6 (Or.inr ⟨v, rfl⟩) hq h3.2.2 hd
  · intro k n M' pc L ik is ic E tx hXw hstr d0 d3 hds hk hn hf hlo hp H locs ls' h1 h2 h3 h4
    obtain ⟨w1, w2, w3, w4, w5⟩ := hXw
    obtain ⟨sa, hsa⟩ := ma_str hK hB hown hstr
    have hX9 : ∀ t : State, s.vm.Alike t.vm → H.size ≤ t.heap.size → (∀ q : Nat, q < H.size → t.heap[q]? = H[q]?) → ma_XC D M Wr s.heap.size postX E s t := fun t _ g1 g2 => ⟨M', hp, fun a x hx9 => (h1 a x hx9).kept (g2 a (h1 a x hx9).lt), h2, Nat.le_trans h3.1 g1, fun q g3 g4 => (g2 q (Nat.lt_of_lt_of_le g3 h3.1)).trans (h3.2.1 q g3 g4)⟩
    have hat : ∀ w ∈ vx_atS y.cls ic E x_up, w.before av.toArray s = true := fun w hw => ma_word2 hK hB (w3 w hw).1 (w3 w hw).2.1 (w3 w hw).2.2 _
    rcases hds with ⟨d4, d6, d9⟩ | ⟨d4, d6, d9⟩
    · exact vx_throwS hx hb hK.1 hown w5 x_up_fit (ma_word hK hB w1 rfl rfl _) (ma_word hK hB w2 rfl rfl _) hsa hat w4 (ma_Zq (D := D) (l := l) hB hdom hK.2.2.2.2.1) (ma_Zq (D := D) (l := l) hB hdom hK.2.2.2.2.2.1) h3 (h4.1.trans hml.symm) d0 d3 d4 d6 d9 (fun x hx9 => (hno x hx9).elim) hf (by show (List.map _ []).sum + (13 * (2 + 1) + 43) ≤ lo; simp; omega) hk hn hlocks hX9 h3.2.2 hk hn
    · exact vx_throwSW hx hb hK.1 hown w5 x_up_fit (ma_word hK hB w1 rfl rfl _) (ma_word hK hB w2 rfl rfl _) hsa hat w4 (ma_Zq (D := D) (l := l) hB hdom hK.2.2.2.2.1) (ma_Zq (D := D) (l := l) hB hdom hK.2.2.2.2.2.1) h3 (h4.1.trans hml.symm) d0 d3 d4 d6 d9 (fun x hx9 => (hno x hx9).elim) hf (by show (List.map _ []).sum + (13 * (2 + 1) + 43) ≤ lo; simp; omega) hk hn hlocks hX9 h3.2.2 hk hn
  · intro k n M' pc L E hk hn hp H locs ls' rest q ce h1 h2 h3 h4 h5 h6 h7
    exact vx_out (fun x hx9 => (hno x hx9).elim) hlocks h5 h6 h7 (fun t ht _ => ⟨M', hp, by rw [ht]; exact h1, h2, h3.F ht⟩) h3.2.2 hk hn
end
end
section
theorem xw_AW_55 : ma_X R_AW 55 59 x_IO := ⟨by decide +kernel, List.mem_of_getElem? (i := 43) (by decide +kernel), by decide +kernel, by decide +kernel, by decide +kernel⟩
theorem xw_AW_66 : ma_X R_AW 66 70 x_UO := ⟨by decide +kernel, List.mem_of_getElem? (i := 44) (by decide +kernel), by decide +kernel, by decide +kernel, by decide +kernel⟩
theorem xw_AW_107 : ma_X R_AW 107 111 x_IS := ⟨by decide +kernel, List.mem_of_getElem? (i := 48) (by decide +kernel), by decide +kernel, by decide +kernel, by decide +kernel⟩
theorem xw_AW_246 : ma_X R_AW 246 250 x_IA := ⟨by decide +kernel, List.mem_of_getElem? (i := 47) (by decide +kernel), by decide +kernel, by decide +kernel, by decide +kernel⟩
end
