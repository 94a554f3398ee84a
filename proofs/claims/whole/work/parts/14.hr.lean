/-! ===== AddressWords$HouseRange, and plain statics ===== -/
theorem b2i_eq0 (b : Bool) : b2i b = 0 ↔ b = false := by cases b <;> simp [b2i]
def hs_on (side house : Int32) : Bool := decide (side = 2) || decide (house &&& 1 = side)
def hs_first (side low : Int32) : Int32 := if hs_on side low then low else low + 1
def hs_last (side high : Int32) : Int32 := if hs_on side high then high else high - 1
def hs_near (side first last h : Int32) : Int32 := if h ≤ first then first else if last ≤ h then last else if hs_on side h then h else h - 1
def i_abs (x : Int32) : Int32 := if 0 ≤ x then x else 0 - x
/-- nearer to h, or as near and lower -/
def hs_less (h o n : Int32) : Bool := decide (i_abs (o - h) < i_abs (n - h)) || (decide (i_abs (o - h) = i_abs (n - h)) && decide (o < n))
def sq_way (x y tx ty : Int32) : Int32 := (tx - x) * (tx - x) + (ty - y) * (ty - y)
def f_div (x y : Int32) : Int32 := if 0 ≤ x ^^^ y then x / y else if x / y * y = x then x / y else x / y - 1

set_option maxHeartbeats 4000000 in
set_option maxRecDepth 100000 in
theorem ct_HR_isOnSide (l : Launch) (D : ma_D) (s0 : State) (side h : Int32) (M : ma_H) : Ct l D s0 y_HR_isOnSide c_HR_isOnSide 2 (some .boolean) 0 0 0 0 [.int side, .int h] M (fun _ => False) (pI (b2i (hs_on side h)) M) := by
  refine Ct_z 0 [some (.int side), some (.int h)] (by decide +kernel) (Nat.le_of_ble_eq_true rfl) rfl ?_
  intro G e1 e2 e3 C hw Rt
  subst e1; subst e2; subst e3
  refine m_iload_n C d_HR_isOnSide_0 rfl rfl ?_
  refine m_iconst (v := 2) C d_HR_isOnSide_1 (by decide) ?_
  refine m_icmp_eq (tgt := 12) C d_HR_isOnSide_2 (by decide) (fun h1 => ?_) (fun h1 => ?_)
  · refine m_iconst (v := 1) C d_HR_isOnSide_12 (by decide) ?_
    refine m_goto (tgt := 17) C d_HR_isOnSide_13 (by decide) ?_
    exact Rt _ _ _ _ _ _ (by decide) (by decide) (by decide) d_HR_isOnSide_17 (⟨by simp [b2i, hs_on, h1], rfl⟩)
  · refine m_iload_n C d_HR_isOnSide_5 rfl rfl ?_
    refine m_iconst (v := 1) C d_HR_isOnSide_6 (by decide) ?_
    refine m_iand C d_HR_isOnSide_7 ?_
    refine m_iload_n C d_HR_isOnSide_8 rfl rfl ?_
    refine m_icmp_ne (tgt := 16) C d_HR_isOnSide_9 (by decide) (fun h2 => ?_) (fun h2 => ?_)
    · refine m_iconst (v := 0) C d_HR_isOnSide_16 (by decide) ?_
      exact Rt _ _ _ _ _ _ (by decide) (by decide) (by decide) d_HR_isOnSide_17 (⟨by simp [b2i, hs_on, h1, h2], rfl⟩)
    · refine m_iconst (v := 1) C d_HR_isOnSide_12 (by decide) ?_
      refine m_goto (tgt := 17) C d_HR_isOnSide_13 (by decide) ?_
      exact Rt _ _ _ _ _ _ (by decide) (by decide) (by decide) d_HR_isOnSide_17 (⟨by simp [b2i, hs_on, h1, h2], rfl⟩)

set_option maxHeartbeats 4000000 in
set_option maxRecDepth 100000 in
theorem ct_HR_firstFrom (l : Launch) (D : ma_D) (s0 : State) (side h : Int32) (M : ma_H) : Ct l D s0 y_HR_firstFrom c_HR_firstFrom 2 (some .int) 1 0 0 21 [.int side, .int h] M (fun _ => False) (pI (hs_first side h) M) := by
  refine Ct_i 0 [some (.int side), some (.int h)] (by decide +kernel) (Nat.le_of_ble_eq_true rfl) rfl ?_
  intro G e1 e2 e3 C hw Rt
  subst e1; subst e2; subst e3
  refine m_iload_n C d_HR_firstFrom_0 rfl rfl ?_
  refine m_iload_n C d_HR_firstFrom_1 rfl rfl ?_
  refine m_callS C d_HR_firstFrom_2 mw_HR_28 mst_HR_isOnSide (ct_HR_isOnSide _ _ _ side h M) (fun _ h => h.elim) rfl rfl (Nat.le_of_ble_eq_true rfl) (by decide) (fun v9 M9 hp h5 h6 => ?_)
  obtain ⟨rfl, hM9⟩ := hp; rw [hM9]
  show mj G 2 0 0 M 5 [some (.int side), some (.int h)] [.int (b2i (hs_on side h))]
  refine m_if_eq (tgt := 12) C d_HR_firstFrom_5 (by decide) (fun h1 => ?_) (fun h1 => ?_)
  · refine m_iload_n C d_HR_firstFrom_12 rfl rfl ?_
    refine m_iconst (v := 1) C d_HR_firstFrom_13 (by decide) ?_
    refine m_iadd C d_HR_firstFrom_14 ?_
    exact Rt _ _ _ _ _ _ (by decide) (by decide) d_HR_firstFrom_15 (⟨by rw [b2i_eq0] at h1; simp [hs_first, h1], rfl⟩)
  · refine m_iload_n C d_HR_firstFrom_8 rfl rfl ?_
    refine m_goto (tgt := 15) C d_HR_firstFrom_9 (by decide) ?_
    exact Rt _ _ _ _ _ _ (by decide) (by decide) d_HR_firstFrom_15 (⟨by rw [b2i_eq0] at h1; simp [hs_first, h1], rfl⟩)

set_option maxHeartbeats 4000000 in
set_option maxRecDepth 100000 in
theorem ct_HR_lastTo (l : Launch) (D : ma_D) (s0 : State) (side h : Int32) (M : ma_H) : Ct l D s0 y_HR_lastTo c_HR_lastTo 2 (some .int) 1 0 0 21 [.int side, .int h] M (fun _ => False) (pI (hs_last side h) M) := by
  refine Ct_i 0 [some (.int side), some (.int h)] (by decide +kernel) (Nat.le_of_ble_eq_true rfl) rfl ?_
  intro G e1 e2 e3 C hw Rt
  subst e1; subst e2; subst e3
  refine m_iload_n C d_HR_lastTo_0 rfl rfl ?_
  refine m_iload_n C d_HR_lastTo_1 rfl rfl ?_
  refine m_callS C d_HR_lastTo_2 mw_HR_28 mst_HR_isOnSide (ct_HR_isOnSide _ _ _ side h M) (fun _ h => h.elim) rfl rfl (Nat.le_of_ble_eq_true rfl) (by decide) (fun v9 M9 hp h5 h6 => ?_)
  obtain ⟨rfl, hM9⟩ := hp; rw [hM9]
  show mj G 2 0 0 M 5 [some (.int side), some (.int h)] [.int (b2i (hs_on side h))]
  refine m_if_eq (tgt := 12) C d_HR_lastTo_5 (by decide) (fun h1 => ?_) (fun h1 => ?_)
  · refine m_iload_n C d_HR_lastTo_12 rfl rfl ?_
    refine m_iconst (v := 1) C d_HR_lastTo_13 (by decide) ?_
    refine m_isub C d_HR_lastTo_14 ?_
    exact Rt _ _ _ _ _ _ (by decide) (by decide) d_HR_lastTo_15 (⟨by rw [b2i_eq0] at h1; simp [hs_last, h1], rfl⟩)
  · refine m_iload_n C d_HR_lastTo_8 rfl rfl ?_
    refine m_goto (tgt := 15) C d_HR_lastTo_9 (by decide) ?_
    exact Rt _ _ _ _ _ _ (by decide) (by decide) d_HR_lastTo_15 (⟨by rw [b2i_eq0] at h1; simp [hs_last, h1], rfl⟩)

set_option maxHeartbeats 4000000 in
set_option maxRecDepth 100000 in
theorem ct_HR_nearestTo (l : Launch) (D : ma_D) (s0 : State) (a : Nat) (side first last h : Int32) (M : ma_H) (ha : M a = some (.inl (3, [.int side, .int first, .int last]))) : Ct l D s0 y_HR_nearestTo c_HR_nearestTo 2 (some .int) 1 0 0 21 [.ref a, .int h] M (fun _ => False) (pI (hs_near side first last h) M) := by
  refine Ct_i 0 [some (.ref a), some (.int h)] (by decide +kernel) (Nat.le_of_ble_eq_true rfl) rfl ?_
  intro G e1 e2 e3 C hw Rt
  subst e1; subst e2; subst e3
  refine m_iload_n C d_HR_nearestTo_0 rfl rfl ?_
  refine m_aload_n C d_HR_nearestTo_1 rfl rfl ?_
  refine m_get C fg_HR_19 d_HR_nearestTo_2 ha rfl ?_
  refine m_icmp_gt (tgt := 13) C d_HR_nearestTo_5 (by decide) (fun h1 => ?_) (fun h1 => ?_)
  · refine m_iload_n C d_HR_nearestTo_13 rfl rfl ?_
    refine m_aload_n C d_HR_nearestTo_14 rfl rfl ?_
    refine m_get C fg_HR_25 d_HR_nearestTo_15 ha rfl ?_
    refine m_icmp_lt (tgt := 26) C d_HR_nearestTo_18 (by decide) (fun h2 => ?_) (fun h2 => ?_)
    · refine m_aload_n C d_HR_nearestTo_26 rfl rfl ?_
      refine m_get C fg_HR_9 d_HR_nearestTo_27 ha rfl ?_
      refine m_iload_n C d_HR_nearestTo_30 rfl rfl ?_
      refine m_callS C d_HR_nearestTo_31 mw_HR_28 mst_HR_isOnSide (ct_HR_isOnSide _ _ _ side h M) (fun _ h => h.elim) rfl rfl (Nat.le_of_ble_eq_true rfl) (by decide) (fun v9 M9 hp h5 h6 => ?_)
      obtain ⟨rfl, hM9⟩ := hp; rw [hM9]
      show mj G 2 0 0 M 34 [some (.ref a), some (.int h)] [.int (b2i (hs_on side h))]
      refine m_if_eq (tgt := 41) C d_HR_nearestTo_34 (by decide) (fun h3 => ?_) (fun h3 => ?_)
      · refine m_iload_n C d_HR_nearestTo_41 rfl rfl ?_
        refine m_iconst (v := 1) C d_HR_nearestTo_42 (by decide) ?_
        refine m_isub C d_HR_nearestTo_43 ?_
        exact Rt _ _ _ _ _ _ (by decide) (by decide) d_HR_nearestTo_44 (⟨by rw [b2i_eq0] at h3; simp [hs_near, Int32.not_le.mpr h1, Int32.not_le.mpr h2, h3], rfl⟩)
      · refine m_iload_n C d_HR_nearestTo_37 rfl rfl ?_
        refine m_goto (tgt := 44) C d_HR_nearestTo_38 (by decide) ?_
        exact Rt _ _ _ _ _ _ (by decide) (by decide) d_HR_nearestTo_44 (⟨by rw [b2i_eq0] at h3; simp [hs_near, Int32.not_le.mpr h1, Int32.not_le.mpr h2, h3], rfl⟩)
    · refine m_aload_n C d_HR_nearestTo_21 rfl rfl ?_
      refine m_get C fg_HR_25 d_HR_nearestTo_22 ha rfl ?_
      exact Rt _ _ _ _ _ _ (by decide) (by decide) d_HR_nearestTo_25 (⟨by simp [hs_near, Int32.not_le.mpr h1, Int32.not_lt.mp h2], rfl⟩)
  · refine m_aload_n C d_HR_nearestTo_8 rfl rfl ?_
    refine m_get C fg_HR_19 d_HR_nearestTo_9 ha rfl ?_
    exact Rt _ _ _ _ _ _ (by decide) (by decide) d_HR_nearestTo_12 (⟨by simp [hs_near, Int32.not_lt.mp h1], rfl⟩)

set_option maxHeartbeats 4000000 in
set_option maxRecDepth 100000 in
theorem ct_HR_init (l : Launch) (D : ma_D) (s0 : State) (a : Nat) (side low high : Int32) (M : ma_H) (ha : M a = some (.inl (3, [.int 0, .int 0, .int 0]))) : Ct l D s0 y_HR_init c_HR_init 4 none 2 0 0 42 [.ref a, .int side, .int low, .int high] M (fun q => q = a) (fun r M' => r = none ∧ M' a = some (.inl (3, [.int side, .int (hs_first side low), .int (hs_last side high)]))) := by
  refine Ct_v 0 [some (.ref a), some (.int side), some (.int low), some (.int high)] (by decide +kernel) (Nat.le_of_ble_eq_true rfl) rfl ?_
  intro G e1 e2 e3 C hw hI Rt
  subst e1; subst e2; subst e3
  refine m_aload_n C d_HR_init_0 rfl rfl ?_
  refine m_obj C d_HR_init_1 ml_HR_3 mi_obj mc_obj (by decide) (Nat.le_of_ble_eq_true rfl) ?_
  refine m_aload_n C d_HR_init_4 rfl rfl ?_
  refine m_iload_n C d_HR_init_5 rfl rfl ?_
  refine m_putFE C (hI rfl) fp_HR_9 d_HR_init_6 (hw a rfl) ha rfl rfl (fun M1 k1 k2 => ?_)
  refine m_aload_n C d_HR_init_9 rfl rfl ?_
  refine m_iload_n C d_HR_init_10 rfl rfl ?_
  refine m_iload_n C d_HR_init_11 rfl rfl ?_
  refine m_callS C d_HR_init_12 mw_HR_15 mst_HR_firstFrom (ct_HR_firstFrom _ _ _ side low M1) (fun _ h => h.elim) rfl rfl (Nat.le_of_ble_eq_true rfl) (by decide) (fun v9 M9 hp h5 h6 => ?_)
  obtain ⟨rfl, hM9⟩ := hp; rw [hM9]
  show mj G 4 0 0 M1 15 [some (.ref a), some (.int side), some (.int low), some (.int high)] [.int (hs_first side low), .ref a]
  refine m_putFE C (hI rfl) fp_HR_19 d_HR_init_15 (hw a rfl) k1 rfl rfl (fun M2 j1 j2 => ?_)
  refine m_aload_n C d_HR_init_18 rfl rfl ?_
  refine m_iload_n C d_HR_init_19 rfl rfl ?_
  refine m_iload_n C d_HR_init_20 rfl rfl ?_
  refine m_callS C d_HR_init_21 mw_HR_22 mst_HR_lastTo (ct_HR_lastTo _ _ _ side high M2) (fun _ h => h.elim) rfl rfl (Nat.le_of_ble_eq_true rfl) (by decide) (fun v9 M9 hp h5 h6 => ?_)
  obtain ⟨rfl, hM9⟩ := hp; rw [hM9]
  show mj G 4 0 0 M2 24 [some (.ref a), some (.int side), some (.int low), some (.int high)] [.int (hs_last side high), .ref a]
  refine m_putFE C (hI rfl) fp_HR_25 d_HR_init_24 (hw a rfl) j1 rfl rfl (fun M3 i1 i2 => ?_)
  exact Rt _ _ _ _ _ (by decide) (by decide) d_HR_init_27 (⟨rfl, i1⟩)

set_option maxHeartbeats 4000000 in
set_option maxRecDepth 100000 in
theorem ct_St_isNearer (l : Launch) (D : ma_D) (s0 : State) (h o n : Int32) (M : ma_H) : Ct l D s0 y_St_isNearer c_St_isNearer 5 (some .boolean) 1 0 0 22 [.int h, .int o, .int n] M (fun _ => False) (pI (b2i (hs_less h o n)) M) := by
  refine Ct_z 2 [some (.int h), some (.int o), some (.int n), none, none] (by decide +kernel) (Nat.le_of_ble_eq_true rfl) rfl ?_
  intro G e1 e2 e3 C hw Rt
  subst e1; subst e2; subst e3
  refine m_iload_n C d_St_isNearer_0 rfl rfl ?_
  refine m_iload_n C d_St_isNearer_1 rfl rfl ?_
  refine m_isub C d_St_isNearer_2 ?_
  refine m_abs C d_St_isNearer_3 ml_St_73 (by decide) (Nat.le_of_ble_eq_true rfl) (by decide) (by decide) ?_
  show mj G 5 0 0 M 6 [some (.int h), some (.int o), some (.int n), none, none] [.int (i_abs (o - h))]
  refine m_istore_n (L' := [some (.int h), some (.int o), some (.int n), some (.int (i_abs (o - h))), none]) C d_St_isNearer_6 rfl (by decide) rfl ?_
  refine m_iload_n C d_St_isNearer_7 rfl rfl ?_
  refine m_iload_n C d_St_isNearer_8 rfl rfl ?_
  refine m_isub C d_St_isNearer_9 ?_
  refine m_abs C d_St_isNearer_10 ml_St_73 (by decide) (Nat.le_of_ble_eq_true rfl) (by decide) (by decide) ?_
  show mj G 5 0 0 M 13 [some (.int h), some (.int o), some (.int n), some (.int (i_abs (o - h))), none] [.int (i_abs (n - h))]
  refine m_istore (L' := [some (.int h), some (.int o), some (.int n), some (.int (i_abs (o - h))), some (.int (i_abs (n - h)))]) C d_St_isNearer_13 (by decide) rfl ?_
  refine m_iload_n C d_St_isNearer_15 rfl rfl ?_
  refine m_iload C d_St_isNearer_16 rfl ?_
  refine m_icmp_lt (tgt := 32) C d_St_isNearer_18 (by decide) (fun h1 => ?_) (fun h1 => ?_)
  · refine m_iconst (v := 1) C d_St_isNearer_32 (by decide) ?_
    refine m_goto (tgt := 37) C d_St_isNearer_33 (by decide) ?_
    exact Rt _ _ _ _ _ _ (by decide) (by decide) (by decide) d_St_isNearer_37 (⟨by simp [b2i, hs_less, h1], rfl⟩)
  · refine m_iload_n C d_St_isNearer_21 rfl rfl ?_
    refine m_iload C d_St_isNearer_22 rfl ?_
    refine m_icmp_ne (tgt := 36) C d_St_isNearer_24 (by decide) (fun h2 => ?_) (fun h2 => ?_)
    · refine m_iconst (v := 0) C d_St_isNearer_36 (by decide) ?_
      exact Rt _ _ _ _ _ _ (by decide) (by decide) (by decide) d_St_isNearer_37 (⟨by simp [b2i, hs_less, h1, h2], rfl⟩)
    · refine m_iload_n C d_St_isNearer_27 rfl rfl ?_
      refine m_iload_n C d_St_isNearer_28 rfl rfl ?_
      refine m_icmp_ge (tgt := 36) C d_St_isNearer_29 (by decide) (fun h3 => ?_) (fun h3 => ?_)
      · refine m_iconst (v := 0) C d_St_isNearer_36 (by decide) ?_
        exact Rt _ _ _ _ _ _ (by decide) (by decide) (by decide) d_St_isNearer_37 (⟨by simp [b2i, hs_less, h2, Int32.not_lt.mpr h3], rfl⟩)
      · refine m_iconst (v := 1) C d_St_isNearer_32 (by decide) ?_
        refine m_goto (tgt := 37) C d_St_isNearer_33 (by decide) ?_
        exact Rt _ _ _ _ _ _ (by decide) (by decide) (by decide) d_St_isNearer_37 (⟨by simp [b2i, hs_less, h2, Int32.not_le.mp h3], rfl⟩)

set_option maxHeartbeats 4000000 in
set_option maxRecDepth 100000 in
theorem ct_AW_squareOfWay (l : Launch) (D : ma_D) (s0 : State) (x y tx ty : Int32) (M : ma_H) : Ct l D s0 y_AW_squareOfWay c_AW_squareOfWay 6 (some .int) 0 0 0 0 [.int x, .int y, .int tx, .int ty] M (fun _ => False) (pI (sq_way x y tx ty) M) := by
  refine Ct_i 2 [some (.int x), some (.int y), some (.int tx), some (.int ty), none, none] (by decide +kernel) (Nat.le_of_ble_eq_true rfl) rfl ?_
  intro G e1 e2 e3 C hw Rt
  subst e1; subst e2; subst e3
  refine m_iload_n C d_AW_squareOfWay_0 rfl rfl ?_
  refine m_iload_n C d_AW_squareOfWay_1 rfl rfl ?_
  refine m_isub C d_AW_squareOfWay_2 ?_
  refine m_istore (L' := [some (.int x), some (.int y), some (.int tx), some (.int ty), some (.int (tx - x)), none]) C d_AW_squareOfWay_3 (by decide) rfl ?_
  refine m_iload_n C d_AW_squareOfWay_5 rfl rfl ?_
  refine m_iload_n C d_AW_squareOfWay_6 rfl rfl ?_
  refine m_isub C d_AW_squareOfWay_7 ?_
  refine m_istore (L' := [some (.int x), some (.int y), some (.int tx), some (.int ty), some (.int (tx - x)), some (.int (ty - y))]) C d_AW_squareOfWay_8 (by decide) rfl ?_
  refine m_iload C d_AW_squareOfWay_10 rfl ?_
  refine m_iload C d_AW_squareOfWay_12 rfl ?_
  refine m_imul C d_AW_squareOfWay_14 ?_
  refine m_iload C d_AW_squareOfWay_15 rfl ?_
  refine m_iload C d_AW_squareOfWay_17 rfl ?_
  refine m_imul C d_AW_squareOfWay_19 ?_
  refine m_iadd C d_AW_squareOfWay_20 ?_
  exact Rt _ _ _ _ _ _ (by decide) (by decide) d_AW_squareOfWay_21 (⟨rfl, rfl⟩)

section
variable {l : Launch} {D : ma_D} {s0 : State} {y : MethodName} {cc : ByteArray} {nL fr mc ms lo : Nat} {av : List Value} {M : ma_H} {Wr : Nat → Prop} {post : Option Value → ma_H → Prop}
theorem Ct_genF {ret : Option FieldType} (z : Nat) (Ls : List (Option Value)) (hy : plainFor y = true) (hsl : (lg_sl av).length ≤ nL) (hLs : ma_en av ++ List.replicate z none = Ls)
    (body : ∀ G : ma_G, G.1 = D → G.2.1 = s0 → G.2.2.2.1 = l → ma_C G cc nL y.cls fr mc ms lo → (∀ q : Nat, Wr q → ma_Wr G q) → (y.name = "<init>" → ma_I G) → (∀ (k n : Nat) (M' : ma_H) (pc : Nat) (L : List (Option Value)) (st : List Value) (r : Option Value), k ≤ mc → n ≤ ms → post r M' → ((ret = some .int ∧ ∃ v : Int32, r = some (.int v) ∧ st = [.int v] ∧ decode cc pc = .ok (.ireturn, 1)) ∨ (∃ ty, ret = some ty ∧ ∃ v : Int32, narrow ty (.int v) = .int v ∧ r = some (.int v) ∧ st = [.int v] ∧ decode cc pc = .ok (.ireturn, 1)) ∨ (ret = none ∧ r = none ∧ st = [] ∧ decode cc pc = .ok (.return_, 1)) ∨ (∃ rt, ret = some rt ∧ ((∃ n, rt = .object n) ∨ ∃ t, rt = .array t) ∧ ∃ v : Nat, r = some (.ref v) ∧ st = [.ref v] ∧ decode cc pc = .ok (.areturn, 1))) → mj G nL k n M' pc L st) → mj G nL 0 0 M 0 Ls []) : Ct l D s0 y cc nL ret fr mc ms lo av M Wr post := by
  intro hK hdom sz hsz
  refine va_MetF (cc := cc) (maxL := nL) (ret := ret) hy rfl ?_
  intro p e s m args below meth c s₁ B hml hv
  obtain ⟨rfl, rfl, hP, hB⟩ := hv
  have hx := B.exec
  have hb := B.bytes
  have hr := B.returns
  have hown : s.vm.findClass y.cls = some m.cls := findClass_of_methodNamed B.named
  have hlocks := B.notSynchronized
  have hnm := (name_of_methodNamed B.named B.method).1
  have hl := lv_entry av (n := nL) hsl
  rw [lg_entry_eq]
  generalize (lg_sl av ++ List.replicate (nL - (lg_sl av).length) Slot.unset).toArray = ls at hl ⊢
  have hM0 : ∀ q : Nat, M q ≠ none → q < s.heap.size := by
    intro q hq
    cases hx9 : M q with
    | none => exact absurd hx9 hq
    | some x => exact (hP q x hx9).lt
  refine body (D, s0, p, l, e, { frames := fr, cells := mc, slots := ms, locals := lo }, s, m, av.toArray, below, meth, c, MQ below (ma_Qc D M Wr s.heap.size post) av.toArray s mc ms (ma_A0 Wr s.heap.size), M, Wr) rfl rfl rfl ⟨hx, hb, hml, hown, hlocks, rfl, hB, hK, hdom, hM0⟩ (fun q h => Or.inl h) (fun h => hnm.trans h) ?_ s.heap [] ls hP ⟨fun _ _ _ => rfl, fun _ h1 h2 => absurd h1 h2⟩ va_S.rf ⟨hl.1, hl.2.1, fun i v q => hl.2.2 (i, v) (ma_en_has (z := z) (by rw [hLs]; exact q))⟩
  intro k n M' pc L st r hk hn hp hcase H locs ls' h1 h2 h3 h4
  refine W.widen hk hn ?_
  have hq : ∀ t : State, t.heap = H → s.WarmedH t.vm → ma_Qc D M Wr s.heap.size post av.toArray s (.returned r) t := fun t ht _ => ⟨r, M', rfl, hp, by rw [ht]; exact h1, h2, h3.F ht⟩
  rcases hcase with ⟨h5, v, rfl, rfl, hd⟩ | ⟨ty, h5, v, h6, rfl, rfl, hd⟩ | ⟨h5, rfl, rfl, hd⟩ | ⟨rt, h5, h6, v, rfl, rfl, hd⟩
  · exact W.iret hx hb (hr.trans h5) hq h3.2.2 hd
  · exact W.zret hx hb (hr.trans h5) h6 hq h3.2.2 hd
  · exact W.vret hx hb (hr.trans h5) hq h3.2.2 hd
  · exact W.aret hx hb (hr.trans h5) h6 (Or.inr ⟨v, rfl⟩) hq h3.2.2 hd
theorem Ct_iF (z : Nat) (Ls : List (Option Value)) (hy : plainFor y = true) (hsl : (lg_sl av).length ≤ nL) (hLs : ma_en av ++ List.replicate z none = Ls)
    (body : ∀ G : ma_G, G.1 = D → G.2.1 = s0 → G.2.2.2.1 = l → ma_C G cc nL y.cls fr mc ms lo → (∀ q : Nat, Wr q → ma_Wr G q) → ma_Ri G cc nL mc ms post → mj G nL 0 0 M 0 Ls []) : Ct l D s0 y cc nL (some .int) fr mc ms lo av M Wr post :=
  Ct_genF z Ls hy hsl hLs fun G e1 e2 e3 C hw _ h => body G e1 e2 e3 C hw fun k n M' pc L v hk hn hd hp => h k n M' pc L _ _ hk hn hp (Or.inl ⟨rfl, v, rfl, rfl, hd⟩)
end

set_option maxHeartbeats 4000000 in
set_option maxRecDepth 100000 in
theorem ct_Ma_floorDiv (l : Launch) (D : ma_D) (s0 : State) (x y : Int32) (hy : ¬ y = 0) (M : ma_H) : Ct l D s0 y_Ma_floorDiv c_Ma_floorDiv 3 (some .int) 0 0 0 0 [.int x, .int y] M (fun _ => False) (pI (f_div x y) M) := by
  refine Ct_iF 1 [some (.int x), some (.int y), none] (by decide +kernel) (Nat.le_of_ble_eq_true rfl) rfl ?_
  intro G e1 e2 e3 C hw Rt
  subst e1; subst e2; subst e3
  refine m_iload_n C d_Ma_floorDiv_0 rfl rfl ?_
  refine m_iload_n C d_Ma_floorDiv_1 rfl rfl ?_
  refine m_idiv C d_Ma_floorDiv_2 hy ?_
  refine m_istore_n (L' := [some (.int x), some (.int y), some (.int (x / y))]) C d_Ma_floorDiv_3 rfl (by decide) rfl ?_
  refine m_iload_n C d_Ma_floorDiv_4 rfl rfl ?_
  refine m_iload_n C d_Ma_floorDiv_5 rfl rfl ?_
  refine m_ixor C d_Ma_floorDiv_6 ?_
  refine m_if_ge (tgt := 21) C d_Ma_floorDiv_7 (by decide) (fun h1 => ?_) (fun h1 => ?_)
  · refine m_iload_n C d_Ma_floorDiv_21 rfl rfl ?_
    exact Rt _ _ _ _ _ _ (by decide) (by decide) d_Ma_floorDiv_22 (⟨by simp [f_div, h1], rfl⟩)
  · refine m_iload_n C d_Ma_floorDiv_10 rfl rfl ?_
    refine m_iload_n C d_Ma_floorDiv_11 rfl rfl ?_
    refine m_imul C d_Ma_floorDiv_12 ?_
    refine m_iload_n C d_Ma_floorDiv_13 rfl rfl ?_
    refine m_icmp_eq (tgt := 21) C d_Ma_floorDiv_14 (by decide) (fun h2 => ?_) (fun h2 => ?_)
    · refine m_iload_n C d_Ma_floorDiv_21 rfl rfl ?_
      exact Rt _ _ _ _ _ _ (by decide) (by decide) d_Ma_floorDiv_22 (⟨by simp [f_div, h1, h2], rfl⟩)
    · refine m_iload_n C d_Ma_floorDiv_17 rfl rfl ?_
      refine m_iconst (v := 1) C d_Ma_floorDiv_18 (by decide) ?_
      refine m_isub C d_Ma_floorDiv_19 ?_
      exact Rt _ _ _ _ _ _ (by decide) (by decide) d_Ma_floorDiv_20 (⟨by simp [f_div, h1, h2], rfl⟩)
