def m_thrown (r : rR)  : Int32 := r 18 34
set_option maxHeartbeats 4000000 in
set_option maxRecDepth 100000 in
theorem k_Md_thrown (l : Launch) (D : va_G) (dA : Nat → ClassId) (base : Nat) (M : mM) (ad : Nat → Nat → Nat) (hR : wR M) (r : rR)  : mMet l y_Md_thrown b_Md_thrown 1 (some FieldType.int) ({ frames := 0, cells := 0, slots := 0, locals := 0 } : Room) 0 0 D dA base (rs M r) ad [.ref (ad 18 0)] (fun rv M' ad' => rv = some (.int (m_thrown r)) ∧ M' = rs M r ∧ ad' = ad) := by
  refine m_start (lvs := [(0, .ref (ad 18 0))]) (by decide) (Nat.le_of_ble_eq_true rfl) rfl ?_
  intro p e s m below meth c ls X hr hlk hin hml hM hl
  generalize he : m_thrown r = F
  refine lv_aload_n X.1 X.2.1 d_Md_thrown_0 rfl (lv_at hl 0 rfl) ?_
  refine R_geti (k := 18) X hM (by decide) rfl hR.1 f_Md_98 rfl d_Md_thrown_1 ?_
  have heL : r 18 34 = F := (rfl).symm.trans he
  exact m_iret X hr hlk hM d_Md_thrown_4 ⟨Nat.le_of_ble_eq_true rfl, Nat.le_of_ble_eq_true rfl⟩ ⟨fun _ _ _ => rfl, fun _ => Nat.le_refl _⟩ ⟨congrArg (fun z => some (Value.int z)) heL, rfl, rfl⟩
def m_in (a0 : Int32) (a1 : Int32) (a2 : Int32) : Int32 := (if a0 < a1 then 0 else (if a2 < a0 then 0 else 1))
set_option maxHeartbeats 4000000 in
set_option maxRecDepth 100000 in
theorem k_Md_in (l : Launch) (D : va_G) (dA : Nat → ClassId) (base : Nat) (M : mM) (ad : Nat → Nat → Nat) (a0 : Int32) (a1 : Int32) (a2 : Int32) : mMet l y_Md_in b_Md_in 3 (some FieldType.boolean) ({ frames := 0, cells := 0, slots := 0, locals := 0 } : Room) 0 0 D dA base M ad [.int a0, .int a1, .int a2] (fun rv M' ad' => rv = some (.int (m_in a0 a1 a2)) ∧ M' = M ∧ ad' = ad) := by
  refine m_start (lvs := [(0, .int a0), (1, .int a1), (2, .int a2)]) (by decide) (Nat.le_of_ble_eq_true rfl) rfl ?_
  intro p e s m below meth c ls X hr hlk hin hml hM hl
  generalize he : m_in a0 a1 a2 = F
  refine lv_iload_n X.1 X.2.1 d_Md_in_0 rfl (lv_at hl 0 rfl) ?_
  refine lv_iload_n X.1 X.2.1 d_Md_in_1 rfl (lv_at hl 1 rfl) ?_
  refine lv_icmp_lt (tgt := 14) X.1 X.2.1 d_Md_in_2 (by decide) (fun h1 => ?_) (fun h1 => ?_)
  · skip
    skip
    refine lv_iconst (v := 0) X.1 X.2.1 d_Md_in_14 (by decide) ?_
    have heL : 0 = F := ((if_pos h1)).symm.trans he
    exact m_zret X hr hlk hM (by first | rfl | decide) d_Md_in_15 ⟨Nat.le_of_ble_eq_true rfl, Nat.le_of_ble_eq_true rfl⟩ ⟨fun _ _ _ => rfl, fun _ => Nat.le_refl _⟩ ⟨congrArg (fun z => some (Value.int z)) heL, rfl, rfl⟩
  · skip
    skip
    refine lv_iload_n X.1 X.2.1 d_Md_in_5 rfl (lv_at hl 0 rfl) ?_
    refine lv_iload_n X.1 X.2.1 d_Md_in_6 rfl (lv_at hl 2 rfl) ?_
    refine lv_icmp_gt (tgt := 14) X.1 X.2.1 d_Md_in_7 (by decide) (fun h2 => ?_) (fun h2 => ?_)
    · skip
      skip
      refine lv_iconst (v := 0) X.1 X.2.1 d_Md_in_14 (by decide) ?_
      have heL : 0 = F := ((if_neg h1).trans ((if_pos h2))).symm.trans he
      exact m_zret X hr hlk hM (by first | rfl | decide) d_Md_in_15 ⟨Nat.le_of_ble_eq_true rfl, Nat.le_of_ble_eq_true rfl⟩ ⟨fun _ _ _ => rfl, fun _ => Nat.le_refl _⟩ ⟨congrArg (fun z => some (Value.int z)) heL, rfl, rfl⟩
    · skip
      skip
      refine lv_iconst (v := 1) X.1 X.2.1 d_Md_in_10 (by decide) ?_
      refine lv_goto (tgt := 15) X.1 X.2.1 d_Md_in_11 (by decide) ?_
      have heL : 1 = F := ((if_neg h1).trans ((if_neg h2))).symm.trans he
      exact m_zret X hr hlk hM (by first | rfl | decide) d_Md_in_15 ⟨Nat.le_of_ble_eq_true rfl, Nat.le_of_ble_eq_true rfl⟩ ⟨fun _ _ _ => rfl, fun _ => Nat.le_refl _⟩ ⟨congrArg (fun z => some (Value.int z)) heL, rfl, rfl⟩
def m_fail (r : rR) (a0 : Int32) : Int32 × rR := (0, (ru r 18 34 a0))
set_option maxHeartbeats 4000000 in
set_option maxRecDepth 100000 in
theorem k_Md_fail (l : Launch) (D : va_G) (dA : Nat → ClassId) (base : Nat) (M : mM) (ad : Nat → Nat → Nat) (hR : wR M) (r : rR) (a0 : Int32) : mMet l y_Md_fail b_Md_fail 2 (some FieldType.int) ({ frames := 0, cells := 0, slots := 0, locals := 0 } : Room) 0 0 D dA base (rs M r) ad [.ref (ad 18 0), .int a0] (fun rv M' ad' => rv = some (.int (m_fail r a0).1) ∧ M' = rs M (m_fail r a0).2 ∧ ad' = ad) := by
  refine m_start (lvs := [(0, .ref (ad 18 0)), (1, .int a0)]) (by decide) (Nat.le_of_ble_eq_true rfl) rfl ?_
  intro p e s m below meth c ls X hr hlk hin hml hM hl
  generalize he : m_fail r a0 = F
  refine lv_aload_n X.1 X.2.1 d_Md_fail_0 rfl (lv_at hl 0 rfl) ?_
  refine lv_iload_n X.1 X.2.1 d_Md_fail_1 rfl (lv_at hl 1 rfl) ?_
  refine R_puti (k := 18) X hM (by decide) rfl hR.1 p_Md_98 rfl rfl rfl d_Md_fail_2 (fun H locs hM => ?_)
  refine lv_iconst (v := 0) X.1 X.2.1 d_Md_fail_5 (by decide) ?_
  have heL : (0, (ru r 18 34 a0)) = F := (rfl).symm.trans he
  exact m_iret X hr hlk hM d_Md_fail_6 ⟨Nat.le_of_ble_eq_true rfl, Nat.le_of_ble_eq_true rfl⟩ ⟨fun _ _ _ => rfl, fun _ => Nat.le_refl _⟩ ⟨congrArg (fun z => some (Value.int z.1)) heL, congrArg (fun z => rs M z.2) heL, rfl⟩
def m_isPath_L14 : Nat → Int32 → Int32 → Int32
  | 0, _, _ => 0
  | n + 1, v0, v1 => (if v1 ≤ 0 then 1 else (if (v1 - v1 / 27 * 27) = 0 then 0 else m_isPath_L14 n v0 (v1 / 27)))
def m_isPath_L14_ok : Nat → Int32 → Int32 → Prop
  | 0, _, _ => False
  | n + 1, v0, v1 => ((v1 ≤ 0) → (True)) ∧ (¬ (v1 ≤ 0) → ((((v1 - v1 / 27 * 27) = 0) → (True)) ∧ (¬ ((v1 - v1 / 27 * 27) = 0) → (m_isPath_L14_ok n v0 (v1 / 27)))))
def m_isPath (a0 : Int32) : Int32 := (if (m_in a0 0 531440) = 0 then 0 else m_isPath_L14 6 a0 a0)
def m_isPath_ok (a0 : Int32) : Prop := (((m_in a0 0 531440) = 0) → (True)) ∧ (¬ ((m_in a0 0 531440) = 0) → (m_isPath_L14_ok 6 a0 a0))
set_option maxHeartbeats 4000000 in
set_option maxRecDepth 100000 in
theorem k_Md_isPath (l : Launch) (D : va_G) (dA : Nat → ClassId) (base : Nat) (M : mM) (ad : Nat → Nat → Nat) (a0 : Int32) (hk : m_isPath_ok a0) : mMet l y_Md_isPath b_Md_isPath 2 (some FieldType.boolean) ({ frames := 1, cells := 0, slots := 0, locals := 22 } : Room) 0 0 D dA base M ad [.int a0] (fun rv M' ad' => rv = some (.int (m_isPath a0)) ∧ M' = M ∧ ad' = ad) := by
  refine m_start (lvs := [(0, .int a0)]) (by decide) (Nat.le_of_ble_eq_true rfl) rfl ?_
  intro p e s m below meth c ls X hr hlk hin hml hM hl
  generalize he : m_isPath a0 = F
  refine lv_iload_n X.1 X.2.1 d_Md_isPath_0 rfl (lv_at hl 0 rfl) ?_
  refine lv_iconst (v := 0) X.1 X.2.1 d_Md_isPath_1 (by decide) ?_
  refine lv_ldc X.1 X.2.1 X.2.2.1 (X.2.2.2.1 _ (gwm (lt4 83 rfl) rfl)) d_Md_isPath_2 ?_
  refine r_cS (As := [.int a0, .int 0, .int 531440]) (rest := []) X hml hl.1 hM (k_Md_in l D dA base (M) ad a0 0 531440) c_Md_103 v_Md_in rfl (Nat.le_of_ble_eq_true rfl) ⟨rfl, rfl, Nat.le_of_ble_eq_true rfl, Nat.le_of_ble_eq_true rfl⟩ ⟨Nat.le_of_ble_eq_true rfl, Nat.le_of_ble_eq_true rfl⟩ d_Md_isPath_4 ?_
  intro rv M1 ad1 H locs hP hM hE
  obtain ⟨e1, e2, e3⟩ := hP
  subst rv; subst M1; subst ad1
  show W _ _ _ _ _ _ _ _ _ _ _ _ _ _ _ (F0 m 7 ls [.int (m_in a0 0 531440)])
  refine lv_if_ne (tgt := 12) X.1 X.2.1 d_Md_isPath_7 (by decide) (fun h1 => ?_) (fun h1 => ?_)
  · skip
    have hk := hk.2 h1
    refine lv_iload_n X.1 X.2.1 d_Md_isPath_12 rfl (lv_at hl 0 rfl) ?_
    refine lv_istore_n (lv' := [(1, .int a0), (0, .int a0)]) X.1 X.2.1 d_Md_isPath_13 rfl hl (by decide) rfl (fun ls hl => ?_)
    refine w_downW (fun ls => F0 m 14 ls []) (fun n H L ls => ∃ (v0 : Int32) (v1 : Int32), mSt D dA base (M) ad s.heap H L ∧ lv_has ls 2 [(0, .int v0), (1, .int v1)] ∧ m_isPath_L14_ok n v0 v1 ∧ m_isPath_L14 n v0 v1 = F) ?_ ?_ 6 _ _ ls ⟨a0, a0, hM, lv_sub hl [1, 0] rfl, hk, ((if_neg h1)).symm.trans he⟩
    · rintro H locs ls ⟨v0, v1, hM, hl, hk, he⟩
      exact hk.elim
    · rintro n ih H locs ls ⟨v0, v1, hM, hl, hk, he⟩
      refine lv_iload_n X.1 X.2.1 d_Md_isPath_14 rfl (lv_at hl 1 rfl) ?_
      refine lv_if_le (tgt := 35) X.1 X.2.1 d_Md_isPath_15 (by decide) (fun h2 => ?_) (fun h2 => ?_)
      · skip
        have hk := hk.1 h2
        refine lv_iconst (v := 1) X.1 X.2.1 d_Md_isPath_35 (by decide) ?_
        have heL : 1 = F := ((if_pos h2)).symm.trans he
        exact m_zret X hr hlk hM (by first | rfl | decide) d_Md_isPath_36 ⟨Nat.le_of_ble_eq_true rfl, Nat.le_of_ble_eq_true rfl⟩ ⟨fun _ _ _ => rfl, fun _ => Nat.le_refl _⟩ ⟨congrArg (fun z => some (Value.int z)) heL, rfl, rfl⟩
      · skip
        have hk := hk.2 h2
        refine lv_iload_n X.1 X.2.1 d_Md_isPath_18 rfl (lv_at hl 1 rfl) ?_
        refine lv_bipush (v := 27) X.1 X.2.1 d_Md_isPath_19 (by decide) ?_
        refine lv_irem X.1 X.2.1 d_Md_isPath_21 (by decide) ?_
        refine lv_if_ne (tgt := 27) X.1 X.2.1 d_Md_isPath_22 (by decide) (fun h3 => ?_) (fun h3 => ?_)
        · skip
          have hk := hk.2 h3
          refine lv_iload_n X.1 X.2.1 d_Md_isPath_27 rfl (lv_at hl 1 rfl) ?_
          refine lv_bipush (v := 27) X.1 X.2.1 d_Md_isPath_28 (by decide) ?_
          refine lv_idiv X.1 X.2.1 d_Md_isPath_30 (by decide) ?_
          refine lv_istore_n (lv' := [(1, .int (v1 / 27)), (0, .int v0)]) X.1 X.2.1 d_Md_isPath_31 rfl hl (by decide) rfl (fun ls hl => ?_)
          refine lv_goto (tgt := 14) X.1 X.2.1 d_Md_isPath_32 (by decide) ?_
          exact ih _ _ ls ⟨_, _, hM, lv_sub hl [1, 0] rfl, hk, ((if_neg h2).trans ((if_neg h3))).symm.trans he⟩
        · skip
          have hk := hk.1 h3
          refine lv_iconst (v := 0) X.1 X.2.1 d_Md_isPath_25 (by decide) ?_
          have heL : 0 = F := ((if_neg h2).trans ((if_pos h3))).symm.trans he
          exact m_zret X hr hlk hM (by first | rfl | decide) d_Md_isPath_26 ⟨Nat.le_of_ble_eq_true rfl, Nat.le_of_ble_eq_true rfl⟩ ⟨fun _ _ _ => rfl, fun _ => Nat.le_refl _⟩ ⟨congrArg (fun z => some (Value.int z)) heL, rfl, rfl⟩
  · skip
    have hk := hk.1 h1
    refine lv_iconst (v := 0) X.1 X.2.1 d_Md_isPath_10 (by decide) ?_
    have heL : 0 = F := ((if_pos h1)).symm.trans he
    exact m_zret X hr hlk hM (by first | rfl | decide) d_Md_isPath_11 ⟨Nat.le_of_ble_eq_true rfl, Nat.le_of_ble_eq_true rfl⟩ ⟨fun _ _ _ => rfl, fun _ => Nat.le_refl _⟩ ⟨congrArg (fun z => some (Value.int z)) heL, rfl, rfl⟩
def m_weight_L2 : Nat → Int32 → Int32 → Int32
  | 0, _, _ => 0
  | n + 1, v0, v1 => (if v0 < v1 then v1 else m_weight_L2 n v0 (v1 * 27))
def m_weight_L2_ok : Nat → Int32 → Int32 → Prop
  | 0, _, _ => False
  | n + 1, v0, v1 => ((v0 < v1) → (True)) ∧ (¬ (v0 < v1) → (m_weight_L2_ok n v0 (v1 * 27)))
def m_weight (a0 : Int32) : Int32 := m_weight_L2 6 a0 1
def m_weight_ok (a0 : Int32) : Prop := m_weight_L2_ok 6 a0 1
set_option maxHeartbeats 4000000 in
set_option maxRecDepth 100000 in
theorem k_Md_weight (l : Launch) (D : va_G) (dA : Nat → ClassId) (base : Nat) (M : mM) (ad : Nat → Nat → Nat) (a0 : Int32) (hk : m_weight_ok a0) : mMet l y_Md_weight b_Md_weight 2 (some FieldType.int) ({ frames := 0, cells := 0, slots := 0, locals := 0 } : Room) 0 0 D dA base M ad [.int a0] (fun rv M' ad' => rv = some (.int (m_weight a0)) ∧ M' = M ∧ ad' = ad) := by
  refine m_start (lvs := [(0, .int a0)]) (by decide) (Nat.le_of_ble_eq_true rfl) rfl ?_
  intro p e s m below meth c ls X hr hlk hin hml hM hl
  generalize he : m_weight a0 = F
  refine lv_iconst (v := 1) X.1 X.2.1 d_Md_weight_0 (by decide) ?_
  refine lv_istore_n (lv' := [(1, .int 1), (0, .int a0)]) X.1 X.2.1 d_Md_weight_1 rfl hl (by decide) rfl (fun ls hl => ?_)
  refine w_downW (fun ls => F0 m 2 ls []) (fun n H L ls => ∃ (v0 : Int32) (v1 : Int32), mSt D dA base (M) ad s.heap H L ∧ lv_has ls 2 [(0, .int v0), (1, .int v1)] ∧ m_weight_L2_ok n v0 v1 ∧ m_weight_L2 n v0 v1 = F) ?_ ?_ 6 _ _ ls ⟨a0, 1, hM, lv_sub hl [1, 0] rfl, hk, (rfl).symm.trans he⟩
  · rintro H locs ls ⟨v0, v1, hM, hl, hk, he⟩
    exact hk.elim
  · rintro n ih H locs ls ⟨v0, v1, hM, hl, hk, he⟩
    refine lv_iload_n X.1 X.2.1 d_Md_weight_2 rfl (lv_at hl 1 rfl) ?_
    refine lv_iload_n X.1 X.2.1 d_Md_weight_3 rfl (lv_at hl 0 rfl) ?_
    refine lv_icmp_gt (tgt := 15) X.1 X.2.1 d_Md_weight_4 (by decide) (fun h1 => ?_) (fun h1 => ?_)
    · skip
      have hk := hk.1 h1
      refine lv_iload_n X.1 X.2.1 d_Md_weight_15 rfl (lv_at hl 1 rfl) ?_
      have heL : v1 = F := ((if_pos h1)).symm.trans he
      exact m_iret X hr hlk hM d_Md_weight_16 ⟨Nat.le_of_ble_eq_true rfl, Nat.le_of_ble_eq_true rfl⟩ ⟨fun _ _ _ => rfl, fun _ => Nat.le_refl _⟩ ⟨congrArg (fun z => some (Value.int z)) heL, rfl, rfl⟩
    · skip
      have hk := hk.2 h1
      refine lv_iload_n X.1 X.2.1 d_Md_weight_7 rfl (lv_at hl 1 rfl) ?_
      refine lv_bipush (v := 27) X.1 X.2.1 d_Md_weight_8 (by decide) ?_
      refine lv_imul X.1 X.2.1 d_Md_weight_10 ?_
      refine lv_istore_n (lv' := [(1, .int (v1 * 27)), (0, .int v0)]) X.1 X.2.1 d_Md_weight_11 rfl hl (by decide) rfl (fun ls hl => ?_)
      refine lv_goto (tgt := 2) X.1 X.2.1 d_Md_weight_12 (by decide) ?_
      exact ih _ _ ls ⟨_, _, hM, lv_sub hl [1, 0] rfl, hk, ((if_neg h1)).symm.trans he⟩
def m_begins (a0 : Int32) (a1 : Int32) : Int32 := (if (a1 - a1 / (m_weight a0) * (m_weight a0)) = a0 then 1 else 0)
def m_begins_ok (a0 : Int32) (a1 : Int32) : Prop := (m_weight_ok a0) ∧ (¬ (m_weight a0) = 0)
set_option maxHeartbeats 4000000 in
set_option maxRecDepth 100000 in
theorem k_Md_begins (l : Launch) (D : va_G) (dA : Nat → ClassId) (base : Nat) (M : mM) (ad : Nat → Nat → Nat) (a0 : Int32) (a1 : Int32) (hk : m_begins_ok a0 a1) : mMet l y_Md_begins b_Md_begins 2 (some FieldType.boolean) ({ frames := 1, cells := 0, slots := 0, locals := 21 } : Room) 0 0 D dA base M ad [.int a0, .int a1] (fun rv M' ad' => rv = some (.int (m_begins a0 a1)) ∧ M' = M ∧ ad' = ad) := by
  refine m_start (lvs := [(0, .int a0), (1, .int a1)]) (by decide) (Nat.le_of_ble_eq_true rfl) rfl ?_
  intro p e s m below meth c ls X hr hlk hin hml hM hl
  generalize he : m_begins a0 a1 = F
  refine lv_iload_n X.1 X.2.1 d_Md_begins_0 rfl (lv_at hl 1 rfl) ?_
  refine lv_iload_n X.1 X.2.1 d_Md_begins_1 rfl (lv_at hl 0 rfl) ?_
  obtain ⟨o1, hk⟩ := hk
  refine r_cS (As := [.int a0]) (rest := [.int a1]) X hml hl.1 hM (k_Md_weight l D dA base (M) ad a0 o1) c_Md_107 v_Md_weight rfl (Nat.le_of_ble_eq_true rfl) ⟨rfl, rfl, Nat.le_of_ble_eq_true rfl, Nat.le_of_ble_eq_true rfl⟩ ⟨Nat.le_of_ble_eq_true rfl, Nat.le_of_ble_eq_true rfl⟩ d_Md_begins_2 ?_
  intro rv M1 ad1 H locs hP hM hE
  obtain ⟨e1, e2, e3⟩ := hP
  subst rv; subst M1; subst ad1
  show W _ _ _ _ _ _ _ _ _ _ _ _ _ _ _ (F0 m 5 ls [.int (m_weight a0), .int a1])
  have o2 := hk
  refine lv_irem X.1 X.2.1 d_Md_begins_5 o2 ?_
  refine lv_iload_n X.1 X.2.1 d_Md_begins_6 rfl (lv_at hl 0 rfl) ?_
  refine lv_icmp_ne (tgt := 14) X.1 X.2.1 d_Md_begins_7 (by decide) (fun h3 => ?_) (fun h3 => ?_)
  · skip
    skip
    refine lv_iconst (v := 0) X.1 X.2.1 d_Md_begins_14 (by decide) ?_
    have heL : 0 = F := ((if_neg h3)).symm.trans he
    exact m_zret X hr hlk hM (by first | rfl | decide) d_Md_begins_15 ⟨Nat.le_of_ble_eq_true rfl, Nat.le_of_ble_eq_true rfl⟩ ⟨fun _ _ _ => rfl, fun _ => Nat.le_refl _⟩ ⟨congrArg (fun z => some (Value.int z)) heL, rfl, rfl⟩
  · skip
    skip
    refine lv_iconst (v := 1) X.1 X.2.1 d_Md_begins_10 (by decide) ?_
    refine lv_goto (tgt := 15) X.1 X.2.1 d_Md_begins_11 (by decide) ?_
    have heL : 1 = F := ((if_pos h3)).symm.trans he
    exact m_zret X hr hlk hM (by first | rfl | decide) d_Md_begins_15 ⟨Nat.le_of_ble_eq_true rfl, Nat.le_of_ble_eq_true rfl⟩ ⟨fun _ _ _ => rfl, fun _ => Nat.le_refl _⟩ ⟨congrArg (fun z => some (Value.int z)) heL, rfl, rfl⟩
def m_write (r : rR) (a0 : Int32) : rR := (if 60 ≤ (r 18 32) then (ru r 18 32 ((r 18 32) + 1)) else (ru (ru r 46 ((r 18 32).toNatClampNeg) a0) 18 32 ((r 18 32) + 1)))
def m_write_ok (r : rR) (a0 : Int32) : Prop := ((60 ≤ (r 18 32)) → (True)) ∧ (¬ (60 ≤ (r 18 32)) → (ixk (r 18 32) 60))
set_option maxHeartbeats 4000000 in
set_option maxRecDepth 100000 in
theorem k_Md_write (l : Launch) (D : va_G) (dA : Nat → ClassId) (base : Nat) (M : mM) (ad : Nat → Nat → Nat) (hR : wR M) (r : rR) (a0 : Int32) (hk : m_write_ok r a0) : mMet l y_Md_write b_Md_write 2 none ({ frames := 0, cells := 0, slots := 0, locals := 0 } : Room) 0 0 D dA base (rs M r) ad [.ref (ad 18 0), .int a0] (fun rv M' ad' => rv = none ∧ M' = rs M (m_write r a0) ∧ ad' = ad) := by
  refine m_start (lvs := [(0, .ref (ad 18 0)), (1, .int a0)]) (by decide) (Nat.le_of_ble_eq_true rfl) rfl ?_
  intro p e s m below meth c ls X hr hlk hin hml hM hl
  generalize he : m_write r a0 = F
  refine lv_aload_n X.1 X.2.1 d_Md_write_0 rfl (lv_at hl 0 rfl) ?_
  refine R_geti (k := 18) X hM (by decide) rfl hR.1 f_Md_111 rfl d_Md_write_1 ?_
  refine lv_bipush (v := 60) X.1 X.2.1 d_Md_write_4 (by decide) ?_
  refine lv_icmp_ge (tgt := 19) X.1 X.2.1 d_Md_write_6 (by decide) (fun h1 => ?_) (fun h1 => ?_)
  · skip
    have hk := hk.1 h1
    refine lv_aload_n X.1 X.2.1 d_Md_write_19 rfl (lv_at hl 0 rfl) ?_
    refine lv_dup X.1 X.2.1 d_Md_write_20 rfl ?_
    refine R_geti (k := 18) X hM (by decide) rfl hR.1 f_Md_111 rfl d_Md_write_21 ?_
    refine lv_iconst (v := 1) X.1 X.2.1 d_Md_write_24 (by decide) ?_
    refine lv_iadd X.1 X.2.1 d_Md_write_25 ?_
    refine R_puti (k := 18) X hM (by decide) rfl hR.1 p_Md_111 rfl rfl rfl d_Md_write_26 (fun H locs hM => ?_)
    have heL : (ru r 18 32 ((r 18 32) + 1)) = F := ((if_pos h1)).symm.trans he
    exact m_vret X hr hlk hM d_Md_write_29 ⟨Nat.le_of_ble_eq_true rfl, Nat.le_of_ble_eq_true rfl⟩ ⟨fun _ _ _ => rfl, fun _ => Nat.le_refl _⟩ ⟨rfl, congrArg (rs M) heL, rfl⟩
  · skip
    have hk := hk.2 h1
    refine lv_aload_n X.1 X.2.1 d_Md_write_9 rfl (lv_at hl 0 rfl) ?_
    refine r_gets (q := 0) X hM rfl hR.1 f_Md_92 rfl (hR.2 27 (by decide)) d_Md_write_10 (fun g2 => ?_)
    refine lv_aload_n X.1 X.2.1 d_Md_write_13 rfl (lv_at hl 0 rfl) ?_
    refine R_geti (k := 18) X hM (by decide) rfl hR.1 f_Md_111 rfl d_Md_write_14 ?_
    refine lv_iload_n X.1 X.2.1 d_Md_write_17 rfl (lv_at hl 1 rfl) ?_
    have o3 := hk
    refine R_iast (k := 46) X hM (by decide) rfl g2 a_m_trace (fun _ => rfl) o3.1 o3.2 d_Md_write_18 (fun H locs hM => ?_)
    refine lv_aload_n X.1 X.2.1 d_Md_write_19 rfl (lv_at hl 0 rfl) ?_
    refine lv_dup X.1 X.2.1 d_Md_write_20 rfl ?_
    refine R_geti (k := 18) X hM (by decide) rfl hR.1 f_Md_111 rfl d_Md_write_21 ?_
    show W _ _ _ _ _ _ _ _ _ _ _ _ _ _ _ (F0 m 24 ls [.int (r 18 32), .ref (ad 18 0)])
    refine lv_iconst (v := 1) X.1 X.2.1 d_Md_write_24 (by decide) ?_
    refine lv_iadd X.1 X.2.1 d_Md_write_25 ?_
    refine R_puti (k := 18) X hM (by decide) rfl hR.1 p_Md_111 rfl rfl rfl d_Md_write_26 (fun H locs hM => ?_)
    have heL : (ru (ru r 46 ((r 18 32).toNatClampNeg) a0) 18 32 ((r 18 32) + 1)) = F := ((if_neg h1)).symm.trans he
    exact m_vret X hr hlk hM d_Md_write_29 ⟨Nat.le_of_ble_eq_true rfl, Nat.le_of_ble_eq_true rfl⟩ ⟨fun _ _ _ => rfl, fun _ => Nat.le_refl _⟩ ⟨rfl, congrArg (rs M) heL, rfl⟩
def m_come (r : rR) (a0 : Int32) (a1 : Int32) : rR := (m_write (ru r 24 (a0.toNatClampNeg) a1) ((8 * a0) + a1))
def m_come_ok (r : rR) (a0 : Int32) (a1 : Int32) : Prop := (ixk a0 41) ∧ (m_write_ok (ru r 24 (a0.toNatClampNeg) a1) ((8 * a0) + a1))
set_option maxHeartbeats 4000000 in
set_option maxRecDepth 100000 in
theorem k_Md_come (l : Launch) (D : va_G) (dA : Nat → ClassId) (base : Nat) (M : mM) (ad : Nat → Nat → Nat) (hR : wR M) (r : rR) (a0 : Int32) (a1 : Int32) (hk : m_come_ok r a0 a1) : mMet l y_Md_come b_Md_come 3 none ({ frames := 1, cells := 0, slots := 0, locals := 21 } : Room) 0 0 D dA base (rs M r) ad [.ref (ad 18 0), .int a0, .int a1] (fun rv M' ad' => rv = none ∧ M' = rs M (m_come r a0 a1) ∧ ad' = ad) := by
  refine m_start (lvs := [(0, .ref (ad 18 0)), (1, .int a0), (2, .int a1)]) (by decide) (Nat.le_of_ble_eq_true rfl) rfl ?_
  intro p e s m below meth c ls X hr hlk hin hml hM hl
  generalize he : m_come r a0 a1 = F
  refine lv_aload_n X.1 X.2.1 d_Md_come_0 rfl (lv_at hl 0 rfl) ?_
  refine r_gets (q := 0) X hM rfl hR.1 f_Md_25 rfl (hR.2 5 (by decide)) d_Md_come_1 (fun g1 => ?_)
  refine lv_iload_n X.1 X.2.1 d_Md_come_4 rfl (lv_at hl 1 rfl) ?_
  refine lv_iload_n X.1 X.2.1 d_Md_come_5 rfl (lv_at hl 2 rfl) ?_
  obtain ⟨o2, hk⟩ := hk
  refine R_iast (k := 24) X hM (by decide) rfl g1 a_m_state (fun _ => rfl) o2.1 o2.2 d_Md_come_6 (fun H locs hM => ?_)
  refine lv_aload_n X.1 X.2.1 d_Md_come_7 rfl (lv_at hl 0 rfl) ?_
  refine lv_bipush (v := 8) X.1 X.2.1 d_Md_come_8 (by decide) ?_
  refine lv_iload_n X.1 X.2.1 d_Md_come_10 rfl (lv_at hl 1 rfl) ?_
  refine lv_imul X.1 X.2.1 d_Md_come_11 ?_
  refine lv_iload_n X.1 X.2.1 d_Md_come_12 rfl (lv_at hl 2 rfl) ?_
  refine lv_iadd X.1 X.2.1 d_Md_come_13 ?_
  have o3 := hk
  refine r_cV (As := [.int ((8 * a0) + a1)]) (rest := []) X hml hl.1 hM (k_Md_write l D dA base M ad hR (ru r 24 (a0.toNatClampNeg) a1) ((8 * a0) + a1) o3) c_Md_114 v_Md_write kc_Md rfl hR.1 rfl (Nat.le_of_ble_eq_true rfl) ⟨rfl, rfl, Nat.le_of_ble_eq_true rfl, Nat.le_of_ble_eq_true rfl⟩ ⟨Nat.le_of_ble_eq_true rfl, Nat.le_of_ble_eq_true rfl⟩ d_Md_come_14 ?_
  intro rv M1 ad1 H locs hP hM hE
  obtain ⟨e1, e2, e3⟩ := hP
  subst rv; subst M1; subst ad1
  show W _ _ _ _ _ _ _ _ _ _ _ _ _ _ _ (F0 m 17 ls [])
  have heL : (m_write (ru r 24 (a0.toNatClampNeg) a1) ((8 * a0) + a1)) = F := (rfl).symm.trans he
  exact m_vret X hr hlk hM d_Md_come_17 ⟨Nat.le_of_ble_eq_true rfl, Nat.le_of_ble_eq_true rfl⟩ ⟨fun _ _ _ => rfl, fun _ => Nat.le_refl _⟩ ⟨rfl, congrArg (rs M) heL, rfl⟩
def m_control (r : rR) (a0 : Int32) (a1 : Int32) : rR := (if (r 41 (a0.toNatClampNeg)) = a1 then r else (m_write (ru r 41 (a0.toNatClampNeg) a1) ((-((64 * a0) + a1)) - 1)))
def m_control_ok (r : rR) (a0 : Int32) (a1 : Int32) : Prop := (ixk a0 8) ∧ ((((r 41 (a0.toNatClampNeg)) = a1) → (True)) ∧ (¬ ((r 41 (a0.toNatClampNeg)) = a1) → (m_write_ok (ru r 41 (a0.toNatClampNeg) a1) ((-((64 * a0) + a1)) - 1))))
set_option maxHeartbeats 4000000 in
set_option maxRecDepth 100000 in
theorem k_Md_control (l : Launch) (D : va_G) (dA : Nat → ClassId) (base : Nat) (M : mM) (ad : Nat → Nat → Nat) (hR : wR M) (r : rR) (a0 : Int32) (a1 : Int32) (hk : m_control_ok r a0 a1) : mMet l y_Md_control b_Md_control 3 none ({ frames := 1, cells := 0, slots := 0, locals := 21 } : Room) 0 0 D dA base (rs M r) ad [.ref (ad 18 0), .int a0, .int a1] (fun rv M' ad' => rv = none ∧ M' = rs M (m_control r a0 a1) ∧ ad' = ad) := by
  refine m_start (lvs := [(0, .ref (ad 18 0)), (1, .int a0), (2, .int a1)]) (by decide) (Nat.le_of_ble_eq_true rfl) rfl ?_
  intro p e s m below meth c ls X hr hlk hin hml hM hl
  generalize he : m_control r a0 a1 = F
  refine lv_aload_n X.1 X.2.1 d_Md_control_0 rfl (lv_at hl 0 rfl) ?_
  refine r_gets (q := 0) X hM rfl hR.1 f_Md_77 rfl (hR.2 22 (by decide)) d_Md_control_1 (fun g1 => ?_)
  refine lv_iload_n X.1 X.2.1 d_Md_control_4 rfl (lv_at hl 1 rfl) ?_
  obtain ⟨o2, hk⟩ := hk
  refine R_iald (k := 41) X hM (by decide) rfl g1 a_m_by (fun _ => rfl) o2.1 o2.2 d_Md_control_5 ?_
  refine lv_iload_n X.1 X.2.1 d_Md_control_6 rfl (lv_at hl 2 rfl) ?_
  refine lv_icmp_ne (tgt := 11) X.1 X.2.1 d_Md_control_7 (by decide) (fun h3 => ?_) (fun h3 => ?_)
  · skip
    have hk := hk.2 h3
    refine lv_aload_n X.1 X.2.1 d_Md_control_11 rfl (lv_at hl 0 rfl) ?_
    refine r_gets (q := 0) X hM rfl hR.1 f_Md_77 rfl (hR.2 22 (by decide)) d_Md_control_12 (fun g4 => ?_)
    refine lv_iload_n X.1 X.2.1 d_Md_control_15 rfl (lv_at hl 1 rfl) ?_
    refine lv_iload_n X.1 X.2.1 d_Md_control_16 rfl (lv_at hl 2 rfl) ?_
    refine R_iast (k := 41) X hM (by decide) rfl g4 a_m_by (fun _ => rfl) o2.1 o2.2 d_Md_control_17 (fun H locs hM => ?_)
    refine lv_aload_n X.1 X.2.1 d_Md_control_18 rfl (lv_at hl 0 rfl) ?_
    refine lv_bipush (v := 64) X.1 X.2.1 d_Md_control_19 (by decide) ?_
    refine lv_iload_n X.1 X.2.1 d_Md_control_21 rfl (lv_at hl 1 rfl) ?_
    refine lv_imul X.1 X.2.1 d_Md_control_22 ?_
    refine lv_iload_n X.1 X.2.1 d_Md_control_23 rfl (lv_at hl 2 rfl) ?_
    refine lv_iadd X.1 X.2.1 d_Md_control_24 ?_
    refine lv_ineg X.1 X.2.1 d_Md_control_25 ?_
    refine lv_iconst (v := 1) X.1 X.2.1 d_Md_control_26 (by decide) ?_
    refine lv_isub X.1 X.2.1 d_Md_control_27 ?_
    have o5 := hk
    refine r_cV (As := [.int ((-((64 * a0) + a1)) - 1)]) (rest := []) X hml hl.1 hM (k_Md_write l D dA base M ad hR (ru r 41 (a0.toNatClampNeg) a1) ((-((64 * a0) + a1)) - 1) o5) c_Md_114 v_Md_write kc_Md rfl hR.1 rfl (Nat.le_of_ble_eq_true rfl) ⟨rfl, rfl, Nat.le_of_ble_eq_true rfl, Nat.le_of_ble_eq_true rfl⟩ ⟨Nat.le_of_ble_eq_true rfl, Nat.le_of_ble_eq_true rfl⟩ d_Md_control_28 ?_
    intro rv M1 ad1 H locs hP hM hE
    obtain ⟨e1, e2, e3⟩ := hP
    subst rv; subst M1; subst ad1
    show W _ _ _ _ _ _ _ _ _ _ _ _ _ _ _ (F0 m 31 ls [])
    have heL : (m_write (ru r 41 (a0.toNatClampNeg) a1) ((-((64 * a0) + a1)) - 1)) = F := ((if_neg h3)).symm.trans he
    exact m_vret X hr hlk hM d_Md_control_31 ⟨Nat.le_of_ble_eq_true rfl, Nat.le_of_ble_eq_true rfl⟩ ⟨fun _ _ _ => rfl, fun _ => Nat.le_refl _⟩ ⟨rfl, congrArg (rs M) heL, rfl⟩
  · skip
    have hk := hk.1 h3
    have heL : r = F := ((if_pos h3)).symm.trans he
    exact m_vret X hr hlk hM d_Md_control_10 ⟨Nat.le_of_ble_eq_true rfl, Nat.le_of_ble_eq_true rfl⟩ ⟨fun _ _ _ => rfl, fun _ => Nat.le_refl _⟩ ⟨rfl, congrArg (rs M) heL, rfl⟩
def m_finish (r : rR) (a0 : Int32) (a1 : Int32) : rR := (m_write (ru r 45 (a0.toNatClampNeg) a1) (1000 + a0))
def m_finish_ok (r : rR) (a0 : Int32) (a1 : Int32) : Prop := (ixk a0 60) ∧ (m_write_ok (ru r 45 (a0.toNatClampNeg) a1) (1000 + a0))
set_option maxHeartbeats 4000000 in
set_option maxRecDepth 100000 in
theorem k_Md_finish (l : Launch) (D : va_G) (dA : Nat → ClassId) (base : Nat) (M : mM) (ad : Nat → Nat → Nat) (hR : wR M) (r : rR) (a0 : Int32) (a1 : Int32) (hk : m_finish_ok r a0 a1) : mMet l y_Md_finish b_Md_finish 3 none ({ frames := 1, cells := 0, slots := 0, locals := 21 } : Room) 0 0 D dA base (rs M r) ad [.ref (ad 18 0), .int a0, .int a1] (fun rv M' ad' => rv = none ∧ M' = rs M (m_finish r a0 a1) ∧ ad' = ad) := by
  refine m_start (lvs := [(0, .ref (ad 18 0)), (1, .int a0), (2, .int a1)]) (by decide) (Nat.le_of_ble_eq_true rfl) rfl ?_
  intro p e s m below meth c ls X hr hlk hin hml hM hl
  generalize he : m_finish r a0 a1 = F
  refine lv_aload_n X.1 X.2.1 d_Md_finish_0 rfl (lv_at hl 0 rfl) ?_
  refine r_gets (q := 0) X hM rfl hR.1 f_Md_89 rfl (hR.2 26 (by decide)) d_Md_finish_1 (fun g1 => ?_)
  refine lv_iload_n X.1 X.2.1 d_Md_finish_4 rfl (lv_at hl 1 rfl) ?_
  refine lv_iload_n X.1 X.2.1 d_Md_finish_5 rfl (lv_at hl 2 rfl) ?_
  obtain ⟨o2, hk⟩ := hk
  refine R_iast (k := 45) X hM (by decide) rfl g1 a_m_outcome (fun _ => rfl) o2.1 o2.2 d_Md_finish_6 (fun H locs hM => ?_)
  refine lv_aload_n X.1 X.2.1 d_Md_finish_7 rfl (lv_at hl 0 rfl) ?_
  refine lv_sipush (v := 1000) X.1 X.2.1 d_Md_finish_8 (by decide) ?_
  refine lv_iload_n X.1 X.2.1 d_Md_finish_11 rfl (lv_at hl 1 rfl) ?_
  refine lv_iadd X.1 X.2.1 d_Md_finish_12 ?_
  have o3 := hk
  refine r_cV (As := [.int (1000 + a0)]) (rest := []) X hml hl.1 hM (k_Md_write l D dA base M ad hR (ru r 45 (a0.toNatClampNeg) a1) (1000 + a0) o3) c_Md_114 v_Md_write kc_Md rfl hR.1 rfl (Nat.le_of_ble_eq_true rfl) ⟨rfl, rfl, Nat.le_of_ble_eq_true rfl, Nat.le_of_ble_eq_true rfl⟩ ⟨Nat.le_of_ble_eq_true rfl, Nat.le_of_ble_eq_true rfl⟩ d_Md_finish_13 ?_
  intro rv M1 ad1 H locs hP hM hE
  obtain ⟨e1, e2, e3⟩ := hP
  subst rv; subst M1; subst ad1
  show W _ _ _ _ _ _ _ _ _ _ _ _ _ _ _ (F0 m 16 ls [])
  have heL : (m_write (ru r 45 (a0.toNatClampNeg) a1) (1000 + a0)) = F := (rfl).symm.trans he
  exact m_vret X hr hlk hM d_Md_finish_16 ⟨Nat.le_of_ble_eq_true rfl, Nat.le_of_ble_eq_true rfl⟩ ⟨fun _ _ _ => rfl, fun _ => Nat.le_refl _⟩ ⟨rfl, congrArg (rs M) heL, rfl⟩
