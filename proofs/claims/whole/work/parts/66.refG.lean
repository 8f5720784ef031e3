def m_cached_L2 : Nat → rR → Int32 → Int32 → Int32 → Int32
  | 0, _, _, _, _ => 0
  | n + 1, r, v1, v2, v3 => (if (r 28 (v1.toNatClampNeg)) ≤ v3 then (-1) else (if (r 29 (((4 * v1) + v3).toNatClampNeg)) = v2 then v3 else m_cached_L2 n r v1 v2 (v3 + 1)))
def m_cached_L2_ok : Nat → rR → Int32 → Int32 → Int32 → Prop
  | 0, _, _, _, _ => False
  | n + 1, r, v1, v2, v3 => (ixk v1 41) ∧ ((((r 28 (v1.toNatClampNeg)) ≤ v3) → (True)) ∧ (¬ ((r 28 (v1.toNatClampNeg)) ≤ v3) → ((ixk ((4 * v1) + v3) 164) ∧ ((((r 29 (((4 * v1) + v3).toNatClampNeg)) = v2) → (True)) ∧ (¬ ((r 29 (((4 * v1) + v3).toNatClampNeg)) = v2) → (m_cached_L2_ok n r v1 v2 (v3 + 1)))))))
def m_cached (r : rR) (a0 : Int32) (a1 : Int32) : Int32 := m_cached_L2 5 r a0 a1 0
def m_cached_ok (r : rR) (a0 : Int32) (a1 : Int32) : Prop := m_cached_L2_ok 5 r a0 a1 0
set_option maxHeartbeats 4000000 in
set_option maxRecDepth 100000 in
theorem k_Md_cached (l : Launch) (D : va_G) (dA : Nat → ClassId) (base : Nat) (M : mM) (ad : Nat → Nat → Nat) (hR : wR M) (r : rR) (a0 : Int32) (a1 : Int32) (hk : m_cached_ok r a0 a1) : mMet l y_Md_cached b_Md_cached 4 (some FieldType.int) ({ frames := 0, cells := 0, slots := 0, locals := 0 } : Room) 0 0 D dA base (rs M r) ad [.ref (ad 18 0), .int a0, .int a1] (fun rv M' ad' => rv = some (.int (m_cached r a0 a1)) ∧ M' = rs M r ∧ ad' = ad) := by
  refine m_start (lvs := [(0, .ref (ad 18 0)), (1, .int a0), (2, .int a1)]) (by decide) (Nat.le_of_ble_eq_true rfl) rfl ?_
  intro p e s m below meth c ls X hr hlk hin hml hM hl
  generalize he : m_cached r a0 a1 = F
  refine lv_iconst (v := 0) X.1 X.2.1 d_Md_cached_0 (by decide) ?_
  refine lv_istore_n (lv' := [(3, .int 0), (0, .ref (ad 18 0)), (1, .int a0), (2, .int a1)]) X.1 X.2.1 d_Md_cached_1 rfl hl (by decide) rfl (fun ls hl => ?_)
  refine w_downW (fun ls => F0 m 2 ls []) (fun n H L ls => ∃ (v1 : Int32) (v2 : Int32) (v3 : Int32), mSt D dA base (rs M r) ad s.heap H L ∧ lv_has ls 4 [(1, .int v1), (2, .int v2), (3, .int v3), (0, .ref (ad 18 0))] ∧ m_cached_L2_ok n r v1 v2 v3 ∧ m_cached_L2 n r v1 v2 v3 = F) ?_ ?_ 5 _ _ ls ⟨a0, a1, 0, hM, lv_sub hl [2, 3, 0, 1] rfl, hk, (rfl).symm.trans he⟩
  · rintro H locs ls ⟨v1, v2, v3, hM, hl, hk, he⟩
    exact hk.elim
  · rintro n ih H locs ls ⟨v1, v2, v3, hM, hl, hk, he⟩
    refine lv_iload_n X.1 X.2.1 d_Md_cached_2 rfl (lv_at hl 2 rfl) ?_
    refine lv_aload_n X.1 X.2.1 d_Md_cached_3 rfl (lv_at hl 3 rfl) ?_
    refine r_gets (q := 0) X hM rfl hR.1 f_Md_37 rfl (hR.2 9 (by decide)) d_Md_cached_4 (fun g1 => ?_)
    refine lv_iload_n X.1 X.2.1 d_Md_cached_7 rfl (lv_at hl 0 rfl) ?_
    obtain ⟨o2, hk⟩ := hk
    refine R_iald (k := 28) X hM (by decide) rfl g1 a_m_kept (fun _ => rfl) o2.1 o2.2 d_Md_cached_8 ?_
    refine lv_icmp_ge (tgt := 34) X.1 X.2.1 d_Md_cached_9 (by decide) (fun h3 => ?_) (fun h3 => ?_)
    · skip
      have hk := hk.1 h3
      refine lv_iconst (v := (-1)) X.1 X.2.1 d_Md_cached_34 (by decide) ?_
      have heL : (-1) = F := ((if_pos h3)).symm.trans he
      exact m_iret X hr hlk hM d_Md_cached_35 ⟨Nat.le_of_ble_eq_true rfl, Nat.le_of_ble_eq_true rfl⟩ ⟨fun _ _ _ => rfl, fun _ => Nat.le_refl _⟩ ⟨congrArg (fun z => some (Value.int z)) heL, rfl, rfl⟩
    · skip
      have hk := hk.2 h3
      refine lv_aload_n X.1 X.2.1 d_Md_cached_12 rfl (lv_at hl 3 rfl) ?_
      refine r_gets (q := 0) X hM rfl hR.1 f_Md_40 rfl (hR.2 10 (by decide)) d_Md_cached_13 (fun g4 => ?_)
      refine lv_iconst (v := 4) X.1 X.2.1 d_Md_cached_16 (by decide) ?_
      refine lv_iload_n X.1 X.2.1 d_Md_cached_17 rfl (lv_at hl 0 rfl) ?_
      refine lv_imul X.1 X.2.1 d_Md_cached_18 ?_
      refine lv_iload_n X.1 X.2.1 d_Md_cached_19 rfl (lv_at hl 2 rfl) ?_
      refine lv_iadd X.1 X.2.1 d_Md_cached_20 ?_
      obtain ⟨o5, hk⟩ := hk
      refine R_iald (k := 29) X hM (by decide) rfl g4 a_m_keptPath (fun _ => rfl) o5.1 o5.2 d_Md_cached_21 ?_
      refine lv_iload_n X.1 X.2.1 d_Md_cached_22 rfl (lv_at hl 1 rfl) ?_
      refine lv_icmp_ne (tgt := 28) X.1 X.2.1 d_Md_cached_23 (by decide) (fun h6 => ?_) (fun h6 => ?_)
      · skip
        have hk := hk.2 h6
        refine lv_iinc (v := v3 + 1) (lv' := [(3, .int (v3 + 1)), (1, .int v1), (2, .int v2), (0, .ref (ad 18 0))]) X.1 X.2.1 d_Md_cached_28 hl (k := 2) rfl rfl (by decide) rfl (fun ls hl => ?_)
        refine lv_goto (tgt := 2) X.1 X.2.1 d_Md_cached_31 (by decide) ?_
        exact ih _ _ ls ⟨_, _, _, hM, lv_sub hl [1, 2, 0, 3] rfl, hk, ((if_neg h3).trans ((if_neg h6))).symm.trans he⟩
      · skip
        have hk := hk.1 h6
        refine lv_iload_n X.1 X.2.1 d_Md_cached_26 rfl (lv_at hl 2 rfl) ?_
        have heL : v3 = F := ((if_neg h3).trans ((if_pos h6))).symm.trans he
        exact m_iret X hr hlk hM d_Md_cached_27 ⟨Nat.le_of_ble_eq_true rfl, Nat.le_of_ble_eq_true rfl⟩ ⟨fun _ _ _ => rfl, fun _ => Nat.le_refl _⟩ ⟨congrArg (fun z => some (Value.int z)) heL, rfl, rfl⟩
def m_keep_L45 : Nat → rR → Int32 → Int32 → Int32 → Int32 → Int32 → rR
  | 0, r, _, _, _, _, _ => r
  | n + 1, r, v1, v2, v3, v4, v5 => (if (r 28 (v1.toNatClampNeg)) ≤ v5 then (ru (ru (ru r 29 (((4 * v1) + (r 28 (v1.toNatClampNeg))).toNatClampNeg) v2) 30 (((4 * v1) + (r 28 (v1.toNatClampNeg))).toNatClampNeg) v3) 28 (v1.toNatClampNeg) ((r 28 (v1.toNatClampNeg)) + 1)) else m_keep_L45 n (ru (ru r 29 (((4 * v1) + v5).toNatClampNeg) (r 29 ((((4 * v1) + v5) + 1).toNatClampNeg))) 30 (((4 * v1) + v5).toNatClampNeg) (r 30 ((((4 * v1) + v5) + 1).toNatClampNeg))) v1 v2 v3 v4 (v5 + 1))
def m_keep_L45_ok : Nat → rR → Int32 → Int32 → Int32 → Int32 → Int32 → Prop
  | 0, _, _, _, _, _, _ => False
  | n + 1, r, v1, v2, v3, v4, v5 => (ixk v1 41) ∧ ((((r 28 (v1.toNatClampNeg)) ≤ v5) → (ixk ((4 * v1) + (r 28 (v1.toNatClampNeg))) 164)) ∧ (¬ ((r 28 (v1.toNatClampNeg)) ≤ v5) → ((ixk (((4 * v1) + v5) + 1) 164) ∧ ((ixk ((4 * v1) + v5) 164) ∧ (m_keep_L45_ok n (ru (ru r 29 (((4 * v1) + v5).toNatClampNeg) (r 29 ((((4 * v1) + v5) + 1).toNatClampNeg))) 30 (((4 * v1) + v5).toNatClampNeg) (r 30 ((((4 * v1) + v5) + 1).toNatClampNeg))) v1 v2 v3 v4 (v5 + 1))))))
def m_keep (r : rR) (a0 : Int32) (a1 : Int32) (a2 : Int32) : rR := (if 0 ≤ (m_cached r a0 a1) then (if (m_cached r a0 a1) < 0 then (ru (ru (ru r 29 (((4 * a0) + (r 28 (a0.toNatClampNeg))).toNatClampNeg) a1) 30 (((4 * a0) + (r 28 (a0.toNatClampNeg))).toNatClampNeg) a2) 28 (a0.toNatClampNeg) ((r 28 (a0.toNatClampNeg)) + 1)) else m_keep_L45 5 (ru r 28 (a0.toNatClampNeg) ((r 28 (a0.toNatClampNeg)) - 1)) a0 a1 a2 (m_cached r a0 a1) (m_cached r a0 a1)) else (if (r 28 (a0.toNatClampNeg)) = 4 then m_keep_L45 5 (ru r 28 (a0.toNatClampNeg) ((r 28 (a0.toNatClampNeg)) - 1)) a0 a1 a2 0 0 else (if (m_cached r a0 a1) < 0 then (ru (ru (ru r 29 (((4 * a0) + (r 28 (a0.toNatClampNeg))).toNatClampNeg) a1) 30 (((4 * a0) + (r 28 (a0.toNatClampNeg))).toNatClampNeg) a2) 28 (a0.toNatClampNeg) ((r 28 (a0.toNatClampNeg)) + 1)) else m_keep_L45 5 (ru r 28 (a0.toNatClampNeg) ((r 28 (a0.toNatClampNeg)) - 1)) a0 a1 a2 (m_cached r a0 a1) (m_cached r a0 a1))))
def m_keep_ok (r : rR) (a0 : Int32) (a1 : Int32) (a2 : Int32) : Prop := (m_cached_ok r a0 a1) ∧ (((0 ≤ (m_cached r a0 a1)) → ((((m_cached r a0 a1) < 0) → ((ixk a0 41) ∧ (ixk ((4 * a0) + (r 28 (a0.toNatClampNeg))) 164))) ∧ (¬ ((m_cached r a0 a1) < 0) → ((ixk a0 41) ∧ (m_keep_L45_ok 5 (ru r 28 (a0.toNatClampNeg) ((r 28 (a0.toNatClampNeg)) - 1)) a0 a1 a2 (m_cached r a0 a1) (m_cached r a0 a1)))))) ∧ (¬ (0 ≤ (m_cached r a0 a1)) → ((ixk a0 41) ∧ ((((r 28 (a0.toNatClampNeg)) = 4) → (m_keep_L45_ok 5 (ru r 28 (a0.toNatClampNeg) ((r 28 (a0.toNatClampNeg)) - 1)) a0 a1 a2 0 0)) ∧ (¬ ((r 28 (a0.toNatClampNeg)) = 4) → ((((m_cached r a0 a1) < 0) → (ixk ((4 * a0) + (r 28 (a0.toNatClampNeg))) 164)) ∧ (¬ ((m_cached r a0 a1) < 0) → (m_keep_L45_ok 5 (ru r 28 (a0.toNatClampNeg) ((r 28 (a0.toNatClampNeg)) - 1)) a0 a1 a2 (m_cached r a0 a1) (m_cached r a0 a1)))))))))
set_option maxHeartbeats 4000000 in
set_option maxRecDepth 100000 in
theorem k_Md_keep (l : Launch) (D : va_G) (dA : Nat → ClassId) (base : Nat) (M : mM) (ad : Nat → Nat → Nat) (hR : wR M) (r : rR) (a0 : Int32) (a1 : Int32) (a2 : Int32) (hk : m_keep_ok r a0 a1 a2) : mMet l y_Md_keep b_Md_keep 6 none ({ frames := 1, cells := 0, slots := 0, locals := 23 } : Room) 0 0 D dA base (rs M r) ad [.ref (ad 18 0), .int a0, .int a1, .int a2] (fun rv M' ad' => rv = none ∧ M' = rs M (m_keep r a0 a1 a2) ∧ ad' = ad) := by
  refine m_start (lvs := [(0, .ref (ad 18 0)), (1, .int a0), (2, .int a1), (3, .int a2)]) (by decide) (Nat.le_of_ble_eq_true rfl) rfl ?_
  intro p e s m below meth c ls X hr hlk hin hml hM hl
  generalize he : m_keep r a0 a1 a2 = F
  refine lv_aload_n X.1 X.2.1 d_Md_keep_0 rfl (lv_at hl 0 rfl) ?_
  refine lv_iload_n X.1 X.2.1 d_Md_keep_1 rfl (lv_at hl 1 rfl) ?_
  refine lv_iload_n X.1 X.2.1 d_Md_keep_2 rfl (lv_at hl 2 rfl) ?_
  obtain ⟨o1, hk⟩ := hk
  refine r_cV (As := [.int a0, .int a1]) (rest := []) X hml hl.1 hM (k_Md_cached l D dA base M ad hR r a0 a1 o1) c_Md_200 v_Md_cached kc_Md rfl hR.1 rfl (Nat.le_of_ble_eq_true rfl) ⟨rfl, rfl, Nat.le_of_ble_eq_true rfl, Nat.le_of_ble_eq_true rfl⟩ ⟨Nat.le_of_ble_eq_true rfl, Nat.le_of_ble_eq_true rfl⟩ d_Md_keep_3 ?_
  intro rv M1 ad1 H locs hP hM hE
  obtain ⟨e1, e2, e3⟩ := hP
  subst rv; subst M1; subst ad1
  show W _ _ _ _ _ _ _ _ _ _ _ _ _ _ _ (F0 m 6 ls [.int (m_cached r a0 a1)])
  refine lv_istore (lv' := [(4, .int (m_cached r a0 a1)), (0, .ref (ad 18 0)), (1, .int a0), (2, .int a1), (3, .int a2)]) X.1 X.2.1 d_Md_keep_6 hl (by decide) rfl (fun ls hl => ?_)
  refine lv_iload X.1 X.2.1 d_Md_keep_8 (lv_at hl 0 rfl) ?_
  refine lv_if_ge (tgt := 26) X.1 X.2.1 d_Md_keep_10 (by decide) (fun h2 => ?_) (fun h2 => ?_)
  · skip
    have hk := hk.1 h2
    refine lv_iload X.1 X.2.1 d_Md_keep_26 (lv_at hl 0 rfl) ?_
    refine lv_if_lt (tgt := 110) X.1 X.2.1 d_Md_keep_28 (by decide) (fun h3 => ?_) (fun h3 => ?_)
    · skip
      have hk := hk.1 h3
      refine lv_aload_n X.1 X.2.1 d_Md_keep_110 rfl (lv_at hl 1 rfl) ?_
      refine r_gets (q := 0) X hM rfl hR.1 f_Md_40 rfl (hR.2 10 (by decide)) d_Md_keep_111 (fun g4 => ?_)
      refine lv_iconst (v := 4) X.1 X.2.1 d_Md_keep_114 (by decide) ?_
      refine lv_iload_n X.1 X.2.1 d_Md_keep_115 rfl (lv_at hl 2 rfl) ?_
      refine lv_imul X.1 X.2.1 d_Md_keep_116 ?_
      refine lv_aload_n X.1 X.2.1 d_Md_keep_117 rfl (lv_at hl 1 rfl) ?_
      refine r_gets (q := 0) X hM rfl hR.1 f_Md_37 rfl (hR.2 9 (by decide)) d_Md_keep_118 (fun g5 => ?_)
      refine lv_iload_n X.1 X.2.1 d_Md_keep_121 rfl (lv_at hl 2 rfl) ?_
      obtain ⟨o6, hk⟩ := hk
      refine R_iald (k := 28) X hM (by decide) rfl g5 a_m_kept (fun _ => rfl) o6.1 o6.2 d_Md_keep_122 ?_
      refine lv_iadd X.1 X.2.1 d_Md_keep_123 ?_
      refine lv_iload_n X.1 X.2.1 d_Md_keep_124 rfl (lv_at hl 3 rfl) ?_
      have o7 := hk
      refine R_iast (k := 29) X hM (by decide) rfl g4 a_m_keptPath (fun _ => rfl) o7.1 o7.2 d_Md_keep_125 (fun H locs hM => ?_)
      refine lv_aload_n X.1 X.2.1 d_Md_keep_126 rfl (lv_at hl 1 rfl) ?_
      refine r_gets (q := 0) X hM rfl hR.1 f_Md_43 rfl (hR.2 11 (by decide)) d_Md_keep_127 (fun g8 => ?_)
      refine lv_iconst (v := 4) X.1 X.2.1 d_Md_keep_130 (by decide) ?_
      refine lv_iload_n X.1 X.2.1 d_Md_keep_131 rfl (lv_at hl 2 rfl) ?_
      refine lv_imul X.1 X.2.1 d_Md_keep_132 ?_
      refine lv_aload_n X.1 X.2.1 d_Md_keep_133 rfl (lv_at hl 1 rfl) ?_
      refine r_gets (q := 0) X hM rfl hR.1 f_Md_37 rfl (hR.2 9 (by decide)) d_Md_keep_134 (fun g9 => ?_)
      refine lv_iload_n X.1 X.2.1 d_Md_keep_137 rfl (lv_at hl 2 rfl) ?_
      refine R_iald (k := 28) X hM (by decide) rfl g9 a_m_kept (fun _ => rfl) o6.1 o6.2 d_Md_keep_138 ?_
      show W _ _ _ _ _ _ _ _ _ _ _ _ _ _ _ (F0 m 139 ls [.int (r 28 (a0.toNatClampNeg)), .int (4 * a0), .ref (ad 30 0)])
      refine lv_iadd X.1 X.2.1 d_Md_keep_139 ?_
      refine lv_iload_n X.1 X.2.1 d_Md_keep_140 rfl (lv_at hl 4 rfl) ?_
      refine R_iast (k := 30) X hM (by decide) rfl g8 a_m_keptValue (fun _ => rfl) o7.1 o7.2 d_Md_keep_141 (fun H locs hM => ?_)
      refine lv_aload_n X.1 X.2.1 d_Md_keep_142 rfl (lv_at hl 1 rfl) ?_
      refine r_gets (q := 0) X hM rfl hR.1 f_Md_37 rfl (hR.2 9 (by decide)) d_Md_keep_143 (fun g10 => ?_)
      refine lv_iload_n X.1 X.2.1 d_Md_keep_146 rfl (lv_at hl 2 rfl) ?_
      refine lv_dup2_11 X.1 X.2.1 d_Md_keep_147 rfl rfl ?_
      refine R_iald (k := 28) X hM (by decide) rfl g10 a_m_kept (fun _ => rfl) o6.1 o6.2 d_Md_keep_148 ?_
      show W _ _ _ _ _ _ _ _ _ _ _ _ _ _ _ (F0 m 149 ls [.int (r 28 (a0.toNatClampNeg)), .int a0, .ref (ad 28 0)])
      refine lv_iconst (v := 1) X.1 X.2.1 d_Md_keep_149 (by decide) ?_
      refine lv_iadd X.1 X.2.1 d_Md_keep_150 ?_
      refine R_iast (k := 28) X hM (by decide) rfl g10 a_m_kept (fun _ => rfl) o6.1 o6.2 d_Md_keep_151 (fun H locs hM => ?_)
      have heL : (ru (ru (ru r 29 (((4 * a0) + (r 28 (a0.toNatClampNeg))).toNatClampNeg) a1) 30 (((4 * a0) + (r 28 (a0.toNatClampNeg))).toNatClampNeg) a2) 28 (a0.toNatClampNeg) ((r 28 (a0.toNatClampNeg)) + 1)) = F := ((if_pos h2).trans ((if_pos h3))).symm.trans he
      exact m_vret X hr hlk hM d_Md_keep_152 ⟨Nat.le_of_ble_eq_true rfl, Nat.le_of_ble_eq_true rfl⟩ ⟨fun _ _ _ => rfl, fun _ => Nat.le_refl _⟩ ⟨rfl, congrArg (rs M) heL, rfl⟩
    · skip
      have hk := hk.2 h3
      refine lv_aload_n X.1 X.2.1 d_Md_keep_31 rfl (lv_at hl 1 rfl) ?_
      refine r_gets (q := 0) X hM rfl hR.1 f_Md_37 rfl (hR.2 9 (by decide)) d_Md_keep_32 (fun g11 => ?_)
      refine lv_iload_n X.1 X.2.1 d_Md_keep_35 rfl (lv_at hl 2 rfl) ?_
      refine lv_dup2_11 X.1 X.2.1 d_Md_keep_36 rfl rfl ?_
      obtain ⟨o12, hk⟩ := hk
      refine R_iald (k := 28) X hM (by decide) rfl g11 a_m_kept (fun _ => rfl) o12.1 o12.2 d_Md_keep_37 ?_
      refine lv_iconst (v := 1) X.1 X.2.1 d_Md_keep_38 (by decide) ?_
      refine lv_isub X.1 X.2.1 d_Md_keep_39 ?_
      refine R_iast (k := 28) X hM (by decide) rfl g11 a_m_kept (fun _ => rfl) o12.1 o12.2 d_Md_keep_40 (fun H locs hM => ?_)
      refine lv_iload X.1 X.2.1 d_Md_keep_41 (lv_at hl 0 rfl) ?_
      refine lv_istore (lv' := [(5, .int (m_cached r a0 a1)), (4, .int (m_cached r a0 a1)), (0, .ref (ad 18 0)), (1, .int a0), (2, .int a1), (3, .int a2)]) X.1 X.2.1 d_Md_keep_43 hl (by decide) rfl (fun ls hl => ?_)
      refine w_downW (fun ls => F0 m 45 ls []) (fun n H L ls => ∃ (r : rR) (v1 : Int32) (v2 : Int32) (v3 : Int32) (v4 : Int32) (v5 : Int32), mSt D dA base (rs M r) ad s.heap H L ∧ lv_has ls 6 [(1, .int v1), (2, .int v2), (3, .int v3), (4, .int v4), (5, .int v5), (0, .ref (ad 18 0))] ∧ m_keep_L45_ok n r v1 v2 v3 v4 v5 ∧ m_keep_L45 n r v1 v2 v3 v4 v5 = F) ?_ ?_ 5 _ _ ls ⟨(ru r 28 (a0.toNatClampNeg) ((r 28 (a0.toNatClampNeg)) - 1)), a0, a1, a2, (m_cached r a0 a1), (m_cached r a0 a1), hM, lv_sub hl [3, 4, 5, 1, 0, 2] rfl, hk, ((if_pos h2).trans ((if_neg h3))).symm.trans he⟩
      · rintro H locs ls ⟨r, v1, v2, v3, v4, v5, hM, hl, hk, he⟩
        exact hk.elim
      · rintro n ih H locs ls ⟨r, v1, v2, v3, v4, v5, hM, hl, hk, he⟩
        refine lv_iload X.1 X.2.1 d_Md_keep_45 (lv_at hl 4 rfl) ?_
        refine lv_aload_n X.1 X.2.1 d_Md_keep_47 rfl (lv_at hl 5 rfl) ?_
        refine r_gets (q := 0) X hM rfl hR.1 f_Md_37 rfl (hR.2 9 (by decide)) d_Md_keep_48 (fun g13 => ?_)
        refine lv_iload_n X.1 X.2.1 d_Md_keep_51 rfl (lv_at hl 0 rfl) ?_
        obtain ⟨o14, hk⟩ := hk
        refine R_iald (k := 28) X hM (by decide) rfl g13 a_m_kept (fun _ => rfl) o14.1 o14.2 d_Md_keep_52 ?_
        refine lv_icmp_ge (tgt := 110) X.1 X.2.1 d_Md_keep_53 (by decide) (fun h15 => ?_) (fun h15 => ?_)
        · skip
          have hk := hk.1 h15
          refine lv_aload_n X.1 X.2.1 d_Md_keep_110 rfl (lv_at hl 5 rfl) ?_
          refine r_gets (q := 0) X hM rfl hR.1 f_Md_40 rfl (hR.2 10 (by decide)) d_Md_keep_111 (fun g16 => ?_)
          refine lv_iconst (v := 4) X.1 X.2.1 d_Md_keep_114 (by decide) ?_
          refine lv_iload_n X.1 X.2.1 d_Md_keep_115 rfl (lv_at hl 0 rfl) ?_
          refine lv_imul X.1 X.2.1 d_Md_keep_116 ?_
          refine lv_aload_n X.1 X.2.1 d_Md_keep_117 rfl (lv_at hl 5 rfl) ?_
          refine r_gets (q := 0) X hM rfl hR.1 f_Md_37 rfl (hR.2 9 (by decide)) d_Md_keep_118 (fun g17 => ?_)
          refine lv_iload_n X.1 X.2.1 d_Md_keep_121 rfl (lv_at hl 0 rfl) ?_
          refine R_iald (k := 28) X hM (by decide) rfl g17 a_m_kept (fun _ => rfl) o14.1 o14.2 d_Md_keep_122 ?_
          refine lv_iadd X.1 X.2.1 d_Md_keep_123 ?_
          refine lv_iload_n X.1 X.2.1 d_Md_keep_124 rfl (lv_at hl 1 rfl) ?_
          have o18 := hk
          refine R_iast (k := 29) X hM (by decide) rfl g16 a_m_keptPath (fun _ => rfl) o18.1 o18.2 d_Md_keep_125 (fun H locs hM => ?_)
          refine lv_aload_n X.1 X.2.1 d_Md_keep_126 rfl (lv_at hl 5 rfl) ?_
          refine r_gets (q := 0) X hM rfl hR.1 f_Md_43 rfl (hR.2 11 (by decide)) d_Md_keep_127 (fun g19 => ?_)
          refine lv_iconst (v := 4) X.1 X.2.1 d_Md_keep_130 (by decide) ?_
          refine lv_iload_n X.1 X.2.1 d_Md_keep_131 rfl (lv_at hl 0 rfl) ?_
          refine lv_imul X.1 X.2.1 d_Md_keep_132 ?_
          refine lv_aload_n X.1 X.2.1 d_Md_keep_133 rfl (lv_at hl 5 rfl) ?_
          refine r_gets (q := 0) X hM rfl hR.1 f_Md_37 rfl (hR.2 9 (by decide)) d_Md_keep_134 (fun g20 => ?_)
          refine lv_iload_n X.1 X.2.1 d_Md_keep_137 rfl (lv_at hl 0 rfl) ?_
          refine R_iald (k := 28) X hM (by decide) rfl g20 a_m_kept (fun _ => rfl) o14.1 o14.2 d_Md_keep_138 ?_
          show W _ _ _ _ _ _ _ _ _ _ _ _ _ _ _ (F0 m 139 ls [.int (r 28 (v1.toNatClampNeg)), .int (4 * v1), .ref (ad 30 0)])
          refine lv_iadd X.1 X.2.1 d_Md_keep_139 ?_
          refine lv_iload_n X.1 X.2.1 d_Md_keep_140 rfl (lv_at hl 2 rfl) ?_
          refine R_iast (k := 30) X hM (by decide) rfl g19 a_m_keptValue (fun _ => rfl) o18.1 o18.2 d_Md_keep_141 (fun H locs hM => ?_)
          refine lv_aload_n X.1 X.2.1 d_Md_keep_142 rfl (lv_at hl 5 rfl) ?_
          refine r_gets (q := 0) X hM rfl hR.1 f_Md_37 rfl (hR.2 9 (by decide)) d_Md_keep_143 (fun g21 => ?_)
          refine lv_iload_n X.1 X.2.1 d_Md_keep_146 rfl (lv_at hl 0 rfl) ?_
          refine lv_dup2_11 X.1 X.2.1 d_Md_keep_147 rfl rfl ?_
          refine R_iald (k := 28) X hM (by decide) rfl g21 a_m_kept (fun _ => rfl) o14.1 o14.2 d_Md_keep_148 ?_
          show W _ _ _ _ _ _ _ _ _ _ _ _ _ _ _ (F0 m 149 ls [.int (r 28 (v1.toNatClampNeg)), .int v1, .ref (ad 28 0)])
          refine lv_iconst (v := 1) X.1 X.2.1 d_Md_keep_149 (by decide) ?_
          refine lv_iadd X.1 X.2.1 d_Md_keep_150 ?_
          refine R_iast (k := 28) X hM (by decide) rfl g21 a_m_kept (fun _ => rfl) o14.1 o14.2 d_Md_keep_151 (fun H locs hM => ?_)
          have heL : (ru (ru (ru r 29 (((4 * v1) + (r 28 (v1.toNatClampNeg))).toNatClampNeg) v2) 30 (((4 * v1) + (r 28 (v1.toNatClampNeg))).toNatClampNeg) v3) 28 (v1.toNatClampNeg) ((r 28 (v1.toNatClampNeg)) + 1)) = F := ((if_pos h15)).symm.trans he
          exact m_vret X hr hlk hM d_Md_keep_152 ⟨Nat.le_of_ble_eq_true rfl, Nat.le_of_ble_eq_true rfl⟩ ⟨fun _ _ _ => rfl, fun _ => Nat.le_refl _⟩ ⟨rfl, congrArg (rs M) heL, rfl⟩
        · skip
          have hk := hk.2 h15
          refine lv_aload_n X.1 X.2.1 d_Md_keep_56 rfl (lv_at hl 5 rfl) ?_
          refine r_gets (q := 0) X hM rfl hR.1 f_Md_40 rfl (hR.2 10 (by decide)) d_Md_keep_57 (fun g22 => ?_)
          refine lv_iconst (v := 4) X.1 X.2.1 d_Md_keep_60 (by decide) ?_
          refine lv_iload_n X.1 X.2.1 d_Md_keep_61 rfl (lv_at hl 0 rfl) ?_
          refine lv_imul X.1 X.2.1 d_Md_keep_62 ?_
          refine lv_iload X.1 X.2.1 d_Md_keep_63 (lv_at hl 4 rfl) ?_
          refine lv_iadd X.1 X.2.1 d_Md_keep_65 ?_
          refine lv_aload_n X.1 X.2.1 d_Md_keep_66 rfl (lv_at hl 5 rfl) ?_
          refine r_gets (q := 0) X hM rfl hR.1 f_Md_40 rfl (hR.2 10 (by decide)) d_Md_keep_67 (fun g23 => ?_)
          refine lv_iconst (v := 4) X.1 X.2.1 d_Md_keep_70 (by decide) ?_
          refine lv_iload_n X.1 X.2.1 d_Md_keep_71 rfl (lv_at hl 0 rfl) ?_
          refine lv_imul X.1 X.2.1 d_Md_keep_72 ?_
          refine lv_iload X.1 X.2.1 d_Md_keep_73 (lv_at hl 4 rfl) ?_
          refine lv_iadd X.1 X.2.1 d_Md_keep_75 ?_
          refine lv_iconst (v := 1) X.1 X.2.1 d_Md_keep_76 (by decide) ?_
          refine lv_iadd X.1 X.2.1 d_Md_keep_77 ?_
          obtain ⟨o24, hk⟩ := hk
          refine R_iald (k := 29) X hM (by decide) rfl g23 a_m_keptPath (fun _ => rfl) o24.1 o24.2 d_Md_keep_78 ?_
          obtain ⟨o25, hk⟩ := hk
          refine R_iast (k := 29) X hM (by decide) rfl g22 a_m_keptPath (fun _ => rfl) o25.1 o25.2 d_Md_keep_79 (fun H locs hM => ?_)
          refine lv_aload_n X.1 X.2.1 d_Md_keep_80 rfl (lv_at hl 5 rfl) ?_
          refine r_gets (q := 0) X hM rfl hR.1 f_Md_43 rfl (hR.2 11 (by decide)) d_Md_keep_81 (fun g26 => ?_)
          refine lv_iconst (v := 4) X.1 X.2.1 d_Md_keep_84 (by decide) ?_
          refine lv_iload_n X.1 X.2.1 d_Md_keep_85 rfl (lv_at hl 0 rfl) ?_
          refine lv_imul X.1 X.2.1 d_Md_keep_86 ?_
          refine lv_iload X.1 X.2.1 d_Md_keep_87 (lv_at hl 4 rfl) ?_
          refine lv_iadd X.1 X.2.1 d_Md_keep_89 ?_
          refine lv_aload_n X.1 X.2.1 d_Md_keep_90 rfl (lv_at hl 5 rfl) ?_
          refine r_gets (q := 0) X hM rfl hR.1 f_Md_43 rfl (hR.2 11 (by decide)) d_Md_keep_91 (fun g27 => ?_)
          refine lv_iconst (v := 4) X.1 X.2.1 d_Md_keep_94 (by decide) ?_
          refine lv_iload_n X.1 X.2.1 d_Md_keep_95 rfl (lv_at hl 0 rfl) ?_
          refine lv_imul X.1 X.2.1 d_Md_keep_96 ?_
          refine lv_iload X.1 X.2.1 d_Md_keep_97 (lv_at hl 4 rfl) ?_
          refine lv_iadd X.1 X.2.1 d_Md_keep_99 ?_
          refine lv_iconst (v := 1) X.1 X.2.1 d_Md_keep_100 (by decide) ?_
          refine lv_iadd X.1 X.2.1 d_Md_keep_101 ?_
          refine R_iald (k := 30) X hM (by decide) rfl g27 a_m_keptValue (fun _ => rfl) o24.1 o24.2 d_Md_keep_102 ?_
          show W _ _ _ _ _ _ _ _ _ _ _ _ _ _ _ (F0 m 103 ls [.int (r 30 ((((4 * v1) + v5) + 1).toNatClampNeg)), .int ((4 * v1) + v5), .ref (ad 30 0)])
          refine R_iast (k := 30) X hM (by decide) rfl g26 a_m_keptValue (fun _ => rfl) o25.1 o25.2 d_Md_keep_103 (fun H locs hM => ?_)
          refine lv_iinc (v := v5 + 1) (lv' := [(5, .int (v5 + 1)), (1, .int v1), (2, .int v2), (3, .int v3), (4, .int v4), (0, .ref (ad 18 0))]) X.1 X.2.1 d_Md_keep_104 hl (k := 4) rfl rfl (by decide) rfl (fun ls hl => ?_)
          refine lv_goto (tgt := 45) X.1 X.2.1 d_Md_keep_107 (by decide) ?_
          exact ih _ _ ls ⟨_, _, _, _, _, _, hM, lv_sub hl [1, 2, 3, 4, 0, 5] rfl, hk, ((if_neg h15)).symm.trans he⟩
  · skip
    have hk := hk.2 h2
    refine lv_aload_n X.1 X.2.1 d_Md_keep_13 rfl (lv_at hl 1 rfl) ?_
    refine r_gets (q := 0) X hM rfl hR.1 f_Md_37 rfl (hR.2 9 (by decide)) d_Md_keep_14 (fun g28 => ?_)
    refine lv_iload_n X.1 X.2.1 d_Md_keep_17 rfl (lv_at hl 2 rfl) ?_
    obtain ⟨o29, hk⟩ := hk
    refine R_iald (k := 28) X hM (by decide) rfl g28 a_m_kept (fun _ => rfl) o29.1 o29.2 d_Md_keep_18 ?_
    refine lv_iconst (v := 4) X.1 X.2.1 d_Md_keep_19 (by decide) ?_
    refine lv_icmp_ne (tgt := 26) X.1 X.2.1 d_Md_keep_20 (by decide) (fun h30 => ?_) (fun h30 => ?_)
    · skip
      have hk := hk.2 h30
      refine lv_iload X.1 X.2.1 d_Md_keep_26 (lv_at hl 0 rfl) ?_
      refine lv_if_lt (tgt := 110) X.1 X.2.1 d_Md_keep_28 (by decide) (fun h31 => ?_) (fun h31 => ?_)
      · skip
        have hk := hk.1 h31
        refine lv_aload_n X.1 X.2.1 d_Md_keep_110 rfl (lv_at hl 1 rfl) ?_
        refine r_gets (q := 0) X hM rfl hR.1 f_Md_40 rfl (hR.2 10 (by decide)) d_Md_keep_111 (fun g32 => ?_)
        refine lv_iconst (v := 4) X.1 X.2.1 d_Md_keep_114 (by decide) ?_
        refine lv_iload_n X.1 X.2.1 d_Md_keep_115 rfl (lv_at hl 2 rfl) ?_
        refine lv_imul X.1 X.2.1 d_Md_keep_116 ?_
        refine lv_aload_n X.1 X.2.1 d_Md_keep_117 rfl (lv_at hl 1 rfl) ?_
        refine r_gets (q := 0) X hM rfl hR.1 f_Md_37 rfl (hR.2 9 (by decide)) d_Md_keep_118 (fun g33 => ?_)
        refine lv_iload_n X.1 X.2.1 d_Md_keep_121 rfl (lv_at hl 2 rfl) ?_
        refine R_iald (k := 28) X hM (by decide) rfl g33 a_m_kept (fun _ => rfl) o29.1 o29.2 d_Md_keep_122 ?_
        refine lv_iadd X.1 X.2.1 d_Md_keep_123 ?_
        refine lv_iload_n X.1 X.2.1 d_Md_keep_124 rfl (lv_at hl 3 rfl) ?_
        have o34 := hk
        refine R_iast (k := 29) X hM (by decide) rfl g32 a_m_keptPath (fun _ => rfl) o34.1 o34.2 d_Md_keep_125 (fun H locs hM => ?_)
        refine lv_aload_n X.1 X.2.1 d_Md_keep_126 rfl (lv_at hl 1 rfl) ?_
        refine r_gets (q := 0) X hM rfl hR.1 f_Md_43 rfl (hR.2 11 (by decide)) d_Md_keep_127 (fun g35 => ?_)
        refine lv_iconst (v := 4) X.1 X.2.1 d_Md_keep_130 (by decide) ?_
        refine lv_iload_n X.1 X.2.1 d_Md_keep_131 rfl (lv_at hl 2 rfl) ?_
        refine lv_imul X.1 X.2.1 d_Md_keep_132 ?_
        refine lv_aload_n X.1 X.2.1 d_Md_keep_133 rfl (lv_at hl 1 rfl) ?_
        refine r_gets (q := 0) X hM rfl hR.1 f_Md_37 rfl (hR.2 9 (by decide)) d_Md_keep_134 (fun g36 => ?_)
        refine lv_iload_n X.1 X.2.1 d_Md_keep_137 rfl (lv_at hl 2 rfl) ?_
        refine R_iald (k := 28) X hM (by decide) rfl g36 a_m_kept (fun _ => rfl) o29.1 o29.2 d_Md_keep_138 ?_
        show W _ _ _ _ _ _ _ _ _ _ _ _ _ _ _ (F0 m 139 ls [.int (r 28 (a0.toNatClampNeg)), .int (4 * a0), .ref (ad 30 0)])
        refine lv_iadd X.1 X.2.1 d_Md_keep_139 ?_
        refine lv_iload_n X.1 X.2.1 d_Md_keep_140 rfl (lv_at hl 4 rfl) ?_
        refine R_iast (k := 30) X hM (by decide) rfl g35 a_m_keptValue (fun _ => rfl) o34.1 o34.2 d_Md_keep_141 (fun H locs hM => ?_)
        refine lv_aload_n X.1 X.2.1 d_Md_keep_142 rfl (lv_at hl 1 rfl) ?_
        refine r_gets (q := 0) X hM rfl hR.1 f_Md_37 rfl (hR.2 9 (by decide)) d_Md_keep_143 (fun g37 => ?_)
        refine lv_iload_n X.1 X.2.1 d_Md_keep_146 rfl (lv_at hl 2 rfl) ?_
        refine lv_dup2_11 X.1 X.2.1 d_Md_keep_147 rfl rfl ?_
        refine R_iald (k := 28) X hM (by decide) rfl g37 a_m_kept (fun _ => rfl) o29.1 o29.2 d_Md_keep_148 ?_
        show W _ _ _ _ _ _ _ _ _ _ _ _ _ _ _ (F0 m 149 ls [.int (r 28 (a0.toNatClampNeg)), .int a0, .ref (ad 28 0)])
        refine lv_iconst (v := 1) X.1 X.2.1 d_Md_keep_149 (by decide) ?_
        refine lv_iadd X.1 X.2.1 d_Md_keep_150 ?_
        refine R_iast (k := 28) X hM (by decide) rfl g37 a_m_kept (fun _ => rfl) o29.1 o29.2 d_Md_keep_151 (fun H locs hM => ?_)
        have heL : (ru (ru (ru r 29 (((4 * a0) + (r 28 (a0.toNatClampNeg))).toNatClampNeg) a1) 30 (((4 * a0) + (r 28 (a0.toNatClampNeg))).toNatClampNeg) a2) 28 (a0.toNatClampNeg) ((r 28 (a0.toNatClampNeg)) + 1)) = F := ((if_neg h2).trans ((if_neg h30).trans ((if_pos h31)))).symm.trans he
        exact m_vret X hr hlk hM d_Md_keep_152 ⟨Nat.le_of_ble_eq_true rfl, Nat.le_of_ble_eq_true rfl⟩ ⟨fun _ _ _ => rfl, fun _ => Nat.le_refl _⟩ ⟨rfl, congrArg (rs M) heL, rfl⟩
      · skip
        have hk := hk.2 h31
        refine lv_aload_n X.1 X.2.1 d_Md_keep_31 rfl (lv_at hl 1 rfl) ?_
        refine r_gets (q := 0) X hM rfl hR.1 f_Md_37 rfl (hR.2 9 (by decide)) d_Md_keep_32 (fun g38 => ?_)
        refine lv_iload_n X.1 X.2.1 d_Md_keep_35 rfl (lv_at hl 2 rfl) ?_
        refine lv_dup2_11 X.1 X.2.1 d_Md_keep_36 rfl rfl ?_
        refine R_iald (k := 28) X hM (by decide) rfl g38 a_m_kept (fun _ => rfl) o29.1 o29.2 d_Md_keep_37 ?_
        refine lv_iconst (v := 1) X.1 X.2.1 d_Md_keep_38 (by decide) ?_
        refine lv_isub X.1 X.2.1 d_Md_keep_39 ?_
        refine R_iast (k := 28) X hM (by decide) rfl g38 a_m_kept (fun _ => rfl) o29.1 o29.2 d_Md_keep_40 (fun H locs hM => ?_)
        refine lv_iload X.1 X.2.1 d_Md_keep_41 (lv_at hl 0 rfl) ?_
        refine lv_istore (lv' := [(5, .int (m_cached r a0 a1)), (4, .int (m_cached r a0 a1)), (0, .ref (ad 18 0)), (1, .int a0), (2, .int a1), (3, .int a2)]) X.1 X.2.1 d_Md_keep_43 hl (by decide) rfl (fun ls hl => ?_)
        refine w_downW (fun ls => F0 m 45 ls []) (fun n H L ls => ∃ (r : rR) (v1 : Int32) (v2 : Int32) (v3 : Int32) (v4 : Int32) (v5 : Int32), mSt D dA base (rs M r) ad s.heap H L ∧ lv_has ls 6 [(1, .int v1), (2, .int v2), (3, .int v3), (4, .int v4), (5, .int v5), (0, .ref (ad 18 0))] ∧ m_keep_L45_ok n r v1 v2 v3 v4 v5 ∧ m_keep_L45 n r v1 v2 v3 v4 v5 = F) ?_ ?_ 5 _ _ ls ⟨(ru r 28 (a0.toNatClampNeg) ((r 28 (a0.toNatClampNeg)) - 1)), a0, a1, a2, (m_cached r a0 a1), (m_cached r a0 a1), hM, lv_sub hl [3, 4, 5, 1, 0, 2] rfl, hk, ((if_neg h2).trans ((if_neg h30).trans ((if_neg h31)))).symm.trans he⟩
        · rintro H locs ls ⟨r, v1, v2, v3, v4, v5, hM, hl, hk, he⟩
          exact hk.elim
        · rintro n ih H locs ls ⟨r, v1, v2, v3, v4, v5, hM, hl, hk, he⟩
          refine lv_iload X.1 X.2.1 d_Md_keep_45 (lv_at hl 4 rfl) ?_
          refine lv_aload_n X.1 X.2.1 d_Md_keep_47 rfl (lv_at hl 5 rfl) ?_
          refine r_gets (q := 0) X hM rfl hR.1 f_Md_37 rfl (hR.2 9 (by decide)) d_Md_keep_48 (fun g39 => ?_)
          refine lv_iload_n X.1 X.2.1 d_Md_keep_51 rfl (lv_at hl 0 rfl) ?_
          obtain ⟨o40, hk⟩ := hk
          refine R_iald (k := 28) X hM (by decide) rfl g39 a_m_kept (fun _ => rfl) o40.1 o40.2 d_Md_keep_52 ?_
          refine lv_icmp_ge (tgt := 110) X.1 X.2.1 d_Md_keep_53 (by decide) (fun h41 => ?_) (fun h41 => ?_)
          · skip
            have hk := hk.1 h41
            refine lv_aload_n X.1 X.2.1 d_Md_keep_110 rfl (lv_at hl 5 rfl) ?_
            refine r_gets (q := 0) X hM rfl hR.1 f_Md_40 rfl (hR.2 10 (by decide)) d_Md_keep_111 (fun g42 => ?_)
            refine lv_iconst (v := 4) X.1 X.2.1 d_Md_keep_114 (by decide) ?_
            refine lv_iload_n X.1 X.2.1 d_Md_keep_115 rfl (lv_at hl 0 rfl) ?_
            refine lv_imul X.1 X.2.1 d_Md_keep_116 ?_
            refine lv_aload_n X.1 X.2.1 d_Md_keep_117 rfl (lv_at hl 5 rfl) ?_
            refine r_gets (q := 0) X hM rfl hR.1 f_Md_37 rfl (hR.2 9 (by decide)) d_Md_keep_118 (fun g43 => ?_)
            refine lv_iload_n X.1 X.2.1 d_Md_keep_121 rfl (lv_at hl 0 rfl) ?_
            refine R_iald (k := 28) X hM (by decide) rfl g43 a_m_kept (fun _ => rfl) o40.1 o40.2 d_Md_keep_122 ?_
            refine lv_iadd X.1 X.2.1 d_Md_keep_123 ?_
            refine lv_iload_n X.1 X.2.1 d_Md_keep_124 rfl (lv_at hl 1 rfl) ?_
            have o44 := hk
            refine R_iast (k := 29) X hM (by decide) rfl g42 a_m_keptPath (fun _ => rfl) o44.1 o44.2 d_Md_keep_125 (fun H locs hM => ?_)
            refine lv_aload_n X.1 X.2.1 d_Md_keep_126 rfl (lv_at hl 5 rfl) ?_
            refine r_gets (q := 0) X hM rfl hR.1 f_Md_43 rfl (hR.2 11 (by decide)) d_Md_keep_127 (fun g45 => ?_)
            refine lv_iconst (v := 4) X.1 X.2.1 d_Md_keep_130 (by decide) ?_
            refine lv_iload_n X.1 X.2.1 d_Md_keep_131 rfl (lv_at hl 0 rfl) ?_
            refine lv_imul X.1 X.2.1 d_Md_keep_132 ?_
            refine lv_aload_n X.1 X.2.1 d_Md_keep_133 rfl (lv_at hl 5 rfl) ?_
            refine r_gets (q := 0) X hM rfl hR.1 f_Md_37 rfl (hR.2 9 (by decide)) d_Md_keep_134 (fun g46 => ?_)
            refine lv_iload_n X.1 X.2.1 d_Md_keep_137 rfl (lv_at hl 0 rfl) ?_
            refine R_iald (k := 28) X hM (by decide) rfl g46 a_m_kept (fun _ => rfl) o40.1 o40.2 d_Md_keep_138 ?_
            show W _ _ _ _ _ _ _ _ _ _ _ _ _ _ _ (F0 m 139 ls [.int (r 28 (v1.toNatClampNeg)), .int (4 * v1), .ref (ad 30 0)])
            refine lv_iadd X.1 X.2.1 d_Md_keep_139 ?_
            refine lv_iload_n X.1 X.2.1 d_Md_keep_140 rfl (lv_at hl 2 rfl) ?_
            refine R_iast (k := 30) X hM (by decide) rfl g45 a_m_keptValue (fun _ => rfl) o44.1 o44.2 d_Md_keep_141 (fun H locs hM => ?_)
            refine lv_aload_n X.1 X.2.1 d_Md_keep_142 rfl (lv_at hl 5 rfl) ?_
            refine r_gets (q := 0) X hM rfl hR.1 f_Md_37 rfl (hR.2 9 (by decide)) d_Md_keep_143 (fun g47 => ?_)
            refine lv_iload_n X.1 X.2.1 d_Md_keep_146 rfl (lv_at hl 0 rfl) ?_
            refine lv_dup2_11 X.1 X.2.1 d_Md_keep_147 rfl rfl ?_
            refine R_iald (k := 28) X hM (by decide) rfl g47 a_m_kept (fun _ => rfl) o40.1 o40.2 d_Md_keep_148 ?_
            show W _ _ _ _ _ _ _ _ _ _ _ _ _ _ _ (F0 m 149 ls [.int (r 28 (v1.toNatClampNeg)), .int v1, .ref (ad 28 0)])
            refine lv_iconst (v := 1) X.1 X.2.1 d_Md_keep_149 (by decide) ?_
            refine lv_iadd X.1 X.2.1 d_Md_keep_150 ?_
            refine R_iast (k := 28) X hM (by decide) rfl g47 a_m_kept (fun _ => rfl) o40.1 o40.2 d_Md_keep_151 (fun H locs hM => ?_)
            have heL : (ru (ru (ru r 29 (((4 * v1) + (r 28 (v1.toNatClampNeg))).toNatClampNeg) v2) 30 (((4 * v1) + (r 28 (v1.toNatClampNeg))).toNatClampNeg) v3) 28 (v1.toNatClampNeg) ((r 28 (v1.toNatClampNeg)) + 1)) = F := ((if_pos h41)).symm.trans he
            exact m_vret X hr hlk hM d_Md_keep_152 ⟨Nat.le_of_ble_eq_true rfl, Nat.le_of_ble_eq_true rfl⟩ ⟨fun _ _ _ => rfl, fun _ => Nat.le_refl _⟩ ⟨rfl, congrArg (rs M) heL, rfl⟩
          · skip
            have hk := hk.2 h41
            refine lv_aload_n X.1 X.2.1 d_Md_keep_56 rfl (lv_at hl 5 rfl) ?_
            refine r_gets (q := 0) X hM rfl hR.1 f_Md_40 rfl (hR.2 10 (by decide)) d_Md_keep_57 (fun g48 => ?_)
            refine lv_iconst (v := 4) X.1 X.2.1 d_Md_keep_60 (by decide) ?_
            refine lv_iload_n X.1 X.2.1 d_Md_keep_61 rfl (lv_at hl 0 rfl) ?_
            refine lv_imul X.1 X.2.1 d_Md_keep_62 ?_
            refine lv_iload X.1 X.2.1 d_Md_keep_63 (lv_at hl 4 rfl) ?_
            refine lv_iadd X.1 X.2.1 d_Md_keep_65 ?_
            refine lv_aload_n X.1 X.2.1 d_Md_keep_66 rfl (lv_at hl 5 rfl) ?_
            refine r_gets (q := 0) X hM rfl hR.1 f_Md_40 rfl (hR.2 10 (by decide)) d_Md_keep_67 (fun g49 => ?_)
            refine lv_iconst (v := 4) X.1 X.2.1 d_Md_keep_70 (by decide) ?_
            refine lv_iload_n X.1 X.2.1 d_Md_keep_71 rfl (lv_at hl 0 rfl) ?_
            refine lv_imul X.1 X.2.1 d_Md_keep_72 ?_
            refine lv_iload X.1 X.2.1 d_Md_keep_73 (lv_at hl 4 rfl) ?_
            refine lv_iadd X.1 X.2.1 d_Md_keep_75 ?_
            refine lv_iconst (v := 1) X.1 X.2.1 d_Md_keep_76 (by decide) ?_
            refine lv_iadd X.1 X.2.1 d_Md_keep_77 ?_
            obtain ⟨o50, hk⟩ := hk
            refine R_iald (k := 29) X hM (by decide) rfl g49 a_m_keptPath (fun _ => rfl) o50.1 o50.2 d_Md_keep_78 ?_
            obtain ⟨o51, hk⟩ := hk
            refine R_iast (k := 29) X hM (by decide) rfl g48 a_m_keptPath (fun _ => rfl) o51.1 o51.2 d_Md_keep_79 (fun H locs hM => ?_)
            refine lv_aload_n X.1 X.2.1 d_Md_keep_80 rfl (lv_at hl 5 rfl) ?_
            refine r_gets (q := 0) X hM rfl hR.1 f_Md_43 rfl (hR.2 11 (by decide)) d_Md_keep_81 (fun g52 => ?_)
            refine lv_iconst (v := 4) X.1 X.2.1 d_Md_keep_84 (by decide) ?_
            refine lv_iload_n X.1 X.2.1 d_Md_keep_85 rfl (lv_at hl 0 rfl) ?_
            refine lv_imul X.1 X.2.1 d_Md_keep_86 ?_
            refine lv_iload X.1 X.2.1 d_Md_keep_87 (lv_at hl 4 rfl) ?_
            refine lv_iadd X.1 X.2.1 d_Md_keep_89 ?_
            refine lv_aload_n X.1 X.2.1 d_Md_keep_90 rfl (lv_at hl 5 rfl) ?_
            refine r_gets (q := 0) X hM rfl hR.1 f_Md_43 rfl (hR.2 11 (by decide)) d_Md_keep_91 (fun g53 => ?_)
            refine lv_iconst (v := 4) X.1 X.2.1 d_Md_keep_94 (by decide) ?_
            refine lv_iload_n X.1 X.2.1 d_Md_keep_95 rfl (lv_at hl 0 rfl) ?_
            refine lv_imul X.1 X.2.1 d_Md_keep_96 ?_
            refine lv_iload X.1 X.2.1 d_Md_keep_97 (lv_at hl 4 rfl) ?_
            refine lv_iadd X.1 X.2.1 d_Md_keep_99 ?_
            refine lv_iconst (v := 1) X.1 X.2.1 d_Md_keep_100 (by decide) ?_
            refine lv_iadd X.1 X.2.1 d_Md_keep_101 ?_
            refine R_iald (k := 30) X hM (by decide) rfl g53 a_m_keptValue (fun _ => rfl) o50.1 o50.2 d_Md_keep_102 ?_
            show W _ _ _ _ _ _ _ _ _ _ _ _ _ _ _ (F0 m 103 ls [.int (r 30 ((((4 * v1) + v5) + 1).toNatClampNeg)), .int ((4 * v1) + v5), .ref (ad 30 0)])
            refine R_iast (k := 30) X hM (by decide) rfl g52 a_m_keptValue (fun _ => rfl) o51.1 o51.2 d_Md_keep_103 (fun H locs hM => ?_)
            refine lv_iinc (v := v5 + 1) (lv' := [(5, .int (v5 + 1)), (1, .int v1), (2, .int v2), (3, .int v3), (4, .int v4), (0, .ref (ad 18 0))]) X.1 X.2.1 d_Md_keep_104 hl (k := 4) rfl rfl (by decide) rfl (fun ls hl => ?_)
            refine lv_goto (tgt := 45) X.1 X.2.1 d_Md_keep_107 (by decide) ?_
            exact ih _ _ ls ⟨_, _, _, _, _, _, hM, lv_sub hl [1, 2, 3, 4, 0, 5] rfl, hk, ((if_neg h41)).symm.trans he⟩
    · skip
      have hk := hk.1 h30
      refine lv_iconst (v := 0) X.1 X.2.1 d_Md_keep_23 (by decide) ?_
      refine lv_istore (lv' := [(4, .int 0), (0, .ref (ad 18 0)), (1, .int a0), (2, .int a1), (3, .int a2)]) X.1 X.2.1 d_Md_keep_24 hl (by decide) rfl (fun ls hl => ?_)
      refine lv_iload X.1 X.2.1 d_Md_keep_26 (lv_at hl 0 rfl) ?_
      refine lv_if_lt (tgt := 110) X.1 X.2.1 d_Md_keep_28 (by decide) (fun h54 => absurd h54 (by decide)) (fun h54 => ?_)
      refine lv_aload_n X.1 X.2.1 d_Md_keep_31 rfl (lv_at hl 1 rfl) ?_
      refine r_gets (q := 0) X hM rfl hR.1 f_Md_37 rfl (hR.2 9 (by decide)) d_Md_keep_32 (fun g55 => ?_)
      refine lv_iload_n X.1 X.2.1 d_Md_keep_35 rfl (lv_at hl 2 rfl) ?_
      refine lv_dup2_11 X.1 X.2.1 d_Md_keep_36 rfl rfl ?_
      refine R_iald (k := 28) X hM (by decide) rfl g55 a_m_kept (fun _ => rfl) o29.1 o29.2 d_Md_keep_37 ?_
      refine lv_iconst (v := 1) X.1 X.2.1 d_Md_keep_38 (by decide) ?_
      refine lv_isub X.1 X.2.1 d_Md_keep_39 ?_
      refine R_iast (k := 28) X hM (by decide) rfl g55 a_m_kept (fun _ => rfl) o29.1 o29.2 d_Md_keep_40 (fun H locs hM => ?_)
      refine lv_iload X.1 X.2.1 d_Md_keep_41 (lv_at hl 0 rfl) ?_
      refine lv_istore (lv' := [(5, .int 0), (4, .int 0), (0, .ref (ad 18 0)), (1, .int a0), (2, .int a1), (3, .int a2)]) X.1 X.2.1 d_Md_keep_43 hl (by decide) rfl (fun ls hl => ?_)
      refine w_downW (fun ls => F0 m 45 ls []) (fun n H L ls => ∃ (r : rR) (v1 : Int32) (v2 : Int32) (v3 : Int32) (v4 : Int32) (v5 : Int32), mSt D dA base (rs M r) ad s.heap H L ∧ lv_has ls 6 [(1, .int v1), (2, .int v2), (3, .int v3), (4, .int v4), (5, .int v5), (0, .ref (ad 18 0))] ∧ m_keep_L45_ok n r v1 v2 v3 v4 v5 ∧ m_keep_L45 n r v1 v2 v3 v4 v5 = F) ?_ ?_ 5 _ _ ls ⟨(ru r 28 (a0.toNatClampNeg) ((r 28 (a0.toNatClampNeg)) - 1)), a0, a1, a2, 0, 0, hM, lv_sub hl [3, 4, 5, 1, 0, 2] rfl, hk, ((if_neg h2).trans ((if_pos h30))).symm.trans he⟩
      · rintro H locs ls ⟨r, v1, v2, v3, v4, v5, hM, hl, hk, he⟩
        exact hk.elim
      · rintro n ih H locs ls ⟨r, v1, v2, v3, v4, v5, hM, hl, hk, he⟩
        refine lv_iload X.1 X.2.1 d_Md_keep_45 (lv_at hl 4 rfl) ?_
        refine lv_aload_n X.1 X.2.1 d_Md_keep_47 rfl (lv_at hl 5 rfl) ?_
        refine r_gets (q := 0) X hM rfl hR.1 f_Md_37 rfl (hR.2 9 (by decide)) d_Md_keep_48 (fun g56 => ?_)
        refine lv_iload_n X.1 X.2.1 d_Md_keep_51 rfl (lv_at hl 0 rfl) ?_
        obtain ⟨o57, hk⟩ := hk
        refine R_iald (k := 28) X hM (by decide) rfl g56 a_m_kept (fun _ => rfl) o57.1 o57.2 d_Md_keep_52 ?_
        refine lv_icmp_ge (tgt := 110) X.1 X.2.1 d_Md_keep_53 (by decide) (fun h58 => ?_) (fun h58 => ?_)
        · skip
          have hk := hk.1 h58
          refine lv_aload_n X.1 X.2.1 d_Md_keep_110 rfl (lv_at hl 5 rfl) ?_
          refine r_gets (q := 0) X hM rfl hR.1 f_Md_40 rfl (hR.2 10 (by decide)) d_Md_keep_111 (fun g59 => ?_)
          refine lv_iconst (v := 4) X.1 X.2.1 d_Md_keep_114 (by decide) ?_
          refine lv_iload_n X.1 X.2.1 d_Md_keep_115 rfl (lv_at hl 0 rfl) ?_
          refine lv_imul X.1 X.2.1 d_Md_keep_116 ?_
          refine lv_aload_n X.1 X.2.1 d_Md_keep_117 rfl (lv_at hl 5 rfl) ?_
          refine r_gets (q := 0) X hM rfl hR.1 f_Md_37 rfl (hR.2 9 (by decide)) d_Md_keep_118 (fun g60 => ?_)
          refine lv_iload_n X.1 X.2.1 d_Md_keep_121 rfl (lv_at hl 0 rfl) ?_
          refine R_iald (k := 28) X hM (by decide) rfl g60 a_m_kept (fun _ => rfl) o57.1 o57.2 d_Md_keep_122 ?_
          refine lv_iadd X.1 X.2.1 d_Md_keep_123 ?_
          refine lv_iload_n X.1 X.2.1 d_Md_keep_124 rfl (lv_at hl 1 rfl) ?_
          have o61 := hk
          refine R_iast (k := 29) X hM (by decide) rfl g59 a_m_keptPath (fun _ => rfl) o61.1 o61.2 d_Md_keep_125 (fun H locs hM => ?_)
          refine lv_aload_n X.1 X.2.1 d_Md_keep_126 rfl (lv_at hl 5 rfl) ?_
          refine r_gets (q := 0) X hM rfl hR.1 f_Md_43 rfl (hR.2 11 (by decide)) d_Md_keep_127 (fun g62 => ?_)
          refine lv_iconst (v := 4) X.1 X.2.1 d_Md_keep_130 (by decide) ?_
          refine lv_iload_n X.1 X.2.1 d_Md_keep_131 rfl (lv_at hl 0 rfl) ?_
          refine lv_imul X.1 X.2.1 d_Md_keep_132 ?_
          refine lv_aload_n X.1 X.2.1 d_Md_keep_133 rfl (lv_at hl 5 rfl) ?_
          refine r_gets (q := 0) X hM rfl hR.1 f_Md_37 rfl (hR.2 9 (by decide)) d_Md_keep_134 (fun g63 => ?_)
          refine lv_iload_n X.1 X.2.1 d_Md_keep_137 rfl (lv_at hl 0 rfl) ?_
          refine R_iald (k := 28) X hM (by decide) rfl g63 a_m_kept (fun _ => rfl) o57.1 o57.2 d_Md_keep_138 ?_
          show W _ _ _ _ _ _ _ _ _ _ _ _ _ _ _ (F0 m 139 ls [.int (r 28 (v1.toNatClampNeg)), .int (4 * v1), .ref (ad 30 0)])
          refine lv_iadd X.1 X.2.1 d_Md_keep_139 ?_
          refine lv_iload_n X.1 X.2.1 d_Md_keep_140 rfl (lv_at hl 2 rfl) ?_
          refine R_iast (k := 30) X hM (by decide) rfl g62 a_m_keptValue (fun _ => rfl) o61.1 o61.2 d_Md_keep_141 (fun H locs hM => ?_)
          refine lv_aload_n X.1 X.2.1 d_Md_keep_142 rfl (lv_at hl 5 rfl) ?_
          refine r_gets (q := 0) X hM rfl hR.1 f_Md_37 rfl (hR.2 9 (by decide)) d_Md_keep_143 (fun g64 => ?_)
          refine lv_iload_n X.1 X.2.1 d_Md_keep_146 rfl (lv_at hl 0 rfl) ?_
          refine lv_dup2_11 X.1 X.2.1 d_Md_keep_147 rfl rfl ?_
          refine R_iald (k := 28) X hM (by decide) rfl g64 a_m_kept (fun _ => rfl) o57.1 o57.2 d_Md_keep_148 ?_
          show W _ _ _ _ _ _ _ _ _ _ _ _ _ _ _ (F0 m 149 ls [.int (r 28 (v1.toNatClampNeg)), .int v1, .ref (ad 28 0)])
          refine lv_iconst (v := 1) X.1 X.2.1 d_Md_keep_149 (by decide) ?_
          refine lv_iadd X.1 X.2.1 d_Md_keep_150 ?_
          refine R_iast (k := 28) X hM (by decide) rfl g64 a_m_kept (fun _ => rfl) o57.1 o57.2 d_Md_keep_151 (fun H locs hM => ?_)
          have heL : (ru (ru (ru r 29 (((4 * v1) + (r 28 (v1.toNatClampNeg))).toNatClampNeg) v2) 30 (((4 * v1) + (r 28 (v1.toNatClampNeg))).toNatClampNeg) v3) 28 (v1.toNatClampNeg) ((r 28 (v1.toNatClampNeg)) + 1)) = F := ((if_pos h58)).symm.trans he
          exact m_vret X hr hlk hM d_Md_keep_152 ⟨Nat.le_of_ble_eq_true rfl, Nat.le_of_ble_eq_true rfl⟩ ⟨fun _ _ _ => rfl, fun _ => Nat.le_refl _⟩ ⟨rfl, congrArg (rs M) heL, rfl⟩
        · skip
          have hk := hk.2 h58
          refine lv_aload_n X.1 X.2.1 d_Md_keep_56 rfl (lv_at hl 5 rfl) ?_
          refine r_gets (q := 0) X hM rfl hR.1 f_Md_40 rfl (hR.2 10 (by decide)) d_Md_keep_57 (fun g65 => ?_)
          refine lv_iconst (v := 4) X.1 X.2.1 d_Md_keep_60 (by decide) ?_
          refine lv_iload_n X.1 X.2.1 d_Md_keep_61 rfl (lv_at hl 0 rfl) ?_
          refine lv_imul X.1 X.2.1 d_Md_keep_62 ?_
          refine lv_iload X.1 X.2.1 d_Md_keep_63 (lv_at hl 4 rfl) ?_
          refine lv_iadd X.1 X.2.1 d_Md_keep_65 ?_
          refine lv_aload_n X.1 X.2.1 d_Md_keep_66 rfl (lv_at hl 5 rfl) ?_
          refine r_gets (q := 0) X hM rfl hR.1 f_Md_40 rfl (hR.2 10 (by decide)) d_Md_keep_67 (fun g66 => ?_)
          refine lv_iconst (v := 4) X.1 X.2.1 d_Md_keep_70 (by decide) ?_
          refine lv_iload_n X.1 X.2.1 d_Md_keep_71 rfl (lv_at hl 0 rfl) ?_
          refine lv_imul X.1 X.2.1 d_Md_keep_72 ?_
          refine lv_iload X.1 X.2.1 d_Md_keep_73 (lv_at hl 4 rfl) ?_
          refine lv_iadd X.1 X.2.1 d_Md_keep_75 ?_
          refine lv_iconst (v := 1) X.1 X.2.1 d_Md_keep_76 (by decide) ?_
          refine lv_iadd X.1 X.2.1 d_Md_keep_77 ?_
          obtain ⟨o67, hk⟩ := hk
          refine R_iald (k := 29) X hM (by decide) rfl g66 a_m_keptPath (fun _ => rfl) o67.1 o67.2 d_Md_keep_78 ?_
          obtain ⟨o68, hk⟩ := hk
          refine R_iast (k := 29) X hM (by decide) rfl g65 a_m_keptPath (fun _ => rfl) o68.1 o68.2 d_Md_keep_79 (fun H locs hM => ?_)
          refine lv_aload_n X.1 X.2.1 d_Md_keep_80 rfl (lv_at hl 5 rfl) ?_
          refine r_gets (q := 0) X hM rfl hR.1 f_Md_43 rfl (hR.2 11 (by decide)) d_Md_keep_81 (fun g69 => ?_)
          refine lv_iconst (v := 4) X.1 X.2.1 d_Md_keep_84 (by decide) ?_
          refine lv_iload_n X.1 X.2.1 d_Md_keep_85 rfl (lv_at hl 0 rfl) ?_
          refine lv_imul X.1 X.2.1 d_Md_keep_86 ?_
          refine lv_iload X.1 X.2.1 d_Md_keep_87 (lv_at hl 4 rfl) ?_
          refine lv_iadd X.1 X.2.1 d_Md_keep_89 ?_
          refine lv_aload_n X.1 X.2.1 d_Md_keep_90 rfl (lv_at hl 5 rfl) ?_
          refine r_gets (q := 0) X hM rfl hR.1 f_Md_43 rfl (hR.2 11 (by decide)) d_Md_keep_91 (fun g70 => ?_)
          refine lv_iconst (v := 4) X.1 X.2.1 d_Md_keep_94 (by decide) ?_
          refine lv_iload_n X.1 X.2.1 d_Md_keep_95 rfl (lv_at hl 0 rfl) ?_
          refine lv_imul X.1 X.2.1 d_Md_keep_96 ?_
          refine lv_iload X.1 X.2.1 d_Md_keep_97 (lv_at hl 4 rfl) ?_
          refine lv_iadd X.1 X.2.1 d_Md_keep_99 ?_
          refine lv_iconst (v := 1) X.1 X.2.1 d_Md_keep_100 (by decide) ?_
          refine lv_iadd X.1 X.2.1 d_Md_keep_101 ?_
          refine R_iald (k := 30) X hM (by decide) rfl g70 a_m_keptValue (fun _ => rfl) o67.1 o67.2 d_Md_keep_102 ?_
          show W _ _ _ _ _ _ _ _ _ _ _ _ _ _ _ (F0 m 103 ls [.int (r 30 ((((4 * v1) + v5) + 1).toNatClampNeg)), .int ((4 * v1) + v5), .ref (ad 30 0)])
          refine R_iast (k := 30) X hM (by decide) rfl g69 a_m_keptValue (fun _ => rfl) o68.1 o68.2 d_Md_keep_103 (fun H locs hM => ?_)
          refine lv_iinc (v := v5 + 1) (lv' := [(5, .int (v5 + 1)), (1, .int v1), (2, .int v2), (3, .int v3), (4, .int v4), (0, .ref (ad 18 0))]) X.1 X.2.1 d_Md_keep_104 hl (k := 4) rfl rfl (by decide) rfl (fun ls hl => ?_)
          refine lv_goto (tgt := 45) X.1 X.2.1 d_Md_keep_107 (by decide) ?_
          exact ih _ _ ls ⟨_, _, _, _, _, _, hM, lv_sub hl [1, 2, 3, 4, 0, 5] rfl, hk, ((if_neg h58)).symm.trans he⟩
def m_fetch (r : rR) (a0 : Int32) (a1 : Int32) : Int32 × rR := (if (m_isPath a1) = 0 then ((m_fail r 1).1, (m_fail r 1).2) else (if (m_in a0 0 7) = 0 then ((m_fail r 2).1, (m_fail r 2).2) else (if (r 38 (a0.toNatClampNeg)) = 0 then ((m_fail r 2).1, (m_fail r 2).2) else (if (r 41 (a0.toNatClampNeg)) = 0 then (if (r 18 35) = 0 then ((r 18 33) + a1, (ru r 18 34 0)) else ((m_fail (ru r 18 34 0) 3).1, (m_fail (ru r 18 34 0) 3).2)) else (if (r 27 ((r 41 (a0.toNatClampNeg)).toNatClampNeg)) = 3 then (r 25 ((r 41 (a0.toNatClampNeg)).toNatClampNeg), (ru r 18 34 0)) else (if (m_cached (ru r 18 34 0) (r 41 (a0.toNatClampNeg)) a1) < 0 then (if (r 18 35) = 0 then (if (r 27 ((r 41 (a0.toNatClampNeg)).toNatClampNeg)) ≤ 0 then ((r 18 33) + a1, (ru r 18 34 0)) else (((m_keep (ru r 18 34 0) (r 41 (a0.toNatClampNeg)) a1 ((r 18 33) + a1)) 18 33) + a1, (m_keep (ru r 18 34 0) (r 41 (a0.toNatClampNeg)) a1 ((r 18 33) + a1)))) else ((m_fail (ru r 18 34 0) 3).1, (m_fail (ru r 18 34 0) 3).2)) else (if (r 27 ((r 41 (a0.toNatClampNeg)).toNatClampNeg)) = 1 then (r 30 (((4 * (r 41 (a0.toNatClampNeg))) + (m_cached (ru r 18 34 0) (r 41 (a0.toNatClampNeg)) a1)).toNatClampNeg), (ru r 18 34 0)) else (if (r 27 ((r 41 (a0.toNatClampNeg)).toNatClampNeg)) = 2 then (if (r 18 35) = 0 then (if (r 27 ((r 41 (a0.toNatClampNeg)).toNatClampNeg)) ≤ 0 then ((r 18 33) + a1, (ru r 18 34 0)) else (((m_keep (ru r 18 34 0) (r 41 (a0.toNatClampNeg)) a1 ((r 18 33) + a1)) 18 33) + a1, (m_keep (ru r 18 34 0) (r 41 (a0.toNatClampNeg)) a1 ((r 18 33) + a1)))) else (r 30 (((4 * (r 41 (a0.toNatClampNeg))) + (m_cached (ru r 18 34 0) (r 41 (a0.toNatClampNeg)) a1)).toNatClampNeg), (ru r 18 34 0))) else (if (r 18 35) = 0 then (if (r 27 ((r 41 (a0.toNatClampNeg)).toNatClampNeg)) ≤ 0 then ((r 18 33) + a1, (ru r 18 34 0)) else (((m_keep (ru r 18 34 0) (r 41 (a0.toNatClampNeg)) a1 ((r 18 33) + a1)) 18 33) + a1, (m_keep (ru r 18 34 0) (r 41 (a0.toNatClampNeg)) a1 ((r 18 33) + a1)))) else ((m_fail (ru r 18 34 0) 3).1, (m_fail (ru r 18 34 0) 3).2))))))))))
def m_fetch_ok (r : rR) (a0 : Int32) (a1 : Int32) : Prop := (m_isPath_ok a1) ∧ ((((m_isPath a1) = 0) → (True)) ∧ (¬ ((m_isPath a1) = 0) → ((((m_in a0 0 7) = 0) → (True)) ∧ (¬ ((m_in a0 0 7) = 0) → ((ixk a0 8) ∧ ((((r 38 (a0.toNatClampNeg)) = 0) → (True)) ∧ (¬ ((r 38 (a0.toNatClampNeg)) = 0) → ((((r 41 (a0.toNatClampNeg)) = 0) → (True)) ∧ (¬ ((r 41 (a0.toNatClampNeg)) = 0) → ((ixk (r 41 (a0.toNatClampNeg)) 41) ∧ ((m_cached_ok (ru r 18 34 0) (r 41 (a0.toNatClampNeg)) a1) ∧ ((((r 27 ((r 41 (a0.toNatClampNeg)).toNatClampNeg)) = 3) → (True)) ∧ (¬ ((r 27 ((r 41 (a0.toNatClampNeg)).toNatClampNeg)) = 3) → ((((m_cached (ru r 18 34 0) (r 41 (a0.toNatClampNeg)) a1) < 0) → ((((r 18 35) = 0) → ((((r 27 ((r 41 (a0.toNatClampNeg)).toNatClampNeg)) ≤ 0) → (True)) ∧ (¬ ((r 27 ((r 41 (a0.toNatClampNeg)).toNatClampNeg)) ≤ 0) → (m_keep_ok (ru r 18 34 0) (r 41 (a0.toNatClampNeg)) a1 ((r 18 33) + a1))))) ∧ (¬ ((r 18 35) = 0) → (True)))) ∧ (¬ ((m_cached (ru r 18 34 0) (r 41 (a0.toNatClampNeg)) a1) < 0) → ((((r 27 ((r 41 (a0.toNatClampNeg)).toNatClampNeg)) = 1) → (ixk ((4 * (r 41 (a0.toNatClampNeg))) + (m_cached (ru r 18 34 0) (r 41 (a0.toNatClampNeg)) a1)) 164)) ∧ (¬ ((r 27 ((r 41 (a0.toNatClampNeg)).toNatClampNeg)) = 1) → ((((r 27 ((r 41 (a0.toNatClampNeg)).toNatClampNeg)) = 2) → ((((r 18 35) = 0) → ((((r 27 ((r 41 (a0.toNatClampNeg)).toNatClampNeg)) ≤ 0) → (True)) ∧ (¬ ((r 27 ((r 41 (a0.toNatClampNeg)).toNatClampNeg)) ≤ 0) → (m_keep_ok (ru r 18 34 0) (r 41 (a0.toNatClampNeg)) a1 ((r 18 33) + a1))))) ∧ (¬ ((r 18 35) = 0) → (ixk ((4 * (r 41 (a0.toNatClampNeg))) + (m_cached (ru r 18 34 0) (r 41 (a0.toNatClampNeg)) a1)) 164)))) ∧ (¬ ((r 27 ((r 41 (a0.toNatClampNeg)).toNatClampNeg)) = 2) → ((((r 18 35) = 0) → ((((r 27 ((r 41 (a0.toNatClampNeg)).toNatClampNeg)) ≤ 0) → (True)) ∧ (¬ ((r 27 ((r 41 (a0.toNatClampNeg)).toNatClampNeg)) ≤ 0) → (m_keep_ok (ru r 18 34 0) (r 41 (a0.toNatClampNeg)) a1 ((r 18 33) + a1))))) ∧ (¬ ((r 18 35) = 0) → (True))))))))))))))))))))))
set_option maxHeartbeats 4000000 in
set_option maxRecDepth 100000 in
theorem k_Md_fetch (l : Launch) (D : va_G) (dA : Nat → ClassId) (base : Nat) (M : mM) (ad : Nat → Nat → Nat) (hR : wR M) (r : rR) (a0 : Int32) (a1 : Int32) (hk : m_fetch_ok r a0 a1) : mMet l y_Md_fetch b_Md_fetch 6 (some FieldType.int) ({ frames := 2, cells := 0, slots := 0, locals := 48 } : Room) 0 0 D dA base (rs M r) ad [.ref (ad 18 0), .int a0, .int a1] (fun rv M' ad' => rv = some (.int (m_fetch r a0 a1).1) ∧ M' = rs M (m_fetch r a0 a1).2 ∧ ad' = ad) := by
  refine m_start (lvs := [(0, .ref (ad 18 0)), (1, .int a0), (2, .int a1)]) (by decide) (Nat.le_of_ble_eq_true rfl) rfl ?_
  intro p e s m below meth c ls X hr hlk hin hml hM hl
  generalize he : m_fetch r a0 a1 = F
  refine lv_iload_n X.1 X.2.1 d_Md_fetch_0 rfl (lv_at hl 2 rfl) ?_
  obtain ⟨o1, hk⟩ := hk
  refine r_cS (As := [.int a1]) (rest := []) X hml hl.1 hM (k_Md_isPath l D dA base (rs M r) ad a1 o1) c_Md_118 v_Md_isPath rfl (Nat.le_of_ble_eq_true rfl) ⟨rfl, rfl, Nat.le_of_ble_eq_true rfl, Nat.le_of_ble_eq_true rfl⟩ ⟨Nat.le_of_ble_eq_true rfl, Nat.le_of_ble_eq_true rfl⟩ d_Md_fetch_1 ?_
  intro rv M1 ad1 H locs hP hM hE
  obtain ⟨e1, e2, e3⟩ := hP
  subst rv; subst M1; subst ad1
  show W _ _ _ _ _ _ _ _ _ _ _ _ _ _ _ (F0 m 4 ls [.int (m_isPath a1)])
  refine lv_if_ne (tgt := 13) X.1 X.2.1 d_Md_fetch_4 (by decide) (fun h2 => ?_) (fun h2 => ?_)
  · skip
    have hk := hk.2 h2
    refine lv_iload_n X.1 X.2.1 d_Md_fetch_13 rfl (lv_at hl 1 rfl) ?_
    refine lv_iconst (v := 0) X.1 X.2.1 d_Md_fetch_14 (by decide) ?_
    refine lv_bipush (v := 7) X.1 X.2.1 d_Md_fetch_15 (by decide) ?_
    refine r_cS (As := [.int a0, .int 0, .int 7]) (rest := []) X hml hl.1 hM (k_Md_in l D dA base (rs M r) ad a0 0 7) c_Md_103 v_Md_in rfl (Nat.le_of_ble_eq_true rfl) ⟨rfl, rfl, Nat.le_of_ble_eq_true rfl, Nat.le_of_ble_eq_true rfl⟩ ⟨Nat.le_of_ble_eq_true rfl, Nat.le_of_ble_eq_true rfl⟩ d_Md_fetch_17 ?_
    intro rv M1 ad1 H locs hP hM hE
    obtain ⟨e1, e2, e3⟩ := hP
    subst rv; subst M1; subst ad1
    show W _ _ _ _ _ _ _ _ _ _ _ _ _ _ _ (F0 m 20 ls [.int (m_in a0 0 7)])
    refine lv_if_eq (tgt := 32) X.1 X.2.1 d_Md_fetch_20 (by decide) (fun h3 => ?_) (fun h3 => ?_)
    · skip
      have hk := hk.1 h3
      refine lv_aload_n X.1 X.2.1 d_Md_fetch_32 rfl (lv_at hl 0 rfl) ?_
      refine lv_iconst (v := 2) X.1 X.2.1 d_Md_fetch_33 (by decide) ?_
      refine r_cV (As := [.int 2]) (rest := []) X hml hl.1 hM (k_Md_fail l D dA base M ad hR r 2) c_Md_161 v_Md_fail kc_Md rfl hR.1 rfl (Nat.le_of_ble_eq_true rfl) ⟨rfl, rfl, Nat.le_of_ble_eq_true rfl, Nat.le_of_ble_eq_true rfl⟩ ⟨Nat.le_of_ble_eq_true rfl, Nat.le_of_ble_eq_true rfl⟩ d_Md_fetch_34 ?_
      intro rv M1 ad1 H locs hP hM hE
      obtain ⟨e1, e2, e3⟩ := hP
      subst rv; subst M1; subst ad1
      show W _ _ _ _ _ _ _ _ _ _ _ _ _ _ _ (F0 m 37 ls [.int ((m_fail r 2).1)])
      have heL : ((m_fail r 2).1, (m_fail r 2).2) = F := ((if_neg h2).trans ((if_pos h3))).symm.trans he
      exact m_iret X hr hlk hM d_Md_fetch_37 ⟨Nat.le_of_ble_eq_true rfl, Nat.le_of_ble_eq_true rfl⟩ ⟨fun _ _ _ => rfl, fun _ => Nat.le_refl _⟩ ⟨congrArg (fun z => some (Value.int z.1)) heL, congrArg (fun z => rs M z.2) heL, rfl⟩
    · skip
      have hk := hk.2 h3
      refine lv_aload_n X.1 X.2.1 d_Md_fetch_23 rfl (lv_at hl 0 rfl) ?_
      refine r_gets (q := 0) X hM rfl hR.1 f_Md_68 rfl (hR.2 19 (by decide)) d_Md_fetch_24 (fun g4 => ?_)
      refine lv_iload_n X.1 X.2.1 d_Md_fetch_27 rfl (lv_at hl 1 rfl) ?_
      obtain ⟨o5, hk⟩ := hk
      refine R_zald (k := 38) X hM (by decide) rfl g4 a_m_there (fun _ => rfl) o5.1 o5.2 d_Md_fetch_28 ?_
      refine lv_if_ne (tgt := 38) X.1 X.2.1 d_Md_fetch_29 (by decide) (fun h6 => ?_) (fun h6 => ?_)
      · skip
        have hk := hk.2 h6
        refine lv_aload_n X.1 X.2.1 d_Md_fetch_38 rfl (lv_at hl 0 rfl) ?_
        refine lv_iconst (v := 0) X.1 X.2.1 d_Md_fetch_39 (by decide) ?_
        refine R_puti (k := 18) X hM (by decide) rfl hR.1 p_Md_98 rfl rfl rfl d_Md_fetch_40 (fun H locs hM => ?_)
        refine lv_aload_n X.1 X.2.1 d_Md_fetch_43 rfl (lv_at hl 0 rfl) ?_
        refine r_gets (q := 0) X hM rfl hR.1 f_Md_77 rfl (hR.2 22 (by decide)) d_Md_fetch_44 (fun g7 => ?_)
        refine lv_iload_n X.1 X.2.1 d_Md_fetch_47 rfl (lv_at hl 1 rfl) ?_
        refine R_iald (k := 41) X hM (by decide) rfl g7 a_m_by (fun _ => rfl) o5.1 o5.2 d_Md_fetch_48 ?_
        show W _ _ _ _ _ _ _ _ _ _ _ _ _ _ _ (F0 m 49 ls [.int (r 41 (a0.toNatClampNeg))])
        refine lv_istore_n (lv' := [(3, .int (r 41 (a0.toNatClampNeg))), (0, .ref (ad 18 0)), (1, .int a0), (2, .int a1)]) X.1 X.2.1 d_Md_fetch_49 rfl hl (by decide) rfl (fun ls hl => ?_)
        refine lv_iload_n X.1 X.2.1 d_Md_fetch_50 rfl (lv_at hl 0 rfl) ?_
        refine lv_if_ne (tgt := 58) X.1 X.2.1 d_Md_fetch_51 (by decide) (fun h8 => ?_) (fun h8 => ?_)
        · skip
          have hk := hk.2 h8
          refine lv_aload_n X.1 X.2.1 d_Md_fetch_58 rfl (lv_at hl 1 rfl) ?_
          refine r_gets (q := 0) X hM rfl hR.1 f_Md_34 rfl (hR.2 8 (by decide)) d_Md_fetch_59 (fun g9 => ?_)
          refine lv_iload_n X.1 X.2.1 d_Md_fetch_62 rfl (lv_at hl 0 rfl) ?_
          obtain ⟨o10, hk⟩ := hk
          refine R_iald (k := 27) X hM (by decide) rfl g9 a_m_way (fun _ => rfl) o10.1 o10.2 d_Md_fetch_63 ?_
          show W _ _ _ _ _ _ _ _ _ _ _ _ _ _ _ (F0 m 64 ls [.int (r 27 ((r 41 (a0.toNatClampNeg)).toNatClampNeg))])
          refine lv_istore (lv' := [(4, .int (r 27 ((r 41 (a0.toNatClampNeg)).toNatClampNeg))), (3, .int (r 41 (a0.toNatClampNeg))), (0, .ref (ad 18 0)), (1, .int a0), (2, .int a1)]) X.1 X.2.1 d_Md_fetch_64 hl (by decide) rfl (fun ls hl => ?_)
          refine lv_iload_n X.1 X.2.1 d_Md_fetch_66 rfl (lv_at hl 1 rfl) ?_
          refine lv_if_ne (tgt := 74) X.1 X.2.1 d_Md_fetch_67 (by decide) (fun h11 => ?_) (fun h11 => absurd h11 h8)
          refine lv_aload_n X.1 X.2.1 d_Md_fetch_74 rfl (lv_at hl 2 rfl) ?_
          refine lv_iload_n X.1 X.2.1 d_Md_fetch_75 rfl (lv_at hl 1 rfl) ?_
          refine lv_iload_n X.1 X.2.1 d_Md_fetch_76 rfl (lv_at hl 4 rfl) ?_
          obtain ⟨o12, hk⟩ := hk
          refine r_cV (As := [.int (r 41 (a0.toNatClampNeg)), .int a1]) (rest := []) X hml hl.1 hM (k_Md_cached l D dA base M ad hR (ru r 18 34 0) (r 41 (a0.toNatClampNeg)) a1 o12) c_Md_200 v_Md_cached kc_Md rfl hR.1 rfl (Nat.le_of_ble_eq_true rfl) ⟨rfl, rfl, Nat.le_of_ble_eq_true rfl, Nat.le_of_ble_eq_true rfl⟩ ⟨Nat.le_of_ble_eq_true rfl, Nat.le_of_ble_eq_true rfl⟩ d_Md_fetch_77 ?_
          intro rv M1 ad1 H locs hP hM hE
          obtain ⟨e1, e2, e3⟩ := hP
          subst rv; subst M1; subst ad1
          show W _ _ _ _ _ _ _ _ _ _ _ _ _ _ _ (F0 m 80 ls [.int (m_cached (ru r 18 34 0) (r 41 (a0.toNatClampNeg)) a1)])
          refine lv_istore (lv' := [(5, .int (m_cached (ru r 18 34 0) (r 41 (a0.toNatClampNeg)) a1)), (4, .int (r 27 ((r 41 (a0.toNatClampNeg)).toNatClampNeg))), (3, .int (r 41 (a0.toNatClampNeg))), (0, .ref (ad 18 0)), (1, .int a0), (2, .int a1)]) X.1 X.2.1 d_Md_fetch_80 hl (by decide) rfl (fun ls hl => ?_)
          refine lv_iload X.1 X.2.1 d_Md_fetch_82 (lv_at hl 1 rfl) ?_
          refine lv_iconst (v := 3) X.1 X.2.1 d_Md_fetch_84 (by decide) ?_
          refine lv_icmp_ne (tgt := 95) X.1 X.2.1 d_Md_fetch_85 (by decide) (fun h13 => ?_) (fun h13 => ?_)
          · skip
            have hk := hk.2 h13
            refine lv_iload X.1 X.2.1 d_Md_fetch_95 (lv_at hl 0 rfl) ?_
            refine lv_if_lt (tgt := 131) X.1 X.2.1 d_Md_fetch_97 (by decide) (fun h14 => ?_) (fun h14 => ?_)
            · skip
              have hk := hk.1 h14
              refine lv_aload_n X.1 X.2.1 d_Md_fetch_131 rfl (lv_at hl 3 rfl) ?_
              refine R_geti (k := 18) X hM (by decide) rfl hR.1 f_Md_122 rfl d_Md_fetch_132 ?_
              show W _ _ _ _ _ _ _ _ _ _ _ _ _ _ _ (F0 m 135 ls [.int (r 18 35)])
              refine lv_if_eq (tgt := 144) X.1 X.2.1 d_Md_fetch_135 (by decide) (fun h15 => ?_) (fun h15 => ?_)
              · skip
                have hk := hk.1 h15
                refine lv_iload X.1 X.2.1 d_Md_fetch_144 (lv_at hl 1 rfl) ?_
                refine lv_if_le (tgt := 161) X.1 X.2.1 d_Md_fetch_146 (by decide) (fun h16 => ?_) (fun h16 => ?_)
                · skip
                  have hk := hk.1 h16
                  refine lv_aload_n X.1 X.2.1 d_Md_fetch_161 rfl (lv_at hl 3 rfl) ?_
                  refine R_geti (k := 18) X hM (by decide) rfl hR.1 f_Md_126 rfl d_Md_fetch_162 ?_
                  show W _ _ _ _ _ _ _ _ _ _ _ _ _ _ _ (F0 m 165 ls [.int (r 18 33)])
                  refine lv_iload_n X.1 X.2.1 d_Md_fetch_165 rfl (lv_at hl 5 rfl) ?_
                  refine lv_iadd X.1 X.2.1 d_Md_fetch_166 ?_
                  have heL : ((r 18 33) + a1, (ru r 18 34 0)) = F := ((if_neg h2).trans ((if_neg h3).trans ((if_neg h6).trans ((if_neg h8).trans ((if_neg h13).trans ((if_pos h14).trans ((if_pos h15).trans ((if_pos h16))))))))).symm.trans he
                  exact m_iret X hr hlk hM d_Md_fetch_167 ⟨Nat.le_of_ble_eq_true rfl, Nat.le_of_ble_eq_true rfl⟩ ⟨fun _ _ _ => rfl, fun _ => Nat.le_refl _⟩ ⟨congrArg (fun z => some (Value.int z.1)) heL, congrArg (fun z => rs M z.2) heL, rfl⟩
                · skip
                  have hk := hk.2 h16
                  refine lv_aload_n X.1 X.2.1 d_Md_fetch_149 rfl (lv_at hl 3 rfl) ?_
                  refine lv_iload_n X.1 X.2.1 d_Md_fetch_150 rfl (lv_at hl 2 rfl) ?_
                  refine lv_iload_n X.1 X.2.1 d_Md_fetch_151 rfl (lv_at hl 5 rfl) ?_
                  refine lv_aload_n X.1 X.2.1 d_Md_fetch_152 rfl (lv_at hl 3 rfl) ?_
                  refine R_geti (k := 18) X hM (by decide) rfl hR.1 f_Md_126 rfl d_Md_fetch_153 ?_
                  show W _ _ _ _ _ _ _ _ _ _ _ _ _ _ _ (F0 m 156 ls [.int (r 18 33), .int a1, .int (r 41 (a0.toNatClampNeg)), .ref (ad 18 0)])
                  refine lv_iload_n X.1 X.2.1 d_Md_fetch_156 rfl (lv_at hl 5 rfl) ?_
                  refine lv_iadd X.1 X.2.1 d_Md_fetch_157 ?_
                  have o17 := hk
                  refine r_cV (As := [.int (r 41 (a0.toNatClampNeg)), .int a1, .int ((r 18 33) + a1)]) (rest := []) X hml hl.1 hM (k_Md_keep l D dA base M ad hR (ru r 18 34 0) (r 41 (a0.toNatClampNeg)) a1 ((r 18 33) + a1) o17) c_Md_204 v_Md_keep kc_Md rfl hR.1 rfl (Nat.le_of_ble_eq_true rfl) ⟨rfl, rfl, Nat.le_of_ble_eq_true rfl, Nat.le_of_ble_eq_true rfl⟩ ⟨Nat.le_of_ble_eq_true rfl, Nat.le_of_ble_eq_true rfl⟩ d_Md_fetch_158 ?_
                  intro rv M1 ad1 H locs hP hM hE
                  obtain ⟨e1, e2, e3⟩ := hP
                  subst rv; subst M1; subst ad1
                  show W _ _ _ _ _ _ _ _ _ _ _ _ _ _ _ (F0 m 161 ls [])
                  refine lv_aload_n X.1 X.2.1 d_Md_fetch_161 rfl (lv_at hl 3 rfl) ?_
                  refine R_geti (k := 18) X hM (by decide) rfl hR.1 f_Md_126 rfl d_Md_fetch_162 ?_
                  refine lv_iload_n X.1 X.2.1 d_Md_fetch_165 rfl (lv_at hl 5 rfl) ?_
                  refine lv_iadd X.1 X.2.1 d_Md_fetch_166 ?_
                  have heL : (((m_keep (ru r 18 34 0) (r 41 (a0.toNatClampNeg)) a1 ((r 18 33) + a1)) 18 33) + a1, (m_keep (ru r 18 34 0) (r 41 (a0.toNatClampNeg)) a1 ((r 18 33) + a1))) = F := ((if_neg h2).trans ((if_neg h3).trans ((if_neg h6).trans ((if_neg h8).trans ((if_neg h13).trans ((if_pos h14).trans ((if_pos h15).trans ((if_neg h16))))))))).symm.trans he
                  exact m_iret X hr hlk hM d_Md_fetch_167 ⟨Nat.le_of_ble_eq_true rfl, Nat.le_of_ble_eq_true rfl⟩ ⟨fun _ _ _ => rfl, fun _ => Nat.le_refl _⟩ ⟨congrArg (fun z => some (Value.int z.1)) heL, congrArg (fun z => rs M z.2) heL, rfl⟩
              · skip
                have hk := hk.2 h15
                refine lv_aload_n X.1 X.2.1 d_Md_fetch_138 rfl (lv_at hl 3 rfl) ?_
                refine lv_iconst (v := 3) X.1 X.2.1 d_Md_fetch_139 (by decide) ?_
                refine r_cV (As := [.int 3]) (rest := []) X hml hl.1 hM (k_Md_fail l D dA base M ad hR (ru r 18 34 0) 3) c_Md_161 v_Md_fail kc_Md rfl hR.1 rfl (Nat.le_of_ble_eq_true rfl) ⟨rfl, rfl, Nat.le_of_ble_eq_true rfl, Nat.le_of_ble_eq_true rfl⟩ ⟨Nat.le_of_ble_eq_true rfl, Nat.le_of_ble_eq_true rfl⟩ d_Md_fetch_140 ?_
                intro rv M1 ad1 H locs hP hM hE
                obtain ⟨e1, e2, e3⟩ := hP
                subst rv; subst M1; subst ad1
                show W _ _ _ _ _ _ _ _ _ _ _ _ _ _ _ (F0 m 143 ls [.int ((m_fail (ru r 18 34 0) 3).1)])
                have heL : ((m_fail (ru r 18 34 0) 3).1, (m_fail (ru r 18 34 0) 3).2) = F := ((if_neg h2).trans ((if_neg h3).trans ((if_neg h6).trans ((if_neg h8).trans ((if_neg h13).trans ((if_pos h14).trans ((if_neg h15)))))))).symm.trans he
                exact m_iret X hr hlk hM d_Md_fetch_143 ⟨Nat.le_of_ble_eq_true rfl, Nat.le_of_ble_eq_true rfl⟩ ⟨fun _ _ _ => rfl, fun _ => Nat.le_refl _⟩ ⟨congrArg (fun z => some (Value.int z.1)) heL, congrArg (fun z => rs M z.2) heL, rfl⟩
            · skip
              have hk := hk.2 h14
              refine lv_iload X.1 X.2.1 d_Md_fetch_100 (lv_at hl 1 rfl) ?_
              refine lv_iconst (v := 1) X.1 X.2.1 d_Md_fetch_102 (by decide) ?_
              refine lv_icmp_eq (tgt := 119) X.1 X.2.1 d_Md_fetch_103 (by decide) (fun h18 => ?_) (fun h18 => ?_)
              · skip
                have hk := hk.1 h18
                refine lv_aload_n X.1 X.2.1 d_Md_fetch_119 rfl (lv_at hl 3 rfl) ?_
                refine r_gets (q := 0) X hM rfl hR.1 f_Md_43 rfl (hR.2 11 (by decide)) d_Md_fetch_120 (fun g19 => ?_)
                refine lv_iconst (v := 4) X.1 X.2.1 d_Md_fetch_123 (by decide) ?_
                refine lv_iload_n X.1 X.2.1 d_Md_fetch_124 rfl (lv_at hl 2 rfl) ?_
                refine lv_imul X.1 X.2.1 d_Md_fetch_125 ?_
                refine lv_iload X.1 X.2.1 d_Md_fetch_126 (lv_at hl 0 rfl) ?_
                refine lv_iadd X.1 X.2.1 d_Md_fetch_128 ?_
                have o20 := hk
                refine R_iald (k := 30) X hM (by decide) rfl g19 a_m_keptValue (fun _ => rfl) o20.1 o20.2 d_Md_fetch_129 ?_
                show W _ _ _ _ _ _ _ _ _ _ _ _ _ _ _ (F0 m 130 ls [.int (r 30 (((4 * (r 41 (a0.toNatClampNeg))) + (m_cached (ru r 18 34 0) (r 41 (a0.toNatClampNeg)) a1)).toNatClampNeg))])
                have heL : (r 30 (((4 * (r 41 (a0.toNatClampNeg))) + (m_cached (ru r 18 34 0) (r 41 (a0.toNatClampNeg)) a1)).toNatClampNeg), (ru r 18 34 0)) = F := ((if_neg h2).trans ((if_neg h3).trans ((if_neg h6).trans ((if_neg h8).trans ((if_neg h13).trans ((if_neg h14).trans ((if_pos h18)))))))).symm.trans he
                exact m_iret X hr hlk hM d_Md_fetch_130 ⟨Nat.le_of_ble_eq_true rfl, Nat.le_of_ble_eq_true rfl⟩ ⟨fun _ _ _ => rfl, fun _ => Nat.le_refl _⟩ ⟨congrArg (fun z => some (Value.int z.1)) heL, congrArg (fun z => rs M z.2) heL, rfl⟩
              · skip
                have hk := hk.2 h18
                refine lv_iload X.1 X.2.1 d_Md_fetch_106 (lv_at hl 1 rfl) ?_
                refine lv_iconst (v := 2) X.1 X.2.1 d_Md_fetch_108 (by decide) ?_
                refine lv_icmp_ne (tgt := 131) X.1 X.2.1 d_Md_fetch_109 (by decide) (fun h21 => ?_) (fun h21 => ?_)
                · skip
                  have hk := hk.2 h21
                  refine lv_aload_n X.1 X.2.1 d_Md_fetch_131 rfl (lv_at hl 3 rfl) ?_
                  refine R_geti (k := 18) X hM (by decide) rfl hR.1 f_Md_122 rfl d_Md_fetch_132 ?_
                  show W _ _ _ _ _ _ _ _ _ _ _ _ _ _ _ (F0 m 135 ls [.int (r 18 35)])
                  refine lv_if_eq (tgt := 144) X.1 X.2.1 d_Md_fetch_135 (by decide) (fun h22 => ?_) (fun h22 => ?_)
                  · skip
                    have hk := hk.1 h22
                    refine lv_iload X.1 X.2.1 d_Md_fetch_144 (lv_at hl 1 rfl) ?_
                    refine lv_if_le (tgt := 161) X.1 X.2.1 d_Md_fetch_146 (by decide) (fun h23 => ?_) (fun h23 => ?_)
                    · skip
                      have hk := hk.1 h23
                      refine lv_aload_n X.1 X.2.1 d_Md_fetch_161 rfl (lv_at hl 3 rfl) ?_
                      refine R_geti (k := 18) X hM (by decide) rfl hR.1 f_Md_126 rfl d_Md_fetch_162 ?_
                      show W _ _ _ _ _ _ _ _ _ _ _ _ _ _ _ (F0 m 165 ls [.int (r 18 33)])
                      refine lv_iload_n X.1 X.2.1 d_Md_fetch_165 rfl (lv_at hl 5 rfl) ?_
                      refine lv_iadd X.1 X.2.1 d_Md_fetch_166 ?_
                      have heL : ((r 18 33) + a1, (ru r 18 34 0)) = F := ((if_neg h2).trans ((if_neg h3).trans ((if_neg h6).trans ((if_neg h8).trans ((if_neg h13).trans ((if_neg h14).trans ((if_neg h18).trans ((if_neg h21).trans ((if_pos h22).trans ((if_pos h23))))))))))).symm.trans he
                      exact m_iret X hr hlk hM d_Md_fetch_167 ⟨Nat.le_of_ble_eq_true rfl, Nat.le_of_ble_eq_true rfl⟩ ⟨fun _ _ _ => rfl, fun _ => Nat.le_refl _⟩ ⟨congrArg (fun z => some (Value.int z.1)) heL, congrArg (fun z => rs M z.2) heL, rfl⟩
                    · skip
                      have hk := hk.2 h23
                      refine lv_aload_n X.1 X.2.1 d_Md_fetch_149 rfl (lv_at hl 3 rfl) ?_
                      refine lv_iload_n X.1 X.2.1 d_Md_fetch_150 rfl (lv_at hl 2 rfl) ?_
                      refine lv_iload_n X.1 X.2.1 d_Md_fetch_151 rfl (lv_at hl 5 rfl) ?_
                      refine lv_aload_n X.1 X.2.1 d_Md_fetch_152 rfl (lv_at hl 3 rfl) ?_
                      refine R_geti (k := 18) X hM (by decide) rfl hR.1 f_Md_126 rfl d_Md_fetch_153 ?_
                      show W _ _ _ _ _ _ _ _ _ _ _ _ _ _ _ (F0 m 156 ls [.int (r 18 33), .int a1, .int (r 41 (a0.toNatClampNeg)), .ref (ad 18 0)])
                      refine lv_iload_n X.1 X.2.1 d_Md_fetch_156 rfl (lv_at hl 5 rfl) ?_
                      refine lv_iadd X.1 X.2.1 d_Md_fetch_157 ?_
                      have o24 := hk
                      refine r_cV (As := [.int (r 41 (a0.toNatClampNeg)), .int a1, .int ((r 18 33) + a1)]) (rest := []) X hml hl.1 hM (k_Md_keep l D dA base M ad hR (ru r 18 34 0) (r 41 (a0.toNatClampNeg)) a1 ((r 18 33) + a1) o24) c_Md_204 v_Md_keep kc_Md rfl hR.1 rfl (Nat.le_of_ble_eq_true rfl) ⟨rfl, rfl, Nat.le_of_ble_eq_true rfl, Nat.le_of_ble_eq_true rfl⟩ ⟨Nat.le_of_ble_eq_true rfl, Nat.le_of_ble_eq_true rfl⟩ d_Md_fetch_158 ?_
                      intro rv M1 ad1 H locs hP hM hE
                      obtain ⟨e1, e2, e3⟩ := hP
                      subst rv; subst M1; subst ad1
                      show W _ _ _ _ _ _ _ _ _ _ _ _ _ _ _ (F0 m 161 ls [])
                      refine lv_aload_n X.1 X.2.1 d_Md_fetch_161 rfl (lv_at hl 3 rfl) ?_
                      refine R_geti (k := 18) X hM (by decide) rfl hR.1 f_Md_126 rfl d_Md_fetch_162 ?_
                      refine lv_iload_n X.1 X.2.1 d_Md_fetch_165 rfl (lv_at hl 5 rfl) ?_
                      refine lv_iadd X.1 X.2.1 d_Md_fetch_166 ?_
                      have heL : (((m_keep (ru r 18 34 0) (r 41 (a0.toNatClampNeg)) a1 ((r 18 33) + a1)) 18 33) + a1, (m_keep (ru r 18 34 0) (r 41 (a0.toNatClampNeg)) a1 ((r 18 33) + a1))) = F := ((if_neg h2).trans ((if_neg h3).trans ((if_neg h6).trans ((if_neg h8).trans ((if_neg h13).trans ((if_neg h14).trans ((if_neg h18).trans ((if_neg h21).trans ((if_pos h22).trans ((if_neg h23))))))))))).symm.trans he
                      exact m_iret X hr hlk hM d_Md_fetch_167 ⟨Nat.le_of_ble_eq_true rfl, Nat.le_of_ble_eq_true rfl⟩ ⟨fun _ _ _ => rfl, fun _ => Nat.le_refl _⟩ ⟨congrArg (fun z => some (Value.int z.1)) heL, congrArg (fun z => rs M z.2) heL, rfl⟩
                  · skip
                    have hk := hk.2 h22
                    refine lv_aload_n X.1 X.2.1 d_Md_fetch_138 rfl (lv_at hl 3 rfl) ?_
                    refine lv_iconst (v := 3) X.1 X.2.1 d_Md_fetch_139 (by decide) ?_
                    refine r_cV (As := [.int 3]) (rest := []) X hml hl.1 hM (k_Md_fail l D dA base M ad hR (ru r 18 34 0) 3) c_Md_161 v_Md_fail kc_Md rfl hR.1 rfl (Nat.le_of_ble_eq_true rfl) ⟨rfl, rfl, Nat.le_of_ble_eq_true rfl, Nat.le_of_ble_eq_true rfl⟩ ⟨Nat.le_of_ble_eq_true rfl, Nat.le_of_ble_eq_true rfl⟩ d_Md_fetch_140 ?_
                    intro rv M1 ad1 H locs hP hM hE
                    obtain ⟨e1, e2, e3⟩ := hP
                    subst rv; subst M1; subst ad1
                    show W _ _ _ _ _ _ _ _ _ _ _ _ _ _ _ (F0 m 143 ls [.int ((m_fail (ru r 18 34 0) 3).1)])
                    have heL : ((m_fail (ru r 18 34 0) 3).1, (m_fail (ru r 18 34 0) 3).2) = F := ((if_neg h2).trans ((if_neg h3).trans ((if_neg h6).trans ((if_neg h8).trans ((if_neg h13).trans ((if_neg h14).trans ((if_neg h18).trans ((if_neg h21).trans ((if_neg h22)))))))))).symm.trans he
                    exact m_iret X hr hlk hM d_Md_fetch_143 ⟨Nat.le_of_ble_eq_true rfl, Nat.le_of_ble_eq_true rfl⟩ ⟨fun _ _ _ => rfl, fun _ => Nat.le_refl _⟩ ⟨congrArg (fun z => some (Value.int z.1)) heL, congrArg (fun z => rs M z.2) heL, rfl⟩
                · skip
                  have hk := hk.1 h21
                  refine lv_aload_n X.1 X.2.1 d_Md_fetch_112 rfl (lv_at hl 3 rfl) ?_
                  refine R_geti (k := 18) X hM (by decide) rfl hR.1 f_Md_122 rfl d_Md_fetch_113 ?_
                  show W _ _ _ _ _ _ _ _ _ _ _ _ _ _ _ (F0 m 116 ls [.int (r 18 35)])
                  refine lv_if_eq (tgt := 131) X.1 X.2.1 d_Md_fetch_116 (by decide) (fun h25 => ?_) (fun h25 => ?_)
                  · skip
                    have hk := hk.1 h25
                    refine lv_aload_n X.1 X.2.1 d_Md_fetch_131 rfl (lv_at hl 3 rfl) ?_
                    refine R_geti (k := 18) X hM (by decide) rfl hR.1 f_Md_122 rfl d_Md_fetch_132 ?_
                    show W _ _ _ _ _ _ _ _ _ _ _ _ _ _ _ (F0 m 135 ls [.int (r 18 35)])
                    refine lv_if_eq (tgt := 144) X.1 X.2.1 d_Md_fetch_135 (by decide) (fun h26 => ?_) (fun h26 => absurd h25 h26)
                    refine lv_iload X.1 X.2.1 d_Md_fetch_144 (lv_at hl 1 rfl) ?_
                    refine lv_if_le (tgt := 161) X.1 X.2.1 d_Md_fetch_146 (by decide) (fun h27 => ?_) (fun h27 => ?_)
                    · skip
                      have hk := hk.1 h27
                      refine lv_aload_n X.1 X.2.1 d_Md_fetch_161 rfl (lv_at hl 3 rfl) ?_
                      refine R_geti (k := 18) X hM (by decide) rfl hR.1 f_Md_126 rfl d_Md_fetch_162 ?_
                      show W _ _ _ _ _ _ _ _ _ _ _ _ _ _ _ (F0 m 165 ls [.int (r 18 33)])
                      refine lv_iload_n X.1 X.2.1 d_Md_fetch_165 rfl (lv_at hl 5 rfl) ?_
                      refine lv_iadd X.1 X.2.1 d_Md_fetch_166 ?_
                      have heL : ((r 18 33) + a1, (ru r 18 34 0)) = F := ((if_neg h2).trans ((if_neg h3).trans ((if_neg h6).trans ((if_neg h8).trans ((if_neg h13).trans ((if_neg h14).trans ((if_neg h18).trans ((if_pos h21).trans ((if_pos h25).trans ((if_pos h27))))))))))).symm.trans he
                      exact m_iret X hr hlk hM d_Md_fetch_167 ⟨Nat.le_of_ble_eq_true rfl, Nat.le_of_ble_eq_true rfl⟩ ⟨fun _ _ _ => rfl, fun _ => Nat.le_refl _⟩ ⟨congrArg (fun z => some (Value.int z.1)) heL, congrArg (fun z => rs M z.2) heL, rfl⟩
                    · skip
                      have hk := hk.2 h27
                      refine lv_aload_n X.1 X.2.1 d_Md_fetch_149 rfl (lv_at hl 3 rfl) ?_
                      refine lv_iload_n X.1 X.2.1 d_Md_fetch_150 rfl (lv_at hl 2 rfl) ?_
                      refine lv_iload_n X.1 X.2.1 d_Md_fetch_151 rfl (lv_at hl 5 rfl) ?_
                      refine lv_aload_n X.1 X.2.1 d_Md_fetch_152 rfl (lv_at hl 3 rfl) ?_
                      refine R_geti (k := 18) X hM (by decide) rfl hR.1 f_Md_126 rfl d_Md_fetch_153 ?_
                      show W _ _ _ _ _ _ _ _ _ _ _ _ _ _ _ (F0 m 156 ls [.int (r 18 33), .int a1, .int (r 41 (a0.toNatClampNeg)), .ref (ad 18 0)])
                      refine lv_iload_n X.1 X.2.1 d_Md_fetch_156 rfl (lv_at hl 5 rfl) ?_
                      refine lv_iadd X.1 X.2.1 d_Md_fetch_157 ?_
                      have o28 := hk
                      refine r_cV (As := [.int (r 41 (a0.toNatClampNeg)), .int a1, .int ((r 18 33) + a1)]) (rest := []) X hml hl.1 hM (k_Md_keep l D dA base M ad hR (ru r 18 34 0) (r 41 (a0.toNatClampNeg)) a1 ((r 18 33) + a1) o28) c_Md_204 v_Md_keep kc_Md rfl hR.1 rfl (Nat.le_of_ble_eq_true rfl) ⟨rfl, rfl, Nat.le_of_ble_eq_true rfl, Nat.le_of_ble_eq_true rfl⟩ ⟨Nat.le_of_ble_eq_true rfl, Nat.le_of_ble_eq_true rfl⟩ d_Md_fetch_158 ?_
                      intro rv M1 ad1 H locs hP hM hE
                      obtain ⟨e1, e2, e3⟩ := hP
                      subst rv; subst M1; subst ad1
                      show W _ _ _ _ _ _ _ _ _ _ _ _ _ _ _ (F0 m 161 ls [])
                      refine lv_aload_n X.1 X.2.1 d_Md_fetch_161 rfl (lv_at hl 3 rfl) ?_
                      refine R_geti (k := 18) X hM (by decide) rfl hR.1 f_Md_126 rfl d_Md_fetch_162 ?_
                      refine lv_iload_n X.1 X.2.1 d_Md_fetch_165 rfl (lv_at hl 5 rfl) ?_
                      refine lv_iadd X.1 X.2.1 d_Md_fetch_166 ?_
                      have heL : (((m_keep (ru r 18 34 0) (r 41 (a0.toNatClampNeg)) a1 ((r 18 33) + a1)) 18 33) + a1, (m_keep (ru r 18 34 0) (r 41 (a0.toNatClampNeg)) a1 ((r 18 33) + a1))) = F := ((if_neg h2).trans ((if_neg h3).trans ((if_neg h6).trans ((if_neg h8).trans ((if_neg h13).trans ((if_neg h14).trans ((if_neg h18).trans ((if_pos h21).trans ((if_pos h25).trans ((if_neg h27))))))))))).symm.trans he
                      exact m_iret X hr hlk hM d_Md_fetch_167 ⟨Nat.le_of_ble_eq_true rfl, Nat.le_of_ble_eq_true rfl⟩ ⟨fun _ _ _ => rfl, fun _ => Nat.le_refl _⟩ ⟨congrArg (fun z => some (Value.int z.1)) heL, congrArg (fun z => rs M z.2) heL, rfl⟩
                  · skip
                    have hk := hk.2 h25
                    refine lv_aload_n X.1 X.2.1 d_Md_fetch_119 rfl (lv_at hl 3 rfl) ?_
                    refine r_gets (q := 0) X hM rfl hR.1 f_Md_43 rfl (hR.2 11 (by decide)) d_Md_fetch_120 (fun g29 => ?_)
                    refine lv_iconst (v := 4) X.1 X.2.1 d_Md_fetch_123 (by decide) ?_
                    refine lv_iload_n X.1 X.2.1 d_Md_fetch_124 rfl (lv_at hl 2 rfl) ?_
                    refine lv_imul X.1 X.2.1 d_Md_fetch_125 ?_
                    refine lv_iload X.1 X.2.1 d_Md_fetch_126 (lv_at hl 0 rfl) ?_
                    refine lv_iadd X.1 X.2.1 d_Md_fetch_128 ?_
                    have o30 := hk
                    refine R_iald (k := 30) X hM (by decide) rfl g29 a_m_keptValue (fun _ => rfl) o30.1 o30.2 d_Md_fetch_129 ?_
                    show W _ _ _ _ _ _ _ _ _ _ _ _ _ _ _ (F0 m 130 ls [.int (r 30 (((4 * (r 41 (a0.toNatClampNeg))) + (m_cached (ru r 18 34 0) (r 41 (a0.toNatClampNeg)) a1)).toNatClampNeg))])
                    have heL : (r 30 (((4 * (r 41 (a0.toNatClampNeg))) + (m_cached (ru r 18 34 0) (r 41 (a0.toNatClampNeg)) a1)).toNatClampNeg), (ru r 18 34 0)) = F := ((if_neg h2).trans ((if_neg h3).trans ((if_neg h6).trans ((if_neg h8).trans ((if_neg h13).trans ((if_neg h14).trans ((if_neg h18).trans ((if_pos h21).trans ((if_neg h25)))))))))).symm.trans he
                    exact m_iret X hr hlk hM d_Md_fetch_130 ⟨Nat.le_of_ble_eq_true rfl, Nat.le_of_ble_eq_true rfl⟩ ⟨fun _ _ _ => rfl, fun _ => Nat.le_refl _⟩ ⟨congrArg (fun z => some (Value.int z.1)) heL, congrArg (fun z => rs M z.2) heL, rfl⟩
          · skip
            have hk := hk.1 h13
            refine lv_aload_n X.1 X.2.1 d_Md_fetch_88 rfl (lv_at hl 3 rfl) ?_
            refine r_gets (q := 0) X hM rfl hR.1 f_Md_28 rfl (hR.2 6 (by decide)) d_Md_fetch_89 (fun g31 => ?_)
            refine lv_iload_n X.1 X.2.1 d_Md_fetch_92 rfl (lv_at hl 2 rfl) ?_
            refine R_iald (k := 25) X hM (by decide) rfl g31 a_m_told (fun _ => rfl) o10.1 o10.2 d_Md_fetch_93 ?_
            show W _ _ _ _ _ _ _ _ _ _ _ _ _ _ _ (F0 m 94 ls [.int (r 25 ((r 41 (a0.toNatClampNeg)).toNatClampNeg))])
            have heL : (r 25 ((r 41 (a0.toNatClampNeg)).toNatClampNeg), (ru r 18 34 0)) = F := ((if_neg h2).trans ((if_neg h3).trans ((if_neg h6).trans ((if_neg h8).trans ((if_pos h13)))))).symm.trans he
            exact m_iret X hr hlk hM d_Md_fetch_94 ⟨Nat.le_of_ble_eq_true rfl, Nat.le_of_ble_eq_true rfl⟩ ⟨fun _ _ _ => rfl, fun _ => Nat.le_refl _⟩ ⟨congrArg (fun z => some (Value.int z.1)) heL, congrArg (fun z => rs M z.2) heL, rfl⟩
        · skip
          have hk := hk.1 h8
          refine lv_iconst (v := 0) X.1 X.2.1 d_Md_fetch_54 (by decide) ?_
          refine lv_goto (tgt := 64) X.1 X.2.1 d_Md_fetch_55 (by decide) ?_
          refine lv_istore (lv' := [(4, .int 0), (3, .int (r 41 (a0.toNatClampNeg))), (0, .ref (ad 18 0)), (1, .int a0), (2, .int a1)]) X.1 X.2.1 d_Md_fetch_64 hl (by decide) rfl (fun ls hl => ?_)
          refine lv_iload_n X.1 X.2.1 d_Md_fetch_66 rfl (lv_at hl 1 rfl) ?_
          refine lv_if_ne (tgt := 74) X.1 X.2.1 d_Md_fetch_67 (by decide) (fun h32 => absurd h8 h32) (fun h32 => ?_)
          refine lv_iconst (v := (-1)) X.1 X.2.1 d_Md_fetch_70 (by decide) ?_
          refine lv_goto (tgt := 80) X.1 X.2.1 d_Md_fetch_71 (by decide) ?_
          refine lv_istore (lv' := [(5, .int (-1)), (4, .int 0), (3, .int (r 41 (a0.toNatClampNeg))), (0, .ref (ad 18 0)), (1, .int a0), (2, .int a1)]) X.1 X.2.1 d_Md_fetch_80 hl (by decide) rfl (fun ls hl => ?_)
          refine lv_iload X.1 X.2.1 d_Md_fetch_82 (lv_at hl 1 rfl) ?_
          refine lv_iconst (v := 3) X.1 X.2.1 d_Md_fetch_84 (by decide) ?_
          refine lv_icmp_ne (tgt := 95) X.1 X.2.1 d_Md_fetch_85 (by decide) (fun h33 => ?_) (fun h33 => absurd h33 (by decide))
          refine lv_iload X.1 X.2.1 d_Md_fetch_95 (lv_at hl 0 rfl) ?_
          refine lv_if_lt (tgt := 131) X.1 X.2.1 d_Md_fetch_97 (by decide) (fun h34 => ?_) (fun h34 => absurd (by decide) h34)
          refine lv_aload_n X.1 X.2.1 d_Md_fetch_131 rfl (lv_at hl 3 rfl) ?_
          refine R_geti (k := 18) X hM (by decide) rfl hR.1 f_Md_122 rfl d_Md_fetch_132 ?_
          show W _ _ _ _ _ _ _ _ _ _ _ _ _ _ _ (F0 m 135 ls [.int (r 18 35)])
          refine lv_if_eq (tgt := 144) X.1 X.2.1 d_Md_fetch_135 (by decide) (fun h35 => ?_) (fun h35 => ?_)
          · skip
            skip
            refine lv_iload X.1 X.2.1 d_Md_fetch_144 (lv_at hl 1 rfl) ?_
            refine lv_if_le (tgt := 161) X.1 X.2.1 d_Md_fetch_146 (by decide) (fun h36 => ?_) (fun h36 => absurd (by decide) h36)
            refine lv_aload_n X.1 X.2.1 d_Md_fetch_161 rfl (lv_at hl 3 rfl) ?_
            refine R_geti (k := 18) X hM (by decide) rfl hR.1 f_Md_126 rfl d_Md_fetch_162 ?_
            show W _ _ _ _ _ _ _ _ _ _ _ _ _ _ _ (F0 m 165 ls [.int (r 18 33)])
            refine lv_iload_n X.1 X.2.1 d_Md_fetch_165 rfl (lv_at hl 5 rfl) ?_
            refine lv_iadd X.1 X.2.1 d_Md_fetch_166 ?_
            have heL : ((r 18 33) + a1, (ru r 18 34 0)) = F := ((if_neg h2).trans ((if_neg h3).trans ((if_neg h6).trans ((if_pos h8).trans ((if_pos h35)))))).symm.trans he
            exact m_iret X hr hlk hM d_Md_fetch_167 ⟨Nat.le_of_ble_eq_true rfl, Nat.le_of_ble_eq_true rfl⟩ ⟨fun _ _ _ => rfl, fun _ => Nat.le_refl _⟩ ⟨congrArg (fun z => some (Value.int z.1)) heL, congrArg (fun z => rs M z.2) heL, rfl⟩
          · skip
            skip
            refine lv_aload_n X.1 X.2.1 d_Md_fetch_138 rfl (lv_at hl 3 rfl) ?_
            refine lv_iconst (v := 3) X.1 X.2.1 d_Md_fetch_139 (by decide) ?_
            refine r_cV (As := [.int 3]) (rest := []) X hml hl.1 hM (k_Md_fail l D dA base M ad hR (ru r 18 34 0) 3) c_Md_161 v_Md_fail kc_Md rfl hR.1 rfl (Nat.le_of_ble_eq_true rfl) ⟨rfl, rfl, Nat.le_of_ble_eq_true rfl, Nat.le_of_ble_eq_true rfl⟩ ⟨Nat.le_of_ble_eq_true rfl, Nat.le_of_ble_eq_true rfl⟩ d_Md_fetch_140 ?_
            intro rv M1 ad1 H locs hP hM hE
            obtain ⟨e1, e2, e3⟩ := hP
            subst rv; subst M1; subst ad1
            show W _ _ _ _ _ _ _ _ _ _ _ _ _ _ _ (F0 m 143 ls [.int ((m_fail (ru r 18 34 0) 3).1)])
            have heL : ((m_fail (ru r 18 34 0) 3).1, (m_fail (ru r 18 34 0) 3).2) = F := ((if_neg h2).trans ((if_neg h3).trans ((if_neg h6).trans ((if_pos h8).trans ((if_neg h35)))))).symm.trans he
            exact m_iret X hr hlk hM d_Md_fetch_143 ⟨Nat.le_of_ble_eq_true rfl, Nat.le_of_ble_eq_true rfl⟩ ⟨fun _ _ _ => rfl, fun _ => Nat.le_refl _⟩ ⟨congrArg (fun z => some (Value.int z.1)) heL, congrArg (fun z => rs M z.2) heL, rfl⟩
      · skip
        have hk := hk.1 h6
        refine lv_aload_n X.1 X.2.1 d_Md_fetch_32 rfl (lv_at hl 0 rfl) ?_
        refine lv_iconst (v := 2) X.1 X.2.1 d_Md_fetch_33 (by decide) ?_
        refine r_cV (As := [.int 2]) (rest := []) X hml hl.1 hM (k_Md_fail l D dA base M ad hR r 2) c_Md_161 v_Md_fail kc_Md rfl hR.1 rfl (Nat.le_of_ble_eq_true rfl) ⟨rfl, rfl, Nat.le_of_ble_eq_true rfl, Nat.le_of_ble_eq_true rfl⟩ ⟨Nat.le_of_ble_eq_true rfl, Nat.le_of_ble_eq_true rfl⟩ d_Md_fetch_34 ?_
        intro rv M1 ad1 H locs hP hM hE
        obtain ⟨e1, e2, e3⟩ := hP
        subst rv; subst M1; subst ad1
        show W _ _ _ _ _ _ _ _ _ _ _ _ _ _ _ (F0 m 37 ls [.int ((m_fail r 2).1)])
        have heL : ((m_fail r 2).1, (m_fail r 2).2) = F := ((if_neg h2).trans ((if_neg h3).trans ((if_pos h6)))).symm.trans he
        exact m_iret X hr hlk hM d_Md_fetch_37 ⟨Nat.le_of_ble_eq_true rfl, Nat.le_of_ble_eq_true rfl⟩ ⟨fun _ _ _ => rfl, fun _ => Nat.le_refl _⟩ ⟨congrArg (fun z => some (Value.int z.1)) heL, congrArg (fun z => rs M z.2) heL, rfl⟩
  · skip
    have hk := hk.1 h2
    refine lv_aload_n X.1 X.2.1 d_Md_fetch_7 rfl (lv_at hl 0 rfl) ?_
    refine lv_iconst (v := 1) X.1 X.2.1 d_Md_fetch_8 (by decide) ?_
    refine r_cV (As := [.int 1]) (rest := []) X hml hl.1 hM (k_Md_fail l D dA base M ad hR r 1) c_Md_161 v_Md_fail kc_Md rfl hR.1 rfl (Nat.le_of_ble_eq_true rfl) ⟨rfl, rfl, Nat.le_of_ble_eq_true rfl, Nat.le_of_ble_eq_true rfl⟩ ⟨Nat.le_of_ble_eq_true rfl, Nat.le_of_ble_eq_true rfl⟩ d_Md_fetch_9 ?_
    intro rv M1 ad1 H locs hP hM hE
    obtain ⟨e1, e2, e3⟩ := hP
    subst rv; subst M1; subst ad1
    show W _ _ _ _ _ _ _ _ _ _ _ _ _ _ _ (F0 m 12 ls [.int ((m_fail r 1).1)])
    have heL : ((m_fail r 1).1, (m_fail r 1).2) = F := ((if_pos h2)).symm.trans he
    exact m_iret X hr hlk hM d_Md_fetch_12 ⟨Nat.le_of_ble_eq_true rfl, Nat.le_of_ble_eq_true rfl⟩ ⟨fun _ _ _ => rfl, fun _ => Nat.le_refl _⟩ ⟨congrArg (fun z => some (Value.int z.1)) heL, congrArg (fun z => rs M z.2) heL, rfl⟩
