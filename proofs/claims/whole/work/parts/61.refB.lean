def m_serve (r : rR) (a0 : Int32) (a1 : Int32) (a2 : Int32) (a3 : Int32) (a4 : Int32) : rR := (if (m_in a0 0 3) = 0 then (ru r 18 34 1) else (if (m_isPath a2) = 0 then (ru r 18 34 1) else (if (m_in a3 0 1) = 0 then (ru r 18 34 1) else (if (m_in a4 0 3) = 0 then (ru r 18 34 1) else (ru (ru (ru (ru (ru r 18 34 0) 19 (a0.toNatClampNeg) a1) 20 (a0.toNatClampNeg) a2) 21 (a0.toNatClampNeg) a3) 22 (a0.toNatClampNeg) a4)))))
def m_serve_ok (r : rR) (a0 : Int32) (a1 : Int32) (a2 : Int32) (a3 : Int32) (a4 : Int32) : Prop := (((m_in a0 0 3) = 0) → (True)) ∧ (¬ ((m_in a0 0 3) = 0) → ((m_isPath_ok a2) ∧ ((((m_isPath a2) = 0) → (True)) ∧ (¬ ((m_isPath a2) = 0) → ((((m_in a3 0 1) = 0) → (True)) ∧ (¬ ((m_in a3 0 1) = 0) → ((((m_in a4 0 3) = 0) → (True)) ∧ (¬ ((m_in a4 0 3) = 0) → (ixk a0 4)))))))))
set_option maxHeartbeats 4000000 in
set_option maxRecDepth 100000 in
theorem k_Md_serve (l : Launch) (D : va_G) (dA : Nat → ClassId) (base : Nat) (M : mM) (ad : Nat → Nat → Nat) (hR : wR M) (r : rR) (a0 : Int32) (a1 : Int32) (a2 : Int32) (a3 : Int32) (a4 : Int32) (hk : m_serve_ok r a0 a1 a2 a3 a4) : mMet l y_Md_serve b_Md_serve 6 none ({ frames := 2, cells := 0, slots := 0, locals := 43 } : Room) 0 0 D dA base (rs M r) ad [.ref (ad 18 0), .int a0, .int a1, .int a2, .int a3, .int a4] (fun rv M' ad' => rv = none ∧ M' = rs M (m_serve r a0 a1 a2 a3 a4) ∧ ad' = ad) := by
  refine m_start (lvs := [(0, .ref (ad 18 0)), (1, .int a0), (2, .int a1), (3, .int a2), (4, .int a3), (5, .int a4)]) (by decide) (Nat.le_of_ble_eq_true rfl) rfl ?_
  intro p e s m below meth c ls X hr hlk hin hml hM hl
  generalize he : m_serve r a0 a1 a2 a3 a4 = F
  refine lv_aload_n X.1 X.2.1 d_Md_serve_0 rfl (lv_at hl 0 rfl) ?_
  refine lv_iload_n X.1 X.2.1 d_Md_serve_1 rfl (lv_at hl 1 rfl) ?_
  refine lv_iconst (v := 0) X.1 X.2.1 d_Md_serve_2 (by decide) ?_
  refine lv_iconst (v := 3) X.1 X.2.1 d_Md_serve_3 (by decide) ?_
  refine r_cS (As := [.int a0, .int 0, .int 3]) (rest := [.ref (ad 18 0)]) X hml hl.1 hM (k_Md_in l D dA base (rs M r) ad a0 0 3) c_Md_103 v_Md_in rfl (Nat.le_of_ble_eq_true rfl) ⟨rfl, rfl, Nat.le_of_ble_eq_true rfl, Nat.le_of_ble_eq_true rfl⟩ ⟨Nat.le_of_ble_eq_true rfl, Nat.le_of_ble_eq_true rfl⟩ d_Md_serve_4 ?_
  intro rv M1 ad1 H locs hP hM hE
  obtain ⟨e1, e2, e3⟩ := hP
  subst rv; subst M1; subst ad1
  show W _ _ _ _ _ _ _ _ _ _ _ _ _ _ _ (F0 m 7 ls [.int (m_in a0 0 3), .ref (ad 18 0)])
  refine lv_if_eq (tgt := 41) X.1 X.2.1 d_Md_serve_7 (by decide) (fun h1 => ?_) (fun h1 => ?_)
  · skip
    have hk := hk.1 h1
    refine lv_iconst (v := 1) X.1 X.2.1 d_Md_serve_41 (by decide) ?_
    refine R_puti (k := 18) X hM (by decide) rfl hR.1 p_Md_98 rfl rfl rfl d_Md_serve_42 (fun H locs hM => ?_)
    refine lv_aload_n X.1 X.2.1 d_Md_serve_45 rfl (lv_at hl 0 rfl) ?_
    refine R_geti (k := 18) X hM (by decide) rfl hR.1 f_Md_98 rfl d_Md_serve_46 ?_
    show W _ _ _ _ _ _ _ _ _ _ _ _ _ _ _ (F0 m 49 ls [.int 1])
    refine lv_if_le (tgt := 53) X.1 X.2.1 d_Md_serve_49 (by decide) (fun h2 => absurd h2 (by decide)) (fun h2 => ?_)
    have heL : (ru r 18 34 1) = F := ((if_pos h1)).symm.trans he
    exact m_vret X hr hlk hM d_Md_serve_52 ⟨Nat.le_of_ble_eq_true rfl, Nat.le_of_ble_eq_true rfl⟩ ⟨fun _ _ _ => rfl, fun _ => Nat.le_refl _⟩ ⟨rfl, congrArg (rs M) heL, rfl⟩
  · skip
    have hk := hk.2 h1
    refine lv_iload_n X.1 X.2.1 d_Md_serve_10 rfl (lv_at hl 3 rfl) ?_
    obtain ⟨o3, hk⟩ := hk
    refine r_cS (As := [.int a2]) (rest := [.ref (ad 18 0)]) X hml hl.1 hM (k_Md_isPath l D dA base (rs M r) ad a2 o3) c_Md_118 v_Md_isPath rfl (Nat.le_of_ble_eq_true rfl) ⟨rfl, rfl, Nat.le_of_ble_eq_true rfl, Nat.le_of_ble_eq_true rfl⟩ ⟨Nat.le_of_ble_eq_true rfl, Nat.le_of_ble_eq_true rfl⟩ d_Md_serve_11 ?_
    intro rv M1 ad1 H locs hP hM hE
    obtain ⟨e1, e2, e3⟩ := hP
    subst rv; subst M1; subst ad1
    show W _ _ _ _ _ _ _ _ _ _ _ _ _ _ _ (F0 m 14 ls [.int (m_isPath a2), .ref (ad 18 0)])
    refine lv_if_eq (tgt := 41) X.1 X.2.1 d_Md_serve_14 (by decide) (fun h4 => ?_) (fun h4 => ?_)
    · skip
      have hk := hk.1 h4
      refine lv_iconst (v := 1) X.1 X.2.1 d_Md_serve_41 (by decide) ?_
      refine R_puti (k := 18) X hM (by decide) rfl hR.1 p_Md_98 rfl rfl rfl d_Md_serve_42 (fun H locs hM => ?_)
      refine lv_aload_n X.1 X.2.1 d_Md_serve_45 rfl (lv_at hl 0 rfl) ?_
      refine R_geti (k := 18) X hM (by decide) rfl hR.1 f_Md_98 rfl d_Md_serve_46 ?_
      show W _ _ _ _ _ _ _ _ _ _ _ _ _ _ _ (F0 m 49 ls [.int 1])
      refine lv_if_le (tgt := 53) X.1 X.2.1 d_Md_serve_49 (by decide) (fun h5 => absurd h5 (by decide)) (fun h5 => ?_)
      have heL : (ru r 18 34 1) = F := ((if_neg h1).trans ((if_pos h4))).symm.trans he
      exact m_vret X hr hlk hM d_Md_serve_52 ⟨Nat.le_of_ble_eq_true rfl, Nat.le_of_ble_eq_true rfl⟩ ⟨fun _ _ _ => rfl, fun _ => Nat.le_refl _⟩ ⟨rfl, congrArg (rs M) heL, rfl⟩
    · skip
      have hk := hk.2 h4
      refine lv_iload X.1 X.2.1 d_Md_serve_17 (lv_at hl 4 rfl) ?_
      refine lv_iconst (v := 0) X.1 X.2.1 d_Md_serve_19 (by decide) ?_
      refine lv_iconst (v := 1) X.1 X.2.1 d_Md_serve_20 (by decide) ?_
      refine r_cS (As := [.int a3, .int 0, .int 1]) (rest := [.ref (ad 18 0)]) X hml hl.1 hM (k_Md_in l D dA base (rs M r) ad a3 0 1) c_Md_103 v_Md_in rfl (Nat.le_of_ble_eq_true rfl) ⟨rfl, rfl, Nat.le_of_ble_eq_true rfl, Nat.le_of_ble_eq_true rfl⟩ ⟨Nat.le_of_ble_eq_true rfl, Nat.le_of_ble_eq_true rfl⟩ d_Md_serve_21 ?_
      intro rv M1 ad1 H locs hP hM hE
      obtain ⟨e1, e2, e3⟩ := hP
      subst rv; subst M1; subst ad1
      show W _ _ _ _ _ _ _ _ _ _ _ _ _ _ _ (F0 m 24 ls [.int (m_in a3 0 1), .ref (ad 18 0)])
      refine lv_if_eq (tgt := 41) X.1 X.2.1 d_Md_serve_24 (by decide) (fun h6 => ?_) (fun h6 => ?_)
      · skip
        have hk := hk.1 h6
        refine lv_iconst (v := 1) X.1 X.2.1 d_Md_serve_41 (by decide) ?_
        refine R_puti (k := 18) X hM (by decide) rfl hR.1 p_Md_98 rfl rfl rfl d_Md_serve_42 (fun H locs hM => ?_)
        refine lv_aload_n X.1 X.2.1 d_Md_serve_45 rfl (lv_at hl 0 rfl) ?_
        refine R_geti (k := 18) X hM (by decide) rfl hR.1 f_Md_98 rfl d_Md_serve_46 ?_
        show W _ _ _ _ _ _ _ _ _ _ _ _ _ _ _ (F0 m 49 ls [.int 1])
        refine lv_if_le (tgt := 53) X.1 X.2.1 d_Md_serve_49 (by decide) (fun h7 => absurd h7 (by decide)) (fun h7 => ?_)
        have heL : (ru r 18 34 1) = F := ((if_neg h1).trans ((if_neg h4).trans ((if_pos h6)))).symm.trans he
        exact m_vret X hr hlk hM d_Md_serve_52 ⟨Nat.le_of_ble_eq_true rfl, Nat.le_of_ble_eq_true rfl⟩ ⟨fun _ _ _ => rfl, fun _ => Nat.le_refl _⟩ ⟨rfl, congrArg (rs M) heL, rfl⟩
      · skip
        have hk := hk.2 h6
        refine lv_iload X.1 X.2.1 d_Md_serve_27 (lv_at hl 5 rfl) ?_
        refine lv_iconst (v := 0) X.1 X.2.1 d_Md_serve_29 (by decide) ?_
        refine lv_iconst (v := 3) X.1 X.2.1 d_Md_serve_30 (by decide) ?_
        refine r_cS (As := [.int a4, .int 0, .int 3]) (rest := [.ref (ad 18 0)]) X hml hl.1 hM (k_Md_in l D dA base (rs M r) ad a4 0 3) c_Md_103 v_Md_in rfl (Nat.le_of_ble_eq_true rfl) ⟨rfl, rfl, Nat.le_of_ble_eq_true rfl, Nat.le_of_ble_eq_true rfl⟩ ⟨Nat.le_of_ble_eq_true rfl, Nat.le_of_ble_eq_true rfl⟩ d_Md_serve_31 ?_
        intro rv M1 ad1 H locs hP hM hE
        obtain ⟨e1, e2, e3⟩ := hP
        subst rv; subst M1; subst ad1
        show W _ _ _ _ _ _ _ _ _ _ _ _ _ _ _ (F0 m 34 ls [.int (m_in a4 0 3), .ref (ad 18 0)])
        refine lv_if_eq (tgt := 41) X.1 X.2.1 d_Md_serve_34 (by decide) (fun h8 => ?_) (fun h8 => ?_)
        · skip
          have hk := hk.1 h8
          refine lv_iconst (v := 1) X.1 X.2.1 d_Md_serve_41 (by decide) ?_
          refine R_puti (k := 18) X hM (by decide) rfl hR.1 p_Md_98 rfl rfl rfl d_Md_serve_42 (fun H locs hM => ?_)
          refine lv_aload_n X.1 X.2.1 d_Md_serve_45 rfl (lv_at hl 0 rfl) ?_
          refine R_geti (k := 18) X hM (by decide) rfl hR.1 f_Md_98 rfl d_Md_serve_46 ?_
          show W _ _ _ _ _ _ _ _ _ _ _ _ _ _ _ (F0 m 49 ls [.int 1])
          refine lv_if_le (tgt := 53) X.1 X.2.1 d_Md_serve_49 (by decide) (fun h9 => absurd h9 (by decide)) (fun h9 => ?_)
          have heL : (ru r 18 34 1) = F := ((if_neg h1).trans ((if_neg h4).trans ((if_neg h6).trans ((if_pos h8))))).symm.trans he
          exact m_vret X hr hlk hM d_Md_serve_52 ⟨Nat.le_of_ble_eq_true rfl, Nat.le_of_ble_eq_true rfl⟩ ⟨fun _ _ _ => rfl, fun _ => Nat.le_refl _⟩ ⟨rfl, congrArg (rs M) heL, rfl⟩
        · skip
          have hk := hk.2 h8
          refine lv_iconst (v := 0) X.1 X.2.1 d_Md_serve_37 (by decide) ?_
          refine lv_goto (tgt := 42) X.1 X.2.1 d_Md_serve_38 (by decide) ?_
          refine R_puti (k := 18) X hM (by decide) rfl hR.1 p_Md_98 rfl rfl rfl d_Md_serve_42 (fun H locs hM => ?_)
          refine lv_aload_n X.1 X.2.1 d_Md_serve_45 rfl (lv_at hl 0 rfl) ?_
          refine R_geti (k := 18) X hM (by decide) rfl hR.1 f_Md_98 rfl d_Md_serve_46 ?_
          show W _ _ _ _ _ _ _ _ _ _ _ _ _ _ _ (F0 m 49 ls [.int 0])
          refine lv_if_le (tgt := 53) X.1 X.2.1 d_Md_serve_49 (by decide) (fun h10 => ?_) (fun h10 => absurd (by decide) h10)
          refine lv_aload_n X.1 X.2.1 d_Md_serve_53 rfl (lv_at hl 0 rfl) ?_
          refine r_gets (q := 0) X hM rfl hR.1 f_Md_7 rfl (hR.2 0 (by decide)) d_Md_serve_54 (fun g11 => ?_)
          refine lv_iload_n X.1 X.2.1 d_Md_serve_57 rfl (lv_at hl 1 rfl) ?_
          refine lv_iload_n X.1 X.2.1 d_Md_serve_58 rfl (lv_at hl 2 rfl) ?_
          have o12 := hk
          refine R_iast (k := 19) X hM (by decide) rfl g11 a_m_content (fun _ => rfl) o12.1 o12.2 d_Md_serve_59 (fun H locs hM => ?_)
          refine lv_aload_n X.1 X.2.1 d_Md_serve_60 rfl (lv_at hl 0 rfl) ?_
          refine r_gets (q := 0) X hM rfl hR.1 f_Md_13 rfl (hR.2 1 (by decide)) d_Md_serve_61 (fun g13 => ?_)
          refine lv_iload_n X.1 X.2.1 d_Md_serve_64 rfl (lv_at hl 1 rfl) ?_
          refine lv_iload_n X.1 X.2.1 d_Md_serve_65 rfl (lv_at hl 3 rfl) ?_
          refine R_iast (k := 20) X hM (by decide) rfl g13 a_m_broad (fun _ => rfl) o12.1 o12.2 d_Md_serve_66 (fun H locs hM => ?_)
          refine lv_aload_n X.1 X.2.1 d_Md_serve_67 rfl (lv_at hl 0 rfl) ?_
          refine r_gets (q := 0) X hM rfl hR.1 f_Md_16 rfl (hR.2 2 (by decide)) d_Md_serve_68 (fun g14 => ?_)
          refine lv_iload_n X.1 X.2.1 d_Md_serve_71 rfl (lv_at hl 1 rfl) ?_
          refine lv_iload X.1 X.2.1 d_Md_serve_72 (lv_at hl 4 rfl) ?_
          refine R_iast (k := 21) X hM (by decide) rfl g14 a_m_flaw (fun _ => rfl) o12.1 o12.2 d_Md_serve_74 (fun H locs hM => ?_)
          refine lv_aload_n X.1 X.2.1 d_Md_serve_75 rfl (lv_at hl 0 rfl) ?_
          refine r_gets (q := 0) X hM rfl hR.1 f_Md_19 rfl (hR.2 3 (by decide)) d_Md_serve_76 (fun g15 => ?_)
          refine lv_iload_n X.1 X.2.1 d_Md_serve_79 rfl (lv_at hl 1 rfl) ?_
          refine lv_iload X.1 X.2.1 d_Md_serve_80 (lv_at hl 5 rfl) ?_
          refine R_iast (k := 22) X hM (by decide) rfl g15 a_m_mode (fun _ => rfl) o12.1 o12.2 d_Md_serve_82 (fun H locs hM => ?_)
          have heL : (ru (ru (ru (ru (ru r 18 34 0) 19 (a0.toNatClampNeg) a1) 20 (a0.toNatClampNeg) a2) 21 (a0.toNatClampNeg) a3) 22 (a0.toNatClampNeg) a4) = F := ((if_neg h1).trans ((if_neg h4).trans ((if_neg h6).trans ((if_neg h8))))).symm.trans he
          exact m_vret X hr hlk hM d_Md_serve_83 ⟨Nat.le_of_ble_eq_true rfl, Nat.le_of_ble_eq_true rfl⟩ ⟨fun _ _ _ => rfl, fun _ => Nat.le_refl _⟩ ⟨rfl, congrArg (rs M) heL, rfl⟩
def m_network (r : rR) (a0 : Int32) (a1 : Int32) : Int32 × rR := (if (r 18 35) = 0 then (if a0 = 0 then (1, (ru (ru (ru r 18 34 0) 18 35 1) 18 33 a1)) else (1, (ru (ru (ru r 18 34 0) 18 35 0) 18 33 a1))) else (if a0 = 0 then (0, (ru (ru (ru r 18 34 0) 18 35 1) 18 33 a1)) else (0, (ru (ru (ru r 18 34 0) 18 35 0) 18 33 a1))))
set_option maxHeartbeats 4000000 in
set_option maxRecDepth 100000 in
theorem k_Md_network (l : Launch) (D : va_G) (dA : Nat → ClassId) (base : Nat) (M : mM) (ad : Nat → Nat → Nat) (hR : wR M) (r : rR) (a0 : Int32) (a1 : Int32) : mMet l y_Md_network b_Md_network 4 (some FieldType.boolean) ({ frames := 0, cells := 0, slots := 0, locals := 0 } : Room) 0 0 D dA base (rs M r) ad [.ref (ad 18 0), .int a0, .int a1] (fun rv M' ad' => rv = some (.int (m_network r a0 a1).1) ∧ M' = rs M (m_network r a0 a1).2 ∧ ad' = ad) := by
  refine m_start (lvs := [(0, .ref (ad 18 0)), (1, .int a0), (2, .int a1)]) (by decide) (Nat.le_of_ble_eq_true rfl) rfl ?_
  intro p e s m below meth c ls X hr hlk hin hml hM hl
  generalize he : m_network r a0 a1 = F
  refine lv_aload_n X.1 X.2.1 d_Md_network_0 rfl (lv_at hl 0 rfl) ?_
  refine lv_iconst (v := 0) X.1 X.2.1 d_Md_network_1 (by decide) ?_
  refine R_puti (k := 18) X hM (by decide) rfl hR.1 p_Md_98 rfl rfl rfl d_Md_network_2 (fun H locs hM => ?_)
  refine lv_aload_n X.1 X.2.1 d_Md_network_5 rfl (lv_at hl 0 rfl) ?_
  refine R_geti (k := 18) X hM (by decide) rfl hR.1 f_Md_122 rfl d_Md_network_6 ?_
  show W _ _ _ _ _ _ _ _ _ _ _ _ _ _ _ (F0 m 9 ls [.int (r 18 35)])
  refine lv_if_ne (tgt := 16) X.1 X.2.1 d_Md_network_9 (by decide) (fun h1 => ?_) (fun h1 => ?_)
  · skip
    skip
    refine lv_iconst (v := 0) X.1 X.2.1 d_Md_network_16 (by decide) ?_
    refine lv_istore_n (lv' := [(3, .int 0), (0, .ref (ad 18 0)), (1, .int a0), (2, .int a1)]) X.1 X.2.1 d_Md_network_17 rfl hl (by decide) rfl (fun ls hl => ?_)
    refine lv_aload_n X.1 X.2.1 d_Md_network_18 rfl (lv_at hl 1 rfl) ?_
    refine lv_iload_n X.1 X.2.1 d_Md_network_19 rfl (lv_at hl 2 rfl) ?_
    refine lv_if_ne (tgt := 27) X.1 X.2.1 d_Md_network_20 (by decide) (fun h2 => ?_) (fun h2 => ?_)
    · skip
      skip
      refine lv_iconst (v := 0) X.1 X.2.1 d_Md_network_27 (by decide) ?_
      refine R_puti (k := 18) X hM (by decide) rfl hR.1 p_Md_122 rfl rfl rfl d_Md_network_28 (fun H locs hM => ?_)
      refine lv_aload_n X.1 X.2.1 d_Md_network_31 rfl (lv_at hl 1 rfl) ?_
      refine lv_iload_n X.1 X.2.1 d_Md_network_32 rfl (lv_at hl 3 rfl) ?_
      refine R_puti (k := 18) X hM (by decide) rfl hR.1 p_Md_126 rfl rfl rfl d_Md_network_33 (fun H locs hM => ?_)
      refine lv_iload_n X.1 X.2.1 d_Md_network_36 rfl (lv_at hl 0 rfl) ?_
      have heL : (0, (ru (ru (ru r 18 34 0) 18 35 0) 18 33 a1)) = F := ((if_neg h1).trans ((if_neg h2))).symm.trans he
      exact m_zret X hr hlk hM (by first | rfl | decide) d_Md_network_37 ⟨Nat.le_of_ble_eq_true rfl, Nat.le_of_ble_eq_true rfl⟩ ⟨fun _ _ _ => rfl, fun _ => Nat.le_refl _⟩ ⟨congrArg (fun z => some (Value.int z.1)) heL, congrArg (fun z => rs M z.2) heL, rfl⟩
    · skip
      skip
      refine lv_iconst (v := 1) X.1 X.2.1 d_Md_network_23 (by decide) ?_
      refine lv_goto (tgt := 28) X.1 X.2.1 d_Md_network_24 (by decide) ?_
      refine R_puti (k := 18) X hM (by decide) rfl hR.1 p_Md_122 rfl rfl rfl d_Md_network_28 (fun H locs hM => ?_)
      refine lv_aload_n X.1 X.2.1 d_Md_network_31 rfl (lv_at hl 1 rfl) ?_
      refine lv_iload_n X.1 X.2.1 d_Md_network_32 rfl (lv_at hl 3 rfl) ?_
      refine R_puti (k := 18) X hM (by decide) rfl hR.1 p_Md_126 rfl rfl rfl d_Md_network_33 (fun H locs hM => ?_)
      refine lv_iload_n X.1 X.2.1 d_Md_network_36 rfl (lv_at hl 0 rfl) ?_
      have heL : (0, (ru (ru (ru r 18 34 0) 18 35 1) 18 33 a1)) = F := ((if_neg h1).trans ((if_pos h2))).symm.trans he
      exact m_zret X hr hlk hM (by first | rfl | decide) d_Md_network_37 ⟨Nat.le_of_ble_eq_true rfl, Nat.le_of_ble_eq_true rfl⟩ ⟨fun _ _ _ => rfl, fun _ => Nat.le_refl _⟩ ⟨congrArg (fun z => some (Value.int z.1)) heL, congrArg (fun z => rs M z.2) heL, rfl⟩
  · skip
    skip
    refine lv_iconst (v := 1) X.1 X.2.1 d_Md_network_12 (by decide) ?_
    refine lv_goto (tgt := 17) X.1 X.2.1 d_Md_network_13 (by decide) ?_
    refine lv_istore_n (lv' := [(3, .int 1), (0, .ref (ad 18 0)), (1, .int a0), (2, .int a1)]) X.1 X.2.1 d_Md_network_17 rfl hl (by decide) rfl (fun ls hl => ?_)
    refine lv_aload_n X.1 X.2.1 d_Md_network_18 rfl (lv_at hl 1 rfl) ?_
    refine lv_iload_n X.1 X.2.1 d_Md_network_19 rfl (lv_at hl 2 rfl) ?_
    refine lv_if_ne (tgt := 27) X.1 X.2.1 d_Md_network_20 (by decide) (fun h3 => ?_) (fun h3 => ?_)
    · skip
      skip
      refine lv_iconst (v := 0) X.1 X.2.1 d_Md_network_27 (by decide) ?_
      refine R_puti (k := 18) X hM (by decide) rfl hR.1 p_Md_122 rfl rfl rfl d_Md_network_28 (fun H locs hM => ?_)
      refine lv_aload_n X.1 X.2.1 d_Md_network_31 rfl (lv_at hl 1 rfl) ?_
      refine lv_iload_n X.1 X.2.1 d_Md_network_32 rfl (lv_at hl 3 rfl) ?_
      refine R_puti (k := 18) X hM (by decide) rfl hR.1 p_Md_126 rfl rfl rfl d_Md_network_33 (fun H locs hM => ?_)
      refine lv_iload_n X.1 X.2.1 d_Md_network_36 rfl (lv_at hl 0 rfl) ?_
      have heL : (1, (ru (ru (ru r 18 34 0) 18 35 0) 18 33 a1)) = F := ((if_pos h1).trans ((if_neg h3))).symm.trans he
      exact m_zret X hr hlk hM (by first | rfl | decide) d_Md_network_37 ⟨Nat.le_of_ble_eq_true rfl, Nat.le_of_ble_eq_true rfl⟩ ⟨fun _ _ _ => rfl, fun _ => Nat.le_refl _⟩ ⟨congrArg (fun z => some (Value.int z.1)) heL, congrArg (fun z => rs M z.2) heL, rfl⟩
    · skip
      skip
      refine lv_iconst (v := 1) X.1 X.2.1 d_Md_network_23 (by decide) ?_
      refine lv_goto (tgt := 28) X.1 X.2.1 d_Md_network_24 (by decide) ?_
      refine R_puti (k := 18) X hM (by decide) rfl hR.1 p_Md_122 rfl rfl rfl d_Md_network_28 (fun H locs hM => ?_)
      refine lv_aload_n X.1 X.2.1 d_Md_network_31 rfl (lv_at hl 1 rfl) ?_
      refine lv_iload_n X.1 X.2.1 d_Md_network_32 rfl (lv_at hl 3 rfl) ?_
      refine R_puti (k := 18) X hM (by decide) rfl hR.1 p_Md_126 rfl rfl rfl d_Md_network_33 (fun H locs hM => ?_)
      refine lv_iload_n X.1 X.2.1 d_Md_network_36 rfl (lv_at hl 0 rfl) ?_
      have heL : (1, (ru (ru (ru r 18 34 0) 18 35 1) 18 33 a1)) = F := ((if_pos h1).trans ((if_pos h3))).symm.trans he
      exact m_zret X hr hlk hM (by first | rfl | decide) d_Md_network_37 ⟨Nat.le_of_ble_eq_true rfl, Nat.le_of_ble_eq_true rfl⟩ ⟨fun _ _ _ => rfl, fun _ => Nat.le_refl _⟩ ⟨congrArg (fun z => some (Value.int z.1)) heL, congrArg (fun z => rs M z.2) heL, rfl⟩
def m_find_L2 : Nat → rR → Int32 → Int32 → Int32
  | 0, _, _, _ => 0
  | n + 1, r, v1, v2 => (if (r 18 29) ≤ v2 then (-1) else (if (r 32 (v2.toNatClampNeg)) = v1 then v2 else m_find_L2 n r v1 (v2 + 1)))
def m_find_L2_ok : Nat → rR → Int32 → Int32 → Prop
  | 0, _, _, _ => False
  | n + 1, r, v1, v2 => (((r 18 29) ≤ v2) → (True)) ∧ (¬ ((r 18 29) ≤ v2) → ((ixk v2 6) ∧ ((((r 32 (v2.toNatClampNeg)) = v1) → (True)) ∧ (¬ ((r 32 (v2.toNatClampNeg)) = v1) → (m_find_L2_ok n r v1 (v2 + 1))))))
def m_find (r : rR) (a0 : Int32) : Int32 := m_find_L2 6 r a0 0
def m_find_ok (r : rR) (a0 : Int32) : Prop := m_find_L2_ok 6 r a0 0
set_option maxHeartbeats 4000000 in
set_option maxRecDepth 100000 in
theorem k_Md_find (l : Launch) (D : va_G) (dA : Nat → ClassId) (base : Nat) (M : mM) (ad : Nat → Nat → Nat) (hR : wR M) (r : rR) (a0 : Int32) (hk : m_find_ok r a0) : mMet l y_Md_find b_Md_find 3 (some FieldType.int) ({ frames := 0, cells := 0, slots := 0, locals := 0 } : Room) 0 0 D dA base (rs M r) ad [.ref (ad 18 0), .int a0] (fun rv M' ad' => rv = some (.int (m_find r a0)) ∧ M' = rs M r ∧ ad' = ad) := by
  refine m_start (lvs := [(0, .ref (ad 18 0)), (1, .int a0)]) (by decide) (Nat.le_of_ble_eq_true rfl) rfl ?_
  intro p e s m below meth c ls X hr hlk hin hml hM hl
  generalize he : m_find r a0 = F
  refine lv_iconst (v := 0) X.1 X.2.1 d_Md_find_0 (by decide) ?_
  refine lv_istore_n (lv' := [(2, .int 0), (0, .ref (ad 18 0)), (1, .int a0)]) X.1 X.2.1 d_Md_find_1 rfl hl (by decide) rfl (fun ls hl => ?_)
  refine w_downW (fun ls => F0 m 2 ls []) (fun n H L ls => ∃ (v1 : Int32) (v2 : Int32), mSt D dA base (rs M r) ad s.heap H L ∧ lv_has ls 3 [(1, .int v1), (2, .int v2), (0, .ref (ad 18 0))] ∧ m_find_L2_ok n r v1 v2 ∧ m_find_L2 n r v1 v2 = F) ?_ ?_ 6 _ _ ls ⟨a0, 0, hM, lv_sub hl [2, 0, 1] rfl, hk, (rfl).symm.trans he⟩
  · rintro H locs ls ⟨v1, v2, hM, hl, hk, he⟩
    exact hk.elim
  · rintro n ih H locs ls ⟨v1, v2, hM, hl, hk, he⟩
    refine lv_iload_n X.1 X.2.1 d_Md_find_2 rfl (lv_at hl 1 rfl) ?_
    refine lv_aload_n X.1 X.2.1 d_Md_find_3 rfl (lv_at hl 2 rfl) ?_
    refine R_geti (k := 18) X hM (by decide) rfl hR.1 f_Md_129 rfl d_Md_find_4 ?_
    refine lv_icmp_ge (tgt := 28) X.1 X.2.1 d_Md_find_7 (by decide) (fun h1 => ?_) (fun h1 => ?_)
    · skip
      have hk := hk.1 h1
      refine lv_iconst (v := (-1)) X.1 X.2.1 d_Md_find_28 (by decide) ?_
      have heL : (-1) = F := ((if_pos h1)).symm.trans he
      exact m_iret X hr hlk hM d_Md_find_29 ⟨Nat.le_of_ble_eq_true rfl, Nat.le_of_ble_eq_true rfl⟩ ⟨fun _ _ _ => rfl, fun _ => Nat.le_refl _⟩ ⟨congrArg (fun z => some (Value.int z)) heL, rfl, rfl⟩
    · skip
      have hk := hk.2 h1
      refine lv_aload_n X.1 X.2.1 d_Md_find_10 rfl (lv_at hl 2 rfl) ?_
      refine r_gets (q := 0) X hM rfl hR.1 f_Md_50 rfl (hR.2 13 (by decide)) d_Md_find_11 (fun g2 => ?_)
      refine lv_iload_n X.1 X.2.1 d_Md_find_14 rfl (lv_at hl 1 rfl) ?_
      obtain ⟨o3, hk⟩ := hk
      refine R_iald (k := 32) X hM (by decide) rfl g2 a_m_scope (fun _ => rfl) o3.1 o3.2 d_Md_find_15 ?_
      refine lv_iload_n X.1 X.2.1 d_Md_find_16 rfl (lv_at hl 0 rfl) ?_
      refine lv_icmp_ne (tgt := 22) X.1 X.2.1 d_Md_find_17 (by decide) (fun h4 => ?_) (fun h4 => ?_)
      · skip
        have hk := hk.2 h4
        refine lv_iinc (v := v2 + 1) (lv' := [(2, .int (v2 + 1)), (1, .int v1), (0, .ref (ad 18 0))]) X.1 X.2.1 d_Md_find_22 hl (k := 1) rfl rfl (by decide) rfl (fun ls hl => ?_)
        refine lv_goto (tgt := 2) X.1 X.2.1 d_Md_find_25 (by decide) ?_
        exact ih _ _ ls ⟨_, _, hM, lv_sub hl [1, 0, 2] rfl, hk, ((if_neg h1).trans ((if_neg h4))).symm.trans he⟩
      · skip
        have hk := hk.1 h4
        refine lv_iload_n X.1 X.2.1 d_Md_find_20 rfl (lv_at hl 1 rfl) ?_
        have heL : v2 = F := ((if_neg h1).trans ((if_pos h4))).symm.trans he
        exact m_iret X hr hlk hM d_Md_find_21 ⟨Nat.le_of_ble_eq_true rfl, Nat.le_of_ble_eq_true rfl⟩ ⟨fun _ _ _ => rfl, fun _ => Nat.le_refl _⟩ ⟨congrArg (fun z => some (Value.int z)) heL, rfl, rfl⟩
def m_withActive_L2 : Nat → rR → Int32 → Int32 → Int32
  | 0, _, _, _ => 0
  | n + 1, r, v1, v2 => (if (r 18 29) ≤ v2 then (-1) else (if (r 36 (v2.toNatClampNeg)) = v1 then v2 else m_withActive_L2 n r v1 (v2 + 1)))
def m_withActive_L2_ok : Nat → rR → Int32 → Int32 → Prop
  | 0, _, _, _ => False
  | n + 1, r, v1, v2 => (((r 18 29) ≤ v2) → (True)) ∧ (¬ ((r 18 29) ≤ v2) → ((ixk v2 6) ∧ ((((r 36 (v2.toNatClampNeg)) = v1) → (True)) ∧ (¬ ((r 36 (v2.toNatClampNeg)) = v1) → (m_withActive_L2_ok n r v1 (v2 + 1))))))
def m_withActive (r : rR) (a0 : Int32) : Int32 := m_withActive_L2 6 r a0 0
def m_withActive_ok (r : rR) (a0 : Int32) : Prop := m_withActive_L2_ok 6 r a0 0
set_option maxHeartbeats 4000000 in
set_option maxRecDepth 100000 in
theorem k_Md_withActive (l : Launch) (D : va_G) (dA : Nat → ClassId) (base : Nat) (M : mM) (ad : Nat → Nat → Nat) (hR : wR M) (r : rR) (a0 : Int32) (hk : m_withActive_ok r a0) : mMet l y_Md_withActive b_Md_withActive 3 (some FieldType.int) ({ frames := 0, cells := 0, slots := 0, locals := 0 } : Room) 0 0 D dA base (rs M r) ad [.ref (ad 18 0), .int a0] (fun rv M' ad' => rv = some (.int (m_withActive r a0)) ∧ M' = rs M r ∧ ad' = ad) := by
  refine m_start (lvs := [(0, .ref (ad 18 0)), (1, .int a0)]) (by decide) (Nat.le_of_ble_eq_true rfl) rfl ?_
  intro p e s m below meth c ls X hr hlk hin hml hM hl
  generalize he : m_withActive r a0 = F
  refine lv_iconst (v := 0) X.1 X.2.1 d_Md_withActive_0 (by decide) ?_
  refine lv_istore_n (lv' := [(2, .int 0), (0, .ref (ad 18 0)), (1, .int a0)]) X.1 X.2.1 d_Md_withActive_1 rfl hl (by decide) rfl (fun ls hl => ?_)
  refine w_downW (fun ls => F0 m 2 ls []) (fun n H L ls => ∃ (v1 : Int32) (v2 : Int32), mSt D dA base (rs M r) ad s.heap H L ∧ lv_has ls 3 [(1, .int v1), (2, .int v2), (0, .ref (ad 18 0))] ∧ m_withActive_L2_ok n r v1 v2 ∧ m_withActive_L2 n r v1 v2 = F) ?_ ?_ 6 _ _ ls ⟨a0, 0, hM, lv_sub hl [2, 0, 1] rfl, hk, (rfl).symm.trans he⟩
  · rintro H locs ls ⟨v1, v2, hM, hl, hk, he⟩
    exact hk.elim
  · rintro n ih H locs ls ⟨v1, v2, hM, hl, hk, he⟩
    refine lv_iload_n X.1 X.2.1 d_Md_withActive_2 rfl (lv_at hl 1 rfl) ?_
    refine lv_aload_n X.1 X.2.1 d_Md_withActive_3 rfl (lv_at hl 2 rfl) ?_
    refine R_geti (k := 18) X hM (by decide) rfl hR.1 f_Md_129 rfl d_Md_withActive_4 ?_
    refine lv_icmp_ge (tgt := 28) X.1 X.2.1 d_Md_withActive_7 (by decide) (fun h1 => ?_) (fun h1 => ?_)
    · skip
      have hk := hk.1 h1
      refine lv_iconst (v := (-1)) X.1 X.2.1 d_Md_withActive_28 (by decide) ?_
      have heL : (-1) = F := ((if_pos h1)).symm.trans he
      exact m_iret X hr hlk hM d_Md_withActive_29 ⟨Nat.le_of_ble_eq_true rfl, Nat.le_of_ble_eq_true rfl⟩ ⟨fun _ _ _ => rfl, fun _ => Nat.le_refl _⟩ ⟨congrArg (fun z => some (Value.int z)) heL, rfl, rfl⟩
    · skip
      have hk := hk.2 h1
      refine lv_aload_n X.1 X.2.1 d_Md_withActive_10 rfl (lv_at hl 2 rfl) ?_
      refine r_gets (q := 0) X hM rfl hR.1 f_Md_62 rfl (hR.2 17 (by decide)) d_Md_withActive_11 (fun g2 => ?_)
      refine lv_iload_n X.1 X.2.1 d_Md_withActive_14 rfl (lv_at hl 1 rfl) ?_
      obtain ⟨o3, hk⟩ := hk
      refine R_iald (k := 36) X hM (by decide) rfl g2 a_m_active (fun _ => rfl) o3.1 o3.2 d_Md_withActive_15 ?_
      refine lv_iload_n X.1 X.2.1 d_Md_withActive_16 rfl (lv_at hl 0 rfl) ?_
      refine lv_icmp_ne (tgt := 22) X.1 X.2.1 d_Md_withActive_17 (by decide) (fun h4 => ?_) (fun h4 => ?_)
      · skip
        have hk := hk.2 h4
        refine lv_iinc (v := v2 + 1) (lv' := [(2, .int (v2 + 1)), (1, .int v1), (0, .ref (ad 18 0))]) X.1 X.2.1 d_Md_withActive_22 hl (k := 1) rfl rfl (by decide) rfl (fun ls hl => ?_)
        refine lv_goto (tgt := 2) X.1 X.2.1 d_Md_withActive_25 (by decide) ?_
        exact ih _ _ ls ⟨_, _, hM, lv_sub hl [1, 0, 2] rfl, hk, ((if_neg h1).trans ((if_neg h4))).symm.trans he⟩
      · skip
        have hk := hk.1 h4
        refine lv_iload_n X.1 X.2.1 d_Md_withActive_20 rfl (lv_at hl 1 rfl) ?_
        have heL : v2 = F := ((if_neg h1).trans ((if_pos h4))).symm.trans he
        exact m_iret X hr hlk hM d_Md_withActive_21 ⟨Nat.le_of_ble_eq_true rfl, Nat.le_of_ble_eq_true rfl⟩ ⟨fun _ _ _ => rfl, fun _ => Nat.le_refl _⟩ ⟨congrArg (fun z => some (Value.int z)) heL, rfl, rfl⟩
def m_forPath_L4 : Nat → rR → Int32 → Int32 → Int32 → Int32
  | 0, _, _, _, _ => 0
  | n + 1, r, v1, v2, v3 => (if (r 18 29) ≤ v3 then v2 else (if (r 37 (v3.toNatClampNeg)) = 0 then (if (r 36 (v3.toNatClampNeg)) = 0 then m_forPath_L4 n r v1 v2 (v3 + 1) else (if (m_begins (r 32 (v3.toNatClampNeg)) v1) = 0 then m_forPath_L4 n r v1 v2 (v3 + 1) else (if v2 < 0 then m_forPath_L4 n r v1 v3 (v3 + 1) else (if (m_weight (r 32 (v3.toNatClampNeg))) ≤ (m_weight (r 32 (v2.toNatClampNeg))) then m_forPath_L4 n r v1 v2 (v3 + 1) else m_forPath_L4 n r v1 v3 (v3 + 1))))) else m_forPath_L4 n r v1 v2 (v3 + 1)))
def m_forPath_L4_ok : Nat → rR → Int32 → Int32 → Int32 → Prop
  | 0, _, _, _, _ => False
  | n + 1, r, v1, v2, v3 => (((r 18 29) ≤ v3) → (True)) ∧ (¬ ((r 18 29) ≤ v3) → ((ixk v3 6) ∧ ((((r 37 (v3.toNatClampNeg)) = 0) → ((((r 36 (v3.toNatClampNeg)) = 0) → (m_forPath_L4_ok n r v1 v2 (v3 + 1))) ∧ (¬ ((r 36 (v3.toNatClampNeg)) = 0) → ((m_begins_ok (r 32 (v3.toNatClampNeg)) v1) ∧ ((((m_begins (r 32 (v3.toNatClampNeg)) v1) = 0) → (m_forPath_L4_ok n r v1 v2 (v3 + 1))) ∧ (¬ ((m_begins (r 32 (v3.toNatClampNeg)) v1) = 0) → (((v2 < 0) → (m_forPath_L4_ok n r v1 v3 (v3 + 1))) ∧ (¬ (v2 < 0) → ((m_weight_ok (r 32 (v3.toNatClampNeg))) ∧ ((ixk v2 6) ∧ ((m_weight_ok (r 32 (v2.toNatClampNeg))) ∧ ((((m_weight (r 32 (v3.toNatClampNeg))) ≤ (m_weight (r 32 (v2.toNatClampNeg)))) → (m_forPath_L4_ok n r v1 v2 (v3 + 1))) ∧ (¬ ((m_weight (r 32 (v3.toNatClampNeg))) ≤ (m_weight (r 32 (v2.toNatClampNeg)))) → (m_forPath_L4_ok n r v1 v3 (v3 + 1))))))))))))))) ∧ (¬ ((r 37 (v3.toNatClampNeg)) = 0) → (m_forPath_L4_ok n r v1 v2 (v3 + 1))))))
def m_forPath (r : rR) (a0 : Int32) : Int32 := m_forPath_L4 6 r a0 (-1) 0
def m_forPath_ok (r : rR) (a0 : Int32) : Prop := m_forPath_L4_ok 6 r a0 (-1) 0
set_option maxHeartbeats 4000000 in
set_option maxRecDepth 100000 in
theorem k_Md_forPath (l : Launch) (D : va_G) (dA : Nat → ClassId) (base : Nat) (M : mM) (ad : Nat → Nat → Nat) (hR : wR M) (r : rR) (a0 : Int32) (hk : m_forPath_ok r a0) : mMet l y_Md_forPath b_Md_forPath 4 (some FieldType.int) ({ frames := 2, cells := 0, slots := 0, locals := 42 } : Room) 0 0 D dA base (rs M r) ad [.ref (ad 18 0), .int a0] (fun rv M' ad' => rv = some (.int (m_forPath r a0)) ∧ M' = rs M r ∧ ad' = ad) := by
  refine m_start (lvs := [(0, .ref (ad 18 0)), (1, .int a0)]) (by decide) (Nat.le_of_ble_eq_true rfl) rfl ?_
  intro p e s m below meth c ls X hr hlk hin hml hM hl
  generalize he : m_forPath r a0 = F
  refine lv_iconst (v := (-1)) X.1 X.2.1 d_Md_forPath_0 (by decide) ?_
  refine lv_istore_n (lv' := [(2, .int (-1)), (0, .ref (ad 18 0)), (1, .int a0)]) X.1 X.2.1 d_Md_forPath_1 rfl hl (by decide) rfl (fun ls hl => ?_)
  refine lv_iconst (v := 0) X.1 X.2.1 d_Md_forPath_2 (by decide) ?_
  refine lv_istore_n (lv' := [(3, .int 0), (2, .int (-1)), (0, .ref (ad 18 0)), (1, .int a0)]) X.1 X.2.1 d_Md_forPath_3 rfl hl (by decide) rfl (fun ls hl => ?_)
  refine w_downW (fun ls => F0 m 4 ls []) (fun n H L ls => ∃ (v1 : Int32) (v2 : Int32) (v3 : Int32), mSt D dA base (rs M r) ad s.heap H L ∧ lv_has ls 4 [(1, .int v1), (2, .int v2), (3, .int v3), (0, .ref (ad 18 0))] ∧ m_forPath_L4_ok n r v1 v2 v3 ∧ m_forPath_L4 n r v1 v2 v3 = F) ?_ ?_ 6 _ _ ls ⟨a0, (-1), 0, hM, lv_sub hl [3, 1, 0, 2] rfl, hk, (rfl).symm.trans he⟩
  · rintro H locs ls ⟨v1, v2, v3, hM, hl, hk, he⟩
    exact hk.elim
  · rintro n ih H locs ls ⟨v1, v2, v3, hM, hl, hk, he⟩
    refine lv_iload_n X.1 X.2.1 d_Md_forPath_4 rfl (lv_at hl 2 rfl) ?_
    refine lv_aload_n X.1 X.2.1 d_Md_forPath_5 rfl (lv_at hl 3 rfl) ?_
    refine R_geti (k := 18) X hM (by decide) rfl hR.1 f_Md_129 rfl d_Md_forPath_6 ?_
    refine lv_icmp_ge (tgt := 79) X.1 X.2.1 d_Md_forPath_9 (by decide) (fun h1 => ?_) (fun h1 => ?_)
    · skip
      have hk := hk.1 h1
      refine lv_iload_n X.1 X.2.1 d_Md_forPath_79 rfl (lv_at hl 1 rfl) ?_
      have heL : v2 = F := ((if_pos h1)).symm.trans he
      exact m_iret X hr hlk hM d_Md_forPath_80 ⟨Nat.le_of_ble_eq_true rfl, Nat.le_of_ble_eq_true rfl⟩ ⟨fun _ _ _ => rfl, fun _ => Nat.le_refl _⟩ ⟨congrArg (fun z => some (Value.int z)) heL, rfl, rfl⟩
    · skip
      have hk := hk.2 h1
      refine lv_aload_n X.1 X.2.1 d_Md_forPath_12 rfl (lv_at hl 3 rfl) ?_
      refine r_gets (q := 0) X hM rfl hR.1 f_Md_65 rfl (hR.2 18 (by decide)) d_Md_forPath_13 (fun g2 => ?_)
      refine lv_iload_n X.1 X.2.1 d_Md_forPath_16 rfl (lv_at hl 2 rfl) ?_
      obtain ⟨o3, hk⟩ := hk
      refine R_zald (k := 37) X hM (by decide) rfl g2 a_m_leaving (fun _ => rfl) o3.1 o3.2 d_Md_forPath_17 ?_
      refine lv_if_ne (tgt := 73) X.1 X.2.1 d_Md_forPath_18 (by decide) (fun h4 => ?_) (fun h4 => ?_)
      · skip
        have hk := hk.2 h4
        refine lv_iinc (v := v3 + 1) (lv' := [(3, .int (v3 + 1)), (1, .int v1), (2, .int v2), (0, .ref (ad 18 0))]) X.1 X.2.1 d_Md_forPath_73 hl (k := 2) rfl rfl (by decide) rfl (fun ls hl => ?_)
        refine lv_goto (tgt := 4) X.1 X.2.1 d_Md_forPath_76 (by decide) ?_
        exact ih _ _ ls ⟨_, _, _, hM, lv_sub hl [1, 2, 0, 3] rfl, hk, ((if_neg h1).trans ((if_neg h4))).symm.trans he⟩
      · skip
        have hk := hk.1 h4
        refine lv_aload_n X.1 X.2.1 d_Md_forPath_21 rfl (lv_at hl 3 rfl) ?_
        refine r_gets (q := 0) X hM rfl hR.1 f_Md_62 rfl (hR.2 17 (by decide)) d_Md_forPath_22 (fun g5 => ?_)
        refine lv_iload_n X.1 X.2.1 d_Md_forPath_25 rfl (lv_at hl 2 rfl) ?_
        refine R_iald (k := 36) X hM (by decide) rfl g5 a_m_active (fun _ => rfl) o3.1 o3.2 d_Md_forPath_26 ?_
        refine lv_if_eq (tgt := 73) X.1 X.2.1 d_Md_forPath_27 (by decide) (fun h6 => ?_) (fun h6 => ?_)
        · skip
          have hk := hk.1 h6
          refine lv_iinc (v := v3 + 1) (lv' := [(3, .int (v3 + 1)), (1, .int v1), (2, .int v2), (0, .ref (ad 18 0))]) X.1 X.2.1 d_Md_forPath_73 hl (k := 2) rfl rfl (by decide) rfl (fun ls hl => ?_)
          refine lv_goto (tgt := 4) X.1 X.2.1 d_Md_forPath_76 (by decide) ?_
          exact ih _ _ ls ⟨_, _, _, hM, lv_sub hl [1, 2, 0, 3] rfl, hk, ((if_neg h1).trans ((if_pos h4).trans ((if_pos h6)))).symm.trans he⟩
        · skip
          have hk := hk.2 h6
          refine lv_aload_n X.1 X.2.1 d_Md_forPath_30 rfl (lv_at hl 3 rfl) ?_
          refine r_gets (q := 0) X hM rfl hR.1 f_Md_50 rfl (hR.2 13 (by decide)) d_Md_forPath_31 (fun g7 => ?_)
          refine lv_iload_n X.1 X.2.1 d_Md_forPath_34 rfl (lv_at hl 2 rfl) ?_
          refine R_iald (k := 32) X hM (by decide) rfl g7 a_m_scope (fun _ => rfl) o3.1 o3.2 d_Md_forPath_35 ?_
          refine lv_iload_n X.1 X.2.1 d_Md_forPath_36 rfl (lv_at hl 0 rfl) ?_
          obtain ⟨o8, hk⟩ := hk
          refine r_cS (As := [.int (r 32 (v3.toNatClampNeg)), .int v1]) (rest := []) X hml hl.1 hM (k_Md_begins l D dA base (rs M r) ad (r 32 (v3.toNatClampNeg)) v1 o8) c_Md_132 v_Md_begins rfl (Nat.le_of_ble_eq_true rfl) ⟨rfl, rfl, Nat.le_of_ble_eq_true rfl, Nat.le_of_ble_eq_true rfl⟩ ⟨Nat.le_of_ble_eq_true rfl, Nat.le_of_ble_eq_true rfl⟩ d_Md_forPath_37 ?_
          intro rv M1 ad1 H locs hP hM hE
          obtain ⟨e1, e2, e3⟩ := hP
          subst rv; subst M1; subst ad1
          show W _ _ _ _ _ _ _ _ _ _ _ _ _ _ _ (F0 m 40 ls [.int (m_begins (r 32 (v3.toNatClampNeg)) v1)])
          refine lv_if_ne (tgt := 46) X.1 X.2.1 d_Md_forPath_40 (by decide) (fun h9 => ?_) (fun h9 => ?_)
          · skip
            have hk := hk.2 h9
            refine lv_iload_n X.1 X.2.1 d_Md_forPath_46 rfl (lv_at hl 1 rfl) ?_
            refine lv_if_lt (tgt := 71) X.1 X.2.1 d_Md_forPath_47 (by decide) (fun h10 => ?_) (fun h10 => ?_)
            · skip
              have hk := hk.1 h10
              refine lv_iload_n X.1 X.2.1 d_Md_forPath_71 rfl (lv_at hl 2 rfl) ?_
              refine lv_istore_n (lv' := [(2, .int v3), (1, .int v1), (3, .int v3), (0, .ref (ad 18 0))]) X.1 X.2.1 d_Md_forPath_72 rfl hl (by decide) rfl (fun ls hl => ?_)
              refine lv_iinc (v := v3 + 1) (lv' := [(3, .int (v3 + 1)), (2, .int v3), (1, .int v1), (0, .ref (ad 18 0))]) X.1 X.2.1 d_Md_forPath_73 hl (k := 2) rfl rfl (by decide) rfl (fun ls hl => ?_)
              refine lv_goto (tgt := 4) X.1 X.2.1 d_Md_forPath_76 (by decide) ?_
              exact ih _ _ ls ⟨_, _, _, hM, lv_sub hl [2, 1, 0, 3] rfl, hk, ((if_neg h1).trans ((if_pos h4).trans ((if_neg h6).trans ((if_neg h9).trans ((if_pos h10)))))).symm.trans he⟩
            · skip
              have hk := hk.2 h10
              refine lv_aload_n X.1 X.2.1 d_Md_forPath_50 rfl (lv_at hl 3 rfl) ?_
              refine r_gets (q := 0) X hM rfl hR.1 f_Md_50 rfl (hR.2 13 (by decide)) d_Md_forPath_51 (fun g11 => ?_)
              refine lv_iload_n X.1 X.2.1 d_Md_forPath_54 rfl (lv_at hl 2 rfl) ?_
              refine R_iald (k := 32) X hM (by decide) rfl g11 a_m_scope (fun _ => rfl) o3.1 o3.2 d_Md_forPath_55 ?_
              obtain ⟨o12, hk⟩ := hk
              refine r_cS (As := [.int (r 32 (v3.toNatClampNeg))]) (rest := []) X hml hl.1 hM (k_Md_weight l D dA base (rs M r) ad (r 32 (v3.toNatClampNeg)) o12) c_Md_107 v_Md_weight rfl (Nat.le_of_ble_eq_true rfl) ⟨rfl, rfl, Nat.le_of_ble_eq_true rfl, Nat.le_of_ble_eq_true rfl⟩ ⟨Nat.le_of_ble_eq_true rfl, Nat.le_of_ble_eq_true rfl⟩ d_Md_forPath_56 ?_
              intro rv M1 ad1 H locs hP hM hE
              obtain ⟨e1, e2, e3⟩ := hP
              subst rv; subst M1; subst ad1
              show W _ _ _ _ _ _ _ _ _ _ _ _ _ _ _ (F0 m 59 ls [.int (m_weight (r 32 (v3.toNatClampNeg)))])
              refine lv_aload_n X.1 X.2.1 d_Md_forPath_59 rfl (lv_at hl 3 rfl) ?_
              refine r_gets (q := 0) X hM rfl hR.1 f_Md_50 rfl (hR.2 13 (by decide)) d_Md_forPath_60 (fun g13 => ?_)
              refine lv_iload_n X.1 X.2.1 d_Md_forPath_63 rfl (lv_at hl 1 rfl) ?_
              obtain ⟨o14, hk⟩ := hk
              refine R_iald (k := 32) X hM (by decide) rfl g13 a_m_scope (fun _ => rfl) o14.1 o14.2 d_Md_forPath_64 ?_
              obtain ⟨o15, hk⟩ := hk
              refine r_cS (As := [.int (r 32 (v2.toNatClampNeg))]) (rest := [.int (m_weight (r 32 (v3.toNatClampNeg)))]) X hml hl.1 hM (k_Md_weight l D dA base (rs M r) ad (r 32 (v2.toNatClampNeg)) o15) c_Md_107 v_Md_weight rfl (Nat.le_of_ble_eq_true rfl) ⟨rfl, rfl, Nat.le_of_ble_eq_true rfl, Nat.le_of_ble_eq_true rfl⟩ ⟨Nat.le_of_ble_eq_true rfl, Nat.le_of_ble_eq_true rfl⟩ d_Md_forPath_65 ?_
              intro rv M1 ad1 H locs hP hM hE
              obtain ⟨e1, e2, e3⟩ := hP
              subst rv; subst M1; subst ad1
              show W _ _ _ _ _ _ _ _ _ _ _ _ _ _ _ (F0 m 68 ls [.int (m_weight (r 32 (v2.toNatClampNeg))), .int (m_weight (r 32 (v3.toNatClampNeg)))])
              refine lv_icmp_le (tgt := 73) X.1 X.2.1 d_Md_forPath_68 (by decide) (fun h16 => ?_) (fun h16 => ?_)
              · skip
                have hk := hk.1 h16
                refine lv_iinc (v := v3 + 1) (lv' := [(3, .int (v3 + 1)), (1, .int v1), (2, .int v2), (0, .ref (ad 18 0))]) X.1 X.2.1 d_Md_forPath_73 hl (k := 2) rfl rfl (by decide) rfl (fun ls hl => ?_)
                refine lv_goto (tgt := 4) X.1 X.2.1 d_Md_forPath_76 (by decide) ?_
                exact ih _ _ ls ⟨_, _, _, hM, lv_sub hl [1, 2, 0, 3] rfl, hk, ((if_neg h1).trans ((if_pos h4).trans ((if_neg h6).trans ((if_neg h9).trans ((if_neg h10).trans ((if_pos h16))))))).symm.trans he⟩
              · skip
                have hk := hk.2 h16
                refine lv_iload_n X.1 X.2.1 d_Md_forPath_71 rfl (lv_at hl 2 rfl) ?_
                refine lv_istore_n (lv' := [(2, .int v3), (1, .int v1), (3, .int v3), (0, .ref (ad 18 0))]) X.1 X.2.1 d_Md_forPath_72 rfl hl (by decide) rfl (fun ls hl => ?_)
                refine lv_iinc (v := v3 + 1) (lv' := [(3, .int (v3 + 1)), (2, .int v3), (1, .int v1), (0, .ref (ad 18 0))]) X.1 X.2.1 d_Md_forPath_73 hl (k := 2) rfl rfl (by decide) rfl (fun ls hl => ?_)
                refine lv_goto (tgt := 4) X.1 X.2.1 d_Md_forPath_76 (by decide) ?_
                exact ih _ _ ls ⟨_, _, _, hM, lv_sub hl [2, 1, 0, 3] rfl, hk, ((if_neg h1).trans ((if_pos h4).trans ((if_neg h6).trans ((if_neg h9).trans ((if_neg h10).trans ((if_neg h16))))))).symm.trans he⟩
          · skip
            have hk := hk.1 h9
            refine lv_goto (tgt := 73) X.1 X.2.1 d_Md_forPath_43 (by decide) ?_
            refine lv_iinc (v := v3 + 1) (lv' := [(3, .int (v3 + 1)), (1, .int v1), (2, .int v2), (0, .ref (ad 18 0))]) X.1 X.2.1 d_Md_forPath_73 hl (k := 2) rfl rfl (by decide) rfl (fun ls hl => ?_)
            refine lv_goto (tgt := 4) X.1 X.2.1 d_Md_forPath_76 (by decide) ?_
            exact ih _ _ ls ⟨_, _, _, hM, lv_sub hl [1, 2, 0, 3] rfl, hk, ((if_neg h1).trans ((if_pos h4).trans ((if_neg h6).trans ((if_pos h9))))).symm.trans he⟩
def m_go_L12 : Nat → rR → Int32 → Int32 → rR
  | 0, r, _, _ => r
  | n + 1, r, v1, v2 => (if (r 18 29) ≤ v2 then r else m_go_L12 n (ru (ru (ru (ru (ru (ru r 32 (v2.toNatClampNeg) (r 32 ((v2 + 1).toNatClampNeg))) 33 (v2.toNatClampNeg) (r 33 ((v2 + 1).toNatClampNeg))) 34 (v2.toNatClampNeg) (r 34 ((v2 + 1).toNatClampNeg))) 35 (v2.toNatClampNeg) (r 35 ((v2 + 1).toNatClampNeg))) 36 (v2.toNatClampNeg) (r 36 ((v2 + 1).toNatClampNeg))) 37 (v2.toNatClampNeg) (r 37 ((v2 + 1).toNatClampNeg))) v1 (v2 + 1))
def m_go_L12_ok : Nat → rR → Int32 → Int32 → Prop
  | 0, _, _, _ => False
  | n + 1, r, v1, v2 => (((r 18 29) ≤ v2) → (True)) ∧ (¬ ((r 18 29) ≤ v2) → ((ixk (v2 + 1) 6) ∧ ((ixk v2 6) ∧ (((r 37 ((v2 + 1).toNatClampNeg)) = 0 ∨ (r 37 ((v2 + 1).toNatClampNeg)) = 1) ∧ (m_go_L12_ok n (ru (ru (ru (ru (ru (ru r 32 (v2.toNatClampNeg) (r 32 ((v2 + 1).toNatClampNeg))) 33 (v2.toNatClampNeg) (r 33 ((v2 + 1).toNatClampNeg))) 34 (v2.toNatClampNeg) (r 34 ((v2 + 1).toNatClampNeg))) 35 (v2.toNatClampNeg) (r 35 ((v2 + 1).toNatClampNeg))) 36 (v2.toNatClampNeg) (r 36 ((v2 + 1).toNatClampNeg))) 37 (v2.toNatClampNeg) (r 37 ((v2 + 1).toNatClampNeg))) v1 (v2 + 1))))))
def m_go (r : rR) (a0 : Int32) : rR := m_go_L12 6 (ru r 18 29 ((r 18 29) - 1)) a0 a0
def m_go_ok (r : rR) (a0 : Int32) : Prop := m_go_L12_ok 6 (ru r 18 29 ((r 18 29) - 1)) a0 a0
set_option maxHeartbeats 4000000 in
set_option maxRecDepth 100000 in
theorem k_Md_go (l : Launch) (D : va_G) (dA : Nat → ClassId) (base : Nat) (M : mM) (ad : Nat → Nat → Nat) (hR : wR M) (r : rR) (a0 : Int32) (hk : m_go_ok r a0) : mMet l y_Md_go b_Md_go 3 none ({ frames := 0, cells := 0, slots := 0, locals := 0 } : Room) 0 0 D dA base (rs M r) ad [.ref (ad 18 0), .int a0] (fun rv M' ad' => rv = none ∧ M' = rs M (m_go r a0) ∧ ad' = ad) := by
  refine m_start (lvs := [(0, .ref (ad 18 0)), (1, .int a0)]) (by decide) (Nat.le_of_ble_eq_true rfl) rfl ?_
  intro p e s m below meth c ls X hr hlk hin hml hM hl
  generalize he : m_go r a0 = F
  refine lv_aload_n X.1 X.2.1 d_Md_go_0 rfl (lv_at hl 0 rfl) ?_
  refine lv_dup X.1 X.2.1 d_Md_go_1 rfl ?_
  refine R_geti (k := 18) X hM (by decide) rfl hR.1 f_Md_129 rfl d_Md_go_2 ?_
  refine lv_iconst (v := 1) X.1 X.2.1 d_Md_go_5 (by decide) ?_
  refine lv_isub X.1 X.2.1 d_Md_go_6 ?_
  refine R_puti (k := 18) X hM (by decide) rfl hR.1 p_Md_129 rfl rfl rfl d_Md_go_7 (fun H locs hM => ?_)
  refine lv_iload_n X.1 X.2.1 d_Md_go_10 rfl (lv_at hl 1 rfl) ?_
  refine lv_istore_n (lv' := [(2, .int a0), (0, .ref (ad 18 0)), (1, .int a0)]) X.1 X.2.1 d_Md_go_11 rfl hl (by decide) rfl (fun ls hl => ?_)
  refine w_downW (fun ls => F0 m 12 ls []) (fun n H L ls => ∃ (r : rR) (v1 : Int32) (v2 : Int32), mSt D dA base (rs M r) ad s.heap H L ∧ lv_has ls 3 [(1, .int v1), (2, .int v2), (0, .ref (ad 18 0))] ∧ m_go_L12_ok n r v1 v2 ∧ m_go_L12 n r v1 v2 = F) ?_ ?_ 6 _ _ ls ⟨(ru r 18 29 ((r 18 29) - 1)), a0, a0, hM, lv_sub hl [2, 0, 1] rfl, hk, (rfl).symm.trans he⟩
  · rintro H locs ls ⟨r, v1, v2, hM, hl, hk, he⟩
    exact hk.elim
  · rintro n ih H locs ls ⟨r, v1, v2, hM, hl, hk, he⟩
    refine lv_iload_n X.1 X.2.1 d_Md_go_12 rfl (lv_at hl 1 rfl) ?_
    refine lv_aload_n X.1 X.2.1 d_Md_go_13 rfl (lv_at hl 2 rfl) ?_
    refine R_geti (k := 18) X hM (by decide) rfl hR.1 f_Md_129 rfl d_Md_go_14 ?_
    refine lv_icmp_ge (tgt := 110) X.1 X.2.1 d_Md_go_17 (by decide) (fun h1 => ?_) (fun h1 => ?_)
    · skip
      have hk := hk.1 h1
      have heL : r = F := ((if_pos h1)).symm.trans he
      exact m_vret X hr hlk hM d_Md_go_110 ⟨Nat.le_of_ble_eq_true rfl, Nat.le_of_ble_eq_true rfl⟩ ⟨fun _ _ _ => rfl, fun _ => Nat.le_refl _⟩ ⟨rfl, congrArg (rs M) heL, rfl⟩
    · skip
      have hk := hk.2 h1
      refine lv_aload_n X.1 X.2.1 d_Md_go_20 rfl (lv_at hl 2 rfl) ?_
      refine r_gets (q := 0) X hM rfl hR.1 f_Md_50 rfl (hR.2 13 (by decide)) d_Md_go_21 (fun g2 => ?_)
      refine lv_iload_n X.1 X.2.1 d_Md_go_24 rfl (lv_at hl 1 rfl) ?_
      refine lv_aload_n X.1 X.2.1 d_Md_go_25 rfl (lv_at hl 2 rfl) ?_
      refine r_gets (q := 0) X hM rfl hR.1 f_Md_50 rfl (hR.2 13 (by decide)) d_Md_go_26 (fun g3 => ?_)
      refine lv_iload_n X.1 X.2.1 d_Md_go_29 rfl (lv_at hl 1 rfl) ?_
      refine lv_iconst (v := 1) X.1 X.2.1 d_Md_go_30 (by decide) ?_
      refine lv_iadd X.1 X.2.1 d_Md_go_31 ?_
      obtain ⟨o4, hk⟩ := hk
      refine R_iald (k := 32) X hM (by decide) rfl g3 a_m_scope (fun _ => rfl) o4.1 o4.2 d_Md_go_32 ?_
      obtain ⟨o5, hk⟩ := hk
      refine R_iast (k := 32) X hM (by decide) rfl g2 a_m_scope (fun _ => rfl) o5.1 o5.2 d_Md_go_33 (fun H locs hM => ?_)
      refine lv_aload_n X.1 X.2.1 d_Md_go_34 rfl (lv_at hl 2 rfl) ?_
      refine r_gets (q := 0) X hM rfl hR.1 f_Md_53 rfl (hR.2 14 (by decide)) d_Md_go_35 (fun g6 => ?_)
      refine lv_iload_n X.1 X.2.1 d_Md_go_38 rfl (lv_at hl 1 rfl) ?_
      refine lv_aload_n X.1 X.2.1 d_Md_go_39 rfl (lv_at hl 2 rfl) ?_
      refine r_gets (q := 0) X hM rfl hR.1 f_Md_53 rfl (hR.2 14 (by decide)) d_Md_go_40 (fun g7 => ?_)
      refine lv_iload_n X.1 X.2.1 d_Md_go_43 rfl (lv_at hl 1 rfl) ?_
      refine lv_iconst (v := 1) X.1 X.2.1 d_Md_go_44 (by decide) ?_
      refine lv_iadd X.1 X.2.1 d_Md_go_45 ?_
      refine R_iald (k := 33) X hM (by decide) rfl g7 a_m_script (fun _ => rfl) o4.1 o4.2 d_Md_go_46 ?_
      show W _ _ _ _ _ _ _ _ _ _ _ _ _ _ _ (F0 m 47 ls [.int (r 33 ((v2 + 1).toNatClampNeg)), .int v2, .ref (ad 33 0)])
      refine R_iast (k := 33) X hM (by decide) rfl g6 a_m_script (fun _ => rfl) o5.1 o5.2 d_Md_go_47 (fun H locs hM => ?_)
      refine lv_aload_n X.1 X.2.1 d_Md_go_48 rfl (lv_at hl 2 rfl) ?_
      refine r_gets (q := 0) X hM rfl hR.1 f_Md_56 rfl (hR.2 15 (by decide)) d_Md_go_49 (fun g8 => ?_)
      refine lv_iload_n X.1 X.2.1 d_Md_go_52 rfl (lv_at hl 1 rfl) ?_
      refine lv_aload_n X.1 X.2.1 d_Md_go_53 rfl (lv_at hl 2 rfl) ?_
      refine r_gets (q := 0) X hM rfl hR.1 f_Md_56 rfl (hR.2 15 (by decide)) d_Md_go_54 (fun g9 => ?_)
      refine lv_iload_n X.1 X.2.1 d_Md_go_57 rfl (lv_at hl 1 rfl) ?_
      refine lv_iconst (v := 1) X.1 X.2.1 d_Md_go_58 (by decide) ?_
      refine lv_iadd X.1 X.2.1 d_Md_go_59 ?_
      refine R_iald (k := 34) X hM (by decide) rfl g9 a_m_installing (fun _ => rfl) o4.1 o4.2 d_Md_go_60 ?_
      show W _ _ _ _ _ _ _ _ _ _ _ _ _ _ _ (F0 m 61 ls [.int (r 34 ((v2 + 1).toNatClampNeg)), .int v2, .ref (ad 34 0)])
      refine R_iast (k := 34) X hM (by decide) rfl g8 a_m_installing (fun _ => rfl) o5.1 o5.2 d_Md_go_61 (fun H locs hM => ?_)
      refine lv_aload_n X.1 X.2.1 d_Md_go_62 rfl (lv_at hl 2 rfl) ?_
      refine r_gets (q := 0) X hM rfl hR.1 f_Md_59 rfl (hR.2 16 (by decide)) d_Md_go_63 (fun g10 => ?_)
      refine lv_iload_n X.1 X.2.1 d_Md_go_66 rfl (lv_at hl 1 rfl) ?_
      refine lv_aload_n X.1 X.2.1 d_Md_go_67 rfl (lv_at hl 2 rfl) ?_
      refine r_gets (q := 0) X hM rfl hR.1 f_Md_59 rfl (hR.2 16 (by decide)) d_Md_go_68 (fun g11 => ?_)
      refine lv_iload_n X.1 X.2.1 d_Md_go_71 rfl (lv_at hl 1 rfl) ?_
      refine lv_iconst (v := 1) X.1 X.2.1 d_Md_go_72 (by decide) ?_
      refine lv_iadd X.1 X.2.1 d_Md_go_73 ?_
      refine R_iald (k := 35) X hM (by decide) rfl g11 a_m_waiting (fun _ => rfl) o4.1 o4.2 d_Md_go_74 ?_
      show W _ _ _ _ _ _ _ _ _ _ _ _ _ _ _ (F0 m 75 ls [.int (r 35 ((v2 + 1).toNatClampNeg)), .int v2, .ref (ad 35 0)])
      refine R_iast (k := 35) X hM (by decide) rfl g10 a_m_waiting (fun _ => rfl) o5.1 o5.2 d_Md_go_75 (fun H locs hM => ?_)
      refine lv_aload_n X.1 X.2.1 d_Md_go_76 rfl (lv_at hl 2 rfl) ?_
      refine r_gets (q := 0) X hM rfl hR.1 f_Md_62 rfl (hR.2 17 (by decide)) d_Md_go_77 (fun g12 => ?_)
      refine lv_iload_n X.1 X.2.1 d_Md_go_80 rfl (lv_at hl 1 rfl) ?_
      refine lv_aload_n X.1 X.2.1 d_Md_go_81 rfl (lv_at hl 2 rfl) ?_
      refine r_gets (q := 0) X hM rfl hR.1 f_Md_62 rfl (hR.2 17 (by decide)) d_Md_go_82 (fun g13 => ?_)
      refine lv_iload_n X.1 X.2.1 d_Md_go_85 rfl (lv_at hl 1 rfl) ?_
      refine lv_iconst (v := 1) X.1 X.2.1 d_Md_go_86 (by decide) ?_
      refine lv_iadd X.1 X.2.1 d_Md_go_87 ?_
      refine R_iald (k := 36) X hM (by decide) rfl g13 a_m_active (fun _ => rfl) o4.1 o4.2 d_Md_go_88 ?_
      show W _ _ _ _ _ _ _ _ _ _ _ _ _ _ _ (F0 m 89 ls [.int (r 36 ((v2 + 1).toNatClampNeg)), .int v2, .ref (ad 36 0)])
      refine R_iast (k := 36) X hM (by decide) rfl g12 a_m_active (fun _ => rfl) o5.1 o5.2 d_Md_go_89 (fun H locs hM => ?_)
      refine lv_aload_n X.1 X.2.1 d_Md_go_90 rfl (lv_at hl 2 rfl) ?_
      refine r_gets (q := 0) X hM rfl hR.1 f_Md_65 rfl (hR.2 18 (by decide)) d_Md_go_91 (fun g14 => ?_)
      refine lv_iload_n X.1 X.2.1 d_Md_go_94 rfl (lv_at hl 1 rfl) ?_
      refine lv_aload_n X.1 X.2.1 d_Md_go_95 rfl (lv_at hl 2 rfl) ?_
      refine r_gets (q := 0) X hM rfl hR.1 f_Md_65 rfl (hR.2 18 (by decide)) d_Md_go_96 (fun g15 => ?_)
      refine lv_iload_n X.1 X.2.1 d_Md_go_99 rfl (lv_at hl 1 rfl) ?_
      refine lv_iconst (v := 1) X.1 X.2.1 d_Md_go_100 (by decide) ?_
      refine lv_iadd X.1 X.2.1 d_Md_go_101 ?_
      refine R_zald (k := 37) X hM (by decide) rfl g15 a_m_leaving (fun _ => rfl) o4.1 o4.2 d_Md_go_102 ?_
      show W _ _ _ _ _ _ _ _ _ _ _ _ _ _ _ (F0 m 103 ls [.int (r 37 ((v2 + 1).toNatClampNeg)), .int v2, .ref (ad 37 0)])
      obtain ⟨o16, hk⟩ := hk
      refine R_zast (k := 37) X hM (by decide) rfl g14 a_m_leaving (fun _ => rfl) o5.1 o5.2 (nar01 o16) d_Md_go_103 (fun H locs hM => ?_)
      refine lv_iinc (v := v2 + 1) (lv' := [(2, .int (v2 + 1)), (1, .int v1), (0, .ref (ad 18 0))]) X.1 X.2.1 d_Md_go_104 hl (k := 1) rfl rfl (by decide) rfl (fun ls hl => ?_)
      refine lv_goto (tgt := 12) X.1 X.2.1 d_Md_go_107 (by decide) ?_
      exact ih _ _ ls ⟨_, _, _, hM, lv_sub hl [1, 0, 2] rfl, hk, ((if_neg h1)).symm.trans he⟩
def m_isControlling_L2 : Nat → rR → Int32 → Int32 → Int32
  | 0, _, _, _ => 0
  | n + 1, r, v1, v2 => (if 8 ≤ v2 then 0 else (if (r 38 (v2.toNatClampNeg)) = 0 then m_isControlling_L2 n r v1 (v2 + 1) else (if (r 41 (v2.toNatClampNeg)) = v1 then 1 else m_isControlling_L2 n r v1 (v2 + 1))))
def m_isControlling_L2_ok : Nat → rR → Int32 → Int32 → Prop
  | 0, _, _, _ => False
  | n + 1, r, v1, v2 => ((8 ≤ v2) → (True)) ∧ (¬ (8 ≤ v2) → ((ixk v2 8) ∧ ((((r 38 (v2.toNatClampNeg)) = 0) → (m_isControlling_L2_ok n r v1 (v2 + 1))) ∧ (¬ ((r 38 (v2.toNatClampNeg)) = 0) → ((((r 41 (v2.toNatClampNeg)) = v1) → (True)) ∧ (¬ ((r 41 (v2.toNatClampNeg)) = v1) → (m_isControlling_L2_ok n r v1 (v2 + 1))))))))
def m_isControlling (r : rR) (a0 : Int32) : Int32 := m_isControlling_L2 9 r a0 0
def m_isControlling_ok (r : rR) (a0 : Int32) : Prop := m_isControlling_L2_ok 9 r a0 0
set_option maxHeartbeats 4000000 in
set_option maxRecDepth 100000 in
theorem k_Md_isControlling (l : Launch) (D : va_G) (dA : Nat → ClassId) (base : Nat) (M : mM) (ad : Nat → Nat → Nat) (hR : wR M) (r : rR) (a0 : Int32) (hk : m_isControlling_ok r a0) : mMet l y_Md_isControlling b_Md_isControlling 3 (some FieldType.boolean) ({ frames := 0, cells := 0, slots := 0, locals := 0 } : Room) 0 0 D dA base (rs M r) ad [.ref (ad 18 0), .int a0] (fun rv M' ad' => rv = some (.int (m_isControlling r a0)) ∧ M' = rs M r ∧ ad' = ad) := by
  refine m_start (lvs := [(0, .ref (ad 18 0)), (1, .int a0)]) (by decide) (Nat.le_of_ble_eq_true rfl) rfl ?_
  intro p e s m below meth c ls X hr hlk hin hml hM hl
  generalize he : m_isControlling r a0 = F
  refine lv_iconst (v := 0) X.1 X.2.1 d_Md_isControlling_0 (by decide) ?_
  refine lv_istore_n (lv' := [(2, .int 0), (0, .ref (ad 18 0)), (1, .int a0)]) X.1 X.2.1 d_Md_isControlling_1 rfl hl (by decide) rfl (fun ls hl => ?_)
  refine w_downW (fun ls => F0 m 2 ls []) (fun n H L ls => ∃ (v1 : Int32) (v2 : Int32), mSt D dA base (rs M r) ad s.heap H L ∧ lv_has ls 3 [(1, .int v1), (2, .int v2), (0, .ref (ad 18 0))] ∧ m_isControlling_L2_ok n r v1 v2 ∧ m_isControlling_L2 n r v1 v2 = F) ?_ ?_ 9 _ _ ls ⟨a0, 0, hM, lv_sub hl [2, 0, 1] rfl, hk, (rfl).symm.trans he⟩
  · rintro H locs ls ⟨v1, v2, hM, hl, hk, he⟩
    exact hk.elim
  · rintro n ih H locs ls ⟨v1, v2, hM, hl, hk, he⟩
    refine lv_iload_n X.1 X.2.1 d_Md_isControlling_2 rfl (lv_at hl 1 rfl) ?_
    refine lv_bipush (v := 8) X.1 X.2.1 d_Md_isControlling_3 (by decide) ?_
    refine lv_icmp_ge (tgt := 35) X.1 X.2.1 d_Md_isControlling_5 (by decide) (fun h1 => ?_) (fun h1 => ?_)
    · skip
      have hk := hk.1 h1
      refine lv_iconst (v := 0) X.1 X.2.1 d_Md_isControlling_35 (by decide) ?_
      have heL : 0 = F := ((if_pos h1)).symm.trans he
      exact m_zret X hr hlk hM (by first | rfl | decide) d_Md_isControlling_36 ⟨Nat.le_of_ble_eq_true rfl, Nat.le_of_ble_eq_true rfl⟩ ⟨fun _ _ _ => rfl, fun _ => Nat.le_refl _⟩ ⟨congrArg (fun z => some (Value.int z)) heL, rfl, rfl⟩
    · skip
      have hk := hk.2 h1
      refine lv_aload_n X.1 X.2.1 d_Md_isControlling_8 rfl (lv_at hl 2 rfl) ?_
      refine r_gets (q := 0) X hM rfl hR.1 f_Md_68 rfl (hR.2 19 (by decide)) d_Md_isControlling_9 (fun g2 => ?_)
      refine lv_iload_n X.1 X.2.1 d_Md_isControlling_12 rfl (lv_at hl 1 rfl) ?_
      obtain ⟨o3, hk⟩ := hk
      refine R_zald (k := 38) X hM (by decide) rfl g2 a_m_there (fun _ => rfl) o3.1 o3.2 d_Md_isControlling_13 ?_
      refine lv_if_eq (tgt := 29) X.1 X.2.1 d_Md_isControlling_14 (by decide) (fun h4 => ?_) (fun h4 => ?_)
      · skip
        have hk := hk.1 h4
        refine lv_iinc (v := v2 + 1) (lv' := [(2, .int (v2 + 1)), (1, .int v1), (0, .ref (ad 18 0))]) X.1 X.2.1 d_Md_isControlling_29 hl (k := 1) rfl rfl (by decide) rfl (fun ls hl => ?_)
        refine lv_goto (tgt := 2) X.1 X.2.1 d_Md_isControlling_32 (by decide) ?_
        exact ih _ _ ls ⟨_, _, hM, lv_sub hl [1, 0, 2] rfl, hk, ((if_neg h1).trans ((if_pos h4))).symm.trans he⟩
      · skip
        have hk := hk.2 h4
        refine lv_aload_n X.1 X.2.1 d_Md_isControlling_17 rfl (lv_at hl 2 rfl) ?_
        refine r_gets (q := 0) X hM rfl hR.1 f_Md_77 rfl (hR.2 22 (by decide)) d_Md_isControlling_18 (fun g5 => ?_)
        refine lv_iload_n X.1 X.2.1 d_Md_isControlling_21 rfl (lv_at hl 1 rfl) ?_
        refine R_iald (k := 41) X hM (by decide) rfl g5 a_m_by (fun _ => rfl) o3.1 o3.2 d_Md_isControlling_22 ?_
        refine lv_iload_n X.1 X.2.1 d_Md_isControlling_23 rfl (lv_at hl 0 rfl) ?_
        refine lv_icmp_ne (tgt := 29) X.1 X.2.1 d_Md_isControlling_24 (by decide) (fun h6 => ?_) (fun h6 => ?_)
        · skip
          have hk := hk.2 h6
          refine lv_iinc (v := v2 + 1) (lv' := [(2, .int (v2 + 1)), (1, .int v1), (0, .ref (ad 18 0))]) X.1 X.2.1 d_Md_isControlling_29 hl (k := 1) rfl rfl (by decide) rfl (fun ls hl => ?_)
          refine lv_goto (tgt := 2) X.1 X.2.1 d_Md_isControlling_32 (by decide) ?_
          exact ih _ _ ls ⟨_, _, hM, lv_sub hl [1, 0, 2] rfl, hk, ((if_neg h1).trans ((if_neg h4).trans ((if_neg h6)))).symm.trans he⟩
        · skip
          have hk := hk.1 h6
          refine lv_iconst (v := 1) X.1 X.2.1 d_Md_isControlling_27 (by decide) ?_
          have heL : 1 = F := ((if_neg h1).trans ((if_neg h4).trans ((if_pos h6)))).symm.trans he
          exact m_zret X hr hlk hM (by first | rfl | decide) d_Md_isControlling_28 ⟨Nat.le_of_ble_eq_true rfl, Nat.le_of_ble_eq_true rfl⟩ ⟨fun _ _ _ => rfl, fun _ => Nat.le_refl _⟩ ⟨congrArg (fun z => some (Value.int z)) heL, rfl, rfl⟩
