abbrev svOk (a b f d : Int32) : Prop := (0 ≤ a ∧ a < 4) ∧ isP b = true ∧ (0 ≤ f ∧ f ≤ 1) ∧ (0 ≤ d ∧ d ≤ 3)
set_option maxHeartbeats 4000000 in
set_option maxRecDepth 100000 in
theorem k_K_serve (l : Launch) (hst : l.stackTraces = false) (D : va_G) (dA : Nat → ClassId) (base : Nat) (M : mM) (ad : Nat → Nat → Nat) (hw : wK M) (a k b f d : Int32) : mMetX l y_K_serve b_K_serve 7 none ({ frames := 6, cells := 1, slots := 6, locals := 100 } : Room) 1 6 D dA base M ad [.ref (ad 0 0), .int a, .int k, .int b, .int f, .int d] (fun rv M' ad' => svOk a b f d ∧ rv = none ∧ M' = si (si (si (si M 1 a.toNatClampNeg 0 k) 1 a.toNatClampNeg 1 b) 1 a.toNatClampNeg 2 f) 1 a.toNatClampNeg 3 d ∧ ad' = ad) (fun E => ¬ svOk a b f d ∧ E = "java/lang/IllegalArgumentException") := by
  refine m_startX (lvs := [(0, .ref (ad 0 0)), (1, .int a), (2, .int k), (3, .int b), (4, .int f), (5, .int d)]) (by decide) (Nat.le_of_ble_eq_true rfl) rfl ?_
  intro p e s m below meth c ls X hr hlk hin hml hM hl hno
  refine lv_iload_n X.1 X.2.1 d_K_serve_0 rfl (lv_at hl 1 rfl) ?_
  refine r_cS (As := [.int a]) (rest := []) X hml hl.1 hM (k_K_isScript l D dA base M ad a) c_K_68 v_K_isScript rfl (Nat.le_of_ble_eq_true rfl) ⟨rfl, rfl, Nat.le_of_ble_eq_true rfl, Nat.le_of_ble_eq_true rfl⟩ ⟨Nat.le_of_ble_eq_true rfl, Nat.le_of_ble_eq_true rfl⟩ d_K_serve_1 ?_
  intro rv M1 ad1 H locs hP hM hE
  obtain ⟨e1, e2, e3⟩ := hP
  subst rv; subst M1; subst ad1
  show W _ _ _ _ _ _ _ _ _ _ _ _ _ _ _ (F0 m 4 ls [.int (if 0 ≤ a ∧ a < 4 then 1 else 0)])
  refine lv_if_eq (tgt := 14) X.1 X.2.1 d_K_serve_4 (by decide) (fun h4 => ?_) (fun h4 => ?_)
  · skip
    exact r_throw X hst hml hl.1 hM hlk hno t_K_75_77_79 d_K_serve_14 d_K_serve_17 d_K_serve_18 d_K_serve_20 d_K_serve_23 ⟨Nat.le_of_ble_eq_true rfl, Nat.le_of_ble_eq_true rfl, Nat.le_of_ble_eq_true rfl, Nat.le_of_ble_eq_true rfl⟩ ⟨Nat.le_of_ble_eq_true rfl, Nat.le_of_ble_eq_true rfl⟩ ⟨fun z => be0 h4 z.1, rfl⟩
  · skip
    refine lv_iload_n X.1 X.2.1 d_K_serve_7 rfl (lv_at hl 3 rfl) ?_
    refine r_cS (As := [.int b]) (rest := []) X hml hl.1 hM (k_K_isPath l D dA base M ad b) c_K_72 v_K_isPath rfl (Nat.le_of_ble_eq_true rfl) ⟨rfl, rfl, Nat.le_of_ble_eq_true rfl, Nat.le_of_ble_eq_true rfl⟩ ⟨Nat.le_of_ble_eq_true rfl, Nat.le_of_ble_eq_true rfl⟩ d_K_serve_8 ?_
    intro rv M1 ad1 H locs hP hM hE
    obtain ⟨e1, e2, e3⟩ := hP
    subst rv; subst M1; subst ad1
    show W _ _ _ _ _ _ _ _ _ _ _ _ _ _ _ (F0 m 11 ls [.int (if isP b = true then 1 else 0)])
    refine lv_if_ne (tgt := 24) X.1 X.2.1 d_K_serve_11 (by decide) (fun h11 => ?_) (fun h11 => ?_)
    · skip
      refine lv_iload X.1 X.2.1 d_K_serve_24 (lv_at hl 4 rfl) ?_
      refine lv_if_lt (tgt := 46) X.1 X.2.1 d_K_serve_26 (by decide) (fun h26 => ?_) (fun h26 => ?_)
      · skip
        exact r_throw X hst hml hl.1 hM hlk hno t_K_75_82_79 d_K_serve_46 d_K_serve_49 d_K_serve_50 d_K_serve_52 d_K_serve_55 ⟨Nat.le_of_ble_eq_true rfl, Nat.le_of_ble_eq_true rfl, Nat.le_of_ble_eq_true rfl, Nat.le_of_ble_eq_true rfl⟩ ⟨Nat.le_of_ble_eq_true rfl, Nat.le_of_ble_eq_true rfl⟩ ⟨fun z => absurd h26 (Int32.not_lt.mpr z.2.2.1.1), rfl⟩
      · skip
        refine lv_iload X.1 X.2.1 d_K_serve_29 (lv_at hl 4 rfl) ?_
        refine lv_iconst (v := 1) X.1 X.2.1 d_K_serve_31 (by decide) ?_
        refine lv_icmp_gt (tgt := 46) X.1 X.2.1 d_K_serve_32 (by decide) (fun h32 => ?_) (fun h32 => ?_)
        · skip
          exact r_throw X hst hml hl.1 hM hlk hno t_K_75_82_79 d_K_serve_46 d_K_serve_49 d_K_serve_50 d_K_serve_52 d_K_serve_55 ⟨Nat.le_of_ble_eq_true rfl, Nat.le_of_ble_eq_true rfl, Nat.le_of_ble_eq_true rfl, Nat.le_of_ble_eq_true rfl⟩ ⟨Nat.le_of_ble_eq_true rfl, Nat.le_of_ble_eq_true rfl⟩ ⟨fun z => absurd h32 (Int32.not_lt.mpr z.2.2.1.2), rfl⟩
        · skip
          refine lv_iload X.1 X.2.1 d_K_serve_35 (lv_at hl 5 rfl) ?_
          refine lv_if_lt (tgt := 46) X.1 X.2.1 d_K_serve_37 (by decide) (fun h37 => ?_) (fun h37 => ?_)
          · skip
            exact r_throw X hst hml hl.1 hM hlk hno t_K_75_82_79 d_K_serve_46 d_K_serve_49 d_K_serve_50 d_K_serve_52 d_K_serve_55 ⟨Nat.le_of_ble_eq_true rfl, Nat.le_of_ble_eq_true rfl, Nat.le_of_ble_eq_true rfl, Nat.le_of_ble_eq_true rfl⟩ ⟨Nat.le_of_ble_eq_true rfl, Nat.le_of_ble_eq_true rfl⟩ ⟨fun z => absurd h37 (Int32.not_lt.mpr z.2.2.2.1), rfl⟩
          · skip
            refine lv_iload X.1 X.2.1 d_K_serve_40 (lv_at hl 5 rfl) ?_
            refine lv_iconst (v := 3) X.1 X.2.1 d_K_serve_42 (by decide) ?_
            refine lv_icmp_le (tgt := 56) X.1 X.2.1 d_K_serve_43 (by decide) (fun h43 => ?_) (fun h43 => ?_)
            · skip
              obtain ⟨j, hj, hxj⟩ : ∃ j : Nat, j < 4 ∧ a = nI j := by
                rcases pk_ix a (n := 4) (by omega) with u9 | u9 | ⟨j, u9, u8⟩
                · exact absurd u9 (Int32.not_lt.mpr (bn0 h4).1)
                · exact absurd u9 (Int32.not_le.mpr (bn0 h4).2)
                · exact ⟨j, u9, u8⟩
              have hcl : a.toNatClampNeg = j := by rw [hxj]; exact nI_clamp (by omega)
              refine lv_aload_n X.1 X.2.1 d_K_serve_56 rfl (lv_at hl 0 rfl) ?_
              refine r_gets (q := 0) X hM rfl (w_k hw) f_K_11 rfl (w_0_0 hw) d_K_serve_57 (fun hv3 => ?_)
              refine lv_iload_n X.1 X.2.1 d_K_serve_60 rfl (lv_at hl 1 rfl) ?_
              refine r_aalds (q := j) X hM rfl hv3 a_scripts (fun _ => rfl) (j := j) hxj hj (w_sc hw hj) d_K_serve_61 (fun hv4 => ?_)
              refine lv_astore (lv' := [(6, .ref (ad 1 j)), (0, .ref (ad 0 0)), (1, .int a), (2, .int k), (3, .int b), (4, .int f), (5, .int d)]) X.1 X.2.1 d_K_serve_62 hl (by decide) rfl (fun ls hl => ?_)
              refine lv_aload X.1 X.2.1 d_K_serve_64 (lv_at hl 0 rfl) ?_
              refine lv_iload_n X.1 X.2.1 d_K_serve_66 rfl (lv_at hl 3 rfl) ?_
              refine r_puti X hM rfl hv4 p_K_84 rfl rfl rfl d_K_serve_67 (fun H locs hM => ?_)
              refine lv_aload X.1 X.2.1 d_K_serve_70 (lv_at hl 0 rfl) ?_
              refine lv_iload_n X.1 X.2.1 d_K_serve_72 rfl (lv_at hl 4 rfl) ?_
              refine r_puti X hM rfl hv4 p_K_87 rfl rfl rfl d_K_serve_73 (fun H locs hM => ?_)
              refine lv_aload X.1 X.2.1 d_K_serve_76 (lv_at hl 0 rfl) ?_
              refine lv_iload X.1 X.2.1 d_K_serve_78 (lv_at hl 5 rfl) ?_
              refine r_puti X hM rfl hv4 p_K_90 rfl rfl rfl d_K_serve_80 (fun H locs hM => ?_)
              refine lv_aload X.1 X.2.1 d_K_serve_83 (lv_at hl 0 rfl) ?_
              refine lv_iload X.1 X.2.1 d_K_serve_85 (lv_at hl 6 rfl) ?_
              refine r_puti X hM rfl hv4 p_K_93 rfl rfl rfl d_K_serve_87 (fun H locs hM => ?_)
              refine vx_ret ?_
              exact m_vret X hr hlk hM d_K_serve_90 ⟨Nat.le_of_ble_eq_true rfl, Nat.le_of_ble_eq_true rfl⟩ ⟨fun _ _ _ => rfl, fun _ => Nat.le_refl _⟩ ⟨⟨bn0 h4, bn0 h11, ⟨Int32.not_lt.mp h26, Int32.not_lt.mp h32⟩, ⟨Int32.not_lt.mp h37, h43⟩⟩, rfl, by rw [hcl], rfl⟩
            · skip
              exact r_throw X hst hml hl.1 hM hlk hno t_K_75_82_79 d_K_serve_46 d_K_serve_49 d_K_serve_50 d_K_serve_52 d_K_serve_55 ⟨Nat.le_of_ble_eq_true rfl, Nat.le_of_ble_eq_true rfl, Nat.le_of_ble_eq_true rfl, Nat.le_of_ble_eq_true rfl⟩ ⟨Nat.le_of_ble_eq_true rfl, Nat.le_of_ble_eq_true rfl⟩ ⟨fun z => h43 z.2.2.2.2, rfl⟩
    · skip
      exact r_throw X hst hml hl.1 hM hlk hno t_K_75_77_79 d_K_serve_14 d_K_serve_17 d_K_serve_18 d_K_serve_20 d_K_serve_23 ⟨Nat.le_of_ble_eq_true rfl, Nat.le_of_ble_eq_true rfl, Nat.le_of_ble_eq_true rfl, Nat.le_of_ble_eq_true rfl⟩ ⟨Nat.le_of_ble_eq_true rfl, Nat.le_of_ble_eq_true rfl⟩ ⟨fun z => be0 h11 z.2.1, rfl⟩
abbrev jOk (M : mM) (x : Int32) : Prop := 0 ≤ x ∧ x < gi M 0 0 10
set_option maxHeartbeats 4000000 in
set_option maxRecDepth 100000 in
theorem k_K_outcome (l : Launch) (hst : l.stackTraces = false) (D : va_G) (dA : Nat → ClassId) (base : Nat) (M : mM) (ad : Nat → Nat → Nat) (hw : wK M) (x : Int32) : mMetX l y_K_outcome b_K_outcome 2 (some FieldType.int) ({ frames := 6, cells := 1, slots := 6, locals := 100 } : Room) 1 6 D dA base M ad [.ref (ad 0 0), .int x] (fun rv M' ad' => jOk M x ∧ rv = some (.int (gi M 4 x.toNatClampNeg 5)) ∧ M' = M ∧ ad' = ad) (fun E => ¬ jOk M x ∧ E = "java/lang/IndexOutOfBoundsException") := by
  refine m_startX (lvs := [(0, .ref (ad 0 0)), (1, .int x)]) (by decide) (Nat.le_of_ble_eq_true rfl) rfl ?_
  intro p e s m below meth c ls X hr hlk hin hml hM hl hno
  refine lv_iload_n X.1 X.2.1 d_K_outcome_0 rfl (lv_at hl 1 rfl) ?_
  refine lv_if_lt (tgt := 12) X.1 X.2.1 d_K_outcome_1 (by decide) (fun h1 => ?_) (fun h1 => ?_)
  · skip
    exact r_throwW X hst hml hl.1 hM hlk hno t_K_243_263_247 d_K_outcome_12 d_K_outcome_15 d_K_outcome_16 d_K_outcome_19 d_K_outcome_22 ⟨Nat.le_of_ble_eq_true rfl, Nat.le_of_ble_eq_true rfl, Nat.le_of_ble_eq_true rfl, Nat.le_of_ble_eq_true rfl⟩ ⟨Nat.le_of_ble_eq_true rfl, Nat.le_of_ble_eq_true rfl⟩ ⟨fun z => absurd h1 (Int32.not_lt.mpr z.1), rfl⟩
  · skip
    refine lv_iload_n X.1 X.2.1 d_K_outcome_4 rfl (lv_at hl 1 rfl) ?_
    refine lv_aload_n X.1 X.2.1 d_K_outcome_5 rfl (lv_at hl 0 rfl) ?_
    refine r_geti X hM rfl (w_k hw) f_K_56 rfl d_K_outcome_6 ?_
    refine lv_icmp_lt (tgt := 23) X.1 X.2.1 d_K_outcome_9 (by decide) (fun h9 => ?_) (fun h9 => ?_)
    · skip
      have hN := w_njl hw
      obtain ⟨j, hj, hxj⟩ : ∃ j : Nat, j < (gn M 4) ∧ x = nI j := by
        rcases pk_ix x (n := (gn M 4)) (by omega) with u9 | u9 | ⟨j, u9, u8⟩
        · exact absurd u9 (h1)
        · exact absurd u9 (by rw [← w_nj hw]; exact Int32.not_le.mpr h9)
        · exact ⟨j, u9, u8⟩
      have hcl : x.toNatClampNeg = j := by rw [hxj]; exact nI_clamp (by omega)
      refine lv_aload_n X.1 X.2.1 d_K_outcome_23 rfl (lv_at hl 0 rfl) ?_
      refine r_gets (q := 0) X hM rfl (w_k hw) f_K_52 rfl (w_0_9 hw) d_K_outcome_24 (fun hv1 => ?_)
      refine lv_iload_n X.1 X.2.1 d_K_outcome_27 rfl (lv_at hl 1 rfl) ?_
      refine r_aalds (q := j) X hM rfl hv1 a_jobs (fun _ => rfl) (j := j) hxj (by omega) (w_jb hw hj) d_K_outcome_28 (fun hv2 => ?_)
      refine r_geti X hM rfl hv2 f_K_147 rfl d_K_outcome_29 ?_
      refine vx_ret ?_
      exact m_iret X hr hlk hM d_K_outcome_32 ⟨Nat.le_of_ble_eq_true rfl, Nat.le_of_ble_eq_true rfl⟩ (mExt_rf _ _) ⟨⟨Int32.not_lt.mp h1, h9⟩, by rw [hcl], rfl, rfl⟩
    · skip
      exact r_throwW X hst hml hl.1 hM hlk hno t_K_243_263_247 d_K_outcome_12 d_K_outcome_15 d_K_outcome_16 d_K_outcome_19 d_K_outcome_22 ⟨Nat.le_of_ble_eq_true rfl, Nat.le_of_ble_eq_true rfl, Nat.le_of_ble_eq_true rfl, Nat.le_of_ble_eq_true rfl⟩ ⟨Nat.le_of_ble_eq_true rfl, Nat.le_of_ble_eq_true rfl⟩ ⟨fun z => h9 z.2, rfl⟩
def rgW (M : mM) (g : Nat) (w : Int32) : Int32 := if w = 0 then gi M 5 g 1 else if w = 1 then num M (gr M 5 g 2) else if w = 2 then num M (gr M 5 g 3) else if w = 3 then num M (gr M 5 g 4) else if gi M 5 g 5 = 0 then 0 else 1
def rgXc (M : mM) (x w : Int32) : Nat := if ¬ (0 ≤ w ∧ w ≤ 4) ∨ isP x = false then 1 else if rgOf M x = none then 2 else 0
set_option maxHeartbeats 4000000 in
set_option maxRecDepth 100000 in
theorem k_K_registration (l : Launch) (hst : l.stackTraces = false) (D : va_G) (dA : Nat → ClassId) (base : Nat) (M : mM) (ad : Nat → Nat → Nat) (hw : wK M) (x w : Int32) : mMetX l y_K_registration b_K_registration 4 (some FieldType.int) ({ frames := 8, cells := 3, slots := 18, locals := 170 } : Room) 3 18 D dA base M ad [.ref (ad 0 0), .int x, .int w] (fun rv M' ad' => ∃ g, rgXc M x w = 0 ∧ rgOf M x = some g ∧ rv = some (.int (rgW M g w)) ∧ M' = M ∧ ad' = ad) (fun E => (rgXc M x w = 1 ∧ E = "java/lang/IllegalArgumentException") ∨ (rgXc M x w = 2 ∧ E = "java/util/NoSuchElementException")) := by
  refine m_startX (lvs := [(0, .ref (ad 0 0)), (1, .int x), (2, .int w)]) (by decide) (Nat.le_of_ble_eq_true rfl) rfl ?_
  intro p e s m below meth c ls X hr hlk hin hml hM hl hno
  refine lv_iload_n X.1 X.2.1 d_K_registration_0 rfl (lv_at hl 2 rfl) ?_
  refine lv_if_lt (tgt := 9) X.1 X.2.1 d_K_registration_1 (by decide) (fun h1 => ?_) (fun h1 => ?_)
  · skip
    exact r_throw X hst hml hl.1 hM hlk hno t_K_75_233_79 d_K_registration_9 d_K_registration_12 d_K_registration_13 d_K_registration_15 d_K_registration_18 ⟨Nat.le_of_ble_eq_true rfl, Nat.le_of_ble_eq_true rfl, Nat.le_of_ble_eq_true rfl, Nat.le_of_ble_eq_true rfl⟩ ⟨Nat.le_of_ble_eq_true rfl, Nat.le_of_ble_eq_true rfl⟩ (Or.inl ⟨if_pos (Or.inl (fun z => absurd h1 (Int32.not_lt.mpr z.1))), rfl⟩)
  · skip
    refine lv_iload_n X.1 X.2.1 d_K_registration_4 rfl (lv_at hl 2 rfl) ?_
    refine lv_iconst (v := 4) X.1 X.2.1 d_K_registration_5 (by decide) ?_
    refine lv_icmp_le (tgt := 19) X.1 X.2.1 d_K_registration_6 (by decide) (fun h6 => ?_) (fun h6 => ?_)
    · skip
      refine lv_aload_n X.1 X.2.1 d_K_registration_19 rfl (lv_at hl 0 rfl) ?_
      refine lv_iload_n X.1 X.2.1 d_K_registration_20 rfl (lv_at hl 1 rfl) ?_
      refine r_cVX (As := [.int x]) (rest := []) X hml hl.1 hM (k_K_needRegistration l hst D dA base M ad hw x) c_K_187 cx_K_187 v_K_needRegistration kc_K rfl (w_k hw) rfl (Nat.le_of_ble_eq_true rfl) ⟨rfl, rfl, Nat.le_of_ble_eq_true rfl, Nat.le_of_ble_eq_true rfl⟩ ⟨Nat.le_of_ble_eq_true rfl, Nat.le_of_ble_eq_true rfl⟩ d_K_registration_21 (fun E ce q H locs hPx hM hy1 hy2 hy3 => m_out hM hlk hno (by rcases hPx with ⟨z1, z2⟩ | ⟨z1, z2, z3⟩; exact Or.inl ⟨if_pos (Or.inr z1), z2⟩; exact Or.inr ⟨by unfold rgXc; rw [if_neg (by rintro (z | z); exact z ⟨Int32.not_lt.mp h1, h6⟩; rw [z1] at z; cases z), if_pos z2], z3⟩) hy1 hy2 hy3 ⟨Nat.le_of_ble_eq_true rfl, Nat.le_of_ble_eq_true rfl⟩) ?_
      intro rv M1 ad1 H locs hP hM hE
      obtain ⟨g, hp, hg, e1, e2, e3⟩ := hP
      subst rv; subst M1; subst ad1
      have hgl := rgOf_lv hM hw _ hg
      show W _ _ _ _ _ _ _ _ _ _ _ _ _ _ _ (F0 m 24 ls [.ref (ad 5 g)])
      refine lv_astore_n (lv' := [(3, .ref (ad 5 g)), (0, .ref (ad 0 0)), (1, .int x), (2, .int w)]) X.1 X.2.1 d_K_registration_24 rfl hl (by decide) rfl (fun ls hl => ?_)
      refine lv_iload_n X.1 X.2.1 d_K_registration_25 rfl (lv_at hl 3 rfl) ?_
      by_cases hs_0 : w = 0
      · skip
        refine W.eq (g2 := F0 m 26 ls (.int 0 :: [])) (by rw [hs_0]) ?_
        refine lv_tableIn (tgt := 56) X.1 X.2.1 d_K_registration_26 (by decide) (by decide) rfl (by decide) ?_
        refine lv_aload_n X.1 X.2.1 d_K_registration_56 rfl (lv_at hl 0 rfl) ?_
        refine r_geti X hM rfl hgl f_K_235 rfl d_K_registration_57 ?_
        refine vx_ret ?_
        exact m_iret X hr hlk hM d_K_registration_60 ⟨Nat.le_of_ble_eq_true rfl, Nat.le_of_ble_eq_true rfl⟩ (mExt_rf _ _) ⟨g, by unfold rgXc; rw [if_neg (by rintro (z | z); exact z ⟨Int32.not_lt.mp h1, h6⟩; rw [hp] at z; cases z), if_neg (by rw [hg]; exact (fun z => nomatch z))], hg, congrArg (fun z => some (Value.int z)) (Eq.symm (by unfold rgW; rw [if_pos hs_0])), rfl, rfl⟩
      by_cases hs_1 : w = 1
      · skip
        refine W.eq (g2 := F0 m 26 ls (.int 1 :: [])) (by rw [hs_1]) ?_
        refine lv_tableIn (tgt := 61) X.1 X.2.1 d_K_registration_26 (by decide) (by decide) rfl (by decide) ?_
        refine lv_aload_n X.1 X.2.1 d_K_registration_61 rfl (lv_at hl 0 rfl) ?_
        refine r_getr X hM rfl hgl f_K_199 rfl d_K_registration_62 (fun hv2 => ?_)
        refine r_cS (As := [rfv ad 7 (gr M 5 g 2)]) (rest := []) X hml hl.1 hM (k_K_numberOf l D dA base M ad (gr M 5 g 2) hv2) c_K_183 v_K_numberOf rfl (Nat.le_of_ble_eq_true rfl) ⟨rfl, rfl, Nat.le_of_ble_eq_true rfl, Nat.le_of_ble_eq_true rfl⟩ ⟨Nat.le_of_ble_eq_true rfl, Nat.le_of_ble_eq_true rfl⟩ d_K_registration_65 ?_
        intro rv M1 ad1 H locs hP hM hE
        obtain ⟨e1, e2, e3⟩ := hP
        subst rv; subst M1; subst ad1
        show W _ _ _ _ _ _ _ _ _ _ _ _ _ _ _ (F0 m 68 ls [.int (num M (gr M 5 g 2))])
        refine vx_ret ?_
        exact m_iret X hr hlk hM d_K_registration_68 ⟨Nat.le_of_ble_eq_true rfl, Nat.le_of_ble_eq_true rfl⟩ (mExt_rf _ _) ⟨g, by unfold rgXc; rw [if_neg (by rintro (z | z); exact z ⟨Int32.not_lt.mp h1, h6⟩; rw [hp] at z; cases z), if_neg (by rw [hg]; exact (fun z => nomatch z))], hg, congrArg (fun z => some (Value.int z)) (Eq.symm (by unfold rgW; rw [if_neg hs_0, if_pos hs_1])), rfl, rfl⟩
      by_cases hs_2 : w = 2
      · skip
        refine W.eq (g2 := F0 m 26 ls (.int 2 :: [])) (by rw [hs_2]) ?_
        refine lv_tableIn (tgt := 69) X.1 X.2.1 d_K_registration_26 (by decide) (by decide) rfl (by decide) ?_
        refine lv_aload_n X.1 X.2.1 d_K_registration_69 rfl (lv_at hl 0 rfl) ?_
        refine r_getr X hM rfl hgl f_K_196 rfl d_K_registration_70 (fun hv4 => ?_)
        refine r_cS (As := [rfv ad 7 (gr M 5 g 3)]) (rest := []) X hml hl.1 hM (k_K_numberOf l D dA base M ad (gr M 5 g 3) hv4) c_K_183 v_K_numberOf rfl (Nat.le_of_ble_eq_true rfl) ⟨rfl, rfl, Nat.le_of_ble_eq_true rfl, Nat.le_of_ble_eq_true rfl⟩ ⟨Nat.le_of_ble_eq_true rfl, Nat.le_of_ble_eq_true rfl⟩ d_K_registration_73 ?_
        intro rv M1 ad1 H locs hP hM hE
        obtain ⟨e1, e2, e3⟩ := hP
        subst rv; subst M1; subst ad1
        show W _ _ _ _ _ _ _ _ _ _ _ _ _ _ _ (F0 m 76 ls [.int (num M (gr M 5 g 3))])
        refine vx_ret ?_
        exact m_iret X hr hlk hM d_K_registration_76 ⟨Nat.le_of_ble_eq_true rfl, Nat.le_of_ble_eq_true rfl⟩ (mExt_rf _ _) ⟨g, by unfold rgXc; rw [if_neg (by rintro (z | z); exact z ⟨Int32.not_lt.mp h1, h6⟩; rw [hp] at z; cases z), if_neg (by rw [hg]; exact (fun z => nomatch z))], hg, congrArg (fun z => some (Value.int z)) (Eq.symm (by unfold rgW; rw [if_neg hs_0, if_neg hs_1, if_pos hs_2])), rfl, rfl⟩
      by_cases hs_3 : w = 3
      · skip
        refine W.eq (g2 := F0 m 26 ls (.int 3 :: [])) (by rw [hs_3]) ?_
        refine lv_tableIn (tgt := 77) X.1 X.2.1 d_K_registration_26 (by decide) (by decide) rfl (by decide) ?_
        refine lv_aload_n X.1 X.2.1 d_K_registration_77 rfl (lv_at hl 0 rfl) ?_
        refine r_getr X hM rfl hgl f_K_169 rfl d_K_registration_78 (fun hv6 => ?_)
        refine r_cS (As := [rfv ad 7 (gr M 5 g 4)]) (rest := []) X hml hl.1 hM (k_K_numberOf l D dA base M ad (gr M 5 g 4) hv6) c_K_183 v_K_numberOf rfl (Nat.le_of_ble_eq_true rfl) ⟨rfl, rfl, Nat.le_of_ble_eq_true rfl, Nat.le_of_ble_eq_true rfl⟩ ⟨Nat.le_of_ble_eq_true rfl, Nat.le_of_ble_eq_true rfl⟩ d_K_registration_81 ?_
        intro rv M1 ad1 H locs hP hM hE
        obtain ⟨e1, e2, e3⟩ := hP
        subst rv; subst M1; subst ad1
        show W _ _ _ _ _ _ _ _ _ _ _ _ _ _ _ (F0 m 84 ls [.int (num M (gr M 5 g 4))])
        refine vx_ret ?_
        exact m_iret X hr hlk hM d_K_registration_84 ⟨Nat.le_of_ble_eq_true rfl, Nat.le_of_ble_eq_true rfl⟩ (mExt_rf _ _) ⟨g, by unfold rgXc; rw [if_neg (by rintro (z | z); exact z ⟨Int32.not_lt.mp h1, h6⟩; rw [hp] at z; cases z), if_neg (by rw [hg]; exact (fun z => nomatch z))], hg, congrArg (fun z => some (Value.int z)) (Eq.symm (by unfold rgW; rw [if_neg hs_0, if_neg hs_1, if_neg hs_2, if_pos hs_3])), rfl, rfl⟩
      refine lv_tableOut (tgt := 85) X.1 X.2.1 d_K_registration_26 (by have a0 := lv_neT hs_0 (a := 0) rfl; have a1 := lv_neT hs_1 (a := 1) rfl; have a2 := lv_neT hs_2 (a := 2) rfl; have a3 := lv_neT hs_3 (a := 3) rfl; omega) (by decide) ?_
      refine lv_aload_n X.1 X.2.1 d_K_registration_85 rfl (lv_at hl 0 rfl) ?_
      refine r_geti X hM rfl hgl f_K_236 rfl d_K_registration_86 ?_
      refine lv_if_eq (tgt := 96) X.1 X.2.1 d_K_registration_89 (by decide) (fun h89 => ?_) (fun h89 => ?_)
      · skip
        refine lv_iconst (v := 0) X.1 X.2.1 d_K_registration_96 (by decide) ?_
        refine vx_ret ?_
        exact m_iret X hr hlk hM d_K_registration_97 ⟨Nat.le_of_ble_eq_true rfl, Nat.le_of_ble_eq_true rfl⟩ (mExt_rf _ _) ⟨g, by unfold rgXc; rw [if_neg (by rintro (z | z); exact z ⟨Int32.not_lt.mp h1, h6⟩; rw [hp] at z; cases z), if_neg (by rw [hg]; exact (fun z => nomatch z))], hg, congrArg (fun z => some (Value.int z)) (Eq.symm (by unfold rgW; rw [if_neg hs_0, if_neg hs_1, if_neg hs_2, if_neg hs_3]; rw [if_pos h89])), rfl, rfl⟩
      · skip
        refine lv_iconst (v := 1) X.1 X.2.1 d_K_registration_92 (by decide) ?_
        refine lv_goto (tgt := 97) X.1 X.2.1 d_K_registration_93 (by decide) ?_
        refine vx_ret ?_
        exact m_iret X hr hlk hM d_K_registration_97 ⟨Nat.le_of_ble_eq_true rfl, Nat.le_of_ble_eq_true rfl⟩ (mExt_rf _ _) ⟨g, by unfold rgXc; rw [if_neg (by rintro (z | z); exact z ⟨Int32.not_lt.mp h1, h6⟩; rw [hp] at z; cases z), if_neg (by rw [hg]; exact (fun z => nomatch z))], hg, congrArg (fun z => some (Value.int z)) (Eq.symm (by unfold rgW; rw [if_neg hs_0, if_neg hs_1, if_neg hs_2, if_neg hs_3]; rw [if_neg h89])), rfl, rfl⟩
    · skip
      exact r_throw X hst hml hl.1 hM hlk hno t_K_75_233_79 d_K_registration_9 d_K_registration_12 d_K_registration_13 d_K_registration_15 d_K_registration_18 ⟨Nat.le_of_ble_eq_true rfl, Nat.le_of_ble_eq_true rfl, Nat.le_of_ble_eq_true rfl, Nat.le_of_ble_eq_true rfl⟩ ⟨Nat.le_of_ble_eq_true rfl, Nat.le_of_ble_eq_true rfl⟩ (Or.inl ⟨if_pos (Or.inl (fun z => h6 z.2)), rfl⟩)
