def m_registration (r : rR) (a0 : Int32) (a1 : Int32) : Int32 × rR := (if (m_isPath a0) = 0 then ((m_fail r 1).1, (m_fail r 1).2) else (if (m_in a1 0 4) = 0 then ((m_fail r 1).1, (m_fail r 1).2) else (if 0 ≤ (m_find r a0) then (if a1 = 0 then (r 33 ((m_find r a0).toNatClampNeg), (ru r 18 34 0)) else (if a1 = 1 then (r 34 ((m_find r a0).toNatClampNeg), (ru r 18 34 0)) else (if a1 = 2 then (r 35 ((m_find r a0).toNatClampNeg), (ru r 18 34 0)) else (if a1 = 3 then (r 36 ((m_find r a0).toNatClampNeg), (ru r 18 34 0)) else (if (r 37 ((m_find r a0).toNatClampNeg)) = 0 then (0, (ru r 18 34 0)) else (1, (ru r 18 34 0))))))) else ((m_fail r 2).1, (m_fail r 2).2))))
def m_registration_ok (r : rR) (a0 : Int32) (a1 : Int32) : Prop := (m_isPath_ok a0) ∧ ((((m_isPath a0) = 0) → (True)) ∧ (¬ ((m_isPath a0) = 0) → ((((m_in a1 0 4) = 0) → (True)) ∧ (¬ ((m_in a1 0 4) = 0) → ((m_find_ok r a0) ∧ (((0 ≤ (m_find r a0)) → (((a1 = 0) → (ixk (m_find r a0) 6)) ∧ (¬ (a1 = 0) → (((a1 = 1) → (ixk (m_find r a0) 6)) ∧ (¬ (a1 = 1) → (((a1 = 2) → (ixk (m_find r a0) 6)) ∧ (¬ (a1 = 2) → (((a1 = 3) → (ixk (m_find r a0) 6)) ∧ (¬ (a1 = 3) → (ixk (m_find r a0) 6)))))))))) ∧ (¬ (0 ≤ (m_find r a0)) → (True))))))))
set_option maxHeartbeats 4000000 in
set_option maxRecDepth 100000 in
theorem k_Md_registration (l : Launch) (D : va_G) (dA : Nat → ClassId) (base : Nat) (M : mM) (ad : Nat → Nat → Nat) (hR : wR M) (r : rR) (a0 : Int32) (a1 : Int32) (hk : m_registration_ok r a0 a1) : mMet l y_Md_registration b_Md_registration 4 (some FieldType.int) ({ frames := 2, cells := 0, slots := 0, locals := 43 } : Room) 0 0 D dA base (rs M r) ad [.ref (ad 18 0), .int a0, .int a1] (fun rv M' ad' => rv = some (.int (m_registration r a0 a1).1) ∧ M' = rs M (m_registration r a0 a1).2 ∧ ad' = ad) := by
  refine m_start (lvs := [(0, .ref (ad 18 0)), (1, .int a0), (2, .int a1)]) (by decide) (Nat.le_of_ble_eq_true rfl) rfl ?_
  intro p e s m below meth c ls X hr hlk hin hml hM hl
  generalize he : m_registration r a0 a1 = F
  refine lv_iload_n X.1 X.2.1 d_Md_registration_0 rfl (lv_at hl 1 rfl) ?_
  obtain ⟨o1, hk⟩ := hk
  refine r_cS (As := [.int a0]) (rest := []) X hml hl.1 hM (k_Md_isPath l D dA base (rs M r) ad a0 o1) c_Md_118 v_Md_isPath rfl (Nat.le_of_ble_eq_true rfl) ⟨rfl, rfl, Nat.le_of_ble_eq_true rfl, Nat.le_of_ble_eq_true rfl⟩ ⟨Nat.le_of_ble_eq_true rfl, Nat.le_of_ble_eq_true rfl⟩ d_Md_registration_1 ?_
  intro rv M1 ad1 H locs hP hM hE
  obtain ⟨e1, e2, e3⟩ := hP
  subst rv; subst M1; subst ad1
  show W _ _ _ _ _ _ _ _ _ _ _ _ _ _ _ (F0 m 4 ls [.int (m_isPath a0)])
  refine lv_if_eq (tgt := 16) X.1 X.2.1 d_Md_registration_4 (by decide) (fun h2 => ?_) (fun h2 => ?_)
  · skip
    have hk := hk.1 h2
    refine lv_aload_n X.1 X.2.1 d_Md_registration_16 rfl (lv_at hl 0 rfl) ?_
    refine lv_iconst (v := 1) X.1 X.2.1 d_Md_registration_17 (by decide) ?_
    refine r_cV (As := [.int 1]) (rest := []) X hml hl.1 hM (k_Md_fail l D dA base M ad hR r 1) c_Md_161 v_Md_fail kc_Md rfl hR.1 rfl (Nat.le_of_ble_eq_true rfl) ⟨rfl, rfl, Nat.le_of_ble_eq_true rfl, Nat.le_of_ble_eq_true rfl⟩ ⟨Nat.le_of_ble_eq_true rfl, Nat.le_of_ble_eq_true rfl⟩ d_Md_registration_18 ?_
    intro rv M1 ad1 H locs hP hM hE
    obtain ⟨e1, e2, e3⟩ := hP
    subst rv; subst M1; subst ad1
    show W _ _ _ _ _ _ _ _ _ _ _ _ _ _ _ (F0 m 21 ls [.int ((m_fail r 1).1)])
    have heL : ((m_fail r 1).1, (m_fail r 1).2) = F := ((if_pos h2)).symm.trans he
    exact m_iret X hr hlk hM d_Md_registration_21 ⟨Nat.le_of_ble_eq_true rfl, Nat.le_of_ble_eq_true rfl⟩ ⟨fun _ _ _ => rfl, fun _ => Nat.le_refl _⟩ ⟨congrArg (fun z => some (Value.int z.1)) heL, congrArg (fun z => rs M z.2) heL, rfl⟩
  · skip
    have hk := hk.2 h2
    refine lv_iload_n X.1 X.2.1 d_Md_registration_7 rfl (lv_at hl 2 rfl) ?_
    refine lv_iconst (v := 0) X.1 X.2.1 d_Md_registration_8 (by decide) ?_
    refine lv_iconst (v := 4) X.1 X.2.1 d_Md_registration_9 (by decide) ?_
    refine r_cS (As := [.int a1, .int 0, .int 4]) (rest := []) X hml hl.1 hM (k_Md_in l D dA base (rs M r) ad a1 0 4) c_Md_103 v_Md_in rfl (Nat.le_of_ble_eq_true rfl) ⟨rfl, rfl, Nat.le_of_ble_eq_true rfl, Nat.le_of_ble_eq_true rfl⟩ ⟨Nat.le_of_ble_eq_true rfl, Nat.le_of_ble_eq_true rfl⟩ d_Md_registration_10 ?_
    intro rv M1 ad1 H locs hP hM hE
    obtain ⟨e1, e2, e3⟩ := hP
    subst rv; subst M1; subst ad1
    show W _ _ _ _ _ _ _ _ _ _ _ _ _ _ _ (F0 m 13 ls [.int (m_in a1 0 4)])
    refine lv_if_ne (tgt := 22) X.1 X.2.1 d_Md_registration_13 (by decide) (fun h3 => ?_) (fun h3 => ?_)
    · skip
      have hk := hk.2 h3
      refine lv_aload_n X.1 X.2.1 d_Md_registration_22 rfl (lv_at hl 0 rfl) ?_
      refine lv_iload_n X.1 X.2.1 d_Md_registration_23 rfl (lv_at hl 1 rfl) ?_
      obtain ⟨o4, hk⟩ := hk
      refine r_cV (As := [.int a0]) (rest := []) X hml hl.1 hM (k_Md_find l D dA base M ad hR r a0 o4) c_Md_167 v_Md_find kc_Md rfl hR.1 rfl (Nat.le_of_ble_eq_true rfl) ⟨rfl, rfl, Nat.le_of_ble_eq_true rfl, Nat.le_of_ble_eq_true rfl⟩ ⟨Nat.le_of_ble_eq_true rfl, Nat.le_of_ble_eq_true rfl⟩ d_Md_registration_24 ?_
      intro rv M1 ad1 H locs hP hM hE
      obtain ⟨e1, e2, e3⟩ := hP
      subst rv; subst M1; subst ad1
      show W _ _ _ _ _ _ _ _ _ _ _ _ _ _ _ (F0 m 27 ls [.int (m_find r a0)])
      refine lv_istore_n (lv' := [(3, .int (m_find r a0)), (0, .ref (ad 18 0)), (1, .int a0), (2, .int a1)]) X.1 X.2.1 d_Md_registration_27 rfl hl (by decide) rfl (fun ls hl => ?_)
      refine lv_iload_n X.1 X.2.1 d_Md_registration_28 rfl (lv_at hl 0 rfl) ?_
      refine lv_if_ge (tgt := 38) X.1 X.2.1 d_Md_registration_29 (by decide) (fun h5 => ?_) (fun h5 => ?_)
      · skip
        have hk := hk.1 h5
        refine lv_aload_n X.1 X.2.1 d_Md_registration_38 rfl (lv_at hl 1 rfl) ?_
        refine lv_iconst (v := 0) X.1 X.2.1 d_Md_registration_39 (by decide) ?_
        refine R_puti (k := 18) X hM (by decide) rfl hR.1 p_Md_98 rfl rfl rfl d_Md_registration_40 (fun H locs hM => ?_)
        refine lv_iload_n X.1 X.2.1 d_Md_registration_43 rfl (lv_at hl 3 rfl) ?_
        refine lv_if_ne (tgt := 56) X.1 X.2.1 d_Md_registration_44 (by decide) (fun h6 => ?_) (fun h6 => ?_)
        · skip
          have hk := hk.2 h6
          refine lv_iload_n X.1 X.2.1 d_Md_registration_56 rfl (lv_at hl 3 rfl) ?_
          refine lv_iconst (v := 1) X.1 X.2.1 d_Md_registration_57 (by decide) ?_
          refine lv_icmp_ne (tgt := 70) X.1 X.2.1 d_Md_registration_58 (by decide) (fun h7 => ?_) (fun h7 => ?_)
          · skip
            have hk := hk.2 h7
            refine lv_iload_n X.1 X.2.1 d_Md_registration_70 rfl (lv_at hl 3 rfl) ?_
            refine lv_iconst (v := 2) X.1 X.2.1 d_Md_registration_71 (by decide) ?_
            refine lv_icmp_ne (tgt := 84) X.1 X.2.1 d_Md_registration_72 (by decide) (fun h8 => ?_) (fun h8 => ?_)
            · skip
              have hk := hk.2 h8
              refine lv_iload_n X.1 X.2.1 d_Md_registration_84 rfl (lv_at hl 3 rfl) ?_
              refine lv_iconst (v := 3) X.1 X.2.1 d_Md_registration_85 (by decide) ?_
              refine lv_icmp_ne (tgt := 98) X.1 X.2.1 d_Md_registration_86 (by decide) (fun h9 => ?_) (fun h9 => ?_)
              · skip
                have hk := hk.2 h9
                refine lv_aload_n X.1 X.2.1 d_Md_registration_98 rfl (lv_at hl 1 rfl) ?_
                refine r_gets (q := 0) X hM rfl hR.1 f_Md_65 rfl (hR.2 18 (by decide)) d_Md_registration_99 (fun g10 => ?_)
                refine lv_iload_n X.1 X.2.1 d_Md_registration_102 rfl (lv_at hl 0 rfl) ?_
                have o11 := hk
                refine R_zald (k := 37) X hM (by decide) rfl g10 a_m_leaving (fun _ => rfl) o11.1 o11.2 d_Md_registration_103 ?_
                show W _ _ _ _ _ _ _ _ _ _ _ _ _ _ _ (F0 m 104 ls [.int (r 37 ((m_find r a0).toNatClampNeg))])
                refine lv_if_eq (tgt := 111) X.1 X.2.1 d_Md_registration_104 (by decide) (fun h12 => ?_) (fun h12 => ?_)
                · skip
                  skip
                  refine lv_iconst (v := 0) X.1 X.2.1 d_Md_registration_111 (by decide) ?_
                  have heL : (0, (ru r 18 34 0)) = F := ((if_neg h2).trans ((if_neg h3).trans ((if_pos h5).trans ((if_neg h6).trans ((if_neg h7).trans ((if_neg h8).trans ((if_neg h9).trans ((if_pos h12))))))))).symm.trans he
                  exact m_iret X hr hlk hM d_Md_registration_112 ⟨Nat.le_of_ble_eq_true rfl, Nat.le_of_ble_eq_true rfl⟩ ⟨fun _ _ _ => rfl, fun _ => Nat.le_refl _⟩ ⟨congrArg (fun z => some (Value.int z.1)) heL, congrArg (fun z => rs M z.2) heL, rfl⟩
                · skip
                  skip
                  refine lv_iconst (v := 1) X.1 X.2.1 d_Md_registration_107 (by decide) ?_
                  refine lv_goto (tgt := 112) X.1 X.2.1 d_Md_registration_108 (by decide) ?_
                  have heL : (1, (ru r 18 34 0)) = F := ((if_neg h2).trans ((if_neg h3).trans ((if_pos h5).trans ((if_neg h6).trans ((if_neg h7).trans ((if_neg h8).trans ((if_neg h9).trans ((if_neg h12))))))))).symm.trans he
                  exact m_iret X hr hlk hM d_Md_registration_112 ⟨Nat.le_of_ble_eq_true rfl, Nat.le_of_ble_eq_true rfl⟩ ⟨fun _ _ _ => rfl, fun _ => Nat.le_refl _⟩ ⟨congrArg (fun z => some (Value.int z.1)) heL, congrArg (fun z => rs M z.2) heL, rfl⟩
              · skip
                have hk := hk.1 h9
                refine lv_aload_n X.1 X.2.1 d_Md_registration_89 rfl (lv_at hl 1 rfl) ?_
                refine r_gets (q := 0) X hM rfl hR.1 f_Md_62 rfl (hR.2 17 (by decide)) d_Md_registration_90 (fun g13 => ?_)
                refine lv_iload_n X.1 X.2.1 d_Md_registration_93 rfl (lv_at hl 0 rfl) ?_
                have o14 := hk
                refine R_iald (k := 36) X hM (by decide) rfl g13 a_m_active (fun _ => rfl) o14.1 o14.2 d_Md_registration_94 ?_
                show W _ _ _ _ _ _ _ _ _ _ _ _ _ _ _ (F0 m 95 ls [.int (r 36 ((m_find r a0).toNatClampNeg))])
                refine lv_goto (tgt := 112) X.1 X.2.1 d_Md_registration_95 (by decide) ?_
                have heL : (r 36 ((m_find r a0).toNatClampNeg), (ru r 18 34 0)) = F := ((if_neg h2).trans ((if_neg h3).trans ((if_pos h5).trans ((if_neg h6).trans ((if_neg h7).trans ((if_neg h8).trans ((if_pos h9)))))))).symm.trans he
                exact m_iret X hr hlk hM d_Md_registration_112 ⟨Nat.le_of_ble_eq_true rfl, Nat.le_of_ble_eq_true rfl⟩ ⟨fun _ _ _ => rfl, fun _ => Nat.le_refl _⟩ ⟨congrArg (fun z => some (Value.int z.1)) heL, congrArg (fun z => rs M z.2) heL, rfl⟩
            · skip
              have hk := hk.1 h8
              refine lv_aload_n X.1 X.2.1 d_Md_registration_75 rfl (lv_at hl 1 rfl) ?_
              refine r_gets (q := 0) X hM rfl hR.1 f_Md_59 rfl (hR.2 16 (by decide)) d_Md_registration_76 (fun g15 => ?_)
              refine lv_iload_n X.1 X.2.1 d_Md_registration_79 rfl (lv_at hl 0 rfl) ?_
              have o16 := hk
              refine R_iald (k := 35) X hM (by decide) rfl g15 a_m_waiting (fun _ => rfl) o16.1 o16.2 d_Md_registration_80 ?_
              show W _ _ _ _ _ _ _ _ _ _ _ _ _ _ _ (F0 m 81 ls [.int (r 35 ((m_find r a0).toNatClampNeg))])
              refine lv_goto (tgt := 112) X.1 X.2.1 d_Md_registration_81 (by decide) ?_
              have heL : (r 35 ((m_find r a0).toNatClampNeg), (ru r 18 34 0)) = F := ((if_neg h2).trans ((if_neg h3).trans ((if_pos h5).trans ((if_neg h6).trans ((if_neg h7).trans ((if_pos h8))))))).symm.trans he
              exact m_iret X hr hlk hM d_Md_registration_112 ⟨Nat.le_of_ble_eq_true rfl, Nat.le_of_ble_eq_true rfl⟩ ⟨fun _ _ _ => rfl, fun _ => Nat.le_refl _⟩ ⟨congrArg (fun z => some (Value.int z.1)) heL, congrArg (fun z => rs M z.2) heL, rfl⟩
          · skip
            have hk := hk.1 h7
            refine lv_aload_n X.1 X.2.1 d_Md_registration_61 rfl (lv_at hl 1 rfl) ?_
            refine r_gets (q := 0) X hM rfl hR.1 f_Md_56 rfl (hR.2 15 (by decide)) d_Md_registration_62 (fun g17 => ?_)
            refine lv_iload_n X.1 X.2.1 d_Md_registration_65 rfl (lv_at hl 0 rfl) ?_
            have o18 := hk
            refine R_iald (k := 34) X hM (by decide) rfl g17 a_m_installing (fun _ => rfl) o18.1 o18.2 d_Md_registration_66 ?_
            show W _ _ _ _ _ _ _ _ _ _ _ _ _ _ _ (F0 m 67 ls [.int (r 34 ((m_find r a0).toNatClampNeg))])
            refine lv_goto (tgt := 112) X.1 X.2.1 d_Md_registration_67 (by decide) ?_
            have heL : (r 34 ((m_find r a0).toNatClampNeg), (ru r 18 34 0)) = F := ((if_neg h2).trans ((if_neg h3).trans ((if_pos h5).trans ((if_neg h6).trans ((if_pos h7)))))).symm.trans he
            exact m_iret X hr hlk hM d_Md_registration_112 ⟨Nat.le_of_ble_eq_true rfl, Nat.le_of_ble_eq_true rfl⟩ ⟨fun _ _ _ => rfl, fun _ => Nat.le_refl _⟩ ⟨congrArg (fun z => some (Value.int z.1)) heL, congrArg (fun z => rs M z.2) heL, rfl⟩
        · skip
          have hk := hk.1 h6
          refine lv_aload_n X.1 X.2.1 d_Md_registration_47 rfl (lv_at hl 1 rfl) ?_
          refine r_gets (q := 0) X hM rfl hR.1 f_Md_53 rfl (hR.2 14 (by decide)) d_Md_registration_48 (fun g19 => ?_)
          refine lv_iload_n X.1 X.2.1 d_Md_registration_51 rfl (lv_at hl 0 rfl) ?_
          have o20 := hk
          refine R_iald (k := 33) X hM (by decide) rfl g19 a_m_script (fun _ => rfl) o20.1 o20.2 d_Md_registration_52 ?_
          show W _ _ _ _ _ _ _ _ _ _ _ _ _ _ _ (F0 m 53 ls [.int (r 33 ((m_find r a0).toNatClampNeg))])
          refine lv_goto (tgt := 112) X.1 X.2.1 d_Md_registration_53 (by decide) ?_
          have heL : (r 33 ((m_find r a0).toNatClampNeg), (ru r 18 34 0)) = F := ((if_neg h2).trans ((if_neg h3).trans ((if_pos h5).trans ((if_pos h6))))).symm.trans he
          exact m_iret X hr hlk hM d_Md_registration_112 ⟨Nat.le_of_ble_eq_true rfl, Nat.le_of_ble_eq_true rfl⟩ ⟨fun _ _ _ => rfl, fun _ => Nat.le_refl _⟩ ⟨congrArg (fun z => some (Value.int z.1)) heL, congrArg (fun z => rs M z.2) heL, rfl⟩
      · skip
        have hk := hk.2 h5
        refine lv_aload_n X.1 X.2.1 d_Md_registration_32 rfl (lv_at hl 1 rfl) ?_
        refine lv_iconst (v := 2) X.1 X.2.1 d_Md_registration_33 (by decide) ?_
        refine r_cV (As := [.int 2]) (rest := []) X hml hl.1 hM (k_Md_fail l D dA base M ad hR r 2) c_Md_161 v_Md_fail kc_Md rfl hR.1 rfl (Nat.le_of_ble_eq_true rfl) ⟨rfl, rfl, Nat.le_of_ble_eq_true rfl, Nat.le_of_ble_eq_true rfl⟩ ⟨Nat.le_of_ble_eq_true rfl, Nat.le_of_ble_eq_true rfl⟩ d_Md_registration_34 ?_
        intro rv M1 ad1 H locs hP hM hE
        obtain ⟨e1, e2, e3⟩ := hP
        subst rv; subst M1; subst ad1
        show W _ _ _ _ _ _ _ _ _ _ _ _ _ _ _ (F0 m 37 ls [.int ((m_fail r 2).1)])
        have heL : ((m_fail r 2).1, (m_fail r 2).2) = F := ((if_neg h2).trans ((if_neg h3).trans ((if_neg h5)))).symm.trans he
        exact m_iret X hr hlk hM d_Md_registration_37 ⟨Nat.le_of_ble_eq_true rfl, Nat.le_of_ble_eq_true rfl⟩ ⟨fun _ _ _ => rfl, fun _ => Nat.le_refl _⟩ ⟨congrArg (fun z => some (Value.int z.1)) heL, congrArg (fun z => rs M z.2) heL, rfl⟩
    · skip
      have hk := hk.1 h3
      refine lv_aload_n X.1 X.2.1 d_Md_registration_16 rfl (lv_at hl 0 rfl) ?_
      refine lv_iconst (v := 1) X.1 X.2.1 d_Md_registration_17 (by decide) ?_
      refine r_cV (As := [.int 1]) (rest := []) X hml hl.1 hM (k_Md_fail l D dA base M ad hR r 1) c_Md_161 v_Md_fail kc_Md rfl hR.1 rfl (Nat.le_of_ble_eq_true rfl) ⟨rfl, rfl, Nat.le_of_ble_eq_true rfl, Nat.le_of_ble_eq_true rfl⟩ ⟨Nat.le_of_ble_eq_true rfl, Nat.le_of_ble_eq_true rfl⟩ d_Md_registration_18 ?_
      intro rv M1 ad1 H locs hP hM hE
      obtain ⟨e1, e2, e3⟩ := hP
      subst rv; subst M1; subst ad1
      show W _ _ _ _ _ _ _ _ _ _ _ _ _ _ _ (F0 m 21 ls [.int ((m_fail r 1).1)])
      have heL : ((m_fail r 1).1, (m_fail r 1).2) = F := ((if_neg h2).trans ((if_pos h3))).symm.trans he
      exact m_iret X hr hlk hM d_Md_registration_21 ⟨Nat.le_of_ble_eq_true rfl, Nat.le_of_ble_eq_true rfl⟩ ⟨fun _ _ _ => rfl, fun _ => Nat.le_refl _⟩ ⟨congrArg (fun z => some (Value.int z.1)) heL, congrArg (fun z => rs M z.2) heL, rfl⟩
def m_worker_L120 : Nat → rR → Int32 → Int32 → Int32 → Int32 → Int32 × rR
  | 0, r, _, _, _, _ => (0, r)
  | n + 1, r, v1, v2, v3, v4 => (if 8 ≤ v4 then (if v2 = 0 then (r 24 (v1.toNatClampNeg), r) else (if v2 = 1 then (r 25 (v1.toNatClampNeg), r) else (if v2 = 2 then (r 27 (v1.toNatClampNeg), r) else (if v2 = 3 then (v3, r) else (r 28 (v1.toNatClampNeg), r))))) else (if (r 38 (v4.toNatClampNeg)) = 0 then m_worker_L120 n r v1 v2 v3 (v4 + 1) else (if (r 41 (v4.toNatClampNeg)) = v1 then m_worker_L120 n r v1 v2 (v3 + 1) (v4 + 1) else m_worker_L120 n r v1 v2 v3 (v4 + 1))))
def m_worker_L120_ok : Nat → rR → Int32 → Int32 → Int32 → Int32 → Prop
  | 0, _, _, _, _, _ => False
  | n + 1, r, v1, v2, v3, v4 => ((8 ≤ v4) → (((v2 = 0) → (ixk v1 41)) ∧ (¬ (v2 = 0) → (((v2 = 1) → (ixk v1 41)) ∧ (¬ (v2 = 1) → (((v2 = 2) → (ixk v1 41)) ∧ (¬ (v2 = 2) → (((v2 = 3) → (True)) ∧ (¬ (v2 = 3) → (ixk v1 41)))))))))) ∧ (¬ (8 ≤ v4) → ((ixk v4 8) ∧ ((((r 38 (v4.toNatClampNeg)) = 0) → (m_worker_L120_ok n r v1 v2 v3 (v4 + 1))) ∧ (¬ ((r 38 (v4.toNatClampNeg)) = 0) → ((((r 41 (v4.toNatClampNeg)) = v1) → (m_worker_L120_ok n r v1 v2 (v3 + 1) (v4 + 1))) ∧ (¬ ((r 41 (v4.toNatClampNeg)) = v1) → (m_worker_L120_ok n r v1 v2 v3 (v4 + 1))))))))
def m_worker (r : rR) (a0 : Int32) (a1 : Int32) : Int32 × rR := (if (m_in a1 0 4) = 0 then (if (m_in a1 10 13) = 0 then (if (m_in a1 20 23) = 0 then ((m_fail r 1).1, (m_fail r 1).2) else (if (m_in a0 1 (r 18 30)) = 0 then ((m_fail r 2).1, (m_fail r 2).2) else (if a1 ≤ 9 then m_worker_L120 9 (ru r 18 34 0) a0 a1 0 0 else (if (a1 - a1 / 10 * 10) < (r 28 (a0.toNatClampNeg)) then (if 20 ≤ a1 then (r 30 (((4 * a0) + (a1 - a1 / 10 * 10)).toNatClampNeg), (ru r 18 34 0)) else (r 29 (((4 * a0) + (a1 - a1 / 10 * 10)).toNatClampNeg), (ru r 18 34 0))) else (0, (ru r 18 34 0)))))) else (if (m_in a0 1 (r 18 30)) = 0 then ((m_fail r 2).1, (m_fail r 2).2) else (if a1 ≤ 9 then m_worker_L120 9 (ru r 18 34 0) a0 a1 0 0 else (if (a1 - a1 / 10 * 10) < (r 28 (a0.toNatClampNeg)) then (if 20 ≤ a1 then (r 30 (((4 * a0) + (a1 - a1 / 10 * 10)).toNatClampNeg), (ru r 18 34 0)) else (r 29 (((4 * a0) + (a1 - a1 / 10 * 10)).toNatClampNeg), (ru r 18 34 0))) else (0, (ru r 18 34 0)))))) else (if (m_in a0 1 (r 18 30)) = 0 then ((m_fail r 2).1, (m_fail r 2).2) else (if a1 ≤ 9 then m_worker_L120 9 (ru r 18 34 0) a0 a1 0 0 else (if (a1 - a1 / 10 * 10) < (r 28 (a0.toNatClampNeg)) then (if 20 ≤ a1 then (r 30 (((4 * a0) + (a1 - a1 / 10 * 10)).toNatClampNeg), (ru r 18 34 0)) else (r 29 (((4 * a0) + (a1 - a1 / 10 * 10)).toNatClampNeg), (ru r 18 34 0))) else (0, (ru r 18 34 0))))))
def m_worker_ok (r : rR) (a0 : Int32) (a1 : Int32) : Prop := (((m_in a1 0 4) = 0) → ((((m_in a1 10 13) = 0) → ((((m_in a1 20 23) = 0) → (True)) ∧ (¬ ((m_in a1 20 23) = 0) → ((((m_in a0 1 (r 18 30)) = 0) → (True)) ∧ (¬ ((m_in a0 1 (r 18 30)) = 0) → (((a1 ≤ 9) → (m_worker_L120_ok 9 (ru r 18 34 0) a0 a1 0 0)) ∧ (¬ (a1 ≤ 9) → ((ixk a0 41) ∧ ((((a1 - a1 / 10 * 10) < (r 28 (a0.toNatClampNeg))) → (((20 ≤ a1) → (ixk ((4 * a0) + (a1 - a1 / 10 * 10)) 164)) ∧ (¬ (20 ≤ a1) → (ixk ((4 * a0) + (a1 - a1 / 10 * 10)) 164)))) ∧ (¬ ((a1 - a1 / 10 * 10) < (r 28 (a0.toNatClampNeg))) → (True))))))))))) ∧ (¬ ((m_in a1 10 13) = 0) → ((((m_in a0 1 (r 18 30)) = 0) → (True)) ∧ (¬ ((m_in a0 1 (r 18 30)) = 0) → (((a1 ≤ 9) → (m_worker_L120_ok 9 (ru r 18 34 0) a0 a1 0 0)) ∧ (¬ (a1 ≤ 9) → ((ixk a0 41) ∧ ((((a1 - a1 / 10 * 10) < (r 28 (a0.toNatClampNeg))) → (((20 ≤ a1) → (ixk ((4 * a0) + (a1 - a1 / 10 * 10)) 164)) ∧ (¬ (20 ≤ a1) → (ixk ((4 * a0) + (a1 - a1 / 10 * 10)) 164)))) ∧ (¬ ((a1 - a1 / 10 * 10) < (r 28 (a0.toNatClampNeg))) → (True))))))))))) ∧ (¬ ((m_in a1 0 4) = 0) → ((((m_in a0 1 (r 18 30)) = 0) → (True)) ∧ (¬ ((m_in a0 1 (r 18 30)) = 0) → (((a1 ≤ 9) → (m_worker_L120_ok 9 (ru r 18 34 0) a0 a1 0 0)) ∧ (¬ (a1 ≤ 9) → ((ixk a0 41) ∧ ((((a1 - a1 / 10 * 10) < (r 28 (a0.toNatClampNeg))) → (((20 ≤ a1) → (ixk ((4 * a0) + (a1 - a1 / 10 * 10)) 164)) ∧ (¬ (20 ≤ a1) → (ixk ((4 * a0) + (a1 - a1 / 10 * 10)) 164)))) ∧ (¬ ((a1 - a1 / 10 * 10) < (r 28 (a0.toNatClampNeg))) → (True)))))))))
set_option maxHeartbeats 4000000 in
set_option maxRecDepth 100000 in
theorem k_Md_worker (l : Launch) (D : va_G) (dA : Nat → ClassId) (base : Nat) (M : mM) (ad : Nat → Nat → Nat) (hR : wR M) (r : rR) (a0 : Int32) (a1 : Int32) (hk : m_worker_ok r a0 a1) : mMet l y_Md_worker b_Md_worker 5 (some FieldType.int) ({ frames := 1, cells := 0, slots := 0, locals := 22 } : Room) 0 0 D dA base (rs M r) ad [.ref (ad 18 0), .int a0, .int a1] (fun rv M' ad' => rv = some (.int (m_worker r a0 a1).1) ∧ M' = rs M (m_worker r a0 a1).2 ∧ ad' = ad) := by
  refine m_start (lvs := [(0, .ref (ad 18 0)), (1, .int a0), (2, .int a1)]) (by decide) (Nat.le_of_ble_eq_true rfl) rfl ?_
  intro p e s m below meth c ls X hr hlk hin hml hM hl
  generalize he : m_worker r a0 a1 = F
  refine lv_iload_n X.1 X.2.1 d_Md_worker_0 rfl (lv_at hl 2 rfl) ?_
  refine lv_iconst (v := 0) X.1 X.2.1 d_Md_worker_1 (by decide) ?_
  refine lv_iconst (v := 4) X.1 X.2.1 d_Md_worker_2 (by decide) ?_
  refine r_cS (As := [.int a1, .int 0, .int 4]) (rest := []) X hml hl.1 hM (k_Md_in l D dA base (rs M r) ad a1 0 4) c_Md_103 v_Md_in rfl (Nat.le_of_ble_eq_true rfl) ⟨rfl, rfl, Nat.le_of_ble_eq_true rfl, Nat.le_of_ble_eq_true rfl⟩ ⟨Nat.le_of_ble_eq_true rfl, Nat.le_of_ble_eq_true rfl⟩ d_Md_worker_3 ?_
  intro rv M1 ad1 H locs hP hM hE
  obtain ⟨e1, e2, e3⟩ := hP
  subst rv; subst M1; subst ad1
  show W _ _ _ _ _ _ _ _ _ _ _ _ _ _ _ (F0 m 6 ls [.int (m_in a1 0 4)])
  refine lv_if_ne (tgt := 37) X.1 X.2.1 d_Md_worker_6 (by decide) (fun h1 => ?_) (fun h1 => ?_)
  · skip
    have hk := hk.2 h1
    refine lv_iload_n X.1 X.2.1 d_Md_worker_37 rfl (lv_at hl 1 rfl) ?_
    refine lv_iconst (v := 1) X.1 X.2.1 d_Md_worker_38 (by decide) ?_
    refine lv_aload_n X.1 X.2.1 d_Md_worker_39 rfl (lv_at hl 0 rfl) ?_
    refine R_geti (k := 18) X hM (by decide) rfl hR.1 f_Md_164 rfl d_Md_worker_40 ?_
    refine r_cS (As := [.int a0, .int 1, .int (r 18 30)]) (rest := []) X hml hl.1 hM (k_Md_in l D dA base (rs M r) ad a0 1 (r 18 30)) c_Md_103 v_Md_in rfl (Nat.le_of_ble_eq_true rfl) ⟨rfl, rfl, Nat.le_of_ble_eq_true rfl, Nat.le_of_ble_eq_true rfl⟩ ⟨Nat.le_of_ble_eq_true rfl, Nat.le_of_ble_eq_true rfl⟩ d_Md_worker_43 ?_
    intro rv M1 ad1 H locs hP hM hE
    obtain ⟨e1, e2, e3⟩ := hP
    subst rv; subst M1; subst ad1
    show W _ _ _ _ _ _ _ _ _ _ _ _ _ _ _ (F0 m 46 ls [.int (m_in a0 1 (r 18 30))])
    refine lv_if_ne (tgt := 55) X.1 X.2.1 d_Md_worker_46 (by decide) (fun h2 => ?_) (fun h2 => ?_)
    · skip
      have hk := hk.2 h2
      refine lv_aload_n X.1 X.2.1 d_Md_worker_55 rfl (lv_at hl 0 rfl) ?_
      refine lv_iconst (v := 0) X.1 X.2.1 d_Md_worker_56 (by decide) ?_
      refine R_puti (k := 18) X hM (by decide) rfl hR.1 p_Md_98 rfl rfl rfl d_Md_worker_57 (fun H locs hM => ?_)
      refine lv_iload_n X.1 X.2.1 d_Md_worker_60 rfl (lv_at hl 2 rfl) ?_
      refine lv_bipush (v := 9) X.1 X.2.1 d_Md_worker_61 (by decide) ?_
      refine lv_icmp_le (tgt := 115) X.1 X.2.1 d_Md_worker_63 (by decide) (fun h3 => ?_) (fun h3 => ?_)
      · skip
        have hk := hk.1 h3
        refine lv_iconst (v := 0) X.1 X.2.1 d_Md_worker_115 (by decide) ?_
        refine lv_istore_n (lv' := [(3, .int 0), (0, .ref (ad 18 0)), (1, .int a0), (2, .int a1)]) X.1 X.2.1 d_Md_worker_116 rfl hl (by decide) rfl (fun ls hl => ?_)
        refine lv_iconst (v := 0) X.1 X.2.1 d_Md_worker_117 (by decide) ?_
        refine lv_istore (lv' := [(4, .int 0), (3, .int 0), (0, .ref (ad 18 0)), (1, .int a0), (2, .int a1)]) X.1 X.2.1 d_Md_worker_118 hl (by decide) rfl (fun ls hl => ?_)
        refine w_downW (fun ls => F0 m 120 ls []) (fun n H L ls => ∃ (r : rR) (v1 : Int32) (v2 : Int32) (v3 : Int32) (v4 : Int32), mSt D dA base (rs M r) ad s.heap H L ∧ lv_has ls 5 [(1, .int v1), (2, .int v2), (3, .int v3), (4, .int v4), (0, .ref (ad 18 0))] ∧ m_worker_L120_ok n r v1 v2 v3 v4 ∧ m_worker_L120 n r v1 v2 v3 v4 = F) ?_ ?_ 9 _ _ ls ⟨(ru r 18 34 0), a0, a1, 0, 0, hM, lv_sub hl [3, 4, 1, 0, 2] rfl, hk, ((if_neg h1).trans ((if_neg h2).trans ((if_pos h3)))).symm.trans he⟩
        · rintro H locs ls ⟨r, v1, v2, v3, v4, hM, hl, hk, he⟩
          exact hk.elim
        · rintro n ih H locs ls ⟨r, v1, v2, v3, v4, hM, hl, hk, he⟩
          refine lv_iload X.1 X.2.1 d_Md_worker_120 (lv_at hl 3 rfl) ?_
          refine lv_bipush (v := 8) X.1 X.2.1 d_Md_worker_122 (by decide) ?_
          refine lv_icmp_ge (tgt := 157) X.1 X.2.1 d_Md_worker_124 (by decide) (fun h4 => ?_) (fun h4 => ?_)
          · skip
            have hk := hk.1 h4
            refine lv_iload_n X.1 X.2.1 d_Md_worker_157 rfl (lv_at hl 1 rfl) ?_
            refine lv_if_ne (tgt := 170) X.1 X.2.1 d_Md_worker_158 (by decide) (fun h5 => ?_) (fun h5 => ?_)
            · skip
              have hk := hk.2 h5
              refine lv_iload_n X.1 X.2.1 d_Md_worker_170 rfl (lv_at hl 1 rfl) ?_
              refine lv_iconst (v := 1) X.1 X.2.1 d_Md_worker_171 (by decide) ?_
              refine lv_icmp_ne (tgt := 184) X.1 X.2.1 d_Md_worker_172 (by decide) (fun h6 => ?_) (fun h6 => ?_)
              · skip
                have hk := hk.2 h6
                refine lv_iload_n X.1 X.2.1 d_Md_worker_184 rfl (lv_at hl 1 rfl) ?_
                refine lv_iconst (v := 2) X.1 X.2.1 d_Md_worker_185 (by decide) ?_
                refine lv_icmp_ne (tgt := 198) X.1 X.2.1 d_Md_worker_186 (by decide) (fun h7 => ?_) (fun h7 => ?_)
                · skip
                  have hk := hk.2 h7
                  refine lv_iload_n X.1 X.2.1 d_Md_worker_198 rfl (lv_at hl 1 rfl) ?_
                  refine lv_iconst (v := 3) X.1 X.2.1 d_Md_worker_199 (by decide) ?_
                  refine lv_icmp_ne (tgt := 207) X.1 X.2.1 d_Md_worker_200 (by decide) (fun h8 => ?_) (fun h8 => ?_)
                  · skip
                    have hk := hk.2 h8
                    refine lv_aload_n X.1 X.2.1 d_Md_worker_207 rfl (lv_at hl 4 rfl) ?_
                    refine r_gets (q := 0) X hM rfl hR.1 f_Md_37 rfl (hR.2 9 (by decide)) d_Md_worker_208 (fun g9 => ?_)
                    refine lv_iload_n X.1 X.2.1 d_Md_worker_211 rfl (lv_at hl 0 rfl) ?_
                    have o10 := hk
                    refine R_iald (k := 28) X hM (by decide) rfl g9 a_m_kept (fun _ => rfl) o10.1 o10.2 d_Md_worker_212 ?_
                    have heL : (r 28 (v1.toNatClampNeg), r) = F := ((if_pos h4).trans ((if_neg h5).trans ((if_neg h6).trans ((if_neg h7).trans ((if_neg h8)))))).symm.trans he
                    exact m_iret X hr hlk hM d_Md_worker_213 ⟨Nat.le_of_ble_eq_true rfl, Nat.le_of_ble_eq_true rfl⟩ ⟨fun _ _ _ => rfl, fun _ => Nat.le_refl _⟩ ⟨congrArg (fun z => some (Value.int z.1)) heL, congrArg (fun z => rs M z.2) heL, rfl⟩
                  · skip
                    have hk := hk.1 h8
                    refine lv_iload_n X.1 X.2.1 d_Md_worker_203 rfl (lv_at hl 2 rfl) ?_
                    refine lv_goto (tgt := 213) X.1 X.2.1 d_Md_worker_204 (by decide) ?_
                    have heL : (v3, r) = F := ((if_pos h4).trans ((if_neg h5).trans ((if_neg h6).trans ((if_neg h7).trans ((if_pos h8)))))).symm.trans he
                    exact m_iret X hr hlk hM d_Md_worker_213 ⟨Nat.le_of_ble_eq_true rfl, Nat.le_of_ble_eq_true rfl⟩ ⟨fun _ _ _ => rfl, fun _ => Nat.le_refl _⟩ ⟨congrArg (fun z => some (Value.int z.1)) heL, congrArg (fun z => rs M z.2) heL, rfl⟩
                · skip
                  have hk := hk.1 h7
                  refine lv_aload_n X.1 X.2.1 d_Md_worker_189 rfl (lv_at hl 4 rfl) ?_
                  refine r_gets (q := 0) X hM rfl hR.1 f_Md_34 rfl (hR.2 8 (by decide)) d_Md_worker_190 (fun g11 => ?_)
                  refine lv_iload_n X.1 X.2.1 d_Md_worker_193 rfl (lv_at hl 0 rfl) ?_
                  have o12 := hk
                  refine R_iald (k := 27) X hM (by decide) rfl g11 a_m_way (fun _ => rfl) o12.1 o12.2 d_Md_worker_194 ?_
                  refine lv_goto (tgt := 213) X.1 X.2.1 d_Md_worker_195 (by decide) ?_
                  have heL : (r 27 (v1.toNatClampNeg), r) = F := ((if_pos h4).trans ((if_neg h5).trans ((if_neg h6).trans ((if_pos h7))))).symm.trans he
                  exact m_iret X hr hlk hM d_Md_worker_213 ⟨Nat.le_of_ble_eq_true rfl, Nat.le_of_ble_eq_true rfl⟩ ⟨fun _ _ _ => rfl, fun _ => Nat.le_refl _⟩ ⟨congrArg (fun z => some (Value.int z.1)) heL, congrArg (fun z => rs M z.2) heL, rfl⟩
              · skip
                have hk := hk.1 h6
                refine lv_aload_n X.1 X.2.1 d_Md_worker_175 rfl (lv_at hl 4 rfl) ?_
                refine r_gets (q := 0) X hM rfl hR.1 f_Md_28 rfl (hR.2 6 (by decide)) d_Md_worker_176 (fun g13 => ?_)
                refine lv_iload_n X.1 X.2.1 d_Md_worker_179 rfl (lv_at hl 0 rfl) ?_
                have o14 := hk
                refine R_iald (k := 25) X hM (by decide) rfl g13 a_m_told (fun _ => rfl) o14.1 o14.2 d_Md_worker_180 ?_
                refine lv_goto (tgt := 213) X.1 X.2.1 d_Md_worker_181 (by decide) ?_
                have heL : (r 25 (v1.toNatClampNeg), r) = F := ((if_pos h4).trans ((if_neg h5).trans ((if_pos h6)))).symm.trans he
                exact m_iret X hr hlk hM d_Md_worker_213 ⟨Nat.le_of_ble_eq_true rfl, Nat.le_of_ble_eq_true rfl⟩ ⟨fun _ _ _ => rfl, fun _ => Nat.le_refl _⟩ ⟨congrArg (fun z => some (Value.int z.1)) heL, congrArg (fun z => rs M z.2) heL, rfl⟩
            · skip
              have hk := hk.1 h5
              refine lv_aload_n X.1 X.2.1 d_Md_worker_161 rfl (lv_at hl 4 rfl) ?_
              refine r_gets (q := 0) X hM rfl hR.1 f_Md_25 rfl (hR.2 5 (by decide)) d_Md_worker_162 (fun g15 => ?_)
              refine lv_iload_n X.1 X.2.1 d_Md_worker_165 rfl (lv_at hl 0 rfl) ?_
              have o16 := hk
              refine R_iald (k := 24) X hM (by decide) rfl g15 a_m_state (fun _ => rfl) o16.1 o16.2 d_Md_worker_166 ?_
              refine lv_goto (tgt := 213) X.1 X.2.1 d_Md_worker_167 (by decide) ?_
              have heL : (r 24 (v1.toNatClampNeg), r) = F := ((if_pos h4).trans ((if_pos h5))).symm.trans he
              exact m_iret X hr hlk hM d_Md_worker_213 ⟨Nat.le_of_ble_eq_true rfl, Nat.le_of_ble_eq_true rfl⟩ ⟨fun _ _ _ => rfl, fun _ => Nat.le_refl _⟩ ⟨congrArg (fun z => some (Value.int z.1)) heL, congrArg (fun z => rs M z.2) heL, rfl⟩
          · skip
            have hk := hk.2 h4
            refine lv_aload_n X.1 X.2.1 d_Md_worker_127 rfl (lv_at hl 4 rfl) ?_
            refine r_gets (q := 0) X hM rfl hR.1 f_Md_68 rfl (hR.2 19 (by decide)) d_Md_worker_128 (fun g17 => ?_)
            refine lv_iload X.1 X.2.1 d_Md_worker_131 (lv_at hl 3 rfl) ?_
            obtain ⟨o18, hk⟩ := hk
            refine R_zald (k := 38) X hM (by decide) rfl g17 a_m_there (fun _ => rfl) o18.1 o18.2 d_Md_worker_133 ?_
            refine lv_if_eq (tgt := 151) X.1 X.2.1 d_Md_worker_134 (by decide) (fun h19 => ?_) (fun h19 => ?_)
            · skip
              have hk := hk.1 h19
              refine lv_iinc (v := v4 + 1) (lv' := [(4, .int (v4 + 1)), (1, .int v1), (2, .int v2), (3, .int v3), (0, .ref (ad 18 0))]) X.1 X.2.1 d_Md_worker_151 hl (k := 3) rfl rfl (by decide) rfl (fun ls hl => ?_)
              refine lv_goto (tgt := 120) X.1 X.2.1 d_Md_worker_154 (by decide) ?_
              exact ih _ _ ls ⟨_, _, _, _, _, hM, lv_sub hl [1, 2, 3, 0, 4] rfl, hk, ((if_neg h4).trans ((if_pos h19))).symm.trans he⟩
            · skip
              have hk := hk.2 h19
              refine lv_aload_n X.1 X.2.1 d_Md_worker_137 rfl (lv_at hl 4 rfl) ?_
              refine r_gets (q := 0) X hM rfl hR.1 f_Md_77 rfl (hR.2 22 (by decide)) d_Md_worker_138 (fun g20 => ?_)
              refine lv_iload X.1 X.2.1 d_Md_worker_141 (lv_at hl 3 rfl) ?_
              refine R_iald (k := 41) X hM (by decide) rfl g20 a_m_by (fun _ => rfl) o18.1 o18.2 d_Md_worker_143 ?_
              refine lv_iload_n X.1 X.2.1 d_Md_worker_144 rfl (lv_at hl 0 rfl) ?_
              refine lv_icmp_ne (tgt := 151) X.1 X.2.1 d_Md_worker_145 (by decide) (fun h21 => ?_) (fun h21 => ?_)
              · skip
                have hk := hk.2 h21
                refine lv_iinc (v := v4 + 1) (lv' := [(4, .int (v4 + 1)), (1, .int v1), (2, .int v2), (3, .int v3), (0, .ref (ad 18 0))]) X.1 X.2.1 d_Md_worker_151 hl (k := 3) rfl rfl (by decide) rfl (fun ls hl => ?_)
                refine lv_goto (tgt := 120) X.1 X.2.1 d_Md_worker_154 (by decide) ?_
                exact ih _ _ ls ⟨_, _, _, _, _, hM, lv_sub hl [1, 2, 3, 0, 4] rfl, hk, ((if_neg h4).trans ((if_neg h19).trans ((if_neg h21)))).symm.trans he⟩
              · skip
                have hk := hk.1 h21
                refine lv_iinc (v := v3 + 1) (lv' := [(3, .int (v3 + 1)), (1, .int v1), (2, .int v2), (4, .int v4), (0, .ref (ad 18 0))]) X.1 X.2.1 d_Md_worker_148 hl (k := 2) rfl rfl (by decide) rfl (fun ls hl => ?_)
                refine lv_iinc (v := v4 + 1) (lv' := [(4, .int (v4 + 1)), (3, .int (v3 + 1)), (1, .int v1), (2, .int v2), (0, .ref (ad 18 0))]) X.1 X.2.1 d_Md_worker_151 hl (k := 3) rfl rfl (by decide) rfl (fun ls hl => ?_)
                refine lv_goto (tgt := 120) X.1 X.2.1 d_Md_worker_154 (by decide) ?_
                exact ih _ _ ls ⟨_, _, _, _, _, hM, lv_sub hl [2, 3, 1, 0, 4] rfl, hk, ((if_neg h4).trans ((if_neg h19).trans ((if_pos h21)))).symm.trans he⟩
      · skip
        have hk := hk.2 h3
        refine lv_iload_n X.1 X.2.1 d_Md_worker_66 rfl (lv_at hl 2 rfl) ?_
        refine lv_bipush (v := 10) X.1 X.2.1 d_Md_worker_67 (by decide) ?_
        refine lv_irem X.1 X.2.1 d_Md_worker_69 (by decide) ?_
        refine lv_istore_n (lv' := [(3, .int (a1 - a1 / 10 * 10)), (0, .ref (ad 18 0)), (1, .int a0), (2, .int a1)]) X.1 X.2.1 d_Md_worker_70 rfl hl (by decide) rfl (fun ls hl => ?_)
        refine lv_iload_n X.1 X.2.1 d_Md_worker_71 rfl (lv_at hl 0 rfl) ?_
        refine lv_aload_n X.1 X.2.1 d_Md_worker_72 rfl (lv_at hl 1 rfl) ?_
        refine r_gets (q := 0) X hM rfl hR.1 f_Md_37 rfl (hR.2 9 (by decide)) d_Md_worker_73 (fun g22 => ?_)
        refine lv_iload_n X.1 X.2.1 d_Md_worker_76 rfl (lv_at hl 2 rfl) ?_
        obtain ⟨o23, hk⟩ := hk
        refine R_iald (k := 28) X hM (by decide) rfl g22 a_m_kept (fun _ => rfl) o23.1 o23.2 d_Md_worker_77 ?_
        show W _ _ _ _ _ _ _ _ _ _ _ _ _ _ _ (F0 m 78 ls [.int (r 28 (a0.toNatClampNeg)), .int (a1 - a1 / 10 * 10)])
        refine lv_icmp_lt (tgt := 85) X.1 X.2.1 d_Md_worker_78 (by decide) (fun h24 => ?_) (fun h24 => ?_)
        · skip
          have hk := hk.1 h24
          refine lv_iload_n X.1 X.2.1 d_Md_worker_85 rfl (lv_at hl 3 rfl) ?_
          refine lv_bipush (v := 20) X.1 X.2.1 d_Md_worker_86 (by decide) ?_
          refine lv_icmp_ge (tgt := 104) X.1 X.2.1 d_Md_worker_88 (by decide) (fun h25 => ?_) (fun h25 => ?_)
          · skip
            have hk := hk.1 h25
            refine lv_aload_n X.1 X.2.1 d_Md_worker_104 rfl (lv_at hl 1 rfl) ?_
            refine r_gets (q := 0) X hM rfl hR.1 f_Md_43 rfl (hR.2 11 (by decide)) d_Md_worker_105 (fun g26 => ?_)
            refine lv_iconst (v := 4) X.1 X.2.1 d_Md_worker_108 (by decide) ?_
            refine lv_iload_n X.1 X.2.1 d_Md_worker_109 rfl (lv_at hl 2 rfl) ?_
            refine lv_imul X.1 X.2.1 d_Md_worker_110 ?_
            refine lv_iload_n X.1 X.2.1 d_Md_worker_111 rfl (lv_at hl 0 rfl) ?_
            refine lv_iadd X.1 X.2.1 d_Md_worker_112 ?_
            have o27 := hk
            refine R_iald (k := 30) X hM (by decide) rfl g26 a_m_keptValue (fun _ => rfl) o27.1 o27.2 d_Md_worker_113 ?_
            show W _ _ _ _ _ _ _ _ _ _ _ _ _ _ _ (F0 m 114 ls [.int (r 30 (((4 * a0) + (a1 - a1 / 10 * 10)).toNatClampNeg))])
            have heL : (r 30 (((4 * a0) + (a1 - a1 / 10 * 10)).toNatClampNeg), (ru r 18 34 0)) = F := ((if_neg h1).trans ((if_neg h2).trans ((if_neg h3).trans ((if_pos h24).trans ((if_pos h25)))))).symm.trans he
            exact m_iret X hr hlk hM d_Md_worker_114 ⟨Nat.le_of_ble_eq_true rfl, Nat.le_of_ble_eq_true rfl⟩ ⟨fun _ _ _ => rfl, fun _ => Nat.le_refl _⟩ ⟨congrArg (fun z => some (Value.int z.1)) heL, congrArg (fun z => rs M z.2) heL, rfl⟩
          · skip
            have hk := hk.2 h25
            refine lv_aload_n X.1 X.2.1 d_Md_worker_91 rfl (lv_at hl 1 rfl) ?_
            refine r_gets (q := 0) X hM rfl hR.1 f_Md_40 rfl (hR.2 10 (by decide)) d_Md_worker_92 (fun g28 => ?_)
            refine lv_iconst (v := 4) X.1 X.2.1 d_Md_worker_95 (by decide) ?_
            refine lv_iload_n X.1 X.2.1 d_Md_worker_96 rfl (lv_at hl 2 rfl) ?_
            refine lv_imul X.1 X.2.1 d_Md_worker_97 ?_
            refine lv_iload_n X.1 X.2.1 d_Md_worker_98 rfl (lv_at hl 0 rfl) ?_
            refine lv_iadd X.1 X.2.1 d_Md_worker_99 ?_
            have o29 := hk
            refine R_iald (k := 29) X hM (by decide) rfl g28 a_m_keptPath (fun _ => rfl) o29.1 o29.2 d_Md_worker_100 ?_
            show W _ _ _ _ _ _ _ _ _ _ _ _ _ _ _ (F0 m 101 ls [.int (r 29 (((4 * a0) + (a1 - a1 / 10 * 10)).toNatClampNeg))])
            refine lv_goto (tgt := 114) X.1 X.2.1 d_Md_worker_101 (by decide) ?_
            have heL : (r 29 (((4 * a0) + (a1 - a1 / 10 * 10)).toNatClampNeg), (ru r 18 34 0)) = F := ((if_neg h1).trans ((if_neg h2).trans ((if_neg h3).trans ((if_pos h24).trans ((if_neg h25)))))).symm.trans he
            exact m_iret X hr hlk hM d_Md_worker_114 ⟨Nat.le_of_ble_eq_true rfl, Nat.le_of_ble_eq_true rfl⟩ ⟨fun _ _ _ => rfl, fun _ => Nat.le_refl _⟩ ⟨congrArg (fun z => some (Value.int z.1)) heL, congrArg (fun z => rs M z.2) heL, rfl⟩
        · skip
          have hk := hk.2 h24
          refine lv_iconst (v := 0) X.1 X.2.1 d_Md_worker_81 (by decide) ?_
          refine lv_goto (tgt := 114) X.1 X.2.1 d_Md_worker_82 (by decide) ?_
          have heL : (0, (ru r 18 34 0)) = F := ((if_neg h1).trans ((if_neg h2).trans ((if_neg h3).trans ((if_neg h24))))).symm.trans he
          exact m_iret X hr hlk hM d_Md_worker_114 ⟨Nat.le_of_ble_eq_true rfl, Nat.le_of_ble_eq_true rfl⟩ ⟨fun _ _ _ => rfl, fun _ => Nat.le_refl _⟩ ⟨congrArg (fun z => some (Value.int z.1)) heL, congrArg (fun z => rs M z.2) heL, rfl⟩
    · skip
      have hk := hk.1 h2
      refine lv_aload_n X.1 X.2.1 d_Md_worker_49 rfl (lv_at hl 0 rfl) ?_
      refine lv_iconst (v := 2) X.1 X.2.1 d_Md_worker_50 (by decide) ?_
      refine r_cV (As := [.int 2]) (rest := []) X hml hl.1 hM (k_Md_fail l D dA base M ad hR r 2) c_Md_161 v_Md_fail kc_Md rfl hR.1 rfl (Nat.le_of_ble_eq_true rfl) ⟨rfl, rfl, Nat.le_of_ble_eq_true rfl, Nat.le_of_ble_eq_true rfl⟩ ⟨Nat.le_of_ble_eq_true rfl, Nat.le_of_ble_eq_true rfl⟩ d_Md_worker_51 ?_
      intro rv M1 ad1 H locs hP hM hE
      obtain ⟨e1, e2, e3⟩ := hP
      subst rv; subst M1; subst ad1
      show W _ _ _ _ _ _ _ _ _ _ _ _ _ _ _ (F0 m 54 ls [.int ((m_fail r 2).1)])
      have heL : ((m_fail r 2).1, (m_fail r 2).2) = F := ((if_neg h1).trans ((if_pos h2))).symm.trans he
      exact m_iret X hr hlk hM d_Md_worker_54 ⟨Nat.le_of_ble_eq_true rfl, Nat.le_of_ble_eq_true rfl⟩ ⟨fun _ _ _ => rfl, fun _ => Nat.le_refl _⟩ ⟨congrArg (fun z => some (Value.int z.1)) heL, congrArg (fun z => rs M z.2) heL, rfl⟩
  · skip
    have hk := hk.1 h1
    refine lv_iload_n X.1 X.2.1 d_Md_worker_9 rfl (lv_at hl 2 rfl) ?_
    refine lv_bipush (v := 10) X.1 X.2.1 d_Md_worker_10 (by decide) ?_
    refine lv_bipush (v := 13) X.1 X.2.1 d_Md_worker_12 (by decide) ?_
    refine r_cS (As := [.int a1, .int 10, .int 13]) (rest := []) X hml hl.1 hM (k_Md_in l D dA base (rs M r) ad a1 10 13) c_Md_103 v_Md_in rfl (Nat.le_of_ble_eq_true rfl) ⟨rfl, rfl, Nat.le_of_ble_eq_true rfl, Nat.le_of_ble_eq_true rfl⟩ ⟨Nat.le_of_ble_eq_true rfl, Nat.le_of_ble_eq_true rfl⟩ d_Md_worker_14 ?_
    intro rv M1 ad1 H locs hP hM hE
    obtain ⟨e1, e2, e3⟩ := hP
    subst rv; subst M1; subst ad1
    show W _ _ _ _ _ _ _ _ _ _ _ _ _ _ _ (F0 m 17 ls [.int (m_in a1 10 13)])
    refine lv_if_ne (tgt := 37) X.1 X.2.1 d_Md_worker_17 (by decide) (fun h30 => ?_) (fun h30 => ?_)
    · skip
      have hk := hk.2 h30
      refine lv_iload_n X.1 X.2.1 d_Md_worker_37 rfl (lv_at hl 1 rfl) ?_
      refine lv_iconst (v := 1) X.1 X.2.1 d_Md_worker_38 (by decide) ?_
      refine lv_aload_n X.1 X.2.1 d_Md_worker_39 rfl (lv_at hl 0 rfl) ?_
      refine R_geti (k := 18) X hM (by decide) rfl hR.1 f_Md_164 rfl d_Md_worker_40 ?_
      refine r_cS (As := [.int a0, .int 1, .int (r 18 30)]) (rest := []) X hml hl.1 hM (k_Md_in l D dA base (rs M r) ad a0 1 (r 18 30)) c_Md_103 v_Md_in rfl (Nat.le_of_ble_eq_true rfl) ⟨rfl, rfl, Nat.le_of_ble_eq_true rfl, Nat.le_of_ble_eq_true rfl⟩ ⟨Nat.le_of_ble_eq_true rfl, Nat.le_of_ble_eq_true rfl⟩ d_Md_worker_43 ?_
      intro rv M1 ad1 H locs hP hM hE
      obtain ⟨e1, e2, e3⟩ := hP
      subst rv; subst M1; subst ad1
      show W _ _ _ _ _ _ _ _ _ _ _ _ _ _ _ (F0 m 46 ls [.int (m_in a0 1 (r 18 30))])
      refine lv_if_ne (tgt := 55) X.1 X.2.1 d_Md_worker_46 (by decide) (fun h31 => ?_) (fun h31 => ?_)
      · skip
        have hk := hk.2 h31
        refine lv_aload_n X.1 X.2.1 d_Md_worker_55 rfl (lv_at hl 0 rfl) ?_
        refine lv_iconst (v := 0) X.1 X.2.1 d_Md_worker_56 (by decide) ?_
        refine R_puti (k := 18) X hM (by decide) rfl hR.1 p_Md_98 rfl rfl rfl d_Md_worker_57 (fun H locs hM => ?_)
        refine lv_iload_n X.1 X.2.1 d_Md_worker_60 rfl (lv_at hl 2 rfl) ?_
        refine lv_bipush (v := 9) X.1 X.2.1 d_Md_worker_61 (by decide) ?_
        refine lv_icmp_le (tgt := 115) X.1 X.2.1 d_Md_worker_63 (by decide) (fun h32 => ?_) (fun h32 => ?_)
        · skip
          have hk := hk.1 h32
          refine lv_iconst (v := 0) X.1 X.2.1 d_Md_worker_115 (by decide) ?_
          refine lv_istore_n (lv' := [(3, .int 0), (0, .ref (ad 18 0)), (1, .int a0), (2, .int a1)]) X.1 X.2.1 d_Md_worker_116 rfl hl (by decide) rfl (fun ls hl => ?_)
          refine lv_iconst (v := 0) X.1 X.2.1 d_Md_worker_117 (by decide) ?_
          refine lv_istore (lv' := [(4, .int 0), (3, .int 0), (0, .ref (ad 18 0)), (1, .int a0), (2, .int a1)]) X.1 X.2.1 d_Md_worker_118 hl (by decide) rfl (fun ls hl => ?_)
          refine w_downW (fun ls => F0 m 120 ls []) (fun n H L ls => ∃ (r : rR) (v1 : Int32) (v2 : Int32) (v3 : Int32) (v4 : Int32), mSt D dA base (rs M r) ad s.heap H L ∧ lv_has ls 5 [(1, .int v1), (2, .int v2), (3, .int v3), (4, .int v4), (0, .ref (ad 18 0))] ∧ m_worker_L120_ok n r v1 v2 v3 v4 ∧ m_worker_L120 n r v1 v2 v3 v4 = F) ?_ ?_ 9 _ _ ls ⟨(ru r 18 34 0), a0, a1, 0, 0, hM, lv_sub hl [3, 4, 1, 0, 2] rfl, hk, ((if_pos h1).trans ((if_neg h30).trans ((if_neg h31).trans ((if_pos h32))))).symm.trans he⟩
          · rintro H locs ls ⟨r, v1, v2, v3, v4, hM, hl, hk, he⟩
            exact hk.elim
          · rintro n ih H locs ls ⟨r, v1, v2, v3, v4, hM, hl, hk, he⟩
            refine lv_iload X.1 X.2.1 d_Md_worker_120 (lv_at hl 3 rfl) ?_
            refine lv_bipush (v := 8) X.1 X.2.1 d_Md_worker_122 (by decide) ?_
            refine lv_icmp_ge (tgt := 157) X.1 X.2.1 d_Md_worker_124 (by decide) (fun h33 => ?_) (fun h33 => ?_)
            · skip
              have hk := hk.1 h33
              refine lv_iload_n X.1 X.2.1 d_Md_worker_157 rfl (lv_at hl 1 rfl) ?_
              refine lv_if_ne (tgt := 170) X.1 X.2.1 d_Md_worker_158 (by decide) (fun h34 => ?_) (fun h34 => ?_)
              · skip
                have hk := hk.2 h34
                refine lv_iload_n X.1 X.2.1 d_Md_worker_170 rfl (lv_at hl 1 rfl) ?_
                refine lv_iconst (v := 1) X.1 X.2.1 d_Md_worker_171 (by decide) ?_
                refine lv_icmp_ne (tgt := 184) X.1 X.2.1 d_Md_worker_172 (by decide) (fun h35 => ?_) (fun h35 => ?_)
                · skip
                  have hk := hk.2 h35
                  refine lv_iload_n X.1 X.2.1 d_Md_worker_184 rfl (lv_at hl 1 rfl) ?_
                  refine lv_iconst (v := 2) X.1 X.2.1 d_Md_worker_185 (by decide) ?_
                  refine lv_icmp_ne (tgt := 198) X.1 X.2.1 d_Md_worker_186 (by decide) (fun h36 => ?_) (fun h36 => ?_)
                  · skip
                    have hk := hk.2 h36
                    refine lv_iload_n X.1 X.2.1 d_Md_worker_198 rfl (lv_at hl 1 rfl) ?_
                    refine lv_iconst (v := 3) X.1 X.2.1 d_Md_worker_199 (by decide) ?_
                    refine lv_icmp_ne (tgt := 207) X.1 X.2.1 d_Md_worker_200 (by decide) (fun h37 => ?_) (fun h37 => ?_)
                    · skip
                      have hk := hk.2 h37
                      refine lv_aload_n X.1 X.2.1 d_Md_worker_207 rfl (lv_at hl 4 rfl) ?_
                      refine r_gets (q := 0) X hM rfl hR.1 f_Md_37 rfl (hR.2 9 (by decide)) d_Md_worker_208 (fun g38 => ?_)
                      refine lv_iload_n X.1 X.2.1 d_Md_worker_211 rfl (lv_at hl 0 rfl) ?_
                      have o39 := hk
                      refine R_iald (k := 28) X hM (by decide) rfl g38 a_m_kept (fun _ => rfl) o39.1 o39.2 d_Md_worker_212 ?_
                      have heL : (r 28 (v1.toNatClampNeg), r) = F := ((if_pos h33).trans ((if_neg h34).trans ((if_neg h35).trans ((if_neg h36).trans ((if_neg h37)))))).symm.trans he
                      exact m_iret X hr hlk hM d_Md_worker_213 ⟨Nat.le_of_ble_eq_true rfl, Nat.le_of_ble_eq_true rfl⟩ ⟨fun _ _ _ => rfl, fun _ => Nat.le_refl _⟩ ⟨congrArg (fun z => some (Value.int z.1)) heL, congrArg (fun z => rs M z.2) heL, rfl⟩
                    · skip
                      have hk := hk.1 h37
                      refine lv_iload_n X.1 X.2.1 d_Md_worker_203 rfl (lv_at hl 2 rfl) ?_
                      refine lv_goto (tgt := 213) X.1 X.2.1 d_Md_worker_204 (by decide) ?_
                      have heL : (v3, r) = F := ((if_pos h33).trans ((if_neg h34).trans ((if_neg h35).trans ((if_neg h36).trans ((if_pos h37)))))).symm.trans he
                      exact m_iret X hr hlk hM d_Md_worker_213 ⟨Nat.le_of_ble_eq_true rfl, Nat.le_of_ble_eq_true rfl⟩ ⟨fun _ _ _ => rfl, fun _ => Nat.le_refl _⟩ ⟨congrArg (fun z => some (Value.int z.1)) heL, congrArg (fun z => rs M z.2) heL, rfl⟩
                  · skip
                    have hk := hk.1 h36
                    refine lv_aload_n X.1 X.2.1 d_Md_worker_189 rfl (lv_at hl 4 rfl) ?_
                    refine r_gets (q := 0) X hM rfl hR.1 f_Md_34 rfl (hR.2 8 (by decide)) d_Md_worker_190 (fun g40 => ?_)
                    refine lv_iload_n X.1 X.2.1 d_Md_worker_193 rfl (lv_at hl 0 rfl) ?_
                    have o41 := hk
                    refine R_iald (k := 27) X hM (by decide) rfl g40 a_m_way (fun _ => rfl) o41.1 o41.2 d_Md_worker_194 ?_
                    refine lv_goto (tgt := 213) X.1 X.2.1 d_Md_worker_195 (by decide) ?_
                    have heL : (r 27 (v1.toNatClampNeg), r) = F := ((if_pos h33).trans ((if_neg h34).trans ((if_neg h35).trans ((if_pos h36))))).symm.trans he
                    exact m_iret X hr hlk hM d_Md_worker_213 ⟨Nat.le_of_ble_eq_true rfl, Nat.le_of_ble_eq_true rfl⟩ ⟨fun _ _ _ => rfl, fun _ => Nat.le_refl _⟩ ⟨congrArg (fun z => some (Value.int z.1)) heL, congrArg (fun z => rs M z.2) heL, rfl⟩
                · skip
                  have hk := hk.1 h35
                  refine lv_aload_n X.1 X.2.1 d_Md_worker_175 rfl (lv_at hl 4 rfl) ?_
                  refine r_gets (q := 0) X hM rfl hR.1 f_Md_28 rfl (hR.2 6 (by decide)) d_Md_worker_176 (fun g42 => ?_)
                  refine lv_iload_n X.1 X.2.1 d_Md_worker_179 rfl (lv_at hl 0 rfl) ?_
                  have o43 := hk
                  refine R_iald (k := 25) X hM (by decide) rfl g42 a_m_told (fun _ => rfl) o43.1 o43.2 d_Md_worker_180 ?_
                  refine lv_goto (tgt := 213) X.1 X.2.1 d_Md_worker_181 (by decide) ?_
                  have heL : (r 25 (v1.toNatClampNeg), r) = F := ((if_pos h33).trans ((if_neg h34).trans ((if_pos h35)))).symm.trans he
                  exact m_iret X hr hlk hM d_Md_worker_213 ⟨Nat.le_of_ble_eq_true rfl, Nat.le_of_ble_eq_true rfl⟩ ⟨fun _ _ _ => rfl, fun _ => Nat.le_refl _⟩ ⟨congrArg (fun z => some (Value.int z.1)) heL, congrArg (fun z => rs M z.2) heL, rfl⟩
              · skip
                have hk := hk.1 h34
                refine lv_aload_n X.1 X.2.1 d_Md_worker_161 rfl (lv_at hl 4 rfl) ?_
                refine r_gets (q := 0) X hM rfl hR.1 f_Md_25 rfl (hR.2 5 (by decide)) d_Md_worker_162 (fun g44 => ?_)
                refine lv_iload_n X.1 X.2.1 d_Md_worker_165 rfl (lv_at hl 0 rfl) ?_
                have o45 := hk
                refine R_iald (k := 24) X hM (by decide) rfl g44 a_m_state (fun _ => rfl) o45.1 o45.2 d_Md_worker_166 ?_
                refine lv_goto (tgt := 213) X.1 X.2.1 d_Md_worker_167 (by decide) ?_
                have heL : (r 24 (v1.toNatClampNeg), r) = F := ((if_pos h33).trans ((if_pos h34))).symm.trans he
                exact m_iret X hr hlk hM d_Md_worker_213 ⟨Nat.le_of_ble_eq_true rfl, Nat.le_of_ble_eq_true rfl⟩ ⟨fun _ _ _ => rfl, fun _ => Nat.le_refl _⟩ ⟨congrArg (fun z => some (Value.int z.1)) heL, congrArg (fun z => rs M z.2) heL, rfl⟩
            · skip
              have hk := hk.2 h33
              refine lv_aload_n X.1 X.2.1 d_Md_worker_127 rfl (lv_at hl 4 rfl) ?_
              refine r_gets (q := 0) X hM rfl hR.1 f_Md_68 rfl (hR.2 19 (by decide)) d_Md_worker_128 (fun g46 => ?_)
              refine lv_iload X.1 X.2.1 d_Md_worker_131 (lv_at hl 3 rfl) ?_
              obtain ⟨o47, hk⟩ := hk
              refine R_zald (k := 38) X hM (by decide) rfl g46 a_m_there (fun _ => rfl) o47.1 o47.2 d_Md_worker_133 ?_
              refine lv_if_eq (tgt := 151) X.1 X.2.1 d_Md_worker_134 (by decide) (fun h48 => ?_) (fun h48 => ?_)
              · skip
                have hk := hk.1 h48
                refine lv_iinc (v := v4 + 1) (lv' := [(4, .int (v4 + 1)), (1, .int v1), (2, .int v2), (3, .int v3), (0, .ref (ad 18 0))]) X.1 X.2.1 d_Md_worker_151 hl (k := 3) rfl rfl (by decide) rfl (fun ls hl => ?_)
                refine lv_goto (tgt := 120) X.1 X.2.1 d_Md_worker_154 (by decide) ?_
                exact ih _ _ ls ⟨_, _, _, _, _, hM, lv_sub hl [1, 2, 3, 0, 4] rfl, hk, ((if_neg h33).trans ((if_pos h48))).symm.trans he⟩
              · skip
                have hk := hk.2 h48
                refine lv_aload_n X.1 X.2.1 d_Md_worker_137 rfl (lv_at hl 4 rfl) ?_
                refine r_gets (q := 0) X hM rfl hR.1 f_Md_77 rfl (hR.2 22 (by decide)) d_Md_worker_138 (fun g49 => ?_)
                refine lv_iload X.1 X.2.1 d_Md_worker_141 (lv_at hl 3 rfl) ?_
                refine R_iald (k := 41) X hM (by decide) rfl g49 a_m_by (fun _ => rfl) o47.1 o47.2 d_Md_worker_143 ?_
                refine lv_iload_n X.1 X.2.1 d_Md_worker_144 rfl (lv_at hl 0 rfl) ?_
                refine lv_icmp_ne (tgt := 151) X.1 X.2.1 d_Md_worker_145 (by decide) (fun h50 => ?_) (fun h50 => ?_)
                · skip
                  have hk := hk.2 h50
                  refine lv_iinc (v := v4 + 1) (lv' := [(4, .int (v4 + 1)), (1, .int v1), (2, .int v2), (3, .int v3), (0, .ref (ad 18 0))]) X.1 X.2.1 d_Md_worker_151 hl (k := 3) rfl rfl (by decide) rfl (fun ls hl => ?_)
                  refine lv_goto (tgt := 120) X.1 X.2.1 d_Md_worker_154 (by decide) ?_
                  exact ih _ _ ls ⟨_, _, _, _, _, hM, lv_sub hl [1, 2, 3, 0, 4] rfl, hk, ((if_neg h33).trans ((if_neg h48).trans ((if_neg h50)))).symm.trans he⟩
                · skip
                  have hk := hk.1 h50
                  refine lv_iinc (v := v3 + 1) (lv' := [(3, .int (v3 + 1)), (1, .int v1), (2, .int v2), (4, .int v4), (0, .ref (ad 18 0))]) X.1 X.2.1 d_Md_worker_148 hl (k := 2) rfl rfl (by decide) rfl (fun ls hl => ?_)
                  refine lv_iinc (v := v4 + 1) (lv' := [(4, .int (v4 + 1)), (3, .int (v3 + 1)), (1, .int v1), (2, .int v2), (0, .ref (ad 18 0))]) X.1 X.2.1 d_Md_worker_151 hl (k := 3) rfl rfl (by decide) rfl (fun ls hl => ?_)
                  refine lv_goto (tgt := 120) X.1 X.2.1 d_Md_worker_154 (by decide) ?_
                  exact ih _ _ ls ⟨_, _, _, _, _, hM, lv_sub hl [2, 3, 1, 0, 4] rfl, hk, ((if_neg h33).trans ((if_neg h48).trans ((if_pos h50)))).symm.trans he⟩
        · skip
          have hk := hk.2 h32
          refine lv_iload_n X.1 X.2.1 d_Md_worker_66 rfl (lv_at hl 2 rfl) ?_
          refine lv_bipush (v := 10) X.1 X.2.1 d_Md_worker_67 (by decide) ?_
          refine lv_irem X.1 X.2.1 d_Md_worker_69 (by decide) ?_
          refine lv_istore_n (lv' := [(3, .int (a1 - a1 / 10 * 10)), (0, .ref (ad 18 0)), (1, .int a0), (2, .int a1)]) X.1 X.2.1 d_Md_worker_70 rfl hl (by decide) rfl (fun ls hl => ?_)
          refine lv_iload_n X.1 X.2.1 d_Md_worker_71 rfl (lv_at hl 0 rfl) ?_
          refine lv_aload_n X.1 X.2.1 d_Md_worker_72 rfl (lv_at hl 1 rfl) ?_
          refine r_gets (q := 0) X hM rfl hR.1 f_Md_37 rfl (hR.2 9 (by decide)) d_Md_worker_73 (fun g51 => ?_)
          refine lv_iload_n X.1 X.2.1 d_Md_worker_76 rfl (lv_at hl 2 rfl) ?_
          obtain ⟨o52, hk⟩ := hk
          refine R_iald (k := 28) X hM (by decide) rfl g51 a_m_kept (fun _ => rfl) o52.1 o52.2 d_Md_worker_77 ?_
          show W _ _ _ _ _ _ _ _ _ _ _ _ _ _ _ (F0 m 78 ls [.int (r 28 (a0.toNatClampNeg)), .int (a1 - a1 / 10 * 10)])
          refine lv_icmp_lt (tgt := 85) X.1 X.2.1 d_Md_worker_78 (by decide) (fun h53 => ?_) (fun h53 => ?_)
          · skip
            have hk := hk.1 h53
            refine lv_iload_n X.1 X.2.1 d_Md_worker_85 rfl (lv_at hl 3 rfl) ?_
            refine lv_bipush (v := 20) X.1 X.2.1 d_Md_worker_86 (by decide) ?_
            refine lv_icmp_ge (tgt := 104) X.1 X.2.1 d_Md_worker_88 (by decide) (fun h54 => ?_) (fun h54 => ?_)
            · skip
              have hk := hk.1 h54
              refine lv_aload_n X.1 X.2.1 d_Md_worker_104 rfl (lv_at hl 1 rfl) ?_
              refine r_gets (q := 0) X hM rfl hR.1 f_Md_43 rfl (hR.2 11 (by decide)) d_Md_worker_105 (fun g55 => ?_)
              refine lv_iconst (v := 4) X.1 X.2.1 d_Md_worker_108 (by decide) ?_
              refine lv_iload_n X.1 X.2.1 d_Md_worker_109 rfl (lv_at hl 2 rfl) ?_
              refine lv_imul X.1 X.2.1 d_Md_worker_110 ?_
              refine lv_iload_n X.1 X.2.1 d_Md_worker_111 rfl (lv_at hl 0 rfl) ?_
              refine lv_iadd X.1 X.2.1 d_Md_worker_112 ?_
              have o56 := hk
              refine R_iald (k := 30) X hM (by decide) rfl g55 a_m_keptValue (fun _ => rfl) o56.1 o56.2 d_Md_worker_113 ?_
              show W _ _ _ _ _ _ _ _ _ _ _ _ _ _ _ (F0 m 114 ls [.int (r 30 (((4 * a0) + (a1 - a1 / 10 * 10)).toNatClampNeg))])
              have heL : (r 30 (((4 * a0) + (a1 - a1 / 10 * 10)).toNatClampNeg), (ru r 18 34 0)) = F := ((if_pos h1).trans ((if_neg h30).trans ((if_neg h31).trans ((if_neg h32).trans ((if_pos h53).trans ((if_pos h54))))))).symm.trans he
              exact m_iret X hr hlk hM d_Md_worker_114 ⟨Nat.le_of_ble_eq_true rfl, Nat.le_of_ble_eq_true rfl⟩ ⟨fun _ _ _ => rfl, fun _ => Nat.le_refl _⟩ ⟨congrArg (fun z => some (Value.int z.1)) heL, congrArg (fun z => rs M z.2) heL, rfl⟩
            · skip
              have hk := hk.2 h54
              refine lv_aload_n X.1 X.2.1 d_Md_worker_91 rfl (lv_at hl 1 rfl) ?_
              refine r_gets (q := 0) X hM rfl hR.1 f_Md_40 rfl (hR.2 10 (by decide)) d_Md_worker_92 (fun g57 => ?_)
              refine lv_iconst (v := 4) X.1 X.2.1 d_Md_worker_95 (by decide) ?_
              refine lv_iload_n X.1 X.2.1 d_Md_worker_96 rfl (lv_at hl 2 rfl) ?_
              refine lv_imul X.1 X.2.1 d_Md_worker_97 ?_
              refine lv_iload_n X.1 X.2.1 d_Md_worker_98 rfl (lv_at hl 0 rfl) ?_
              refine lv_iadd X.1 X.2.1 d_Md_worker_99 ?_
              have o58 := hk
              refine R_iald (k := 29) X hM (by decide) rfl g57 a_m_keptPath (fun _ => rfl) o58.1 o58.2 d_Md_worker_100 ?_
              show W _ _ _ _ _ _ _ _ _ _ _ _ _ _ _ (F0 m 101 ls [.int (r 29 (((4 * a0) + (a1 - a1 / 10 * 10)).toNatClampNeg))])
              refine lv_goto (tgt := 114) X.1 X.2.1 d_Md_worker_101 (by decide) ?_
              have heL : (r 29 (((4 * a0) + (a1 - a1 / 10 * 10)).toNatClampNeg), (ru r 18 34 0)) = F := ((if_pos h1).trans ((if_neg h30).trans ((if_neg h31).trans ((if_neg h32).trans ((if_pos h53).trans ((if_neg h54))))))).symm.trans he
              exact m_iret X hr hlk hM d_Md_worker_114 ⟨Nat.le_of_ble_eq_true rfl, Nat.le_of_ble_eq_true rfl⟩ ⟨fun _ _ _ => rfl, fun _ => Nat.le_refl _⟩ ⟨congrArg (fun z => some (Value.int z.1)) heL, congrArg (fun z => rs M z.2) heL, rfl⟩
          · skip
            have hk := hk.2 h53
            refine lv_iconst (v := 0) X.1 X.2.1 d_Md_worker_81 (by decide) ?_
            refine lv_goto (tgt := 114) X.1 X.2.1 d_Md_worker_82 (by decide) ?_
            have heL : (0, (ru r 18 34 0)) = F := ((if_pos h1).trans ((if_neg h30).trans ((if_neg h31).trans ((if_neg h32).trans ((if_neg h53)))))).symm.trans he
            exact m_iret X hr hlk hM d_Md_worker_114 ⟨Nat.le_of_ble_eq_true rfl, Nat.le_of_ble_eq_true rfl⟩ ⟨fun _ _ _ => rfl, fun _ => Nat.le_refl _⟩ ⟨congrArg (fun z => some (Value.int z.1)) heL, congrArg (fun z => rs M z.2) heL, rfl⟩
      · skip
        have hk := hk.1 h31
        refine lv_aload_n X.1 X.2.1 d_Md_worker_49 rfl (lv_at hl 0 rfl) ?_
        refine lv_iconst (v := 2) X.1 X.2.1 d_Md_worker_50 (by decide) ?_
        refine r_cV (As := [.int 2]) (rest := []) X hml hl.1 hM (k_Md_fail l D dA base M ad hR r 2) c_Md_161 v_Md_fail kc_Md rfl hR.1 rfl (Nat.le_of_ble_eq_true rfl) ⟨rfl, rfl, Nat.le_of_ble_eq_true rfl, Nat.le_of_ble_eq_true rfl⟩ ⟨Nat.le_of_ble_eq_true rfl, Nat.le_of_ble_eq_true rfl⟩ d_Md_worker_51 ?_
        intro rv M1 ad1 H locs hP hM hE
        obtain ⟨e1, e2, e3⟩ := hP
        subst rv; subst M1; subst ad1
        show W _ _ _ _ _ _ _ _ _ _ _ _ _ _ _ (F0 m 54 ls [.int ((m_fail r 2).1)])
        have heL : ((m_fail r 2).1, (m_fail r 2).2) = F := ((if_pos h1).trans ((if_neg h30).trans ((if_pos h31)))).symm.trans he
        exact m_iret X hr hlk hM d_Md_worker_54 ⟨Nat.le_of_ble_eq_true rfl, Nat.le_of_ble_eq_true rfl⟩ ⟨fun _ _ _ => rfl, fun _ => Nat.le_refl _⟩ ⟨congrArg (fun z => some (Value.int z.1)) heL, congrArg (fun z => rs M z.2) heL, rfl⟩
    · skip
      have hk := hk.1 h30
      refine lv_iload_n X.1 X.2.1 d_Md_worker_20 rfl (lv_at hl 2 rfl) ?_
      refine lv_bipush (v := 20) X.1 X.2.1 d_Md_worker_21 (by decide) ?_
      refine lv_bipush (v := 23) X.1 X.2.1 d_Md_worker_23 (by decide) ?_
      refine r_cS (As := [.int a1, .int 20, .int 23]) (rest := []) X hml hl.1 hM (k_Md_in l D dA base (rs M r) ad a1 20 23) c_Md_103 v_Md_in rfl (Nat.le_of_ble_eq_true rfl) ⟨rfl, rfl, Nat.le_of_ble_eq_true rfl, Nat.le_of_ble_eq_true rfl⟩ ⟨Nat.le_of_ble_eq_true rfl, Nat.le_of_ble_eq_true rfl⟩ d_Md_worker_25 ?_
      intro rv M1 ad1 H locs hP hM hE
      obtain ⟨e1, e2, e3⟩ := hP
      subst rv; subst M1; subst ad1
      show W _ _ _ _ _ _ _ _ _ _ _ _ _ _ _ (F0 m 28 ls [.int (m_in a1 20 23)])
      refine lv_if_ne (tgt := 37) X.1 X.2.1 d_Md_worker_28 (by decide) (fun h59 => ?_) (fun h59 => ?_)
      · skip
        have hk := hk.2 h59
        refine lv_iload_n X.1 X.2.1 d_Md_worker_37 rfl (lv_at hl 1 rfl) ?_
        refine lv_iconst (v := 1) X.1 X.2.1 d_Md_worker_38 (by decide) ?_
        refine lv_aload_n X.1 X.2.1 d_Md_worker_39 rfl (lv_at hl 0 rfl) ?_
        refine R_geti (k := 18) X hM (by decide) rfl hR.1 f_Md_164 rfl d_Md_worker_40 ?_
        refine r_cS (As := [.int a0, .int 1, .int (r 18 30)]) (rest := []) X hml hl.1 hM (k_Md_in l D dA base (rs M r) ad a0 1 (r 18 30)) c_Md_103 v_Md_in rfl (Nat.le_of_ble_eq_true rfl) ⟨rfl, rfl, Nat.le_of_ble_eq_true rfl, Nat.le_of_ble_eq_true rfl⟩ ⟨Nat.le_of_ble_eq_true rfl, Nat.le_of_ble_eq_true rfl⟩ d_Md_worker_43 ?_
        intro rv M1 ad1 H locs hP hM hE
        obtain ⟨e1, e2, e3⟩ := hP
        subst rv; subst M1; subst ad1
        show W _ _ _ _ _ _ _ _ _ _ _ _ _ _ _ (F0 m 46 ls [.int (m_in a0 1 (r 18 30))])
        refine lv_if_ne (tgt := 55) X.1 X.2.1 d_Md_worker_46 (by decide) (fun h60 => ?_) (fun h60 => ?_)
        · skip
          have hk := hk.2 h60
          refine lv_aload_n X.1 X.2.1 d_Md_worker_55 rfl (lv_at hl 0 rfl) ?_
          refine lv_iconst (v := 0) X.1 X.2.1 d_Md_worker_56 (by decide) ?_
          refine R_puti (k := 18) X hM (by decide) rfl hR.1 p_Md_98 rfl rfl rfl d_Md_worker_57 (fun H locs hM => ?_)
          refine lv_iload_n X.1 X.2.1 d_Md_worker_60 rfl (lv_at hl 2 rfl) ?_
          refine lv_bipush (v := 9) X.1 X.2.1 d_Md_worker_61 (by decide) ?_
          refine lv_icmp_le (tgt := 115) X.1 X.2.1 d_Md_worker_63 (by decide) (fun h61 => ?_) (fun h61 => ?_)
          · skip
            have hk := hk.1 h61
            refine lv_iconst (v := 0) X.1 X.2.1 d_Md_worker_115 (by decide) ?_
            refine lv_istore_n (lv' := [(3, .int 0), (0, .ref (ad 18 0)), (1, .int a0), (2, .int a1)]) X.1 X.2.1 d_Md_worker_116 rfl hl (by decide) rfl (fun ls hl => ?_)
            refine lv_iconst (v := 0) X.1 X.2.1 d_Md_worker_117 (by decide) ?_
            refine lv_istore (lv' := [(4, .int 0), (3, .int 0), (0, .ref (ad 18 0)), (1, .int a0), (2, .int a1)]) X.1 X.2.1 d_Md_worker_118 hl (by decide) rfl (fun ls hl => ?_)
            refine w_downW (fun ls => F0 m 120 ls []) (fun n H L ls => ∃ (r : rR) (v1 : Int32) (v2 : Int32) (v3 : Int32) (v4 : Int32), mSt D dA base (rs M r) ad s.heap H L ∧ lv_has ls 5 [(1, .int v1), (2, .int v2), (3, .int v3), (4, .int v4), (0, .ref (ad 18 0))] ∧ m_worker_L120_ok n r v1 v2 v3 v4 ∧ m_worker_L120 n r v1 v2 v3 v4 = F) ?_ ?_ 9 _ _ ls ⟨(ru r 18 34 0), a0, a1, 0, 0, hM, lv_sub hl [3, 4, 1, 0, 2] rfl, hk, ((if_pos h1).trans ((if_pos h30).trans ((if_neg h59).trans ((if_neg h60).trans ((if_pos h61)))))).symm.trans he⟩
            · rintro H locs ls ⟨r, v1, v2, v3, v4, hM, hl, hk, he⟩
              exact hk.elim
            · rintro n ih H locs ls ⟨r, v1, v2, v3, v4, hM, hl, hk, he⟩
              refine lv_iload X.1 X.2.1 d_Md_worker_120 (lv_at hl 3 rfl) ?_
              refine lv_bipush (v := 8) X.1 X.2.1 d_Md_worker_122 (by decide) ?_
              refine lv_icmp_ge (tgt := 157) X.1 X.2.1 d_Md_worker_124 (by decide) (fun h62 => ?_) (fun h62 => ?_)
              · skip
                have hk := hk.1 h62
                refine lv_iload_n X.1 X.2.1 d_Md_worker_157 rfl (lv_at hl 1 rfl) ?_
                refine lv_if_ne (tgt := 170) X.1 X.2.1 d_Md_worker_158 (by decide) (fun h63 => ?_) (fun h63 => ?_)
                · skip
                  have hk := hk.2 h63
                  refine lv_iload_n X.1 X.2.1 d_Md_worker_170 rfl (lv_at hl 1 rfl) ?_
                  refine lv_iconst (v := 1) X.1 X.2.1 d_Md_worker_171 (by decide) ?_
                  refine lv_icmp_ne (tgt := 184) X.1 X.2.1 d_Md_worker_172 (by decide) (fun h64 => ?_) (fun h64 => ?_)
                  · skip
                    have hk := hk.2 h64
                    refine lv_iload_n X.1 X.2.1 d_Md_worker_184 rfl (lv_at hl 1 rfl) ?_
                    refine lv_iconst (v := 2) X.1 X.2.1 d_Md_worker_185 (by decide) ?_
                    refine lv_icmp_ne (tgt := 198) X.1 X.2.1 d_Md_worker_186 (by decide) (fun h65 => ?_) (fun h65 => ?_)
                    · skip
                      have hk := hk.2 h65
                      refine lv_iload_n X.1 X.2.1 d_Md_worker_198 rfl (lv_at hl 1 rfl) ?_
                      refine lv_iconst (v := 3) X.1 X.2.1 d_Md_worker_199 (by decide) ?_
                      refine lv_icmp_ne (tgt := 207) X.1 X.2.1 d_Md_worker_200 (by decide) (fun h66 => ?_) (fun h66 => ?_)
                      · skip
                        have hk := hk.2 h66
                        refine lv_aload_n X.1 X.2.1 d_Md_worker_207 rfl (lv_at hl 4 rfl) ?_
                        refine r_gets (q := 0) X hM rfl hR.1 f_Md_37 rfl (hR.2 9 (by decide)) d_Md_worker_208 (fun g67 => ?_)
                        refine lv_iload_n X.1 X.2.1 d_Md_worker_211 rfl (lv_at hl 0 rfl) ?_
                        have o68 := hk
                        refine R_iald (k := 28) X hM (by decide) rfl g67 a_m_kept (fun _ => rfl) o68.1 o68.2 d_Md_worker_212 ?_
                        have heL : (r 28 (v1.toNatClampNeg), r) = F := ((if_pos h62).trans ((if_neg h63).trans ((if_neg h64).trans ((if_neg h65).trans ((if_neg h66)))))).symm.trans he
                        exact m_iret X hr hlk hM d_Md_worker_213 ⟨Nat.le_of_ble_eq_true rfl, Nat.le_of_ble_eq_true rfl⟩ ⟨fun _ _ _ => rfl, fun _ => Nat.le_refl _⟩ ⟨congrArg (fun z => some (Value.int z.1)) heL, congrArg (fun z => rs M z.2) heL, rfl⟩
                      · skip
                        have hk := hk.1 h66
                        refine lv_iload_n X.1 X.2.1 d_Md_worker_203 rfl (lv_at hl 2 rfl) ?_
                        refine lv_goto (tgt := 213) X.1 X.2.1 d_Md_worker_204 (by decide) ?_
                        have heL : (v3, r) = F := ((if_pos h62).trans ((if_neg h63).trans ((if_neg h64).trans ((if_neg h65).trans ((if_pos h66)))))).symm.trans he
                        exact m_iret X hr hlk hM d_Md_worker_213 ⟨Nat.le_of_ble_eq_true rfl, Nat.le_of_ble_eq_true rfl⟩ ⟨fun _ _ _ => rfl, fun _ => Nat.le_refl _⟩ ⟨congrArg (fun z => some (Value.int z.1)) heL, congrArg (fun z => rs M z.2) heL, rfl⟩
                    · skip
                      have hk := hk.1 h65
                      refine lv_aload_n X.1 X.2.1 d_Md_worker_189 rfl (lv_at hl 4 rfl) ?_
                      refine r_gets (q := 0) X hM rfl hR.1 f_Md_34 rfl (hR.2 8 (by decide)) d_Md_worker_190 (fun g69 => ?_)
                      refine lv_iload_n X.1 X.2.1 d_Md_worker_193 rfl (lv_at hl 0 rfl) ?_
                      have o70 := hk
                      refine R_iald (k := 27) X hM (by decide) rfl g69 a_m_way (fun _ => rfl) o70.1 o70.2 d_Md_worker_194 ?_
                      refine lv_goto (tgt := 213) X.1 X.2.1 d_Md_worker_195 (by decide) ?_
                      have heL : (r 27 (v1.toNatClampNeg), r) = F := ((if_pos h62).trans ((if_neg h63).trans ((if_neg h64).trans ((if_pos h65))))).symm.trans he
                      exact m_iret X hr hlk hM d_Md_worker_213 ⟨Nat.le_of_ble_eq_true rfl, Nat.le_of_ble_eq_true rfl⟩ ⟨fun _ _ _ => rfl, fun _ => Nat.le_refl _⟩ ⟨congrArg (fun z => some (Value.int z.1)) heL, congrArg (fun z => rs M z.2) heL, rfl⟩
                  · skip
                    have hk := hk.1 h64
                    refine lv_aload_n X.1 X.2.1 d_Md_worker_175 rfl (lv_at hl 4 rfl) ?_
                    refine r_gets (q := 0) X hM rfl hR.1 f_Md_28 rfl (hR.2 6 (by decide)) d_Md_worker_176 (fun g71 => ?_)
                    refine lv_iload_n X.1 X.2.1 d_Md_worker_179 rfl (lv_at hl 0 rfl) ?_
                    have o72 := hk
                    refine R_iald (k := 25) X hM (by decide) rfl g71 a_m_told (fun _ => rfl) o72.1 o72.2 d_Md_worker_180 ?_
                    refine lv_goto (tgt := 213) X.1 X.2.1 d_Md_worker_181 (by decide) ?_
                    have heL : (r 25 (v1.toNatClampNeg), r) = F := ((if_pos h62).trans ((if_neg h63).trans ((if_pos h64)))).symm.trans he
                    exact m_iret X hr hlk hM d_Md_worker_213 ⟨Nat.le_of_ble_eq_true rfl, Nat.le_of_ble_eq_true rfl⟩ ⟨fun _ _ _ => rfl, fun _ => Nat.le_refl _⟩ ⟨congrArg (fun z => some (Value.int z.1)) heL, congrArg (fun z => rs M z.2) heL, rfl⟩
                · skip
                  have hk := hk.1 h63
                  refine lv_aload_n X.1 X.2.1 d_Md_worker_161 rfl (lv_at hl 4 rfl) ?_
                  refine r_gets (q := 0) X hM rfl hR.1 f_Md_25 rfl (hR.2 5 (by decide)) d_Md_worker_162 (fun g73 => ?_)
                  refine lv_iload_n X.1 X.2.1 d_Md_worker_165 rfl (lv_at hl 0 rfl) ?_
                  have o74 := hk
                  refine R_iald (k := 24) X hM (by decide) rfl g73 a_m_state (fun _ => rfl) o74.1 o74.2 d_Md_worker_166 ?_
                  refine lv_goto (tgt := 213) X.1 X.2.1 d_Md_worker_167 (by decide) ?_
                  have heL : (r 24 (v1.toNatClampNeg), r) = F := ((if_pos h62).trans ((if_pos h63))).symm.trans he
                  exact m_iret X hr hlk hM d_Md_worker_213 ⟨Nat.le_of_ble_eq_true rfl, Nat.le_of_ble_eq_true rfl⟩ ⟨fun _ _ _ => rfl, fun _ => Nat.le_refl _⟩ ⟨congrArg (fun z => some (Value.int z.1)) heL, congrArg (fun z => rs M z.2) heL, rfl⟩
              · skip
                have hk := hk.2 h62
                refine lv_aload_n X.1 X.2.1 d_Md_worker_127 rfl (lv_at hl 4 rfl) ?_
                refine r_gets (q := 0) X hM rfl hR.1 f_Md_68 rfl (hR.2 19 (by decide)) d_Md_worker_128 (fun g75 => ?_)
                refine lv_iload X.1 X.2.1 d_Md_worker_131 (lv_at hl 3 rfl) ?_
                obtain ⟨o76, hk⟩ := hk
                refine R_zald (k := 38) X hM (by decide) rfl g75 a_m_there (fun _ => rfl) o76.1 o76.2 d_Md_worker_133 ?_
                refine lv_if_eq (tgt := 151) X.1 X.2.1 d_Md_worker_134 (by decide) (fun h77 => ?_) (fun h77 => ?_)
                · skip
                  have hk := hk.1 h77
                  refine lv_iinc (v := v4 + 1) (lv' := [(4, .int (v4 + 1)), (1, .int v1), (2, .int v2), (3, .int v3), (0, .ref (ad 18 0))]) X.1 X.2.1 d_Md_worker_151 hl (k := 3) rfl rfl (by decide) rfl (fun ls hl => ?_)
                  refine lv_goto (tgt := 120) X.1 X.2.1 d_Md_worker_154 (by decide) ?_
                  exact ih _ _ ls ⟨_, _, _, _, _, hM, lv_sub hl [1, 2, 3, 0, 4] rfl, hk, ((if_neg h62).trans ((if_pos h77))).symm.trans he⟩
                · skip
                  have hk := hk.2 h77
                  refine lv_aload_n X.1 X.2.1 d_Md_worker_137 rfl (lv_at hl 4 rfl) ?_
                  refine r_gets (q := 0) X hM rfl hR.1 f_Md_77 rfl (hR.2 22 (by decide)) d_Md_worker_138 (fun g78 => ?_)
                  refine lv_iload X.1 X.2.1 d_Md_worker_141 (lv_at hl 3 rfl) ?_
                  refine R_iald (k := 41) X hM (by decide) rfl g78 a_m_by (fun _ => rfl) o76.1 o76.2 d_Md_worker_143 ?_
                  refine lv_iload_n X.1 X.2.1 d_Md_worker_144 rfl (lv_at hl 0 rfl) ?_
                  refine lv_icmp_ne (tgt := 151) X.1 X.2.1 d_Md_worker_145 (by decide) (fun h79 => ?_) (fun h79 => ?_)
                  · skip
                    have hk := hk.2 h79
                    refine lv_iinc (v := v4 + 1) (lv' := [(4, .int (v4 + 1)), (1, .int v1), (2, .int v2), (3, .int v3), (0, .ref (ad 18 0))]) X.1 X.2.1 d_Md_worker_151 hl (k := 3) rfl rfl (by decide) rfl (fun ls hl => ?_)
                    refine lv_goto (tgt := 120) X.1 X.2.1 d_Md_worker_154 (by decide) ?_
                    exact ih _ _ ls ⟨_, _, _, _, _, hM, lv_sub hl [1, 2, 3, 0, 4] rfl, hk, ((if_neg h62).trans ((if_neg h77).trans ((if_neg h79)))).symm.trans he⟩
                  · skip
                    have hk := hk.1 h79
                    refine lv_iinc (v := v3 + 1) (lv' := [(3, .int (v3 + 1)), (1, .int v1), (2, .int v2), (4, .int v4), (0, .ref (ad 18 0))]) X.1 X.2.1 d_Md_worker_148 hl (k := 2) rfl rfl (by decide) rfl (fun ls hl => ?_)
                    refine lv_iinc (v := v4 + 1) (lv' := [(4, .int (v4 + 1)), (3, .int (v3 + 1)), (1, .int v1), (2, .int v2), (0, .ref (ad 18 0))]) X.1 X.2.1 d_Md_worker_151 hl (k := 3) rfl rfl (by decide) rfl (fun ls hl => ?_)
                    refine lv_goto (tgt := 120) X.1 X.2.1 d_Md_worker_154 (by decide) ?_
                    exact ih _ _ ls ⟨_, _, _, _, _, hM, lv_sub hl [2, 3, 1, 0, 4] rfl, hk, ((if_neg h62).trans ((if_neg h77).trans ((if_pos h79)))).symm.trans he⟩
          · skip
            have hk := hk.2 h61
            refine lv_iload_n X.1 X.2.1 d_Md_worker_66 rfl (lv_at hl 2 rfl) ?_
            refine lv_bipush (v := 10) X.1 X.2.1 d_Md_worker_67 (by decide) ?_
            refine lv_irem X.1 X.2.1 d_Md_worker_69 (by decide) ?_
            refine lv_istore_n (lv' := [(3, .int (a1 - a1 / 10 * 10)), (0, .ref (ad 18 0)), (1, .int a0), (2, .int a1)]) X.1 X.2.1 d_Md_worker_70 rfl hl (by decide) rfl (fun ls hl => ?_)
            refine lv_iload_n X.1 X.2.1 d_Md_worker_71 rfl (lv_at hl 0 rfl) ?_
            refine lv_aload_n X.1 X.2.1 d_Md_worker_72 rfl (lv_at hl 1 rfl) ?_
            refine r_gets (q := 0) X hM rfl hR.1 f_Md_37 rfl (hR.2 9 (by decide)) d_Md_worker_73 (fun g80 => ?_)
            refine lv_iload_n X.1 X.2.1 d_Md_worker_76 rfl (lv_at hl 2 rfl) ?_
            obtain ⟨o81, hk⟩ := hk
            refine R_iald (k := 28) X hM (by decide) rfl g80 a_m_kept (fun _ => rfl) o81.1 o81.2 d_Md_worker_77 ?_
            show W _ _ _ _ _ _ _ _ _ _ _ _ _ _ _ (F0 m 78 ls [.int (r 28 (a0.toNatClampNeg)), .int (a1 - a1 / 10 * 10)])
            refine lv_icmp_lt (tgt := 85) X.1 X.2.1 d_Md_worker_78 (by decide) (fun h82 => ?_) (fun h82 => ?_)
            · skip
              have hk := hk.1 h82
              refine lv_iload_n X.1 X.2.1 d_Md_worker_85 rfl (lv_at hl 3 rfl) ?_
              refine lv_bipush (v := 20) X.1 X.2.1 d_Md_worker_86 (by decide) ?_
              refine lv_icmp_ge (tgt := 104) X.1 X.2.1 d_Md_worker_88 (by decide) (fun h83 => ?_) (fun h83 => ?_)
              · skip
                have hk := hk.1 h83
                refine lv_aload_n X.1 X.2.1 d_Md_worker_104 rfl (lv_at hl 1 rfl) ?_
                refine r_gets (q := 0) X hM rfl hR.1 f_Md_43 rfl (hR.2 11 (by decide)) d_Md_worker_105 (fun g84 => ?_)
                refine lv_iconst (v := 4) X.1 X.2.1 d_Md_worker_108 (by decide) ?_
                refine lv_iload_n X.1 X.2.1 d_Md_worker_109 rfl (lv_at hl 2 rfl) ?_
                refine lv_imul X.1 X.2.1 d_Md_worker_110 ?_
                refine lv_iload_n X.1 X.2.1 d_Md_worker_111 rfl (lv_at hl 0 rfl) ?_
                refine lv_iadd X.1 X.2.1 d_Md_worker_112 ?_
                have o85 := hk
                refine R_iald (k := 30) X hM (by decide) rfl g84 a_m_keptValue (fun _ => rfl) o85.1 o85.2 d_Md_worker_113 ?_
                show W _ _ _ _ _ _ _ _ _ _ _ _ _ _ _ (F0 m 114 ls [.int (r 30 (((4 * a0) + (a1 - a1 / 10 * 10)).toNatClampNeg))])
                have heL : (r 30 (((4 * a0) + (a1 - a1 / 10 * 10)).toNatClampNeg), (ru r 18 34 0)) = F := ((if_pos h1).trans ((if_pos h30).trans ((if_neg h59).trans ((if_neg h60).trans ((if_neg h61).trans ((if_pos h82).trans ((if_pos h83)))))))).symm.trans he
                exact m_iret X hr hlk hM d_Md_worker_114 ⟨Nat.le_of_ble_eq_true rfl, Nat.le_of_ble_eq_true rfl⟩ ⟨fun _ _ _ => rfl, fun _ => Nat.le_refl _⟩ ⟨congrArg (fun z => some (Value.int z.1)) heL, congrArg (fun z => rs M z.2) heL, rfl⟩
              · skip
                have hk := hk.2 h83
                refine lv_aload_n X.1 X.2.1 d_Md_worker_91 rfl (lv_at hl 1 rfl) ?_
                refine r_gets (q := 0) X hM rfl hR.1 f_Md_40 rfl (hR.2 10 (by decide)) d_Md_worker_92 (fun g86 => ?_)
                refine lv_iconst (v := 4) X.1 X.2.1 d_Md_worker_95 (by decide) ?_
                refine lv_iload_n X.1 X.2.1 d_Md_worker_96 rfl (lv_at hl 2 rfl) ?_
                refine lv_imul X.1 X.2.1 d_Md_worker_97 ?_
                refine lv_iload_n X.1 X.2.1 d_Md_worker_98 rfl (lv_at hl 0 rfl) ?_
                refine lv_iadd X.1 X.2.1 d_Md_worker_99 ?_
                have o87 := hk
                refine R_iald (k := 29) X hM (by decide) rfl g86 a_m_keptPath (fun _ => rfl) o87.1 o87.2 d_Md_worker_100 ?_
                show W _ _ _ _ _ _ _ _ _ _ _ _ _ _ _ (F0 m 101 ls [.int (r 29 (((4 * a0) + (a1 - a1 / 10 * 10)).toNatClampNeg))])
                refine lv_goto (tgt := 114) X.1 X.2.1 d_Md_worker_101 (by decide) ?_
                have heL : (r 29 (((4 * a0) + (a1 - a1 / 10 * 10)).toNatClampNeg), (ru r 18 34 0)) = F := ((if_pos h1).trans ((if_pos h30).trans ((if_neg h59).trans ((if_neg h60).trans ((if_neg h61).trans ((if_pos h82).trans ((if_neg h83)))))))).symm.trans he
                exact m_iret X hr hlk hM d_Md_worker_114 ⟨Nat.le_of_ble_eq_true rfl, Nat.le_of_ble_eq_true rfl⟩ ⟨fun _ _ _ => rfl, fun _ => Nat.le_refl _⟩ ⟨congrArg (fun z => some (Value.int z.1)) heL, congrArg (fun z => rs M z.2) heL, rfl⟩
            · skip
              have hk := hk.2 h82
              refine lv_iconst (v := 0) X.1 X.2.1 d_Md_worker_81 (by decide) ?_
              refine lv_goto (tgt := 114) X.1 X.2.1 d_Md_worker_82 (by decide) ?_
              have heL : (0, (ru r 18 34 0)) = F := ((if_pos h1).trans ((if_pos h30).trans ((if_neg h59).trans ((if_neg h60).trans ((if_neg h61).trans ((if_neg h82))))))).symm.trans he
              exact m_iret X hr hlk hM d_Md_worker_114 ⟨Nat.le_of_ble_eq_true rfl, Nat.le_of_ble_eq_true rfl⟩ ⟨fun _ _ _ => rfl, fun _ => Nat.le_refl _⟩ ⟨congrArg (fun z => some (Value.int z.1)) heL, congrArg (fun z => rs M z.2) heL, rfl⟩
        · skip
          have hk := hk.1 h60
          refine lv_aload_n X.1 X.2.1 d_Md_worker_49 rfl (lv_at hl 0 rfl) ?_
          refine lv_iconst (v := 2) X.1 X.2.1 d_Md_worker_50 (by decide) ?_
          refine r_cV (As := [.int 2]) (rest := []) X hml hl.1 hM (k_Md_fail l D dA base M ad hR r 2) c_Md_161 v_Md_fail kc_Md rfl hR.1 rfl (Nat.le_of_ble_eq_true rfl) ⟨rfl, rfl, Nat.le_of_ble_eq_true rfl, Nat.le_of_ble_eq_true rfl⟩ ⟨Nat.le_of_ble_eq_true rfl, Nat.le_of_ble_eq_true rfl⟩ d_Md_worker_51 ?_
          intro rv M1 ad1 H locs hP hM hE
          obtain ⟨e1, e2, e3⟩ := hP
          subst rv; subst M1; subst ad1
          show W _ _ _ _ _ _ _ _ _ _ _ _ _ _ _ (F0 m 54 ls [.int ((m_fail r 2).1)])
          have heL : ((m_fail r 2).1, (m_fail r 2).2) = F := ((if_pos h1).trans ((if_pos h30).trans ((if_neg h59).trans ((if_pos h60))))).symm.trans he
          exact m_iret X hr hlk hM d_Md_worker_54 ⟨Nat.le_of_ble_eq_true rfl, Nat.le_of_ble_eq_true rfl⟩ ⟨fun _ _ _ => rfl, fun _ => Nat.le_refl _⟩ ⟨congrArg (fun z => some (Value.int z.1)) heL, congrArg (fun z => rs M z.2) heL, rfl⟩
      · skip
        have hk := hk.1 h59
        refine lv_aload_n X.1 X.2.1 d_Md_worker_31 rfl (lv_at hl 0 rfl) ?_
        refine lv_iconst (v := 1) X.1 X.2.1 d_Md_worker_32 (by decide) ?_
        refine r_cV (As := [.int 1]) (rest := []) X hml hl.1 hM (k_Md_fail l D dA base M ad hR r 1) c_Md_161 v_Md_fail kc_Md rfl hR.1 rfl (Nat.le_of_ble_eq_true rfl) ⟨rfl, rfl, Nat.le_of_ble_eq_true rfl, Nat.le_of_ble_eq_true rfl⟩ ⟨Nat.le_of_ble_eq_true rfl, Nat.le_of_ble_eq_true rfl⟩ d_Md_worker_33 ?_
        intro rv M1 ad1 H locs hP hM hE
        obtain ⟨e1, e2, e3⟩ := hP
        subst rv; subst M1; subst ad1
        show W _ _ _ _ _ _ _ _ _ _ _ _ _ _ _ (F0 m 36 ls [.int ((m_fail r 1).1)])
        have heL : ((m_fail r 1).1, (m_fail r 1).2) = F := ((if_pos h1).trans ((if_pos h30).trans ((if_pos h59)))).symm.trans he
        exact m_iret X hr hlk hM d_Md_worker_36 ⟨Nat.le_of_ble_eq_true rfl, Nat.le_of_ble_eq_true rfl⟩ ⟨fun _ _ _ => rfl, fun _ => Nat.le_refl _⟩ ⟨congrArg (fun z => some (Value.int z.1)) heL, congrArg (fun z => rs M z.2) heL, rfl⟩
def m_outcome (r : rR) (a0 : Int32) : Int32 × rR := (if (m_in a0 0 ((r 18 31) - 1)) = 0 then (0, (ru r 18 34 1)) else (r 45 (a0.toNatClampNeg), (ru r 18 34 0)))
def m_outcome_ok (r : rR) (a0 : Int32) : Prop := (((m_in a0 0 ((r 18 31) - 1)) = 0) → (True)) ∧ (¬ ((m_in a0 0 ((r 18 31) - 1)) = 0) → (ixk a0 60))
set_option maxHeartbeats 4000000 in
set_option maxRecDepth 100000 in
theorem k_Md_outcome (l : Launch) (D : va_G) (dA : Nat → ClassId) (base : Nat) (M : mM) (ad : Nat → Nat → Nat) (hR : wR M) (r : rR) (a0 : Int32) (hk : m_outcome_ok r a0) : mMet l y_Md_outcome b_Md_outcome 2 (some FieldType.int) ({ frames := 1, cells := 0, slots := 0, locals := 22 } : Room) 0 0 D dA base (rs M r) ad [.ref (ad 18 0), .int a0] (fun rv M' ad' => rv = some (.int (m_outcome r a0).1) ∧ M' = rs M (m_outcome r a0).2 ∧ ad' = ad) := by
  refine m_start (lvs := [(0, .ref (ad 18 0)), (1, .int a0)]) (by decide) (Nat.le_of_ble_eq_true rfl) rfl ?_
  intro p e s m below meth c ls X hr hlk hin hml hM hl
  generalize he : m_outcome r a0 = F
  refine lv_aload_n X.1 X.2.1 d_Md_outcome_0 rfl (lv_at hl 0 rfl) ?_
  refine lv_iload_n X.1 X.2.1 d_Md_outcome_1 rfl (lv_at hl 1 rfl) ?_
  refine lv_iconst (v := 0) X.1 X.2.1 d_Md_outcome_2 (by decide) ?_
  refine lv_aload_n X.1 X.2.1 d_Md_outcome_3 rfl (lv_at hl 0 rfl) ?_
  refine R_geti (k := 18) X hM (by decide) rfl hR.1 f_Md_158 rfl d_Md_outcome_4 ?_
  refine lv_iconst (v := 1) X.1 X.2.1 d_Md_outcome_7 (by decide) ?_
  refine lv_isub X.1 X.2.1 d_Md_outcome_8 ?_
  refine r_cS (As := [.int a0, .int 0, .int ((r 18 31) - 1)]) (rest := [.ref (ad 18 0)]) X hml hl.1 hM (k_Md_in l D dA base (rs M r) ad a0 0 ((r 18 31) - 1)) c_Md_103 v_Md_in rfl (Nat.le_of_ble_eq_true rfl) ⟨rfl, rfl, Nat.le_of_ble_eq_true rfl, Nat.le_of_ble_eq_true rfl⟩ ⟨Nat.le_of_ble_eq_true rfl, Nat.le_of_ble_eq_true rfl⟩ d_Md_outcome_9 ?_
  intro rv M1 ad1 H locs hP hM hE
  obtain ⟨e1, e2, e3⟩ := hP
  subst rv; subst M1; subst ad1
  show W _ _ _ _ _ _ _ _ _ _ _ _ _ _ _ (F0 m 12 ls [.int (m_in a0 0 ((r 18 31) - 1)), .ref (ad 18 0)])
  refine lv_if_eq (tgt := 19) X.1 X.2.1 d_Md_outcome_12 (by decide) (fun h1 => ?_) (fun h1 => ?_)
  · skip
    have hk := hk.1 h1
    refine lv_iconst (v := 1) X.1 X.2.1 d_Md_outcome_19 (by decide) ?_
    refine R_puti (k := 18) X hM (by decide) rfl hR.1 p_Md_98 rfl rfl rfl d_Md_outcome_20 (fun H locs hM => ?_)
    refine lv_aload_n X.1 X.2.1 d_Md_outcome_23 rfl (lv_at hl 0 rfl) ?_
    refine R_geti (k := 18) X hM (by decide) rfl hR.1 f_Md_98 rfl d_Md_outcome_24 ?_
    show W _ _ _ _ _ _ _ _ _ _ _ _ _ _ _ (F0 m 27 ls [.int 1])
    refine lv_if_le (tgt := 34) X.1 X.2.1 d_Md_outcome_27 (by decide) (fun h2 => absurd h2 (by decide)) (fun h2 => ?_)
    refine lv_iconst (v := 0) X.1 X.2.1 d_Md_outcome_30 (by decide) ?_
    refine lv_goto (tgt := 40) X.1 X.2.1 d_Md_outcome_31 (by decide) ?_
    have heL : (0, (ru r 18 34 1)) = F := ((if_pos h1)).symm.trans he
    exact m_iret X hr hlk hM d_Md_outcome_40 ⟨Nat.le_of_ble_eq_true rfl, Nat.le_of_ble_eq_true rfl⟩ ⟨fun _ _ _ => rfl, fun _ => Nat.le_refl _⟩ ⟨congrArg (fun z => some (Value.int z.1)) heL, congrArg (fun z => rs M z.2) heL, rfl⟩
  · skip
    have hk := hk.2 h1
    refine lv_iconst (v := 0) X.1 X.2.1 d_Md_outcome_15 (by decide) ?_
    refine lv_goto (tgt := 20) X.1 X.2.1 d_Md_outcome_16 (by decide) ?_
    refine R_puti (k := 18) X hM (by decide) rfl hR.1 p_Md_98 rfl rfl rfl d_Md_outcome_20 (fun H locs hM => ?_)
    refine lv_aload_n X.1 X.2.1 d_Md_outcome_23 rfl (lv_at hl 0 rfl) ?_
    refine R_geti (k := 18) X hM (by decide) rfl hR.1 f_Md_98 rfl d_Md_outcome_24 ?_
    show W _ _ _ _ _ _ _ _ _ _ _ _ _ _ _ (F0 m 27 ls [.int 0])
    refine lv_if_le (tgt := 34) X.1 X.2.1 d_Md_outcome_27 (by decide) (fun h3 => ?_) (fun h3 => absurd (by decide) h3)
    refine lv_aload_n X.1 X.2.1 d_Md_outcome_34 rfl (lv_at hl 0 rfl) ?_
    refine r_gets (q := 0) X hM rfl hR.1 f_Md_89 rfl (hR.2 26 (by decide)) d_Md_outcome_35 (fun g4 => ?_)
    refine lv_iload_n X.1 X.2.1 d_Md_outcome_38 rfl (lv_at hl 1 rfl) ?_
    have o5 := hk
    refine R_iald (k := 45) X hM (by decide) rfl g4 a_m_outcome (fun _ => rfl) o5.1 o5.2 d_Md_outcome_39 ?_
    show W _ _ _ _ _ _ _ _ _ _ _ _ _ _ _ (F0 m 40 ls [.int (r 45 (a0.toNatClampNeg))])
    have heL : (r 45 (a0.toNatClampNeg), (ru r 18 34 0)) = F := ((if_neg h1)).symm.trans he
    exact m_iret X hr hlk hM d_Md_outcome_40 ⟨Nat.le_of_ble_eq_true rfl, Nat.le_of_ble_eq_true rfl⟩ ⟨fun _ _ _ => rfl, fun _ => Nat.le_refl _⟩ ⟨congrArg (fun z => some (Value.int z.1)) heL, congrArg (fun z => rs M z.2) heL, rfl⟩
def m_trace (r : rR) (a0 : Int32) : Int32 × rR := (if 60 ≤ (r 18 32) then (if (m_in a0 0 (60 - 1)) = 0 then (0, (ru r 18 34 1)) else (r 46 (a0.toNatClampNeg), (ru r 18 34 0))) else (if (m_in a0 0 ((r 18 32) - 1)) = 0 then (0, (ru r 18 34 1)) else (r 46 (a0.toNatClampNeg), (ru r 18 34 0))))
def m_trace_ok (r : rR) (a0 : Int32) : Prop := ((60 ≤ (r 18 32)) → ((((m_in a0 0 (60 - 1)) = 0) → (True)) ∧ (¬ ((m_in a0 0 (60 - 1)) = 0) → (ixk a0 60)))) ∧ (¬ (60 ≤ (r 18 32)) → ((((m_in a0 0 ((r 18 32) - 1)) = 0) → (True)) ∧ (¬ ((m_in a0 0 ((r 18 32) - 1)) = 0) → (ixk a0 60))))
set_option maxHeartbeats 4000000 in
set_option maxRecDepth 100000 in
theorem k_Md_trace (l : Launch) (D : va_G) (dA : Nat → ClassId) (base : Nat) (M : mM) (ad : Nat → Nat → Nat) (hR : wR M) (r : rR) (a0 : Int32) (hk : m_trace_ok r a0) : mMet l y_Md_trace b_Md_trace 2 (some FieldType.int) ({ frames := 1, cells := 0, slots := 0, locals := 22 } : Room) 0 0 D dA base (rs M r) ad [.ref (ad 18 0), .int a0] (fun rv M' ad' => rv = some (.int (m_trace r a0).1) ∧ M' = rs M (m_trace r a0).2 ∧ ad' = ad) := by
  refine m_start (lvs := [(0, .ref (ad 18 0)), (1, .int a0)]) (by decide) (Nat.le_of_ble_eq_true rfl) rfl ?_
  intro p e s m below meth c ls X hr hlk hin hml hM hl
  generalize he : m_trace r a0 = F
  refine lv_aload_n X.1 X.2.1 d_Md_trace_0 rfl (lv_at hl 0 rfl) ?_
  refine lv_iload_n X.1 X.2.1 d_Md_trace_1 rfl (lv_at hl 1 rfl) ?_
  refine lv_iconst (v := 0) X.1 X.2.1 d_Md_trace_2 (by decide) ?_
  refine lv_aload_n X.1 X.2.1 d_Md_trace_3 rfl (lv_at hl 0 rfl) ?_
  refine R_geti (k := 18) X hM (by decide) rfl hR.1 f_Md_111 rfl d_Md_trace_4 ?_
  refine lv_bipush (v := 60) X.1 X.2.1 d_Md_trace_7 (by decide) ?_
  refine lv_icmp_ge (tgt := 19) X.1 X.2.1 d_Md_trace_9 (by decide) (fun h1 => ?_) (fun h1 => ?_)
  · skip
    have hk := hk.1 h1
    refine lv_bipush (v := 60) X.1 X.2.1 d_Md_trace_19 (by decide) ?_
    refine lv_iconst (v := 1) X.1 X.2.1 d_Md_trace_21 (by decide) ?_
    refine lv_isub X.1 X.2.1 d_Md_trace_22 ?_
    refine r_cS (As := [.int a0, .int 0, .int (60 - 1)]) (rest := [.ref (ad 18 0)]) X hml hl.1 hM (k_Md_in l D dA base (rs M r) ad a0 0 (60 - 1)) c_Md_103 v_Md_in rfl (Nat.le_of_ble_eq_true rfl) ⟨rfl, rfl, Nat.le_of_ble_eq_true rfl, Nat.le_of_ble_eq_true rfl⟩ ⟨Nat.le_of_ble_eq_true rfl, Nat.le_of_ble_eq_true rfl⟩ d_Md_trace_23 ?_
    intro rv M1 ad1 H locs hP hM hE
    obtain ⟨e1, e2, e3⟩ := hP
    subst rv; subst M1; subst ad1
    show W _ _ _ _ _ _ _ _ _ _ _ _ _ _ _ (F0 m 26 ls [.int (m_in a0 0 (60 - 1)), .ref (ad 18 0)])
    refine lv_if_eq (tgt := 33) X.1 X.2.1 d_Md_trace_26 (by decide) (fun h2 => ?_) (fun h2 => ?_)
    · skip
      have hk := hk.1 h2
      refine lv_iconst (v := 1) X.1 X.2.1 d_Md_trace_33 (by decide) ?_
      refine R_puti (k := 18) X hM (by decide) rfl hR.1 p_Md_98 rfl rfl rfl d_Md_trace_34 (fun H locs hM => ?_)
      refine lv_aload_n X.1 X.2.1 d_Md_trace_37 rfl (lv_at hl 0 rfl) ?_
      refine R_geti (k := 18) X hM (by decide) rfl hR.1 f_Md_98 rfl d_Md_trace_38 ?_
      show W _ _ _ _ _ _ _ _ _ _ _ _ _ _ _ (F0 m 41 ls [.int 1])
      refine lv_if_le (tgt := 48) X.1 X.2.1 d_Md_trace_41 (by decide) (fun h3 => absurd h3 (by decide)) (fun h3 => ?_)
      refine lv_iconst (v := 0) X.1 X.2.1 d_Md_trace_44 (by decide) ?_
      refine lv_goto (tgt := 54) X.1 X.2.1 d_Md_trace_45 (by decide) ?_
      have heL : (0, (ru r 18 34 1)) = F := ((if_pos h1).trans ((if_pos h2))).symm.trans he
      exact m_iret X hr hlk hM d_Md_trace_54 ⟨Nat.le_of_ble_eq_true rfl, Nat.le_of_ble_eq_true rfl⟩ ⟨fun _ _ _ => rfl, fun _ => Nat.le_refl _⟩ ⟨congrArg (fun z => some (Value.int z.1)) heL, congrArg (fun z => rs M z.2) heL, rfl⟩
    · skip
      have hk := hk.2 h2
      refine lv_iconst (v := 0) X.1 X.2.1 d_Md_trace_29 (by decide) ?_
      refine lv_goto (tgt := 34) X.1 X.2.1 d_Md_trace_30 (by decide) ?_
      refine R_puti (k := 18) X hM (by decide) rfl hR.1 p_Md_98 rfl rfl rfl d_Md_trace_34 (fun H locs hM => ?_)
      refine lv_aload_n X.1 X.2.1 d_Md_trace_37 rfl (lv_at hl 0 rfl) ?_
      refine R_geti (k := 18) X hM (by decide) rfl hR.1 f_Md_98 rfl d_Md_trace_38 ?_
      show W _ _ _ _ _ _ _ _ _ _ _ _ _ _ _ (F0 m 41 ls [.int 0])
      refine lv_if_le (tgt := 48) X.1 X.2.1 d_Md_trace_41 (by decide) (fun h4 => ?_) (fun h4 => absurd (by decide) h4)
      refine lv_aload_n X.1 X.2.1 d_Md_trace_48 rfl (lv_at hl 0 rfl) ?_
      refine r_gets (q := 0) X hM rfl hR.1 f_Md_92 rfl (hR.2 27 (by decide)) d_Md_trace_49 (fun g5 => ?_)
      refine lv_iload_n X.1 X.2.1 d_Md_trace_52 rfl (lv_at hl 1 rfl) ?_
      have o6 := hk
      refine R_iald (k := 46) X hM (by decide) rfl g5 a_m_trace (fun _ => rfl) o6.1 o6.2 d_Md_trace_53 ?_
      show W _ _ _ _ _ _ _ _ _ _ _ _ _ _ _ (F0 m 54 ls [.int (r 46 (a0.toNatClampNeg))])
      have heL : (r 46 (a0.toNatClampNeg), (ru r 18 34 0)) = F := ((if_pos h1).trans ((if_neg h2))).symm.trans he
      exact m_iret X hr hlk hM d_Md_trace_54 ⟨Nat.le_of_ble_eq_true rfl, Nat.le_of_ble_eq_true rfl⟩ ⟨fun _ _ _ => rfl, fun _ => Nat.le_refl _⟩ ⟨congrArg (fun z => some (Value.int z.1)) heL, congrArg (fun z => rs M z.2) heL, rfl⟩
  · skip
    have hk := hk.2 h1
    refine lv_aload_n X.1 X.2.1 d_Md_trace_12 rfl (lv_at hl 0 rfl) ?_
    refine R_geti (k := 18) X hM (by decide) rfl hR.1 f_Md_111 rfl d_Md_trace_13 ?_
    refine lv_goto (tgt := 21) X.1 X.2.1 d_Md_trace_16 (by decide) ?_
    refine lv_iconst (v := 1) X.1 X.2.1 d_Md_trace_21 (by decide) ?_
    refine lv_isub X.1 X.2.1 d_Md_trace_22 ?_
    refine r_cS (As := [.int a0, .int 0, .int ((r 18 32) - 1)]) (rest := [.ref (ad 18 0)]) X hml hl.1 hM (k_Md_in l D dA base (rs M r) ad a0 0 ((r 18 32) - 1)) c_Md_103 v_Md_in rfl (Nat.le_of_ble_eq_true rfl) ⟨rfl, rfl, Nat.le_of_ble_eq_true rfl, Nat.le_of_ble_eq_true rfl⟩ ⟨Nat.le_of_ble_eq_true rfl, Nat.le_of_ble_eq_true rfl⟩ d_Md_trace_23 ?_
    intro rv M1 ad1 H locs hP hM hE
    obtain ⟨e1, e2, e3⟩ := hP
    subst rv; subst M1; subst ad1
    show W _ _ _ _ _ _ _ _ _ _ _ _ _ _ _ (F0 m 26 ls [.int (m_in a0 0 ((r 18 32) - 1)), .ref (ad 18 0)])
    refine lv_if_eq (tgt := 33) X.1 X.2.1 d_Md_trace_26 (by decide) (fun h7 => ?_) (fun h7 => ?_)
    · skip
      have hk := hk.1 h7
      refine lv_iconst (v := 1) X.1 X.2.1 d_Md_trace_33 (by decide) ?_
      refine R_puti (k := 18) X hM (by decide) rfl hR.1 p_Md_98 rfl rfl rfl d_Md_trace_34 (fun H locs hM => ?_)
      refine lv_aload_n X.1 X.2.1 d_Md_trace_37 rfl (lv_at hl 0 rfl) ?_
      refine R_geti (k := 18) X hM (by decide) rfl hR.1 f_Md_98 rfl d_Md_trace_38 ?_
      show W _ _ _ _ _ _ _ _ _ _ _ _ _ _ _ (F0 m 41 ls [.int 1])
      refine lv_if_le (tgt := 48) X.1 X.2.1 d_Md_trace_41 (by decide) (fun h8 => absurd h8 (by decide)) (fun h8 => ?_)
      refine lv_iconst (v := 0) X.1 X.2.1 d_Md_trace_44 (by decide) ?_
      refine lv_goto (tgt := 54) X.1 X.2.1 d_Md_trace_45 (by decide) ?_
      have heL : (0, (ru r 18 34 1)) = F := ((if_neg h1).trans ((if_pos h7))).symm.trans he
      exact m_iret X hr hlk hM d_Md_trace_54 ⟨Nat.le_of_ble_eq_true rfl, Nat.le_of_ble_eq_true rfl⟩ ⟨fun _ _ _ => rfl, fun _ => Nat.le_refl _⟩ ⟨congrArg (fun z => some (Value.int z.1)) heL, congrArg (fun z => rs M z.2) heL, rfl⟩
    · skip
      have hk := hk.2 h7
      refine lv_iconst (v := 0) X.1 X.2.1 d_Md_trace_29 (by decide) ?_
      refine lv_goto (tgt := 34) X.1 X.2.1 d_Md_trace_30 (by decide) ?_
      refine R_puti (k := 18) X hM (by decide) rfl hR.1 p_Md_98 rfl rfl rfl d_Md_trace_34 (fun H locs hM => ?_)
      refine lv_aload_n X.1 X.2.1 d_Md_trace_37 rfl (lv_at hl 0 rfl) ?_
      refine R_geti (k := 18) X hM (by decide) rfl hR.1 f_Md_98 rfl d_Md_trace_38 ?_
      show W _ _ _ _ _ _ _ _ _ _ _ _ _ _ _ (F0 m 41 ls [.int 0])
      refine lv_if_le (tgt := 48) X.1 X.2.1 d_Md_trace_41 (by decide) (fun h9 => ?_) (fun h9 => absurd (by decide) h9)
      refine lv_aload_n X.1 X.2.1 d_Md_trace_48 rfl (lv_at hl 0 rfl) ?_
      refine r_gets (q := 0) X hM rfl hR.1 f_Md_92 rfl (hR.2 27 (by decide)) d_Md_trace_49 (fun g10 => ?_)
      refine lv_iload_n X.1 X.2.1 d_Md_trace_52 rfl (lv_at hl 1 rfl) ?_
      have o11 := hk
      refine R_iald (k := 46) X hM (by decide) rfl g10 a_m_trace (fun _ => rfl) o11.1 o11.2 d_Md_trace_53 ?_
      show W _ _ _ _ _ _ _ _ _ _ _ _ _ _ _ (F0 m 54 ls [.int (r 46 (a0.toNatClampNeg))])
      have heL : (r 46 (a0.toNatClampNeg), (ru r 18 34 0)) = F := ((if_neg h1).trans ((if_neg h7))).symm.trans he
      exact m_iret X hr hlk hM d_Md_trace_54 ⟨Nat.le_of_ble_eq_true rfl, Nat.le_of_ble_eq_true rfl⟩ ⟨fun _ _ _ => rfl, fun _ => Nat.le_refl _⟩ ⟨congrArg (fun z => some (Value.int z.1)) heL, congrArg (fun z => rs M z.2) heL, rfl⟩
def m_count_L184 : Nat → rR → Int32 → Int32 → Int32 → Int32 → Int32 × rR
  | 0, r, _, _, _, _ => (0, r)
  | n + 1, r, v1, v2, v3, v4 => (if (r 18 31) ≤ v4 then (if v1 = 0 then (r 18 29, r) else (if v1 = 1 then (r 18 30, r) else (if v1 = 2 then (v2, r) else (if v1 = 3 then (r 18 31, r) else (if v1 = 4 then (v3, r) else (r 18 32, r)))))) else (if (r 45 (v4.toNatClampNeg)) = 0 then m_count_L184 n r v1 v2 (v3 + 1) (v4 + 1) else m_count_L184 n r v1 v2 v3 (v4 + 1)))
def m_count_L184_ok : Nat → rR → Int32 → Int32 → Int32 → Int32 → Prop
  | 0, _, _, _, _, _ => False
  | n + 1, r, v1, v2, v3, v4 => (((r 18 31) ≤ v4) → (True)) ∧ (¬ ((r 18 31) ≤ v4) → ((ixk v4 60) ∧ ((((r 45 (v4.toNatClampNeg)) = 0) → (m_count_L184_ok n r v1 v2 (v3 + 1) (v4 + 1))) ∧ (¬ ((r 45 (v4.toNatClampNeg)) = 0) → (m_count_L184_ok n r v1 v2 v3 (v4 + 1))))))
def m_count_L155 : Nat → rR → Int32 → Int32 → Int32 → Int32 → Int32 × rR
  | 0, r, _, _, _, _ => (0, r)
  | n + 1, r, v1, v2, v3, v4 => (if 8 ≤ v4 then m_count_L184 70 r v1 v2 v3 0 else (if (r 38 (v4.toNatClampNeg)) = 0 then m_count_L155 n r v1 v2 v3 (v4 + 1) else m_count_L155 n r v1 (v2 + 1) v3 (v4 + 1)))
def m_count_L155_ok : Nat → rR → Int32 → Int32 → Int32 → Int32 → Prop
  | 0, _, _, _, _, _ => False
  | n + 1, r, v1, v2, v3, v4 => ((8 ≤ v4) → (m_count_L184_ok 70 r v1 v2 v3 0)) ∧ (¬ (8 ≤ v4) → ((ixk v4 8) ∧ ((((r 38 (v4.toNatClampNeg)) = 0) → (m_count_L155_ok n r v1 v2 v3 (v4 + 1))) ∧ (¬ ((r 38 (v4.toNatClampNeg)) = 0) → (m_count_L155_ok n r v1 (v2 + 1) v3 (v4 + 1))))))
def m_count (r : rR) (a0 : Int32) : Int32 × rR := (if (m_in a0 0 5) = 0 then (if (m_in a0 10 17) = 0 then (if (m_in a0 20 27) = 0 then (if (m_in a0 30 34) = 0 then ((m_fail r 1).1, (m_fail r 1).2) else (if a0 ≤ 29 then (if a0 ≤ 19 then (if a0 ≤ 9 then m_count_L155 70 (ru r 18 34 0) a0 0 0 0 else (if (r 38 ((a0 - 10).toNatClampNeg)) = 0 then (0, (ru r 18 34 0)) else (r 41 ((a0 - 10).toNatClampNeg), (ru r 18 34 0)))) else (if (r 38 ((a0 - 20).toNatClampNeg)) = 0 then ((-1), (ru r 18 34 0)) else (r 40 ((a0 - 20).toNatClampNeg), (ru r 18 34 0)))) else (if (r 18 29) ≤ (a0 - 30) then ((-1), (ru r 18 34 0)) else (r 32 ((a0 - 30).toNatClampNeg), (ru r 18 34 0))))) else (if a0 ≤ 29 then (if a0 ≤ 19 then (if a0 ≤ 9 then m_count_L155 70 (ru r 18 34 0) a0 0 0 0 else (if (r 38 ((a0 - 10).toNatClampNeg)) = 0 then (0, (ru r 18 34 0)) else (r 41 ((a0 - 10).toNatClampNeg), (ru r 18 34 0)))) else (if (r 38 ((a0 - 20).toNatClampNeg)) = 0 then ((-1), (ru r 18 34 0)) else (r 40 ((a0 - 20).toNatClampNeg), (ru r 18 34 0)))) else (if (r 18 29) ≤ (a0 - 30) then ((-1), (ru r 18 34 0)) else (r 32 ((a0 - 30).toNatClampNeg), (ru r 18 34 0))))) else (if a0 ≤ 29 then (if a0 ≤ 19 then (if a0 ≤ 9 then m_count_L155 70 (ru r 18 34 0) a0 0 0 0 else (if (r 38 ((a0 - 10).toNatClampNeg)) = 0 then (0, (ru r 18 34 0)) else (r 41 ((a0 - 10).toNatClampNeg), (ru r 18 34 0)))) else (if (r 38 ((a0 - 20).toNatClampNeg)) = 0 then ((-1), (ru r 18 34 0)) else (r 40 ((a0 - 20).toNatClampNeg), (ru r 18 34 0)))) else (if (r 18 29) ≤ (a0 - 30) then ((-1), (ru r 18 34 0)) else (r 32 ((a0 - 30).toNatClampNeg), (ru r 18 34 0))))) else (if a0 ≤ 29 then (if a0 ≤ 19 then (if a0 ≤ 9 then m_count_L155 70 (ru r 18 34 0) a0 0 0 0 else (if (r 38 ((a0 - 10).toNatClampNeg)) = 0 then (0, (ru r 18 34 0)) else (r 41 ((a0 - 10).toNatClampNeg), (ru r 18 34 0)))) else (if (r 38 ((a0 - 20).toNatClampNeg)) = 0 then ((-1), (ru r 18 34 0)) else (r 40 ((a0 - 20).toNatClampNeg), (ru r 18 34 0)))) else (if (r 18 29) ≤ (a0 - 30) then ((-1), (ru r 18 34 0)) else (r 32 ((a0 - 30).toNatClampNeg), (ru r 18 34 0)))))
def m_count_ok (r : rR) (a0 : Int32) : Prop := (((m_in a0 0 5) = 0) → ((((m_in a0 10 17) = 0) → ((((m_in a0 20 27) = 0) → ((((m_in a0 30 34) = 0) → (True)) ∧ (¬ ((m_in a0 30 34) = 0) → (((a0 ≤ 29) → (((a0 ≤ 19) → (((a0 ≤ 9) → (m_count_L155_ok 70 (ru r 18 34 0) a0 0 0 0)) ∧ (¬ (a0 ≤ 9) → (ixk (a0 - 10) 8)))) ∧ (¬ (a0 ≤ 19) → (ixk (a0 - 20) 8)))) ∧ (¬ (a0 ≤ 29) → ((((r 18 29) ≤ (a0 - 30)) → (True)) ∧ (¬ ((r 18 29) ≤ (a0 - 30)) → (ixk (a0 - 30) 6)))))))) ∧ (¬ ((m_in a0 20 27) = 0) → (((a0 ≤ 29) → (((a0 ≤ 19) → (((a0 ≤ 9) → (m_count_L155_ok 70 (ru r 18 34 0) a0 0 0 0)) ∧ (¬ (a0 ≤ 9) → (ixk (a0 - 10) 8)))) ∧ (¬ (a0 ≤ 19) → (ixk (a0 - 20) 8)))) ∧ (¬ (a0 ≤ 29) → ((((r 18 29) ≤ (a0 - 30)) → (True)) ∧ (¬ ((r 18 29) ≤ (a0 - 30)) → (ixk (a0 - 30) 6)))))))) ∧ (¬ ((m_in a0 10 17) = 0) → (((a0 ≤ 29) → (((a0 ≤ 19) → (((a0 ≤ 9) → (m_count_L155_ok 70 (ru r 18 34 0) a0 0 0 0)) ∧ (¬ (a0 ≤ 9) → (ixk (a0 - 10) 8)))) ∧ (¬ (a0 ≤ 19) → (ixk (a0 - 20) 8)))) ∧ (¬ (a0 ≤ 29) → ((((r 18 29) ≤ (a0 - 30)) → (True)) ∧ (¬ ((r 18 29) ≤ (a0 - 30)) → (ixk (a0 - 30) 6)))))))) ∧ (¬ ((m_in a0 0 5) = 0) → (((a0 ≤ 29) → (((a0 ≤ 19) → (((a0 ≤ 9) → (m_count_L155_ok 70 (ru r 18 34 0) a0 0 0 0)) ∧ (¬ (a0 ≤ 9) → (ixk (a0 - 10) 8)))) ∧ (¬ (a0 ≤ 19) → (ixk (a0 - 20) 8)))) ∧ (¬ (a0 ≤ 29) → ((((r 18 29) ≤ (a0 - 30)) → (True)) ∧ (¬ ((r 18 29) ≤ (a0 - 30)) → (ixk (a0 - 30) 6))))))
set_option maxHeartbeats 4000000 in
set_option maxRecDepth 100000 in
theorem k_Md_count (l : Launch) (D : va_G) (dA : Nat → ClassId) (base : Nat) (M : mM) (ad : Nat → Nat → Nat) (hR : wR M) (r : rR) (a0 : Int32) (hk : m_count_ok r a0) : mMet l y_Md_count b_Md_count 5 (some FieldType.int) ({ frames := 1, cells := 0, slots := 0, locals := 22 } : Room) 0 0 D dA base (rs M r) ad [.ref (ad 18 0), .int a0] (fun rv M' ad' => rv = some (.int (m_count r a0).1) ∧ M' = rs M (m_count r a0).2 ∧ ad' = ad) := by
  refine m_start (lvs := [(0, .ref (ad 18 0)), (1, .int a0)]) (by decide) (Nat.le_of_ble_eq_true rfl) rfl ?_
  intro p e s m below meth c ls X hr hlk hin hml hM hl
  generalize he : m_count r a0 = F
  refine lv_iload_n X.1 X.2.1 d_Md_count_0 rfl (lv_at hl 1 rfl) ?_
  refine lv_iconst (v := 0) X.1 X.2.1 d_Md_count_1 (by decide) ?_
  refine lv_iconst (v := 5) X.1 X.2.1 d_Md_count_2 (by decide) ?_
  refine r_cS (As := [.int a0, .int 0, .int 5]) (rest := []) X hml hl.1 hM (k_Md_in l D dA base (rs M r) ad a0 0 5) c_Md_103 v_Md_in rfl (Nat.le_of_ble_eq_true rfl) ⟨rfl, rfl, Nat.le_of_ble_eq_true rfl, Nat.le_of_ble_eq_true rfl⟩ ⟨Nat.le_of_ble_eq_true rfl, Nat.le_of_ble_eq_true rfl⟩ d_Md_count_3 ?_
  intro rv M1 ad1 H locs hP hM hE
  obtain ⟨e1, e2, e3⟩ := hP
  subst rv; subst M1; subst ad1
  show W _ _ _ _ _ _ _ _ _ _ _ _ _ _ _ (F0 m 6 ls [.int (m_in a0 0 5)])
  refine lv_if_ne (tgt := 48) X.1 X.2.1 d_Md_count_6 (by decide) (fun h1 => ?_) (fun h1 => ?_)
  · skip
    have hk := hk.2 h1
    refine lv_aload_n X.1 X.2.1 d_Md_count_48 rfl (lv_at hl 0 rfl) ?_
    refine lv_iconst (v := 0) X.1 X.2.1 d_Md_count_49 (by decide) ?_
    refine R_puti (k := 18) X hM (by decide) rfl hR.1 p_Md_98 rfl rfl rfl d_Md_count_50 (fun H locs hM => ?_)
    refine lv_iload_n X.1 X.2.1 d_Md_count_53 rfl (lv_at hl 1 rfl) ?_
    refine lv_bipush (v := 29) X.1 X.2.1 d_Md_count_54 (by decide) ?_
    refine lv_icmp_le (tgt := 84) X.1 X.2.1 d_Md_count_56 (by decide) (fun h2 => ?_) (fun h2 => ?_)
    · skip
      have hk := hk.1 h2
      refine lv_iload_n X.1 X.2.1 d_Md_count_84 rfl (lv_at hl 1 rfl) ?_
      refine lv_bipush (v := 19) X.1 X.2.1 d_Md_count_85 (by decide) ?_
      refine lv_icmp_le (tgt := 116) X.1 X.2.1 d_Md_count_87 (by decide) (fun h3 => ?_) (fun h3 => ?_)
      · skip
        have hk := hk.1 h3
        refine lv_iload_n X.1 X.2.1 d_Md_count_116 rfl (lv_at hl 1 rfl) ?_
        refine lv_bipush (v := 9) X.1 X.2.1 d_Md_count_117 (by decide) ?_
        refine lv_icmp_le (tgt := 148) X.1 X.2.1 d_Md_count_119 (by decide) (fun h4 => ?_) (fun h4 => ?_)
        · skip
          have hk := hk.1 h4
          refine lv_iconst (v := 0) X.1 X.2.1 d_Md_count_148 (by decide) ?_
          refine lv_istore_n (lv' := [(2, .int 0), (0, .ref (ad 18 0)), (1, .int a0)]) X.1 X.2.1 d_Md_count_149 rfl hl (by decide) rfl (fun ls hl => ?_)
          refine lv_iconst (v := 0) X.1 X.2.1 d_Md_count_150 (by decide) ?_
          refine lv_istore_n (lv' := [(3, .int 0), (2, .int 0), (0, .ref (ad 18 0)), (1, .int a0)]) X.1 X.2.1 d_Md_count_151 rfl hl (by decide) rfl (fun ls hl => ?_)
          refine lv_iconst (v := 0) X.1 X.2.1 d_Md_count_152 (by decide) ?_
          refine lv_istore (lv' := [(4, .int 0), (3, .int 0), (2, .int 0), (0, .ref (ad 18 0)), (1, .int a0)]) X.1 X.2.1 d_Md_count_153 hl (by decide) rfl (fun ls hl => ?_)
          refine w_downW (fun ls => F0 m 155 ls []) (fun n H L ls => ∃ (r : rR) (v1 : Int32) (v2 : Int32) (v3 : Int32) (v4 : Int32), mSt D dA base (rs M r) ad s.heap H L ∧ lv_has ls 5 [(1, .int v1), (2, .int v2), (3, .int v3), (4, .int v4), (0, .ref (ad 18 0))] ∧ m_count_L155_ok n r v1 v2 v3 v4 ∧ m_count_L155 n r v1 v2 v3 v4 = F) ?_ ?_ 70 _ _ ls ⟨(ru r 18 34 0), a0, 0, 0, 0, hM, lv_sub hl [4, 2, 1, 0, 3] rfl, hk, ((if_neg h1).trans ((if_pos h2).trans ((if_pos h3).trans ((if_pos h4))))).symm.trans he⟩
          · rintro H locs ls ⟨r, v1, v2, v3, v4, hM, hl, hk, he⟩
            exact hk.elim
          · rintro n ih H locs ls ⟨r, v1, v2, v3, v4, hM, hl, hk, he⟩
            refine lv_iload X.1 X.2.1 d_Md_count_155 (lv_at hl 3 rfl) ?_
            refine lv_bipush (v := 8) X.1 X.2.1 d_Md_count_157 (by decide) ?_
            refine lv_icmp_ge (tgt := 181) X.1 X.2.1 d_Md_count_159 (by decide) (fun h5 => ?_) (fun h5 => ?_)
            · skip
              have hk := hk.1 h5
              refine lv_iconst (v := 0) X.1 X.2.1 d_Md_count_181 (by decide) ?_
              refine lv_istore (lv' := [(4, .int 0), (1, .int v1), (2, .int v2), (3, .int v3), (0, .ref (ad 18 0))]) X.1 X.2.1 d_Md_count_182 hl (by decide) rfl (fun ls hl => ?_)
              refine w_downW (fun ls => F0 m 184 ls []) (fun n H L ls => ∃ (r : rR) (v1 : Int32) (v2 : Int32) (v3 : Int32) (v4 : Int32), mSt D dA base (rs M r) ad s.heap H L ∧ lv_has ls 5 [(1, .int v1), (2, .int v2), (3, .int v3), (4, .int v4), (0, .ref (ad 18 0))] ∧ m_count_L184_ok n r v1 v2 v3 v4 ∧ m_count_L184 n r v1 v2 v3 v4 = F) ?_ ?_ 70 _ _ ls ⟨r, v1, v2, v3, 0, hM, lv_sub hl [1, 2, 3, 0, 4] rfl, hk, ((if_pos h5)).symm.trans he⟩
              · rintro H locs ls ⟨r, v1, v2, v3, v4, hM, hl, hk, he⟩
                exact hk.elim
              · rintro n ih H locs ls ⟨r, v1, v2, v3, v4, hM, hl, hk, he⟩
                refine lv_iload X.1 X.2.1 d_Md_count_184 (lv_at hl 3 rfl) ?_
                refine lv_aload_n X.1 X.2.1 d_Md_count_186 rfl (lv_at hl 4 rfl) ?_
                refine R_geti (k := 18) X hM (by decide) rfl hR.1 f_Md_158 rfl d_Md_count_187 ?_
                refine lv_icmp_ge (tgt := 212) X.1 X.2.1 d_Md_count_190 (by decide) (fun h6 => ?_) (fun h6 => ?_)
                · skip
                  have hk := hk.1 h6
                  refine lv_iload_n X.1 X.2.1 d_Md_count_212 rfl (lv_at hl 0 rfl) ?_
                  refine lv_if_ne (tgt := 223) X.1 X.2.1 d_Md_count_213 (by decide) (fun h7 => ?_) (fun h7 => ?_)
                  · skip
                    skip
                    refine lv_iload_n X.1 X.2.1 d_Md_count_223 rfl (lv_at hl 0 rfl) ?_
                    refine lv_iconst (v := 1) X.1 X.2.1 d_Md_count_224 (by decide) ?_
                    refine lv_icmp_ne (tgt := 235) X.1 X.2.1 d_Md_count_225 (by decide) (fun h8 => ?_) (fun h8 => ?_)
                    · skip
                      skip
                      refine lv_iload_n X.1 X.2.1 d_Md_count_235 rfl (lv_at hl 0 rfl) ?_
                      refine lv_iconst (v := 2) X.1 X.2.1 d_Md_count_236 (by decide) ?_
                      refine lv_icmp_ne (tgt := 244) X.1 X.2.1 d_Md_count_237 (by decide) (fun h9 => ?_) (fun h9 => ?_)
                      · skip
                        skip
                        refine lv_iload_n X.1 X.2.1 d_Md_count_244 rfl (lv_at hl 0 rfl) ?_
                        refine lv_iconst (v := 3) X.1 X.2.1 d_Md_count_245 (by decide) ?_
                        refine lv_icmp_ne (tgt := 256) X.1 X.2.1 d_Md_count_246 (by decide) (fun h10 => ?_) (fun h10 => ?_)
                        · skip
                          skip
                          refine lv_iload_n X.1 X.2.1 d_Md_count_256 rfl (lv_at hl 0 rfl) ?_
                          refine lv_iconst (v := 4) X.1 X.2.1 d_Md_count_257 (by decide) ?_
                          refine lv_icmp_ne (tgt := 265) X.1 X.2.1 d_Md_count_258 (by decide) (fun h11 => ?_) (fun h11 => ?_)
                          · skip
                            skip
                            refine lv_aload_n X.1 X.2.1 d_Md_count_265 rfl (lv_at hl 4 rfl) ?_
                            refine R_geti (k := 18) X hM (by decide) rfl hR.1 f_Md_111 rfl d_Md_count_266 ?_
                            have heL : (r 18 32, r) = F := ((if_pos h6).trans ((if_neg h7).trans ((if_neg h8).trans ((if_neg h9).trans ((if_neg h10).trans ((if_neg h11))))))).symm.trans he
                            exact m_iret X hr hlk hM d_Md_count_269 ⟨Nat.le_of_ble_eq_true rfl, Nat.le_of_ble_eq_true rfl⟩ ⟨fun _ _ _ => rfl, fun _ => Nat.le_refl _⟩ ⟨congrArg (fun z => some (Value.int z.1)) heL, congrArg (fun z => rs M z.2) heL, rfl⟩
                          · skip
                            skip
                            refine lv_iload_n X.1 X.2.1 d_Md_count_261 rfl (lv_at hl 2 rfl) ?_
                            refine lv_goto (tgt := 269) X.1 X.2.1 d_Md_count_262 (by decide) ?_
                            have heL : (v3, r) = F := ((if_pos h6).trans ((if_neg h7).trans ((if_neg h8).trans ((if_neg h9).trans ((if_neg h10).trans ((if_pos h11))))))).symm.trans he
                            exact m_iret X hr hlk hM d_Md_count_269 ⟨Nat.le_of_ble_eq_true rfl, Nat.le_of_ble_eq_true rfl⟩ ⟨fun _ _ _ => rfl, fun _ => Nat.le_refl _⟩ ⟨congrArg (fun z => some (Value.int z.1)) heL, congrArg (fun z => rs M z.2) heL, rfl⟩
                        · skip
                          skip
                          refine lv_aload_n X.1 X.2.1 d_Md_count_249 rfl (lv_at hl 4 rfl) ?_
                          refine R_geti (k := 18) X hM (by decide) rfl hR.1 f_Md_158 rfl d_Md_count_250 ?_
                          refine lv_goto (tgt := 269) X.1 X.2.1 d_Md_count_253 (by decide) ?_
                          have heL : (r 18 31, r) = F := ((if_pos h6).trans ((if_neg h7).trans ((if_neg h8).trans ((if_neg h9).trans ((if_pos h10)))))).symm.trans he
                          exact m_iret X hr hlk hM d_Md_count_269 ⟨Nat.le_of_ble_eq_true rfl, Nat.le_of_ble_eq_true rfl⟩ ⟨fun _ _ _ => rfl, fun _ => Nat.le_refl _⟩ ⟨congrArg (fun z => some (Value.int z.1)) heL, congrArg (fun z => rs M z.2) heL, rfl⟩
                      · skip
                        skip
                        refine lv_iload_n X.1 X.2.1 d_Md_count_240 rfl (lv_at hl 1 rfl) ?_
                        refine lv_goto (tgt := 269) X.1 X.2.1 d_Md_count_241 (by decide) ?_
                        have heL : (v2, r) = F := ((if_pos h6).trans ((if_neg h7).trans ((if_neg h8).trans ((if_pos h9))))).symm.trans he
                        exact m_iret X hr hlk hM d_Md_count_269 ⟨Nat.le_of_ble_eq_true rfl, Nat.le_of_ble_eq_true rfl⟩ ⟨fun _ _ _ => rfl, fun _ => Nat.le_refl _⟩ ⟨congrArg (fun z => some (Value.int z.1)) heL, congrArg (fun z => rs M z.2) heL, rfl⟩
                    · skip
                      skip
                      refine lv_aload_n X.1 X.2.1 d_Md_count_228 rfl (lv_at hl 4 rfl) ?_
                      refine R_geti (k := 18) X hM (by decide) rfl hR.1 f_Md_164 rfl d_Md_count_229 ?_
                      refine lv_goto (tgt := 269) X.1 X.2.1 d_Md_count_232 (by decide) ?_
                      have heL : (r 18 30, r) = F := ((if_pos h6).trans ((if_neg h7).trans ((if_pos h8)))).symm.trans he
                      exact m_iret X hr hlk hM d_Md_count_269 ⟨Nat.le_of_ble_eq_true rfl, Nat.le_of_ble_eq_true rfl⟩ ⟨fun _ _ _ => rfl, fun _ => Nat.le_refl _⟩ ⟨congrArg (fun z => some (Value.int z.1)) heL, congrArg (fun z => rs M z.2) heL, rfl⟩
                  · skip
                    skip
                    refine lv_aload_n X.1 X.2.1 d_Md_count_216 rfl (lv_at hl 4 rfl) ?_
                    refine R_geti (k := 18) X hM (by decide) rfl hR.1 f_Md_129 rfl d_Md_count_217 ?_
                    refine lv_goto (tgt := 269) X.1 X.2.1 d_Md_count_220 (by decide) ?_
                    have heL : (r 18 29, r) = F := ((if_pos h6).trans ((if_pos h7))).symm.trans he
                    exact m_iret X hr hlk hM d_Md_count_269 ⟨Nat.le_of_ble_eq_true rfl, Nat.le_of_ble_eq_true rfl⟩ ⟨fun _ _ _ => rfl, fun _ => Nat.le_refl _⟩ ⟨congrArg (fun z => some (Value.int z.1)) heL, congrArg (fun z => rs M z.2) heL, rfl⟩
                · skip
                  have hk := hk.2 h6
                  refine lv_aload_n X.1 X.2.1 d_Md_count_193 rfl (lv_at hl 4 rfl) ?_
                  refine r_gets (q := 0) X hM rfl hR.1 f_Md_89 rfl (hR.2 26 (by decide)) d_Md_count_194 (fun g12 => ?_)
                  refine lv_iload X.1 X.2.1 d_Md_count_197 (lv_at hl 3 rfl) ?_
                  obtain ⟨o13, hk⟩ := hk
                  refine R_iald (k := 45) X hM (by decide) rfl g12 a_m_outcome (fun _ => rfl) o13.1 o13.2 d_Md_count_199 ?_
                  refine lv_if_ne (tgt := 206) X.1 X.2.1 d_Md_count_200 (by decide) (fun h14 => ?_) (fun h14 => ?_)
                  · skip
                    have hk := hk.2 h14
                    refine lv_iinc (v := v4 + 1) (lv' := [(4, .int (v4 + 1)), (1, .int v1), (2, .int v2), (3, .int v3), (0, .ref (ad 18 0))]) X.1 X.2.1 d_Md_count_206 hl (k := 3) rfl rfl (by decide) rfl (fun ls hl => ?_)
                    refine lv_goto (tgt := 184) X.1 X.2.1 d_Md_count_209 (by decide) ?_
                    exact ih _ _ ls ⟨_, _, _, _, _, hM, lv_sub hl [1, 2, 3, 0, 4] rfl, hk, ((if_neg h6).trans ((if_neg h14))).symm.trans he⟩
                  · skip
                    have hk := hk.1 h14
                    refine lv_iinc (v := v3 + 1) (lv' := [(3, .int (v3 + 1)), (1, .int v1), (2, .int v2), (4, .int v4), (0, .ref (ad 18 0))]) X.1 X.2.1 d_Md_count_203 hl (k := 2) rfl rfl (by decide) rfl (fun ls hl => ?_)
                    refine lv_iinc (v := v4 + 1) (lv' := [(4, .int (v4 + 1)), (3, .int (v3 + 1)), (1, .int v1), (2, .int v2), (0, .ref (ad 18 0))]) X.1 X.2.1 d_Md_count_206 hl (k := 3) rfl rfl (by decide) rfl (fun ls hl => ?_)
                    refine lv_goto (tgt := 184) X.1 X.2.1 d_Md_count_209 (by decide) ?_
                    exact ih _ _ ls ⟨_, _, _, _, _, hM, lv_sub hl [2, 3, 1, 0, 4] rfl, hk, ((if_neg h6).trans ((if_pos h14))).symm.trans he⟩
            · skip
              have hk := hk.2 h5
              refine lv_aload_n X.1 X.2.1 d_Md_count_162 rfl (lv_at hl 4 rfl) ?_
              refine r_gets (q := 0) X hM rfl hR.1 f_Md_68 rfl (hR.2 19 (by decide)) d_Md_count_163 (fun g15 => ?_)
              refine lv_iload X.1 X.2.1 d_Md_count_166 (lv_at hl 3 rfl) ?_
              obtain ⟨o16, hk⟩ := hk
              refine R_zald (k := 38) X hM (by decide) rfl g15 a_m_there (fun _ => rfl) o16.1 o16.2 d_Md_count_168 ?_
              refine lv_if_eq (tgt := 175) X.1 X.2.1 d_Md_count_169 (by decide) (fun h17 => ?_) (fun h17 => ?_)
              · skip
                have hk := hk.1 h17
                refine lv_iinc (v := v4 + 1) (lv' := [(4, .int (v4 + 1)), (1, .int v1), (2, .int v2), (3, .int v3), (0, .ref (ad 18 0))]) X.1 X.2.1 d_Md_count_175 hl (k := 3) rfl rfl (by decide) rfl (fun ls hl => ?_)
                refine lv_goto (tgt := 155) X.1 X.2.1 d_Md_count_178 (by decide) ?_
                exact ih _ _ ls ⟨_, _, _, _, _, hM, lv_sub hl [1, 2, 3, 0, 4] rfl, hk, ((if_neg h5).trans ((if_pos h17))).symm.trans he⟩
              · skip
                have hk := hk.2 h17
                refine lv_iinc (v := v2 + 1) (lv' := [(2, .int (v2 + 1)), (1, .int v1), (3, .int v3), (4, .int v4), (0, .ref (ad 18 0))]) X.1 X.2.1 d_Md_count_172 hl (k := 1) rfl rfl (by decide) rfl (fun ls hl => ?_)
                refine lv_iinc (v := v4 + 1) (lv' := [(4, .int (v4 + 1)), (2, .int (v2 + 1)), (1, .int v1), (3, .int v3), (0, .ref (ad 18 0))]) X.1 X.2.1 d_Md_count_175 hl (k := 3) rfl rfl (by decide) rfl (fun ls hl => ?_)
                refine lv_goto (tgt := 155) X.1 X.2.1 d_Md_count_178 (by decide) ?_
                exact ih _ _ ls ⟨_, _, _, _, _, hM, lv_sub hl [2, 1, 3, 0, 4] rfl, hk, ((if_neg h5).trans ((if_neg h17))).symm.trans he⟩
        · skip
          have hk := hk.2 h4
          refine lv_aload_n X.1 X.2.1 d_Md_count_122 rfl (lv_at hl 0 rfl) ?_
          refine r_gets (q := 0) X hM rfl hR.1 f_Md_68 rfl (hR.2 19 (by decide)) d_Md_count_123 (fun g18 => ?_)
          refine lv_iload_n X.1 X.2.1 d_Md_count_126 rfl (lv_at hl 1 rfl) ?_
          refine lv_bipush (v := 10) X.1 X.2.1 d_Md_count_127 (by decide) ?_
          refine lv_isub X.1 X.2.1 d_Md_count_129 ?_
          have o19 := hk
          refine R_zald (k := 38) X hM (by decide) rfl g18 a_m_there (fun _ => rfl) o19.1 o19.2 d_Md_count_130 ?_
          show W _ _ _ _ _ _ _ _ _ _ _ _ _ _ _ (F0 m 131 ls [.int (r 38 ((a0 - 10).toNatClampNeg))])
          refine lv_if_eq (tgt := 146) X.1 X.2.1 d_Md_count_131 (by decide) (fun h20 => ?_) (fun h20 => ?_)
          · skip
            skip
            refine lv_iconst (v := 0) X.1 X.2.1 d_Md_count_146 (by decide) ?_
            have heL : (0, (ru r 18 34 0)) = F := ((if_neg h1).trans ((if_pos h2).trans ((if_pos h3).trans ((if_neg h4).trans ((if_pos h20)))))).symm.trans he
            exact m_iret X hr hlk hM d_Md_count_147 ⟨Nat.le_of_ble_eq_true rfl, Nat.le_of_ble_eq_true rfl⟩ ⟨fun _ _ _ => rfl, fun _ => Nat.le_refl _⟩ ⟨congrArg (fun z => some (Value.int z.1)) heL, congrArg (fun z => rs M z.2) heL, rfl⟩
          · skip
            skip
            refine lv_aload_n X.1 X.2.1 d_Md_count_134 rfl (lv_at hl 0 rfl) ?_
            refine r_gets (q := 0) X hM rfl hR.1 f_Md_77 rfl (hR.2 22 (by decide)) d_Md_count_135 (fun g21 => ?_)
            refine lv_iload_n X.1 X.2.1 d_Md_count_138 rfl (lv_at hl 1 rfl) ?_
            refine lv_bipush (v := 10) X.1 X.2.1 d_Md_count_139 (by decide) ?_
            refine lv_isub X.1 X.2.1 d_Md_count_141 ?_
            refine R_iald (k := 41) X hM (by decide) rfl g21 a_m_by (fun _ => rfl) o19.1 o19.2 d_Md_count_142 ?_
            show W _ _ _ _ _ _ _ _ _ _ _ _ _ _ _ (F0 m 143 ls [.int (r 41 ((a0 - 10).toNatClampNeg))])
            refine lv_goto (tgt := 147) X.1 X.2.1 d_Md_count_143 (by decide) ?_
            have heL : (r 41 ((a0 - 10).toNatClampNeg), (ru r 18 34 0)) = F := ((if_neg h1).trans ((if_pos h2).trans ((if_pos h3).trans ((if_neg h4).trans ((if_neg h20)))))).symm.trans he
            exact m_iret X hr hlk hM d_Md_count_147 ⟨Nat.le_of_ble_eq_true rfl, Nat.le_of_ble_eq_true rfl⟩ ⟨fun _ _ _ => rfl, fun _ => Nat.le_refl _⟩ ⟨congrArg (fun z => some (Value.int z.1)) heL, congrArg (fun z => rs M z.2) heL, rfl⟩
      · skip
        have hk := hk.2 h3
        refine lv_aload_n X.1 X.2.1 d_Md_count_90 rfl (lv_at hl 0 rfl) ?_
        refine r_gets (q := 0) X hM rfl hR.1 f_Md_68 rfl (hR.2 19 (by decide)) d_Md_count_91 (fun g22 => ?_)
        refine lv_iload_n X.1 X.2.1 d_Md_count_94 rfl (lv_at hl 1 rfl) ?_
        refine lv_bipush (v := 20) X.1 X.2.1 d_Md_count_95 (by decide) ?_
        refine lv_isub X.1 X.2.1 d_Md_count_97 ?_
        have o23 := hk
        refine R_zald (k := 38) X hM (by decide) rfl g22 a_m_there (fun _ => rfl) o23.1 o23.2 d_Md_count_98 ?_
        show W _ _ _ _ _ _ _ _ _ _ _ _ _ _ _ (F0 m 99 ls [.int (r 38 ((a0 - 20).toNatClampNeg))])
        refine lv_if_eq (tgt := 114) X.1 X.2.1 d_Md_count_99 (by decide) (fun h24 => ?_) (fun h24 => ?_)
        · skip
          skip
          refine lv_iconst (v := (-1)) X.1 X.2.1 d_Md_count_114 (by decide) ?_
          have heL : ((-1), (ru r 18 34 0)) = F := ((if_neg h1).trans ((if_pos h2).trans ((if_neg h3).trans ((if_pos h24))))).symm.trans he
          exact m_iret X hr hlk hM d_Md_count_115 ⟨Nat.le_of_ble_eq_true rfl, Nat.le_of_ble_eq_true rfl⟩ ⟨fun _ _ _ => rfl, fun _ => Nat.le_refl _⟩ ⟨congrArg (fun z => some (Value.int z.1)) heL, congrArg (fun z => rs M z.2) heL, rfl⟩
        · skip
          skip
          refine lv_aload_n X.1 X.2.1 d_Md_count_102 rfl (lv_at hl 0 rfl) ?_
          refine r_gets (q := 0) X hM rfl hR.1 f_Md_74 rfl (hR.2 21 (by decide)) d_Md_count_103 (fun g25 => ?_)
          refine lv_iload_n X.1 X.2.1 d_Md_count_106 rfl (lv_at hl 1 rfl) ?_
          refine lv_bipush (v := 20) X.1 X.2.1 d_Md_count_107 (by decide) ?_
          refine lv_isub X.1 X.2.1 d_Md_count_109 ?_
          refine R_iald (k := 40) X hM (by decide) rfl g25 a_m_path (fun _ => rfl) o23.1 o23.2 d_Md_count_110 ?_
          show W _ _ _ _ _ _ _ _ _ _ _ _ _ _ _ (F0 m 111 ls [.int (r 40 ((a0 - 20).toNatClampNeg))])
          refine lv_goto (tgt := 115) X.1 X.2.1 d_Md_count_111 (by decide) ?_
          have heL : (r 40 ((a0 - 20).toNatClampNeg), (ru r 18 34 0)) = F := ((if_neg h1).trans ((if_pos h2).trans ((if_neg h3).trans ((if_neg h24))))).symm.trans he
          exact m_iret X hr hlk hM d_Md_count_115 ⟨Nat.le_of_ble_eq_true rfl, Nat.le_of_ble_eq_true rfl⟩ ⟨fun _ _ _ => rfl, fun _ => Nat.le_refl _⟩ ⟨congrArg (fun z => some (Value.int z.1)) heL, congrArg (fun z => rs M z.2) heL, rfl⟩
    · skip
      have hk := hk.2 h2
      refine lv_iload_n X.1 X.2.1 d_Md_count_59 rfl (lv_at hl 1 rfl) ?_
      refine lv_bipush (v := 30) X.1 X.2.1 d_Md_count_60 (by decide) ?_
      refine lv_isub X.1 X.2.1 d_Md_count_62 ?_
      refine lv_aload_n X.1 X.2.1 d_Md_count_63 rfl (lv_at hl 0 rfl) ?_
      refine R_geti (k := 18) X hM (by decide) rfl hR.1 f_Md_129 rfl d_Md_count_64 ?_
      show W _ _ _ _ _ _ _ _ _ _ _ _ _ _ _ (F0 m 67 ls [.int (r 18 29), .int (a0 - 30)])
      refine lv_icmp_ge (tgt := 82) X.1 X.2.1 d_Md_count_67 (by decide) (fun h26 => ?_) (fun h26 => ?_)
      · skip
        have hk := hk.1 h26
        refine lv_iconst (v := (-1)) X.1 X.2.1 d_Md_count_82 (by decide) ?_
        have heL : ((-1), (ru r 18 34 0)) = F := ((if_neg h1).trans ((if_neg h2).trans ((if_pos h26)))).symm.trans he
        exact m_iret X hr hlk hM d_Md_count_83 ⟨Nat.le_of_ble_eq_true rfl, Nat.le_of_ble_eq_true rfl⟩ ⟨fun _ _ _ => rfl, fun _ => Nat.le_refl _⟩ ⟨congrArg (fun z => some (Value.int z.1)) heL, congrArg (fun z => rs M z.2) heL, rfl⟩
      · skip
        have hk := hk.2 h26
        refine lv_aload_n X.1 X.2.1 d_Md_count_70 rfl (lv_at hl 0 rfl) ?_
        refine r_gets (q := 0) X hM rfl hR.1 f_Md_50 rfl (hR.2 13 (by decide)) d_Md_count_71 (fun g27 => ?_)
        refine lv_iload_n X.1 X.2.1 d_Md_count_74 rfl (lv_at hl 1 rfl) ?_
        refine lv_bipush (v := 30) X.1 X.2.1 d_Md_count_75 (by decide) ?_
        refine lv_isub X.1 X.2.1 d_Md_count_77 ?_
        have o28 := hk
        refine R_iald (k := 32) X hM (by decide) rfl g27 a_m_scope (fun _ => rfl) o28.1 o28.2 d_Md_count_78 ?_
        show W _ _ _ _ _ _ _ _ _ _ _ _ _ _ _ (F0 m 79 ls [.int (r 32 ((a0 - 30).toNatClampNeg))])
        refine lv_goto (tgt := 83) X.1 X.2.1 d_Md_count_79 (by decide) ?_
        have heL : (r 32 ((a0 - 30).toNatClampNeg), (ru r 18 34 0)) = F := ((if_neg h1).trans ((if_neg h2).trans ((if_neg h26)))).symm.trans he
        exact m_iret X hr hlk hM d_Md_count_83 ⟨Nat.le_of_ble_eq_true rfl, Nat.le_of_ble_eq_true rfl⟩ ⟨fun _ _ _ => rfl, fun _ => Nat.le_refl _⟩ ⟨congrArg (fun z => some (Value.int z.1)) heL, congrArg (fun z => rs M z.2) heL, rfl⟩
  · skip
    have hk := hk.1 h1
    refine lv_iload_n X.1 X.2.1 d_Md_count_9 rfl (lv_at hl 1 rfl) ?_
    refine lv_bipush (v := 10) X.1 X.2.1 d_Md_count_10 (by decide) ?_
    refine lv_bipush (v := 17) X.1 X.2.1 d_Md_count_12 (by decide) ?_
    refine r_cS (As := [.int a0, .int 10, .int 17]) (rest := []) X hml hl.1 hM (k_Md_in l D dA base (rs M r) ad a0 10 17) c_Md_103 v_Md_in rfl (Nat.le_of_ble_eq_true rfl) ⟨rfl, rfl, Nat.le_of_ble_eq_true rfl, Nat.le_of_ble_eq_true rfl⟩ ⟨Nat.le_of_ble_eq_true rfl, Nat.le_of_ble_eq_true rfl⟩ d_Md_count_14 ?_
    intro rv M1 ad1 H locs hP hM hE
    obtain ⟨e1, e2, e3⟩ := hP
    subst rv; subst M1; subst ad1
    show W _ _ _ _ _ _ _ _ _ _ _ _ _ _ _ (F0 m 17 ls [.int (m_in a0 10 17)])
    refine lv_if_ne (tgt := 48) X.1 X.2.1 d_Md_count_17 (by decide) (fun h29 => ?_) (fun h29 => ?_)
    · skip
      have hk := hk.2 h29
      refine lv_aload_n X.1 X.2.1 d_Md_count_48 rfl (lv_at hl 0 rfl) ?_
      refine lv_iconst (v := 0) X.1 X.2.1 d_Md_count_49 (by decide) ?_
      refine R_puti (k := 18) X hM (by decide) rfl hR.1 p_Md_98 rfl rfl rfl d_Md_count_50 (fun H locs hM => ?_)
      refine lv_iload_n X.1 X.2.1 d_Md_count_53 rfl (lv_at hl 1 rfl) ?_
      refine lv_bipush (v := 29) X.1 X.2.1 d_Md_count_54 (by decide) ?_
      refine lv_icmp_le (tgt := 84) X.1 X.2.1 d_Md_count_56 (by decide) (fun h30 => ?_) (fun h30 => ?_)
      · skip
        have hk := hk.1 h30
        refine lv_iload_n X.1 X.2.1 d_Md_count_84 rfl (lv_at hl 1 rfl) ?_
        refine lv_bipush (v := 19) X.1 X.2.1 d_Md_count_85 (by decide) ?_
        refine lv_icmp_le (tgt := 116) X.1 X.2.1 d_Md_count_87 (by decide) (fun h31 => ?_) (fun h31 => ?_)
        · skip
          have hk := hk.1 h31
          refine lv_iload_n X.1 X.2.1 d_Md_count_116 rfl (lv_at hl 1 rfl) ?_
          refine lv_bipush (v := 9) X.1 X.2.1 d_Md_count_117 (by decide) ?_
          refine lv_icmp_le (tgt := 148) X.1 X.2.1 d_Md_count_119 (by decide) (fun h32 => ?_) (fun h32 => ?_)
          · skip
            have hk := hk.1 h32
            refine lv_iconst (v := 0) X.1 X.2.1 d_Md_count_148 (by decide) ?_
            refine lv_istore_n (lv' := [(2, .int 0), (0, .ref (ad 18 0)), (1, .int a0)]) X.1 X.2.1 d_Md_count_149 rfl hl (by decide) rfl (fun ls hl => ?_)
            refine lv_iconst (v := 0) X.1 X.2.1 d_Md_count_150 (by decide) ?_
            refine lv_istore_n (lv' := [(3, .int 0), (2, .int 0), (0, .ref (ad 18 0)), (1, .int a0)]) X.1 X.2.1 d_Md_count_151 rfl hl (by decide) rfl (fun ls hl => ?_)
            refine lv_iconst (v := 0) X.1 X.2.1 d_Md_count_152 (by decide) ?_
            refine lv_istore (lv' := [(4, .int 0), (3, .int 0), (2, .int 0), (0, .ref (ad 18 0)), (1, .int a0)]) X.1 X.2.1 d_Md_count_153 hl (by decide) rfl (fun ls hl => ?_)
            refine w_downW (fun ls => F0 m 155 ls []) (fun n H L ls => ∃ (r : rR) (v1 : Int32) (v2 : Int32) (v3 : Int32) (v4 : Int32), mSt D dA base (rs M r) ad s.heap H L ∧ lv_has ls 5 [(1, .int v1), (2, .int v2), (3, .int v3), (4, .int v4), (0, .ref (ad 18 0))] ∧ m_count_L155_ok n r v1 v2 v3 v4 ∧ m_count_L155 n r v1 v2 v3 v4 = F) ?_ ?_ 70 _ _ ls ⟨(ru r 18 34 0), a0, 0, 0, 0, hM, lv_sub hl [4, 2, 1, 0, 3] rfl, hk, ((if_pos h1).trans ((if_neg h29).trans ((if_pos h30).trans ((if_pos h31).trans ((if_pos h32)))))).symm.trans he⟩
            · rintro H locs ls ⟨r, v1, v2, v3, v4, hM, hl, hk, he⟩
              exact hk.elim
            · rintro n ih H locs ls ⟨r, v1, v2, v3, v4, hM, hl, hk, he⟩
              refine lv_iload X.1 X.2.1 d_Md_count_155 (lv_at hl 3 rfl) ?_
              refine lv_bipush (v := 8) X.1 X.2.1 d_Md_count_157 (by decide) ?_
              refine lv_icmp_ge (tgt := 181) X.1 X.2.1 d_Md_count_159 (by decide) (fun h33 => ?_) (fun h33 => ?_)
              · skip
                have hk := hk.1 h33
                refine lv_iconst (v := 0) X.1 X.2.1 d_Md_count_181 (by decide) ?_
                refine lv_istore (lv' := [(4, .int 0), (1, .int v1), (2, .int v2), (3, .int v3), (0, .ref (ad 18 0))]) X.1 X.2.1 d_Md_count_182 hl (by decide) rfl (fun ls hl => ?_)
                refine w_downW (fun ls => F0 m 184 ls []) (fun n H L ls => ∃ (r : rR) (v1 : Int32) (v2 : Int32) (v3 : Int32) (v4 : Int32), mSt D dA base (rs M r) ad s.heap H L ∧ lv_has ls 5 [(1, .int v1), (2, .int v2), (3, .int v3), (4, .int v4), (0, .ref (ad 18 0))] ∧ m_count_L184_ok n r v1 v2 v3 v4 ∧ m_count_L184 n r v1 v2 v3 v4 = F) ?_ ?_ 70 _ _ ls ⟨r, v1, v2, v3, 0, hM, lv_sub hl [1, 2, 3, 0, 4] rfl, hk, ((if_pos h33)).symm.trans he⟩
                · rintro H locs ls ⟨r, v1, v2, v3, v4, hM, hl, hk, he⟩
                  exact hk.elim
                · rintro n ih H locs ls ⟨r, v1, v2, v3, v4, hM, hl, hk, he⟩
                  refine lv_iload X.1 X.2.1 d_Md_count_184 (lv_at hl 3 rfl) ?_
                  refine lv_aload_n X.1 X.2.1 d_Md_count_186 rfl (lv_at hl 4 rfl) ?_
                  refine R_geti (k := 18) X hM (by decide) rfl hR.1 f_Md_158 rfl d_Md_count_187 ?_
                  refine lv_icmp_ge (tgt := 212) X.1 X.2.1 d_Md_count_190 (by decide) (fun h34 => ?_) (fun h34 => ?_)
                  · skip
                    have hk := hk.1 h34
                    refine lv_iload_n X.1 X.2.1 d_Md_count_212 rfl (lv_at hl 0 rfl) ?_
                    refine lv_if_ne (tgt := 223) X.1 X.2.1 d_Md_count_213 (by decide) (fun h35 => ?_) (fun h35 => ?_)
                    · skip
                      skip
                      refine lv_iload_n X.1 X.2.1 d_Md_count_223 rfl (lv_at hl 0 rfl) ?_
                      refine lv_iconst (v := 1) X.1 X.2.1 d_Md_count_224 (by decide) ?_
                      refine lv_icmp_ne (tgt := 235) X.1 X.2.1 d_Md_count_225 (by decide) (fun h36 => ?_) (fun h36 => ?_)
                      · skip
                        skip
                        refine lv_iload_n X.1 X.2.1 d_Md_count_235 rfl (lv_at hl 0 rfl) ?_
                        refine lv_iconst (v := 2) X.1 X.2.1 d_Md_count_236 (by decide) ?_
                        refine lv_icmp_ne (tgt := 244) X.1 X.2.1 d_Md_count_237 (by decide) (fun h37 => ?_) (fun h37 => ?_)
                        · skip
                          skip
                          refine lv_iload_n X.1 X.2.1 d_Md_count_244 rfl (lv_at hl 0 rfl) ?_
                          refine lv_iconst (v := 3) X.1 X.2.1 d_Md_count_245 (by decide) ?_
                          refine lv_icmp_ne (tgt := 256) X.1 X.2.1 d_Md_count_246 (by decide) (fun h38 => ?_) (fun h38 => ?_)
                          · skip
                            skip
                            refine lv_iload_n X.1 X.2.1 d_Md_count_256 rfl (lv_at hl 0 rfl) ?_
                            refine lv_iconst (v := 4) X.1 X.2.1 d_Md_count_257 (by decide) ?_
                            refine lv_icmp_ne (tgt := 265) X.1 X.2.1 d_Md_count_258 (by decide) (fun h39 => ?_) (fun h39 => ?_)
                            · skip
                              skip
                              refine lv_aload_n X.1 X.2.1 d_Md_count_265 rfl (lv_at hl 4 rfl) ?_
                              refine R_geti (k := 18) X hM (by decide) rfl hR.1 f_Md_111 rfl d_Md_count_266 ?_
                              have heL : (r 18 32, r) = F := ((if_pos h34).trans ((if_neg h35).trans ((if_neg h36).trans ((if_neg h37).trans ((if_neg h38).trans ((if_neg h39))))))).symm.trans he
                              exact m_iret X hr hlk hM d_Md_count_269 ⟨Nat.le_of_ble_eq_true rfl, Nat.le_of_ble_eq_true rfl⟩ ⟨fun _ _ _ => rfl, fun _ => Nat.le_refl _⟩ ⟨congrArg (fun z => some (Value.int z.1)) heL, congrArg (fun z => rs M z.2) heL, rfl⟩
                            · skip
                              skip
                              refine lv_iload_n X.1 X.2.1 d_Md_count_261 rfl (lv_at hl 2 rfl) ?_
                              refine lv_goto (tgt := 269) X.1 X.2.1 d_Md_count_262 (by decide) ?_
                              have heL : (v3, r) = F := ((if_pos h34).trans ((if_neg h35).trans ((if_neg h36).trans ((if_neg h37).trans ((if_neg h38).trans ((if_pos h39))))))).symm.trans he
                              exact m_iret X hr hlk hM d_Md_count_269 ⟨Nat.le_of_ble_eq_true rfl, Nat.le_of_ble_eq_true rfl⟩ ⟨fun _ _ _ => rfl, fun _ => Nat.le_refl _⟩ ⟨congrArg (fun z => some (Value.int z.1)) heL, congrArg (fun z => rs M z.2) heL, rfl⟩
                          · skip
                            skip
                            refine lv_aload_n X.1 X.2.1 d_Md_count_249 rfl (lv_at hl 4 rfl) ?_
                            refine R_geti (k := 18) X hM (by decide) rfl hR.1 f_Md_158 rfl d_Md_count_250 ?_
                            refine lv_goto (tgt := 269) X.1 X.2.1 d_Md_count_253 (by decide) ?_
                            have heL : (r 18 31, r) = F := ((if_pos h34).trans ((if_neg h35).trans ((if_neg h36).trans ((if_neg h37).trans ((if_pos h38)))))).symm.trans he
                            exact m_iret X hr hlk hM d_Md_count_269 ⟨Nat.le_of_ble_eq_true rfl, Nat.le_of_ble_eq_true rfl⟩ ⟨fun _ _ _ => rfl, fun _ => Nat.le_refl _⟩ ⟨congrArg (fun z => some (Value.int z.1)) heL, congrArg (fun z => rs M z.2) heL, rfl⟩
                        · skip
                          skip
                          refine lv_iload_n X.1 X.2.1 d_Md_count_240 rfl (lv_at hl 1 rfl) ?_
                          refine lv_goto (tgt := 269) X.1 X.2.1 d_Md_count_241 (by decide) ?_
                          have heL : (v2, r) = F := ((if_pos h34).trans ((if_neg h35).trans ((if_neg h36).trans ((if_pos h37))))).symm.trans he
                          exact m_iret X hr hlk hM d_Md_count_269 ⟨Nat.le_of_ble_eq_true rfl, Nat.le_of_ble_eq_true rfl⟩ ⟨fun _ _ _ => rfl, fun _ => Nat.le_refl _⟩ ⟨congrArg (fun z => some (Value.int z.1)) heL, congrArg (fun z => rs M z.2) heL, rfl⟩
                      · skip
                        skip
                        refine lv_aload_n X.1 X.2.1 d_Md_count_228 rfl (lv_at hl 4 rfl) ?_
                        refine R_geti (k := 18) X hM (by decide) rfl hR.1 f_Md_164 rfl d_Md_count_229 ?_
                        refine lv_goto (tgt := 269) X.1 X.2.1 d_Md_count_232 (by decide) ?_
                        have heL : (r 18 30, r) = F := ((if_pos h34).trans ((if_neg h35).trans ((if_pos h36)))).symm.trans he
                        exact m_iret X hr hlk hM d_Md_count_269 ⟨Nat.le_of_ble_eq_true rfl, Nat.le_of_ble_eq_true rfl⟩ ⟨fun _ _ _ => rfl, fun _ => Nat.le_refl _⟩ ⟨congrArg (fun z => some (Value.int z.1)) heL, congrArg (fun z => rs M z.2) heL, rfl⟩
                    · skip
                      skip
                      refine lv_aload_n X.1 X.2.1 d_Md_count_216 rfl (lv_at hl 4 rfl) ?_
                      refine R_geti (k := 18) X hM (by decide) rfl hR.1 f_Md_129 rfl d_Md_count_217 ?_
                      refine lv_goto (tgt := 269) X.1 X.2.1 d_Md_count_220 (by decide) ?_
                      have heL : (r 18 29, r) = F := ((if_pos h34).trans ((if_pos h35))).symm.trans he
                      exact m_iret X hr hlk hM d_Md_count_269 ⟨Nat.le_of_ble_eq_true rfl, Nat.le_of_ble_eq_true rfl⟩ ⟨fun _ _ _ => rfl, fun _ => Nat.le_refl _⟩ ⟨congrArg (fun z => some (Value.int z.1)) heL, congrArg (fun z => rs M z.2) heL, rfl⟩
                  · skip
                    have hk := hk.2 h34
                    refine lv_aload_n X.1 X.2.1 d_Md_count_193 rfl (lv_at hl 4 rfl) ?_
                    refine r_gets (q := 0) X hM rfl hR.1 f_Md_89 rfl (hR.2 26 (by decide)) d_Md_count_194 (fun g40 => ?_)
                    refine lv_iload X.1 X.2.1 d_Md_count_197 (lv_at hl 3 rfl) ?_
                    obtain ⟨o41, hk⟩ := hk
                    refine R_iald (k := 45) X hM (by decide) rfl g40 a_m_outcome (fun _ => rfl) o41.1 o41.2 d_Md_count_199 ?_
                    refine lv_if_ne (tgt := 206) X.1 X.2.1 d_Md_count_200 (by decide) (fun h42 => ?_) (fun h42 => ?_)
                    · skip
                      have hk := hk.2 h42
                      refine lv_iinc (v := v4 + 1) (lv' := [(4, .int (v4 + 1)), (1, .int v1), (2, .int v2), (3, .int v3), (0, .ref (ad 18 0))]) X.1 X.2.1 d_Md_count_206 hl (k := 3) rfl rfl (by decide) rfl (fun ls hl => ?_)
                      refine lv_goto (tgt := 184) X.1 X.2.1 d_Md_count_209 (by decide) ?_
                      exact ih _ _ ls ⟨_, _, _, _, _, hM, lv_sub hl [1, 2, 3, 0, 4] rfl, hk, ((if_neg h34).trans ((if_neg h42))).symm.trans he⟩
                    · skip
                      have hk := hk.1 h42
                      refine lv_iinc (v := v3 + 1) (lv' := [(3, .int (v3 + 1)), (1, .int v1), (2, .int v2), (4, .int v4), (0, .ref (ad 18 0))]) X.1 X.2.1 d_Md_count_203 hl (k := 2) rfl rfl (by decide) rfl (fun ls hl => ?_)
                      refine lv_iinc (v := v4 + 1) (lv' := [(4, .int (v4 + 1)), (3, .int (v3 + 1)), (1, .int v1), (2, .int v2), (0, .ref (ad 18 0))]) X.1 X.2.1 d_Md_count_206 hl (k := 3) rfl rfl (by decide) rfl (fun ls hl => ?_)
                      refine lv_goto (tgt := 184) X.1 X.2.1 d_Md_count_209 (by decide) ?_
                      exact ih _ _ ls ⟨_, _, _, _, _, hM, lv_sub hl [2, 3, 1, 0, 4] rfl, hk, ((if_neg h34).trans ((if_pos h42))).symm.trans he⟩
              · skip
                have hk := hk.2 h33
                refine lv_aload_n X.1 X.2.1 d_Md_count_162 rfl (lv_at hl 4 rfl) ?_
                refine r_gets (q := 0) X hM rfl hR.1 f_Md_68 rfl (hR.2 19 (by decide)) d_Md_count_163 (fun g43 => ?_)
                refine lv_iload X.1 X.2.1 d_Md_count_166 (lv_at hl 3 rfl) ?_
                obtain ⟨o44, hk⟩ := hk
                refine R_zald (k := 38) X hM (by decide) rfl g43 a_m_there (fun _ => rfl) o44.1 o44.2 d_Md_count_168 ?_
                refine lv_if_eq (tgt := 175) X.1 X.2.1 d_Md_count_169 (by decide) (fun h45 => ?_) (fun h45 => ?_)
                · skip
                  have hk := hk.1 h45
                  refine lv_iinc (v := v4 + 1) (lv' := [(4, .int (v4 + 1)), (1, .int v1), (2, .int v2), (3, .int v3), (0, .ref (ad 18 0))]) X.1 X.2.1 d_Md_count_175 hl (k := 3) rfl rfl (by decide) rfl (fun ls hl => ?_)
                  refine lv_goto (tgt := 155) X.1 X.2.1 d_Md_count_178 (by decide) ?_
                  exact ih _ _ ls ⟨_, _, _, _, _, hM, lv_sub hl [1, 2, 3, 0, 4] rfl, hk, ((if_neg h33).trans ((if_pos h45))).symm.trans he⟩
                · skip
                  have hk := hk.2 h45
                  refine lv_iinc (v := v2 + 1) (lv' := [(2, .int (v2 + 1)), (1, .int v1), (3, .int v3), (4, .int v4), (0, .ref (ad 18 0))]) X.1 X.2.1 d_Md_count_172 hl (k := 1) rfl rfl (by decide) rfl (fun ls hl => ?_)
                  refine lv_iinc (v := v4 + 1) (lv' := [(4, .int (v4 + 1)), (2, .int (v2 + 1)), (1, .int v1), (3, .int v3), (0, .ref (ad 18 0))]) X.1 X.2.1 d_Md_count_175 hl (k := 3) rfl rfl (by decide) rfl (fun ls hl => ?_)
                  refine lv_goto (tgt := 155) X.1 X.2.1 d_Md_count_178 (by decide) ?_
                  exact ih _ _ ls ⟨_, _, _, _, _, hM, lv_sub hl [2, 1, 3, 0, 4] rfl, hk, ((if_neg h33).trans ((if_neg h45))).symm.trans he⟩
          · skip
            have hk := hk.2 h32
            refine lv_aload_n X.1 X.2.1 d_Md_count_122 rfl (lv_at hl 0 rfl) ?_
            refine r_gets (q := 0) X hM rfl hR.1 f_Md_68 rfl (hR.2 19 (by decide)) d_Md_count_123 (fun g46 => ?_)
            refine lv_iload_n X.1 X.2.1 d_Md_count_126 rfl (lv_at hl 1 rfl) ?_
            refine lv_bipush (v := 10) X.1 X.2.1 d_Md_count_127 (by decide) ?_
            refine lv_isub X.1 X.2.1 d_Md_count_129 ?_
            have o47 := hk
            refine R_zald (k := 38) X hM (by decide) rfl g46 a_m_there (fun _ => rfl) o47.1 o47.2 d_Md_count_130 ?_
            show W _ _ _ _ _ _ _ _ _ _ _ _ _ _ _ (F0 m 131 ls [.int (r 38 ((a0 - 10).toNatClampNeg))])
            refine lv_if_eq (tgt := 146) X.1 X.2.1 d_Md_count_131 (by decide) (fun h48 => ?_) (fun h48 => ?_)
            · skip
              skip
              refine lv_iconst (v := 0) X.1 X.2.1 d_Md_count_146 (by decide) ?_
              have heL : (0, (ru r 18 34 0)) = F := ((if_pos h1).trans ((if_neg h29).trans ((if_pos h30).trans ((if_pos h31).trans ((if_neg h32).trans ((if_pos h48))))))).symm.trans he
              exact m_iret X hr hlk hM d_Md_count_147 ⟨Nat.le_of_ble_eq_true rfl, Nat.le_of_ble_eq_true rfl⟩ ⟨fun _ _ _ => rfl, fun _ => Nat.le_refl _⟩ ⟨congrArg (fun z => some (Value.int z.1)) heL, congrArg (fun z => rs M z.2) heL, rfl⟩
            · skip
              skip
              refine lv_aload_n X.1 X.2.1 d_Md_count_134 rfl (lv_at hl 0 rfl) ?_
              refine r_gets (q := 0) X hM rfl hR.1 f_Md_77 rfl (hR.2 22 (by decide)) d_Md_count_135 (fun g49 => ?_)
              refine lv_iload_n X.1 X.2.1 d_Md_count_138 rfl (lv_at hl 1 rfl) ?_
              refine lv_bipush (v := 10) X.1 X.2.1 d_Md_count_139 (by decide) ?_
              refine lv_isub X.1 X.2.1 d_Md_count_141 ?_
              refine R_iald (k := 41) X hM (by decide) rfl g49 a_m_by (fun _ => rfl) o47.1 o47.2 d_Md_count_142 ?_
              show W _ _ _ _ _ _ _ _ _ _ _ _ _ _ _ (F0 m 143 ls [.int (r 41 ((a0 - 10).toNatClampNeg))])
              refine lv_goto (tgt := 147) X.1 X.2.1 d_Md_count_143 (by decide) ?_
              have heL : (r 41 ((a0 - 10).toNatClampNeg), (ru r 18 34 0)) = F := ((if_pos h1).trans ((if_neg h29).trans ((if_pos h30).trans ((if_pos h31).trans ((if_neg h32).trans ((if_neg h48))))))).symm.trans he
              exact m_iret X hr hlk hM d_Md_count_147 ⟨Nat.le_of_ble_eq_true rfl, Nat.le_of_ble_eq_true rfl⟩ ⟨fun _ _ _ => rfl, fun _ => Nat.le_refl _⟩ ⟨congrArg (fun z => some (Value.int z.1)) heL, congrArg (fun z => rs M z.2) heL, rfl⟩
        · skip
          have hk := hk.2 h31
          refine lv_aload_n X.1 X.2.1 d_Md_count_90 rfl (lv_at hl 0 rfl) ?_
          refine r_gets (q := 0) X hM rfl hR.1 f_Md_68 rfl (hR.2 19 (by decide)) d_Md_count_91 (fun g50 => ?_)
          refine lv_iload_n X.1 X.2.1 d_Md_count_94 rfl (lv_at hl 1 rfl) ?_
          refine lv_bipush (v := 20) X.1 X.2.1 d_Md_count_95 (by decide) ?_
          refine lv_isub X.1 X.2.1 d_Md_count_97 ?_
          have o51 := hk
          refine R_zald (k := 38) X hM (by decide) rfl g50 a_m_there (fun _ => rfl) o51.1 o51.2 d_Md_count_98 ?_
          show W _ _ _ _ _ _ _ _ _ _ _ _ _ _ _ (F0 m 99 ls [.int (r 38 ((a0 - 20).toNatClampNeg))])
          refine lv_if_eq (tgt := 114) X.1 X.2.1 d_Md_count_99 (by decide) (fun h52 => ?_) (fun h52 => ?_)
          · skip
            skip
            refine lv_iconst (v := (-1)) X.1 X.2.1 d_Md_count_114 (by decide) ?_
            have heL : ((-1), (ru r 18 34 0)) = F := ((if_pos h1).trans ((if_neg h29).trans ((if_pos h30).trans ((if_neg h31).trans ((if_pos h52)))))).symm.trans he
            exact m_iret X hr hlk hM d_Md_count_115 ⟨Nat.le_of_ble_eq_true rfl, Nat.le_of_ble_eq_true rfl⟩ ⟨fun _ _ _ => rfl, fun _ => Nat.le_refl _⟩ ⟨congrArg (fun z => some (Value.int z.1)) heL, congrArg (fun z => rs M z.2) heL, rfl⟩
          · skip
            skip
            refine lv_aload_n X.1 X.2.1 d_Md_count_102 rfl (lv_at hl 0 rfl) ?_
            refine r_gets (q := 0) X hM rfl hR.1 f_Md_74 rfl (hR.2 21 (by decide)) d_Md_count_103 (fun g53 => ?_)
            refine lv_iload_n X.1 X.2.1 d_Md_count_106 rfl (lv_at hl 1 rfl) ?_
            refine lv_bipush (v := 20) X.1 X.2.1 d_Md_count_107 (by decide) ?_
            refine lv_isub X.1 X.2.1 d_Md_count_109 ?_
            refine R_iald (k := 40) X hM (by decide) rfl g53 a_m_path (fun _ => rfl) o51.1 o51.2 d_Md_count_110 ?_
            show W _ _ _ _ _ _ _ _ _ _ _ _ _ _ _ (F0 m 111 ls [.int (r 40 ((a0 - 20).toNatClampNeg))])
            refine lv_goto (tgt := 115) X.1 X.2.1 d_Md_count_111 (by decide) ?_
            have heL : (r 40 ((a0 - 20).toNatClampNeg), (ru r 18 34 0)) = F := ((if_pos h1).trans ((if_neg h29).trans ((if_pos h30).trans ((if_neg h31).trans ((if_neg h52)))))).symm.trans he
            exact m_iret X hr hlk hM d_Md_count_115 ⟨Nat.le_of_ble_eq_true rfl, Nat.le_of_ble_eq_true rfl⟩ ⟨fun _ _ _ => rfl, fun _ => Nat.le_refl _⟩ ⟨congrArg (fun z => some (Value.int z.1)) heL, congrArg (fun z => rs M z.2) heL, rfl⟩
      · skip
        have hk := hk.2 h30
        refine lv_iload_n X.1 X.2.1 d_Md_count_59 rfl (lv_at hl 1 rfl) ?_
        refine lv_bipush (v := 30) X.1 X.2.1 d_Md_count_60 (by decide) ?_
        refine lv_isub X.1 X.2.1 d_Md_count_62 ?_
        refine lv_aload_n X.1 X.2.1 d_Md_count_63 rfl (lv_at hl 0 rfl) ?_
        refine R_geti (k := 18) X hM (by decide) rfl hR.1 f_Md_129 rfl d_Md_count_64 ?_
        show W _ _ _ _ _ _ _ _ _ _ _ _ _ _ _ (F0 m 67 ls [.int (r 18 29), .int (a0 - 30)])
        refine lv_icmp_ge (tgt := 82) X.1 X.2.1 d_Md_count_67 (by decide) (fun h54 => ?_) (fun h54 => ?_)
        · skip
          have hk := hk.1 h54
          refine lv_iconst (v := (-1)) X.1 X.2.1 d_Md_count_82 (by decide) ?_
          have heL : ((-1), (ru r 18 34 0)) = F := ((if_pos h1).trans ((if_neg h29).trans ((if_neg h30).trans ((if_pos h54))))).symm.trans he
          exact m_iret X hr hlk hM d_Md_count_83 ⟨Nat.le_of_ble_eq_true rfl, Nat.le_of_ble_eq_true rfl⟩ ⟨fun _ _ _ => rfl, fun _ => Nat.le_refl _⟩ ⟨congrArg (fun z => some (Value.int z.1)) heL, congrArg (fun z => rs M z.2) heL, rfl⟩
        · skip
          have hk := hk.2 h54
          refine lv_aload_n X.1 X.2.1 d_Md_count_70 rfl (lv_at hl 0 rfl) ?_
          refine r_gets (q := 0) X hM rfl hR.1 f_Md_50 rfl (hR.2 13 (by decide)) d_Md_count_71 (fun g55 => ?_)
          refine lv_iload_n X.1 X.2.1 d_Md_count_74 rfl (lv_at hl 1 rfl) ?_
          refine lv_bipush (v := 30) X.1 X.2.1 d_Md_count_75 (by decide) ?_
          refine lv_isub X.1 X.2.1 d_Md_count_77 ?_
          have o56 := hk
          refine R_iald (k := 32) X hM (by decide) rfl g55 a_m_scope (fun _ => rfl) o56.1 o56.2 d_Md_count_78 ?_
          show W _ _ _ _ _ _ _ _ _ _ _ _ _ _ _ (F0 m 79 ls [.int (r 32 ((a0 - 30).toNatClampNeg))])
          refine lv_goto (tgt := 83) X.1 X.2.1 d_Md_count_79 (by decide) ?_
          have heL : (r 32 ((a0 - 30).toNatClampNeg), (ru r 18 34 0)) = F := ((if_pos h1).trans ((if_neg h29).trans ((if_neg h30).trans ((if_neg h54))))).symm.trans he
          exact m_iret X hr hlk hM d_Md_count_83 ⟨Nat.le_of_ble_eq_true rfl, Nat.le_of_ble_eq_true rfl⟩ ⟨fun _ _ _ => rfl, fun _ => Nat.le_refl _⟩ ⟨congrArg (fun z => some (Value.int z.1)) heL, congrArg (fun z => rs M z.2) heL, rfl⟩
    · skip
      have hk := hk.1 h29
      refine lv_iload_n X.1 X.2.1 d_Md_count_20 rfl (lv_at hl 1 rfl) ?_
      refine lv_bipush (v := 20) X.1 X.2.1 d_Md_count_21 (by decide) ?_
      refine lv_bipush (v := 27) X.1 X.2.1 d_Md_count_23 (by decide) ?_
      refine r_cS (As := [.int a0, .int 20, .int 27]) (rest := []) X hml hl.1 hM (k_Md_in l D dA base (rs M r) ad a0 20 27) c_Md_103 v_Md_in rfl (Nat.le_of_ble_eq_true rfl) ⟨rfl, rfl, Nat.le_of_ble_eq_true rfl, Nat.le_of_ble_eq_true rfl⟩ ⟨Nat.le_of_ble_eq_true rfl, Nat.le_of_ble_eq_true rfl⟩ d_Md_count_25 ?_
      intro rv M1 ad1 H locs hP hM hE
      obtain ⟨e1, e2, e3⟩ := hP
      subst rv; subst M1; subst ad1
      show W _ _ _ _ _ _ _ _ _ _ _ _ _ _ _ (F0 m 28 ls [.int (m_in a0 20 27)])
      refine lv_if_ne (tgt := 48) X.1 X.2.1 d_Md_count_28 (by decide) (fun h57 => ?_) (fun h57 => ?_)
      · skip
        have hk := hk.2 h57
        refine lv_aload_n X.1 X.2.1 d_Md_count_48 rfl (lv_at hl 0 rfl) ?_
        refine lv_iconst (v := 0) X.1 X.2.1 d_Md_count_49 (by decide) ?_
        refine R_puti (k := 18) X hM (by decide) rfl hR.1 p_Md_98 rfl rfl rfl d_Md_count_50 (fun H locs hM => ?_)
        refine lv_iload_n X.1 X.2.1 d_Md_count_53 rfl (lv_at hl 1 rfl) ?_
        refine lv_bipush (v := 29) X.1 X.2.1 d_Md_count_54 (by decide) ?_
        refine lv_icmp_le (tgt := 84) X.1 X.2.1 d_Md_count_56 (by decide) (fun h58 => ?_) (fun h58 => ?_)
        · skip
          have hk := hk.1 h58
          refine lv_iload_n X.1 X.2.1 d_Md_count_84 rfl (lv_at hl 1 rfl) ?_
          refine lv_bipush (v := 19) X.1 X.2.1 d_Md_count_85 (by decide) ?_
          refine lv_icmp_le (tgt := 116) X.1 X.2.1 d_Md_count_87 (by decide) (fun h59 => ?_) (fun h59 => ?_)
          · skip
            have hk := hk.1 h59
            refine lv_iload_n X.1 X.2.1 d_Md_count_116 rfl (lv_at hl 1 rfl) ?_
            refine lv_bipush (v := 9) X.1 X.2.1 d_Md_count_117 (by decide) ?_
            refine lv_icmp_le (tgt := 148) X.1 X.2.1 d_Md_count_119 (by decide) (fun h60 => ?_) (fun h60 => ?_)
            · skip
              have hk := hk.1 h60
              refine lv_iconst (v := 0) X.1 X.2.1 d_Md_count_148 (by decide) ?_
              refine lv_istore_n (lv' := [(2, .int 0), (0, .ref (ad 18 0)), (1, .int a0)]) X.1 X.2.1 d_Md_count_149 rfl hl (by decide) rfl (fun ls hl => ?_)
              refine lv_iconst (v := 0) X.1 X.2.1 d_Md_count_150 (by decide) ?_
              refine lv_istore_n (lv' := [(3, .int 0), (2, .int 0), (0, .ref (ad 18 0)), (1, .int a0)]) X.1 X.2.1 d_Md_count_151 rfl hl (by decide) rfl (fun ls hl => ?_)
              refine lv_iconst (v := 0) X.1 X.2.1 d_Md_count_152 (by decide) ?_
              refine lv_istore (lv' := [(4, .int 0), (3, .int 0), (2, .int 0), (0, .ref (ad 18 0)), (1, .int a0)]) X.1 X.2.1 d_Md_count_153 hl (by decide) rfl (fun ls hl => ?_)
              refine w_downW (fun ls => F0 m 155 ls []) (fun n H L ls => ∃ (r : rR) (v1 : Int32) (v2 : Int32) (v3 : Int32) (v4 : Int32), mSt D dA base (rs M r) ad s.heap H L ∧ lv_has ls 5 [(1, .int v1), (2, .int v2), (3, .int v3), (4, .int v4), (0, .ref (ad 18 0))] ∧ m_count_L155_ok n r v1 v2 v3 v4 ∧ m_count_L155 n r v1 v2 v3 v4 = F) ?_ ?_ 70 _ _ ls ⟨(ru r 18 34 0), a0, 0, 0, 0, hM, lv_sub hl [4, 2, 1, 0, 3] rfl, hk, ((if_pos h1).trans ((if_pos h29).trans ((if_neg h57).trans ((if_pos h58).trans ((if_pos h59).trans ((if_pos h60))))))).symm.trans he⟩
              · rintro H locs ls ⟨r, v1, v2, v3, v4, hM, hl, hk, he⟩
                exact hk.elim
              · rintro n ih H locs ls ⟨r, v1, v2, v3, v4, hM, hl, hk, he⟩
                refine lv_iload X.1 X.2.1 d_Md_count_155 (lv_at hl 3 rfl) ?_
                refine lv_bipush (v := 8) X.1 X.2.1 d_Md_count_157 (by decide) ?_
                refine lv_icmp_ge (tgt := 181) X.1 X.2.1 d_Md_count_159 (by decide) (fun h61 => ?_) (fun h61 => ?_)
                · skip
                  have hk := hk.1 h61
                  refine lv_iconst (v := 0) X.1 X.2.1 d_Md_count_181 (by decide) ?_
                  refine lv_istore (lv' := [(4, .int 0), (1, .int v1), (2, .int v2), (3, .int v3), (0, .ref (ad 18 0))]) X.1 X.2.1 d_Md_count_182 hl (by decide) rfl (fun ls hl => ?_)
                  refine w_downW (fun ls => F0 m 184 ls []) (fun n H L ls => ∃ (r : rR) (v1 : Int32) (v2 : Int32) (v3 : Int32) (v4 : Int32), mSt D dA base (rs M r) ad s.heap H L ∧ lv_has ls 5 [(1, .int v1), (2, .int v2), (3, .int v3), (4, .int v4), (0, .ref (ad 18 0))] ∧ m_count_L184_ok n r v1 v2 v3 v4 ∧ m_count_L184 n r v1 v2 v3 v4 = F) ?_ ?_ 70 _ _ ls ⟨r, v1, v2, v3, 0, hM, lv_sub hl [1, 2, 3, 0, 4] rfl, hk, ((if_pos h61)).symm.trans he⟩
                  · rintro H locs ls ⟨r, v1, v2, v3, v4, hM, hl, hk, he⟩
                    exact hk.elim
                  · rintro n ih H locs ls ⟨r, v1, v2, v3, v4, hM, hl, hk, he⟩
                    refine lv_iload X.1 X.2.1 d_Md_count_184 (lv_at hl 3 rfl) ?_
                    refine lv_aload_n X.1 X.2.1 d_Md_count_186 rfl (lv_at hl 4 rfl) ?_
                    refine R_geti (k := 18) X hM (by decide) rfl hR.1 f_Md_158 rfl d_Md_count_187 ?_
                    refine lv_icmp_ge (tgt := 212) X.1 X.2.1 d_Md_count_190 (by decide) (fun h62 => ?_) (fun h62 => ?_)
                    · skip
                      have hk := hk.1 h62
                      refine lv_iload_n X.1 X.2.1 d_Md_count_212 rfl (lv_at hl 0 rfl) ?_
                      refine lv_if_ne (tgt := 223) X.1 X.2.1 d_Md_count_213 (by decide) (fun h63 => ?_) (fun h63 => ?_)
                      · skip
                        skip
                        refine lv_iload_n X.1 X.2.1 d_Md_count_223 rfl (lv_at hl 0 rfl) ?_
                        refine lv_iconst (v := 1) X.1 X.2.1 d_Md_count_224 (by decide) ?_
                        refine lv_icmp_ne (tgt := 235) X.1 X.2.1 d_Md_count_225 (by decide) (fun h64 => ?_) (fun h64 => ?_)
                        · skip
                          skip
                          refine lv_iload_n X.1 X.2.1 d_Md_count_235 rfl (lv_at hl 0 rfl) ?_
                          refine lv_iconst (v := 2) X.1 X.2.1 d_Md_count_236 (by decide) ?_
                          refine lv_icmp_ne (tgt := 244) X.1 X.2.1 d_Md_count_237 (by decide) (fun h65 => ?_) (fun h65 => ?_)
                          · skip
                            skip
                            refine lv_iload_n X.1 X.2.1 d_Md_count_244 rfl (lv_at hl 0 rfl) ?_
                            refine lv_iconst (v := 3) X.1 X.2.1 d_Md_count_245 (by decide) ?_
                            refine lv_icmp_ne (tgt := 256) X.1 X.2.1 d_Md_count_246 (by decide) (fun h66 => ?_) (fun h66 => ?_)
                            · skip
                              skip
                              refine lv_iload_n X.1 X.2.1 d_Md_count_256 rfl (lv_at hl 0 rfl) ?_
                              refine lv_iconst (v := 4) X.1 X.2.1 d_Md_count_257 (by decide) ?_
                              refine lv_icmp_ne (tgt := 265) X.1 X.2.1 d_Md_count_258 (by decide) (fun h67 => ?_) (fun h67 => ?_)
                              · skip
                                skip
                                refine lv_aload_n X.1 X.2.1 d_Md_count_265 rfl (lv_at hl 4 rfl) ?_
                                refine R_geti (k := 18) X hM (by decide) rfl hR.1 f_Md_111 rfl d_Md_count_266 ?_
                                have heL : (r 18 32, r) = F := ((if_pos h62).trans ((if_neg h63).trans ((if_neg h64).trans ((if_neg h65).trans ((if_neg h66).trans ((if_neg h67))))))).symm.trans he
                                exact m_iret X hr hlk hM d_Md_count_269 ⟨Nat.le_of_ble_eq_true rfl, Nat.le_of_ble_eq_true rfl⟩ ⟨fun _ _ _ => rfl, fun _ => Nat.le_refl _⟩ ⟨congrArg (fun z => some (Value.int z.1)) heL, congrArg (fun z => rs M z.2) heL, rfl⟩
                              · skip
                                skip
                                refine lv_iload_n X.1 X.2.1 d_Md_count_261 rfl (lv_at hl 2 rfl) ?_
                                refine lv_goto (tgt := 269) X.1 X.2.1 d_Md_count_262 (by decide) ?_
                                have heL : (v3, r) = F := ((if_pos h62).trans ((if_neg h63).trans ((if_neg h64).trans ((if_neg h65).trans ((if_neg h66).trans ((if_pos h67))))))).symm.trans he
                                exact m_iret X hr hlk hM d_Md_count_269 ⟨Nat.le_of_ble_eq_true rfl, Nat.le_of_ble_eq_true rfl⟩ ⟨fun _ _ _ => rfl, fun _ => Nat.le_refl _⟩ ⟨congrArg (fun z => some (Value.int z.1)) heL, congrArg (fun z => rs M z.2) heL, rfl⟩
                            · skip
                              skip
                              refine lv_aload_n X.1 X.2.1 d_Md_count_249 rfl (lv_at hl 4 rfl) ?_
                              refine R_geti (k := 18) X hM (by decide) rfl hR.1 f_Md_158 rfl d_Md_count_250 ?_
                              refine lv_goto (tgt := 269) X.1 X.2.1 d_Md_count_253 (by decide) ?_
                              have heL : (r 18 31, r) = F := ((if_pos h62).trans ((if_neg h63).trans ((if_neg h64).trans ((if_neg h65).trans ((if_pos h66)))))).symm.trans he
                              exact m_iret X hr hlk hM d_Md_count_269 ⟨Nat.le_of_ble_eq_true rfl, Nat.le_of_ble_eq_true rfl⟩ ⟨fun _ _ _ => rfl, fun _ => Nat.le_refl _⟩ ⟨congrArg (fun z => some (Value.int z.1)) heL, congrArg (fun z => rs M z.2) heL, rfl⟩
                          · skip
                            skip
                            refine lv_iload_n X.1 X.2.1 d_Md_count_240 rfl (lv_at hl 1 rfl) ?_
                            refine lv_goto (tgt := 269) X.1 X.2.1 d_Md_count_241 (by decide) ?_
                            have heL : (v2, r) = F := ((if_pos h62).trans ((if_neg h63).trans ((if_neg h64).trans ((if_pos h65))))).symm.trans he
                            exact m_iret X hr hlk hM d_Md_count_269 ⟨Nat.le_of_ble_eq_true rfl, Nat.le_of_ble_eq_true rfl⟩ ⟨fun _ _ _ => rfl, fun _ => Nat.le_refl _⟩ ⟨congrArg (fun z => some (Value.int z.1)) heL, congrArg (fun z => rs M z.2) heL, rfl⟩
                        · skip
                          skip
                          refine lv_aload_n X.1 X.2.1 d_Md_count_228 rfl (lv_at hl 4 rfl) ?_
                          refine R_geti (k := 18) X hM (by decide) rfl hR.1 f_Md_164 rfl d_Md_count_229 ?_
                          refine lv_goto (tgt := 269) X.1 X.2.1 d_Md_count_232 (by decide) ?_
                          have heL : (r 18 30, r) = F := ((if_pos h62).trans ((if_neg h63).trans ((if_pos h64)))).symm.trans he
                          exact m_iret X hr hlk hM d_Md_count_269 ⟨Nat.le_of_ble_eq_true rfl, Nat.le_of_ble_eq_true rfl⟩ ⟨fun _ _ _ => rfl, fun _ => Nat.le_refl _⟩ ⟨congrArg (fun z => some (Value.int z.1)) heL, congrArg (fun z => rs M z.2) heL, rfl⟩
                      · skip
                        skip
                        refine lv_aload_n X.1 X.2.1 d_Md_count_216 rfl (lv_at hl 4 rfl) ?_
                        refine R_geti (k := 18) X hM (by decide) rfl hR.1 f_Md_129 rfl d_Md_count_217 ?_
                        refine lv_goto (tgt := 269) X.1 X.2.1 d_Md_count_220 (by decide) ?_
                        have heL : (r 18 29, r) = F := ((if_pos h62).trans ((if_pos h63))).symm.trans he
                        exact m_iret X hr hlk hM d_Md_count_269 ⟨Nat.le_of_ble_eq_true rfl, Nat.le_of_ble_eq_true rfl⟩ ⟨fun _ _ _ => rfl, fun _ => Nat.le_refl _⟩ ⟨congrArg (fun z => some (Value.int z.1)) heL, congrArg (fun z => rs M z.2) heL, rfl⟩
                    · skip
                      have hk := hk.2 h62
                      refine lv_aload_n X.1 X.2.1 d_Md_count_193 rfl (lv_at hl 4 rfl) ?_
                      refine r_gets (q := 0) X hM rfl hR.1 f_Md_89 rfl (hR.2 26 (by decide)) d_Md_count_194 (fun g68 => ?_)
                      refine lv_iload X.1 X.2.1 d_Md_count_197 (lv_at hl 3 rfl) ?_
                      obtain ⟨o69, hk⟩ := hk
                      refine R_iald (k := 45) X hM (by decide) rfl g68 a_m_outcome (fun _ => rfl) o69.1 o69.2 d_Md_count_199 ?_
                      refine lv_if_ne (tgt := 206) X.1 X.2.1 d_Md_count_200 (by decide) (fun h70 => ?_) (fun h70 => ?_)
                      · skip
                        have hk := hk.2 h70
                        refine lv_iinc (v := v4 + 1) (lv' := [(4, .int (v4 + 1)), (1, .int v1), (2, .int v2), (3, .int v3), (0, .ref (ad 18 0))]) X.1 X.2.1 d_Md_count_206 hl (k := 3) rfl rfl (by decide) rfl (fun ls hl => ?_)
                        refine lv_goto (tgt := 184) X.1 X.2.1 d_Md_count_209 (by decide) ?_
                        exact ih _ _ ls ⟨_, _, _, _, _, hM, lv_sub hl [1, 2, 3, 0, 4] rfl, hk, ((if_neg h62).trans ((if_neg h70))).symm.trans he⟩
                      · skip
                        have hk := hk.1 h70
                        refine lv_iinc (v := v3 + 1) (lv' := [(3, .int (v3 + 1)), (1, .int v1), (2, .int v2), (4, .int v4), (0, .ref (ad 18 0))]) X.1 X.2.1 d_Md_count_203 hl (k := 2) rfl rfl (by decide) rfl (fun ls hl => ?_)
                        refine lv_iinc (v := v4 + 1) (lv' := [(4, .int (v4 + 1)), (3, .int (v3 + 1)), (1, .int v1), (2, .int v2), (0, .ref (ad 18 0))]) X.1 X.2.1 d_Md_count_206 hl (k := 3) rfl rfl (by decide) rfl (fun ls hl => ?_)
                        refine lv_goto (tgt := 184) X.1 X.2.1 d_Md_count_209 (by decide) ?_
                        exact ih _ _ ls ⟨_, _, _, _, _, hM, lv_sub hl [2, 3, 1, 0, 4] rfl, hk, ((if_neg h62).trans ((if_pos h70))).symm.trans he⟩
                · skip
                  have hk := hk.2 h61
                  refine lv_aload_n X.1 X.2.1 d_Md_count_162 rfl (lv_at hl 4 rfl) ?_
                  refine r_gets (q := 0) X hM rfl hR.1 f_Md_68 rfl (hR.2 19 (by decide)) d_Md_count_163 (fun g71 => ?_)
                  refine lv_iload X.1 X.2.1 d_Md_count_166 (lv_at hl 3 rfl) ?_
                  obtain ⟨o72, hk⟩ := hk
                  refine R_zald (k := 38) X hM (by decide) rfl g71 a_m_there (fun _ => rfl) o72.1 o72.2 d_Md_count_168 ?_
                  refine lv_if_eq (tgt := 175) X.1 X.2.1 d_Md_count_169 (by decide) (fun h73 => ?_) (fun h73 => ?_)
                  · skip
                    have hk := hk.1 h73
                    refine lv_iinc (v := v4 + 1) (lv' := [(4, .int (v4 + 1)), (1, .int v1), (2, .int v2), (3, .int v3), (0, .ref (ad 18 0))]) X.1 X.2.1 d_Md_count_175 hl (k := 3) rfl rfl (by decide) rfl (fun ls hl => ?_)
                    refine lv_goto (tgt := 155) X.1 X.2.1 d_Md_count_178 (by decide) ?_
                    exact ih _ _ ls ⟨_, _, _, _, _, hM, lv_sub hl [1, 2, 3, 0, 4] rfl, hk, ((if_neg h61).trans ((if_pos h73))).symm.trans he⟩
                  · skip
                    have hk := hk.2 h73
                    refine lv_iinc (v := v2 + 1) (lv' := [(2, .int (v2 + 1)), (1, .int v1), (3, .int v3), (4, .int v4), (0, .ref (ad 18 0))]) X.1 X.2.1 d_Md_count_172 hl (k := 1) rfl rfl (by decide) rfl (fun ls hl => ?_)
                    refine lv_iinc (v := v4 + 1) (lv' := [(4, .int (v4 + 1)), (2, .int (v2 + 1)), (1, .int v1), (3, .int v3), (0, .ref (ad 18 0))]) X.1 X.2.1 d_Md_count_175 hl (k := 3) rfl rfl (by decide) rfl (fun ls hl => ?_)
                    refine lv_goto (tgt := 155) X.1 X.2.1 d_Md_count_178 (by decide) ?_
                    exact ih _ _ ls ⟨_, _, _, _, _, hM, lv_sub hl [2, 1, 3, 0, 4] rfl, hk, ((if_neg h61).trans ((if_neg h73))).symm.trans he⟩
            · skip
              have hk := hk.2 h60
              refine lv_aload_n X.1 X.2.1 d_Md_count_122 rfl (lv_at hl 0 rfl) ?_
              refine r_gets (q := 0) X hM rfl hR.1 f_Md_68 rfl (hR.2 19 (by decide)) d_Md_count_123 (fun g74 => ?_)
              refine lv_iload_n X.1 X.2.1 d_Md_count_126 rfl (lv_at hl 1 rfl) ?_
              refine lv_bipush (v := 10) X.1 X.2.1 d_Md_count_127 (by decide) ?_
              refine lv_isub X.1 X.2.1 d_Md_count_129 ?_
              have o75 := hk
              refine R_zald (k := 38) X hM (by decide) rfl g74 a_m_there (fun _ => rfl) o75.1 o75.2 d_Md_count_130 ?_
              show W _ _ _ _ _ _ _ _ _ _ _ _ _ _ _ (F0 m 131 ls [.int (r 38 ((a0 - 10).toNatClampNeg))])
              refine lv_if_eq (tgt := 146) X.1 X.2.1 d_Md_count_131 (by decide) (fun h76 => ?_) (fun h76 => ?_)
              · skip
                skip
                refine lv_iconst (v := 0) X.1 X.2.1 d_Md_count_146 (by decide) ?_
                have heL : (0, (ru r 18 34 0)) = F := ((if_pos h1).trans ((if_pos h29).trans ((if_neg h57).trans ((if_pos h58).trans ((if_pos h59).trans ((if_neg h60).trans ((if_pos h76)))))))).symm.trans he
                exact m_iret X hr hlk hM d_Md_count_147 ⟨Nat.le_of_ble_eq_true rfl, Nat.le_of_ble_eq_true rfl⟩ ⟨fun _ _ _ => rfl, fun _ => Nat.le_refl _⟩ ⟨congrArg (fun z => some (Value.int z.1)) heL, congrArg (fun z => rs M z.2) heL, rfl⟩
              · skip
                skip
                refine lv_aload_n X.1 X.2.1 d_Md_count_134 rfl (lv_at hl 0 rfl) ?_
                refine r_gets (q := 0) X hM rfl hR.1 f_Md_77 rfl (hR.2 22 (by decide)) d_Md_count_135 (fun g77 => ?_)
                refine lv_iload_n X.1 X.2.1 d_Md_count_138 rfl (lv_at hl 1 rfl) ?_
                refine lv_bipush (v := 10) X.1 X.2.1 d_Md_count_139 (by decide) ?_
                refine lv_isub X.1 X.2.1 d_Md_count_141 ?_
                refine R_iald (k := 41) X hM (by decide) rfl g77 a_m_by (fun _ => rfl) o75.1 o75.2 d_Md_count_142 ?_
                show W _ _ _ _ _ _ _ _ _ _ _ _ _ _ _ (F0 m 143 ls [.int (r 41 ((a0 - 10).toNatClampNeg))])
                refine lv_goto (tgt := 147) X.1 X.2.1 d_Md_count_143 (by decide) ?_
                have heL : (r 41 ((a0 - 10).toNatClampNeg), (ru r 18 34 0)) = F := ((if_pos h1).trans ((if_pos h29).trans ((if_neg h57).trans ((if_pos h58).trans ((if_pos h59).trans ((if_neg h60).trans ((if_neg h76)))))))).symm.trans he
                exact m_iret X hr hlk hM d_Md_count_147 ⟨Nat.le_of_ble_eq_true rfl, Nat.le_of_ble_eq_true rfl⟩ ⟨fun _ _ _ => rfl, fun _ => Nat.le_refl _⟩ ⟨congrArg (fun z => some (Value.int z.1)) heL, congrArg (fun z => rs M z.2) heL, rfl⟩
          · skip
            have hk := hk.2 h59
            refine lv_aload_n X.1 X.2.1 d_Md_count_90 rfl (lv_at hl 0 rfl) ?_
            refine r_gets (q := 0) X hM rfl hR.1 f_Md_68 rfl (hR.2 19 (by decide)) d_Md_count_91 (fun g78 => ?_)
            refine lv_iload_n X.1 X.2.1 d_Md_count_94 rfl (lv_at hl 1 rfl) ?_
            refine lv_bipush (v := 20) X.1 X.2.1 d_Md_count_95 (by decide) ?_
            refine lv_isub X.1 X.2.1 d_Md_count_97 ?_
            have o79 := hk
            refine R_zald (k := 38) X hM (by decide) rfl g78 a_m_there (fun _ => rfl) o79.1 o79.2 d_Md_count_98 ?_
            show W _ _ _ _ _ _ _ _ _ _ _ _ _ _ _ (F0 m 99 ls [.int (r 38 ((a0 - 20).toNatClampNeg))])
            refine lv_if_eq (tgt := 114) X.1 X.2.1 d_Md_count_99 (by decide) (fun h80 => ?_) (fun h80 => ?_)
            · skip
              skip
              refine lv_iconst (v := (-1)) X.1 X.2.1 d_Md_count_114 (by decide) ?_
              have heL : ((-1), (ru r 18 34 0)) = F := ((if_pos h1).trans ((if_pos h29).trans ((if_neg h57).trans ((if_pos h58).trans ((if_neg h59).trans ((if_pos h80))))))).symm.trans he
              exact m_iret X hr hlk hM d_Md_count_115 ⟨Nat.le_of_ble_eq_true rfl, Nat.le_of_ble_eq_true rfl⟩ ⟨fun _ _ _ => rfl, fun _ => Nat.le_refl _⟩ ⟨congrArg (fun z => some (Value.int z.1)) heL, congrArg (fun z => rs M z.2) heL, rfl⟩
            · skip
              skip
              refine lv_aload_n X.1 X.2.1 d_Md_count_102 rfl (lv_at hl 0 rfl) ?_
              refine r_gets (q := 0) X hM rfl hR.1 f_Md_74 rfl (hR.2 21 (by decide)) d_Md_count_103 (fun g81 => ?_)
              refine lv_iload_n X.1 X.2.1 d_Md_count_106 rfl (lv_at hl 1 rfl) ?_
              refine lv_bipush (v := 20) X.1 X.2.1 d_Md_count_107 (by decide) ?_
              refine lv_isub X.1 X.2.1 d_Md_count_109 ?_
              refine R_iald (k := 40) X hM (by decide) rfl g81 a_m_path (fun _ => rfl) o79.1 o79.2 d_Md_count_110 ?_
              show W _ _ _ _ _ _ _ _ _ _ _ _ _ _ _ (F0 m 111 ls [.int (r 40 ((a0 - 20).toNatClampNeg))])
              refine lv_goto (tgt := 115) X.1 X.2.1 d_Md_count_111 (by decide) ?_
              have heL : (r 40 ((a0 - 20).toNatClampNeg), (ru r 18 34 0)) = F := ((if_pos h1).trans ((if_pos h29).trans ((if_neg h57).trans ((if_pos h58).trans ((if_neg h59).trans ((if_neg h80))))))).symm.trans he
              exact m_iret X hr hlk hM d_Md_count_115 ⟨Nat.le_of_ble_eq_true rfl, Nat.le_of_ble_eq_true rfl⟩ ⟨fun _ _ _ => rfl, fun _ => Nat.le_refl _⟩ ⟨congrArg (fun z => some (Value.int z.1)) heL, congrArg (fun z => rs M z.2) heL, rfl⟩
        · skip
          have hk := hk.2 h58
          refine lv_iload_n X.1 X.2.1 d_Md_count_59 rfl (lv_at hl 1 rfl) ?_
          refine lv_bipush (v := 30) X.1 X.2.1 d_Md_count_60 (by decide) ?_
          refine lv_isub X.1 X.2.1 d_Md_count_62 ?_
          refine lv_aload_n X.1 X.2.1 d_Md_count_63 rfl (lv_at hl 0 rfl) ?_
          refine R_geti (k := 18) X hM (by decide) rfl hR.1 f_Md_129 rfl d_Md_count_64 ?_
          show W _ _ _ _ _ _ _ _ _ _ _ _ _ _ _ (F0 m 67 ls [.int (r 18 29), .int (a0 - 30)])
          refine lv_icmp_ge (tgt := 82) X.1 X.2.1 d_Md_count_67 (by decide) (fun h82 => ?_) (fun h82 => ?_)
          · skip
            have hk := hk.1 h82
            refine lv_iconst (v := (-1)) X.1 X.2.1 d_Md_count_82 (by decide) ?_
            have heL : ((-1), (ru r 18 34 0)) = F := ((if_pos h1).trans ((if_pos h29).trans ((if_neg h57).trans ((if_neg h58).trans ((if_pos h82)))))).symm.trans he
            exact m_iret X hr hlk hM d_Md_count_83 ⟨Nat.le_of_ble_eq_true rfl, Nat.le_of_ble_eq_true rfl⟩ ⟨fun _ _ _ => rfl, fun _ => Nat.le_refl _⟩ ⟨congrArg (fun z => some (Value.int z.1)) heL, congrArg (fun z => rs M z.2) heL, rfl⟩
          · skip
            have hk := hk.2 h82
            refine lv_aload_n X.1 X.2.1 d_Md_count_70 rfl (lv_at hl 0 rfl) ?_
            refine r_gets (q := 0) X hM rfl hR.1 f_Md_50 rfl (hR.2 13 (by decide)) d_Md_count_71 (fun g83 => ?_)
            refine lv_iload_n X.1 X.2.1 d_Md_count_74 rfl (lv_at hl 1 rfl) ?_
            refine lv_bipush (v := 30) X.1 X.2.1 d_Md_count_75 (by decide) ?_
            refine lv_isub X.1 X.2.1 d_Md_count_77 ?_
            have o84 := hk
            refine R_iald (k := 32) X hM (by decide) rfl g83 a_m_scope (fun _ => rfl) o84.1 o84.2 d_Md_count_78 ?_
            show W _ _ _ _ _ _ _ _ _ _ _ _ _ _ _ (F0 m 79 ls [.int (r 32 ((a0 - 30).toNatClampNeg))])
            refine lv_goto (tgt := 83) X.1 X.2.1 d_Md_count_79 (by decide) ?_
            have heL : (r 32 ((a0 - 30).toNatClampNeg), (ru r 18 34 0)) = F := ((if_pos h1).trans ((if_pos h29).trans ((if_neg h57).trans ((if_neg h58).trans ((if_neg h82)))))).symm.trans he
            exact m_iret X hr hlk hM d_Md_count_83 ⟨Nat.le_of_ble_eq_true rfl, Nat.le_of_ble_eq_true rfl⟩ ⟨fun _ _ _ => rfl, fun _ => Nat.le_refl _⟩ ⟨congrArg (fun z => some (Value.int z.1)) heL, congrArg (fun z => rs M z.2) heL, rfl⟩
      · skip
        have hk := hk.1 h57
        refine lv_iload_n X.1 X.2.1 d_Md_count_31 rfl (lv_at hl 1 rfl) ?_
        refine lv_bipush (v := 30) X.1 X.2.1 d_Md_count_32 (by decide) ?_
        refine lv_bipush (v := 34) X.1 X.2.1 d_Md_count_34 (by decide) ?_
        refine r_cS (As := [.int a0, .int 30, .int 34]) (rest := []) X hml hl.1 hM (k_Md_in l D dA base (rs M r) ad a0 30 34) c_Md_103 v_Md_in rfl (Nat.le_of_ble_eq_true rfl) ⟨rfl, rfl, Nat.le_of_ble_eq_true rfl, Nat.le_of_ble_eq_true rfl⟩ ⟨Nat.le_of_ble_eq_true rfl, Nat.le_of_ble_eq_true rfl⟩ d_Md_count_36 ?_
        intro rv M1 ad1 H locs hP hM hE
        obtain ⟨e1, e2, e3⟩ := hP
        subst rv; subst M1; subst ad1
        show W _ _ _ _ _ _ _ _ _ _ _ _ _ _ _ (F0 m 39 ls [.int (m_in a0 30 34)])
        refine lv_if_ne (tgt := 48) X.1 X.2.1 d_Md_count_39 (by decide) (fun h85 => ?_) (fun h85 => ?_)
        · skip
          have hk := hk.2 h85
          refine lv_aload_n X.1 X.2.1 d_Md_count_48 rfl (lv_at hl 0 rfl) ?_
          refine lv_iconst (v := 0) X.1 X.2.1 d_Md_count_49 (by decide) ?_
          refine R_puti (k := 18) X hM (by decide) rfl hR.1 p_Md_98 rfl rfl rfl d_Md_count_50 (fun H locs hM => ?_)
          refine lv_iload_n X.1 X.2.1 d_Md_count_53 rfl (lv_at hl 1 rfl) ?_
          refine lv_bipush (v := 29) X.1 X.2.1 d_Md_count_54 (by decide) ?_
          refine lv_icmp_le (tgt := 84) X.1 X.2.1 d_Md_count_56 (by decide) (fun h86 => ?_) (fun h86 => ?_)
          · skip
            have hk := hk.1 h86
            refine lv_iload_n X.1 X.2.1 d_Md_count_84 rfl (lv_at hl 1 rfl) ?_
            refine lv_bipush (v := 19) X.1 X.2.1 d_Md_count_85 (by decide) ?_
            refine lv_icmp_le (tgt := 116) X.1 X.2.1 d_Md_count_87 (by decide) (fun h87 => ?_) (fun h87 => ?_)
            · skip
              have hk := hk.1 h87
              refine lv_iload_n X.1 X.2.1 d_Md_count_116 rfl (lv_at hl 1 rfl) ?_
              refine lv_bipush (v := 9) X.1 X.2.1 d_Md_count_117 (by decide) ?_
              refine lv_icmp_le (tgt := 148) X.1 X.2.1 d_Md_count_119 (by decide) (fun h88 => ?_) (fun h88 => ?_)
              · skip
                have hk := hk.1 h88
                refine lv_iconst (v := 0) X.1 X.2.1 d_Md_count_148 (by decide) ?_
                refine lv_istore_n (lv' := [(2, .int 0), (0, .ref (ad 18 0)), (1, .int a0)]) X.1 X.2.1 d_Md_count_149 rfl hl (by decide) rfl (fun ls hl => ?_)
                refine lv_iconst (v := 0) X.1 X.2.1 d_Md_count_150 (by decide) ?_
                refine lv_istore_n (lv' := [(3, .int 0), (2, .int 0), (0, .ref (ad 18 0)), (1, .int a0)]) X.1 X.2.1 d_Md_count_151 rfl hl (by decide) rfl (fun ls hl => ?_)
                refine lv_iconst (v := 0) X.1 X.2.1 d_Md_count_152 (by decide) ?_
                refine lv_istore (lv' := [(4, .int 0), (3, .int 0), (2, .int 0), (0, .ref (ad 18 0)), (1, .int a0)]) X.1 X.2.1 d_Md_count_153 hl (by decide) rfl (fun ls hl => ?_)
                refine w_downW (fun ls => F0 m 155 ls []) (fun n H L ls => ∃ (r : rR) (v1 : Int32) (v2 : Int32) (v3 : Int32) (v4 : Int32), mSt D dA base (rs M r) ad s.heap H L ∧ lv_has ls 5 [(1, .int v1), (2, .int v2), (3, .int v3), (4, .int v4), (0, .ref (ad 18 0))] ∧ m_count_L155_ok n r v1 v2 v3 v4 ∧ m_count_L155 n r v1 v2 v3 v4 = F) ?_ ?_ 70 _ _ ls ⟨(ru r 18 34 0), a0, 0, 0, 0, hM, lv_sub hl [4, 2, 1, 0, 3] rfl, hk, ((if_pos h1).trans ((if_pos h29).trans ((if_pos h57).trans ((if_neg h85).trans ((if_pos h86).trans ((if_pos h87).trans ((if_pos h88)))))))).symm.trans he⟩
                · rintro H locs ls ⟨r, v1, v2, v3, v4, hM, hl, hk, he⟩
                  exact hk.elim
                · rintro n ih H locs ls ⟨r, v1, v2, v3, v4, hM, hl, hk, he⟩
                  refine lv_iload X.1 X.2.1 d_Md_count_155 (lv_at hl 3 rfl) ?_
                  refine lv_bipush (v := 8) X.1 X.2.1 d_Md_count_157 (by decide) ?_
                  refine lv_icmp_ge (tgt := 181) X.1 X.2.1 d_Md_count_159 (by decide) (fun h89 => ?_) (fun h89 => ?_)
                  · skip
                    have hk := hk.1 h89
                    refine lv_iconst (v := 0) X.1 X.2.1 d_Md_count_181 (by decide) ?_
                    refine lv_istore (lv' := [(4, .int 0), (1, .int v1), (2, .int v2), (3, .int v3), (0, .ref (ad 18 0))]) X.1 X.2.1 d_Md_count_182 hl (by decide) rfl (fun ls hl => ?_)
                    refine w_downW (fun ls => F0 m 184 ls []) (fun n H L ls => ∃ (r : rR) (v1 : Int32) (v2 : Int32) (v3 : Int32) (v4 : Int32), mSt D dA base (rs M r) ad s.heap H L ∧ lv_has ls 5 [(1, .int v1), (2, .int v2), (3, .int v3), (4, .int v4), (0, .ref (ad 18 0))] ∧ m_count_L184_ok n r v1 v2 v3 v4 ∧ m_count_L184 n r v1 v2 v3 v4 = F) ?_ ?_ 70 _ _ ls ⟨r, v1, v2, v3, 0, hM, lv_sub hl [1, 2, 3, 0, 4] rfl, hk, ((if_pos h89)).symm.trans he⟩
                    · rintro H locs ls ⟨r, v1, v2, v3, v4, hM, hl, hk, he⟩
                      exact hk.elim
                    · rintro n ih H locs ls ⟨r, v1, v2, v3, v4, hM, hl, hk, he⟩
                      refine lv_iload X.1 X.2.1 d_Md_count_184 (lv_at hl 3 rfl) ?_
                      refine lv_aload_n X.1 X.2.1 d_Md_count_186 rfl (lv_at hl 4 rfl) ?_
                      refine R_geti (k := 18) X hM (by decide) rfl hR.1 f_Md_158 rfl d_Md_count_187 ?_
                      refine lv_icmp_ge (tgt := 212) X.1 X.2.1 d_Md_count_190 (by decide) (fun h90 => ?_) (fun h90 => ?_)
                      · skip
                        have hk := hk.1 h90
                        refine lv_iload_n X.1 X.2.1 d_Md_count_212 rfl (lv_at hl 0 rfl) ?_
                        refine lv_if_ne (tgt := 223) X.1 X.2.1 d_Md_count_213 (by decide) (fun h91 => ?_) (fun h91 => ?_)
                        · skip
                          skip
                          refine lv_iload_n X.1 X.2.1 d_Md_count_223 rfl (lv_at hl 0 rfl) ?_
                          refine lv_iconst (v := 1) X.1 X.2.1 d_Md_count_224 (by decide) ?_
                          refine lv_icmp_ne (tgt := 235) X.1 X.2.1 d_Md_count_225 (by decide) (fun h92 => ?_) (fun h92 => ?_)
                          · skip
                            skip
                            refine lv_iload_n X.1 X.2.1 d_Md_count_235 rfl (lv_at hl 0 rfl) ?_
                            refine lv_iconst (v := 2) X.1 X.2.1 d_Md_count_236 (by decide) ?_
                            refine lv_icmp_ne (tgt := 244) X.1 X.2.1 d_Md_count_237 (by decide) (fun h93 => ?_) (fun h93 => ?_)
                            · skip
                              skip
                              refine lv_iload_n X.1 X.2.1 d_Md_count_244 rfl (lv_at hl 0 rfl) ?_
                              refine lv_iconst (v := 3) X.1 X.2.1 d_Md_count_245 (by decide) ?_
                              refine lv_icmp_ne (tgt := 256) X.1 X.2.1 d_Md_count_246 (by decide) (fun h94 => ?_) (fun h94 => ?_)
                              · skip
                                skip
                                refine lv_iload_n X.1 X.2.1 d_Md_count_256 rfl (lv_at hl 0 rfl) ?_
                                refine lv_iconst (v := 4) X.1 X.2.1 d_Md_count_257 (by decide) ?_
                                refine lv_icmp_ne (tgt := 265) X.1 X.2.1 d_Md_count_258 (by decide) (fun h95 => ?_) (fun h95 => ?_)
                                · skip
                                  skip
                                  refine lv_aload_n X.1 X.2.1 d_Md_count_265 rfl (lv_at hl 4 rfl) ?_
                                  refine R_geti (k := 18) X hM (by decide) rfl hR.1 f_Md_111 rfl d_Md_count_266 ?_
                                  have heL : (r 18 32, r) = F := ((if_pos h90).trans ((if_neg h91).trans ((if_neg h92).trans ((if_neg h93).trans ((if_neg h94).trans ((if_neg h95))))))).symm.trans he
                                  exact m_iret X hr hlk hM d_Md_count_269 ⟨Nat.le_of_ble_eq_true rfl, Nat.le_of_ble_eq_true rfl⟩ ⟨fun _ _ _ => rfl, fun _ => Nat.le_refl _⟩ ⟨congrArg (fun z => some (Value.int z.1)) heL, congrArg (fun z => rs M z.2) heL, rfl⟩
                                · skip
                                  skip
                                  refine lv_iload_n X.1 X.2.1 d_Md_count_261 rfl (lv_at hl 2 rfl) ?_
                                  refine lv_goto (tgt := 269) X.1 X.2.1 d_Md_count_262 (by decide) ?_
                                  have heL : (v3, r) = F := ((if_pos h90).trans ((if_neg h91).trans ((if_neg h92).trans ((if_neg h93).trans ((if_neg h94).trans ((if_pos h95))))))).symm.trans he
                                  exact m_iret X hr hlk hM d_Md_count_269 ⟨Nat.le_of_ble_eq_true rfl, Nat.le_of_ble_eq_true rfl⟩ ⟨fun _ _ _ => rfl, fun _ => Nat.le_refl _⟩ ⟨congrArg (fun z => some (Value.int z.1)) heL, congrArg (fun z => rs M z.2) heL, rfl⟩
                              · skip
                                skip
                                refine lv_aload_n X.1 X.2.1 d_Md_count_249 rfl (lv_at hl 4 rfl) ?_
                                refine R_geti (k := 18) X hM (by decide) rfl hR.1 f_Md_158 rfl d_Md_count_250 ?_
                                refine lv_goto (tgt := 269) X.1 X.2.1 d_Md_count_253 (by decide) ?_
                                have heL : (r 18 31, r) = F := ((if_pos h90).trans ((if_neg h91).trans ((if_neg h92).trans ((if_neg h93).trans ((if_pos h94)))))).symm.trans he
                                exact m_iret X hr hlk hM d_Md_count_269 ⟨Nat.le_of_ble_eq_true rfl, Nat.le_of_ble_eq_true rfl⟩ ⟨fun _ _ _ => rfl, fun _ => Nat.le_refl _⟩ ⟨congrArg (fun z => some (Value.int z.1)) heL, congrArg (fun z => rs M z.2) heL, rfl⟩
                            · skip
                              skip
                              refine lv_iload_n X.1 X.2.1 d_Md_count_240 rfl (lv_at hl 1 rfl) ?_
                              refine lv_goto (tgt := 269) X.1 X.2.1 d_Md_count_241 (by decide) ?_
                              have heL : (v2, r) = F := ((if_pos h90).trans ((if_neg h91).trans ((if_neg h92).trans ((if_pos h93))))).symm.trans he
                              exact m_iret X hr hlk hM d_Md_count_269 ⟨Nat.le_of_ble_eq_true rfl, Nat.le_of_ble_eq_true rfl⟩ ⟨fun _ _ _ => rfl, fun _ => Nat.le_refl _⟩ ⟨congrArg (fun z => some (Value.int z.1)) heL, congrArg (fun z => rs M z.2) heL, rfl⟩
                          · skip
                            skip
                            refine lv_aload_n X.1 X.2.1 d_Md_count_228 rfl (lv_at hl 4 rfl) ?_
                            refine R_geti (k := 18) X hM (by decide) rfl hR.1 f_Md_164 rfl d_Md_count_229 ?_
                            refine lv_goto (tgt := 269) X.1 X.2.1 d_Md_count_232 (by decide) ?_
                            have heL : (r 18 30, r) = F := ((if_pos h90).trans ((if_neg h91).trans ((if_pos h92)))).symm.trans he
                            exact m_iret X hr hlk hM d_Md_count_269 ⟨Nat.le_of_ble_eq_true rfl, Nat.le_of_ble_eq_true rfl⟩ ⟨fun _ _ _ => rfl, fun _ => Nat.le_refl _⟩ ⟨congrArg (fun z => some (Value.int z.1)) heL, congrArg (fun z => rs M z.2) heL, rfl⟩
                        · skip
                          skip
                          refine lv_aload_n X.1 X.2.1 d_Md_count_216 rfl (lv_at hl 4 rfl) ?_
                          refine R_geti (k := 18) X hM (by decide) rfl hR.1 f_Md_129 rfl d_Md_count_217 ?_
                          refine lv_goto (tgt := 269) X.1 X.2.1 d_Md_count_220 (by decide) ?_
                          have heL : (r 18 29, r) = F := ((if_pos h90).trans ((if_pos h91))).symm.trans he
                          exact m_iret X hr hlk hM d_Md_count_269 ⟨Nat.le_of_ble_eq_true rfl, Nat.le_of_ble_eq_true rfl⟩ ⟨fun _ _ _ => rfl, fun _ => Nat.le_refl _⟩ ⟨congrArg (fun z => some (Value.int z.1)) heL, congrArg (fun z => rs M z.2) heL, rfl⟩
                      · skip
                        have hk := hk.2 h90
                        refine lv_aload_n X.1 X.2.1 d_Md_count_193 rfl (lv_at hl 4 rfl) ?_
                        refine r_gets (q := 0) X hM rfl hR.1 f_Md_89 rfl (hR.2 26 (by decide)) d_Md_count_194 (fun g96 => ?_)
                        refine lv_iload X.1 X.2.1 d_Md_count_197 (lv_at hl 3 rfl) ?_
                        obtain ⟨o97, hk⟩ := hk
                        refine R_iald (k := 45) X hM (by decide) rfl g96 a_m_outcome (fun _ => rfl) o97.1 o97.2 d_Md_count_199 ?_
                        refine lv_if_ne (tgt := 206) X.1 X.2.1 d_Md_count_200 (by decide) (fun h98 => ?_) (fun h98 => ?_)
                        · skip
                          have hk := hk.2 h98
                          refine lv_iinc (v := v4 + 1) (lv' := [(4, .int (v4 + 1)), (1, .int v1), (2, .int v2), (3, .int v3), (0, .ref (ad 18 0))]) X.1 X.2.1 d_Md_count_206 hl (k := 3) rfl rfl (by decide) rfl (fun ls hl => ?_)
                          refine lv_goto (tgt := 184) X.1 X.2.1 d_Md_count_209 (by decide) ?_
                          exact ih _ _ ls ⟨_, _, _, _, _, hM, lv_sub hl [1, 2, 3, 0, 4] rfl, hk, ((if_neg h90).trans ((if_neg h98))).symm.trans he⟩
                        · skip
                          have hk := hk.1 h98
                          refine lv_iinc (v := v3 + 1) (lv' := [(3, .int (v3 + 1)), (1, .int v1), (2, .int v2), (4, .int v4), (0, .ref (ad 18 0))]) X.1 X.2.1 d_Md_count_203 hl (k := 2) rfl rfl (by decide) rfl (fun ls hl => ?_)
                          refine lv_iinc (v := v4 + 1) (lv' := [(4, .int (v4 + 1)), (3, .int (v3 + 1)), (1, .int v1), (2, .int v2), (0, .ref (ad 18 0))]) X.1 X.2.1 d_Md_count_206 hl (k := 3) rfl rfl (by decide) rfl (fun ls hl => ?_)
                          refine lv_goto (tgt := 184) X.1 X.2.1 d_Md_count_209 (by decide) ?_
                          exact ih _ _ ls ⟨_, _, _, _, _, hM, lv_sub hl [2, 3, 1, 0, 4] rfl, hk, ((if_neg h90).trans ((if_pos h98))).symm.trans he⟩
                  · skip
                    have hk := hk.2 h89
                    refine lv_aload_n X.1 X.2.1 d_Md_count_162 rfl (lv_at hl 4 rfl) ?_
                    refine r_gets (q := 0) X hM rfl hR.1 f_Md_68 rfl (hR.2 19 (by decide)) d_Md_count_163 (fun g99 => ?_)
                    refine lv_iload X.1 X.2.1 d_Md_count_166 (lv_at hl 3 rfl) ?_
                    obtain ⟨o100, hk⟩ := hk
                    refine R_zald (k := 38) X hM (by decide) rfl g99 a_m_there (fun _ => rfl) o100.1 o100.2 d_Md_count_168 ?_
                    refine lv_if_eq (tgt := 175) X.1 X.2.1 d_Md_count_169 (by decide) (fun h101 => ?_) (fun h101 => ?_)
                    · skip
                      have hk := hk.1 h101
                      refine lv_iinc (v := v4 + 1) (lv' := [(4, .int (v4 + 1)), (1, .int v1), (2, .int v2), (3, .int v3), (0, .ref (ad 18 0))]) X.1 X.2.1 d_Md_count_175 hl (k := 3) rfl rfl (by decide) rfl (fun ls hl => ?_)
                      refine lv_goto (tgt := 155) X.1 X.2.1 d_Md_count_178 (by decide) ?_
                      exact ih _ _ ls ⟨_, _, _, _, _, hM, lv_sub hl [1, 2, 3, 0, 4] rfl, hk, ((if_neg h89).trans ((if_pos h101))).symm.trans he⟩
                    · skip
                      have hk := hk.2 h101
                      refine lv_iinc (v := v2 + 1) (lv' := [(2, .int (v2 + 1)), (1, .int v1), (3, .int v3), (4, .int v4), (0, .ref (ad 18 0))]) X.1 X.2.1 d_Md_count_172 hl (k := 1) rfl rfl (by decide) rfl (fun ls hl => ?_)
                      refine lv_iinc (v := v4 + 1) (lv' := [(4, .int (v4 + 1)), (2, .int (v2 + 1)), (1, .int v1), (3, .int v3), (0, .ref (ad 18 0))]) X.1 X.2.1 d_Md_count_175 hl (k := 3) rfl rfl (by decide) rfl (fun ls hl => ?_)
                      refine lv_goto (tgt := 155) X.1 X.2.1 d_Md_count_178 (by decide) ?_
                      exact ih _ _ ls ⟨_, _, _, _, _, hM, lv_sub hl [2, 1, 3, 0, 4] rfl, hk, ((if_neg h89).trans ((if_neg h101))).symm.trans he⟩
              · skip
                have hk := hk.2 h88
                refine lv_aload_n X.1 X.2.1 d_Md_count_122 rfl (lv_at hl 0 rfl) ?_
                refine r_gets (q := 0) X hM rfl hR.1 f_Md_68 rfl (hR.2 19 (by decide)) d_Md_count_123 (fun g102 => ?_)
                refine lv_iload_n X.1 X.2.1 d_Md_count_126 rfl (lv_at hl 1 rfl) ?_
                refine lv_bipush (v := 10) X.1 X.2.1 d_Md_count_127 (by decide) ?_
                refine lv_isub X.1 X.2.1 d_Md_count_129 ?_
                have o103 := hk
                refine R_zald (k := 38) X hM (by decide) rfl g102 a_m_there (fun _ => rfl) o103.1 o103.2 d_Md_count_130 ?_
                show W _ _ _ _ _ _ _ _ _ _ _ _ _ _ _ (F0 m 131 ls [.int (r 38 ((a0 - 10).toNatClampNeg))])
                refine lv_if_eq (tgt := 146) X.1 X.2.1 d_Md_count_131 (by decide) (fun h104 => ?_) (fun h104 => ?_)
                · skip
                  skip
                  refine lv_iconst (v := 0) X.1 X.2.1 d_Md_count_146 (by decide) ?_
                  have heL : (0, (ru r 18 34 0)) = F := ((if_pos h1).trans ((if_pos h29).trans ((if_pos h57).trans ((if_neg h85).trans ((if_pos h86).trans ((if_pos h87).trans ((if_neg h88).trans ((if_pos h104))))))))).symm.trans he
                  exact m_iret X hr hlk hM d_Md_count_147 ⟨Nat.le_of_ble_eq_true rfl, Nat.le_of_ble_eq_true rfl⟩ ⟨fun _ _ _ => rfl, fun _ => Nat.le_refl _⟩ ⟨congrArg (fun z => some (Value.int z.1)) heL, congrArg (fun z => rs M z.2) heL, rfl⟩
                · skip
                  skip
                  refine lv_aload_n X.1 X.2.1 d_Md_count_134 rfl (lv_at hl 0 rfl) ?_
                  refine r_gets (q := 0) X hM rfl hR.1 f_Md_77 rfl (hR.2 22 (by decide)) d_Md_count_135 (fun g105 => ?_)
                  refine lv_iload_n X.1 X.2.1 d_Md_count_138 rfl (lv_at hl 1 rfl) ?_
                  refine lv_bipush (v := 10) X.1 X.2.1 d_Md_count_139 (by decide) ?_
                  refine lv_isub X.1 X.2.1 d_Md_count_141 ?_
                  refine R_iald (k := 41) X hM (by decide) rfl g105 a_m_by (fun _ => rfl) o103.1 o103.2 d_Md_count_142 ?_
                  show W _ _ _ _ _ _ _ _ _ _ _ _ _ _ _ (F0 m 143 ls [.int (r 41 ((a0 - 10).toNatClampNeg))])
                  refine lv_goto (tgt := 147) X.1 X.2.1 d_Md_count_143 (by decide) ?_
                  have heL : (r 41 ((a0 - 10).toNatClampNeg), (ru r 18 34 0)) = F := ((if_pos h1).trans ((if_pos h29).trans ((if_pos h57).trans ((if_neg h85).trans ((if_pos h86).trans ((if_pos h87).trans ((if_neg h88).trans ((if_neg h104))))))))).symm.trans he
                  exact m_iret X hr hlk hM d_Md_count_147 ⟨Nat.le_of_ble_eq_true rfl, Nat.le_of_ble_eq_true rfl⟩ ⟨fun _ _ _ => rfl, fun _ => Nat.le_refl _⟩ ⟨congrArg (fun z => some (Value.int z.1)) heL, congrArg (fun z => rs M z.2) heL, rfl⟩
            · skip
              have hk := hk.2 h87
              refine lv_aload_n X.1 X.2.1 d_Md_count_90 rfl (lv_at hl 0 rfl) ?_
              refine r_gets (q := 0) X hM rfl hR.1 f_Md_68 rfl (hR.2 19 (by decide)) d_Md_count_91 (fun g106 => ?_)
              refine lv_iload_n X.1 X.2.1 d_Md_count_94 rfl (lv_at hl 1 rfl) ?_
              refine lv_bipush (v := 20) X.1 X.2.1 d_Md_count_95 (by decide) ?_
              refine lv_isub X.1 X.2.1 d_Md_count_97 ?_
              have o107 := hk
              refine R_zald (k := 38) X hM (by decide) rfl g106 a_m_there (fun _ => rfl) o107.1 o107.2 d_Md_count_98 ?_
              show W _ _ _ _ _ _ _ _ _ _ _ _ _ _ _ (F0 m 99 ls [.int (r 38 ((a0 - 20).toNatClampNeg))])
              refine lv_if_eq (tgt := 114) X.1 X.2.1 d_Md_count_99 (by decide) (fun h108 => ?_) (fun h108 => ?_)
              · skip
                skip
                refine lv_iconst (v := (-1)) X.1 X.2.1 d_Md_count_114 (by decide) ?_
                have heL : ((-1), (ru r 18 34 0)) = F := ((if_pos h1).trans ((if_pos h29).trans ((if_pos h57).trans ((if_neg h85).trans ((if_pos h86).trans ((if_neg h87).trans ((if_pos h108)))))))).symm.trans he
                exact m_iret X hr hlk hM d_Md_count_115 ⟨Nat.le_of_ble_eq_true rfl, Nat.le_of_ble_eq_true rfl⟩ ⟨fun _ _ _ => rfl, fun _ => Nat.le_refl _⟩ ⟨congrArg (fun z => some (Value.int z.1)) heL, congrArg (fun z => rs M z.2) heL, rfl⟩
              · skip
                skip
                refine lv_aload_n X.1 X.2.1 d_Md_count_102 rfl (lv_at hl 0 rfl) ?_
                refine r_gets (q := 0) X hM rfl hR.1 f_Md_74 rfl (hR.2 21 (by decide)) d_Md_count_103 (fun g109 => ?_)
                refine lv_iload_n X.1 X.2.1 d_Md_count_106 rfl (lv_at hl 1 rfl) ?_
                refine lv_bipush (v := 20) X.1 X.2.1 d_Md_count_107 (by decide) ?_
                refine lv_isub X.1 X.2.1 d_Md_count_109 ?_
                refine R_iald (k := 40) X hM (by decide) rfl g109 a_m_path (fun _ => rfl) o107.1 o107.2 d_Md_count_110 ?_
                show W _ _ _ _ _ _ _ _ _ _ _ _ _ _ _ (F0 m 111 ls [.int (r 40 ((a0 - 20).toNatClampNeg))])
                refine lv_goto (tgt := 115) X.1 X.2.1 d_Md_count_111 (by decide) ?_
                have heL : (r 40 ((a0 - 20).toNatClampNeg), (ru r 18 34 0)) = F := ((if_pos h1).trans ((if_pos h29).trans ((if_pos h57).trans ((if_neg h85).trans ((if_pos h86).trans ((if_neg h87).trans ((if_neg h108)))))))).symm.trans he
                exact m_iret X hr hlk hM d_Md_count_115 ⟨Nat.le_of_ble_eq_true rfl, Nat.le_of_ble_eq_true rfl⟩ ⟨fun _ _ _ => rfl, fun _ => Nat.le_refl _⟩ ⟨congrArg (fun z => some (Value.int z.1)) heL, congrArg (fun z => rs M z.2) heL, rfl⟩
          · skip
            have hk := hk.2 h86
            refine lv_iload_n X.1 X.2.1 d_Md_count_59 rfl (lv_at hl 1 rfl) ?_
            refine lv_bipush (v := 30) X.1 X.2.1 d_Md_count_60 (by decide) ?_
            refine lv_isub X.1 X.2.1 d_Md_count_62 ?_
            refine lv_aload_n X.1 X.2.1 d_Md_count_63 rfl (lv_at hl 0 rfl) ?_
            refine R_geti (k := 18) X hM (by decide) rfl hR.1 f_Md_129 rfl d_Md_count_64 ?_
            show W _ _ _ _ _ _ _ _ _ _ _ _ _ _ _ (F0 m 67 ls [.int (r 18 29), .int (a0 - 30)])
            refine lv_icmp_ge (tgt := 82) X.1 X.2.1 d_Md_count_67 (by decide) (fun h110 => ?_) (fun h110 => ?_)
            · skip
              have hk := hk.1 h110
              refine lv_iconst (v := (-1)) X.1 X.2.1 d_Md_count_82 (by decide) ?_
              have heL : ((-1), (ru r 18 34 0)) = F := ((if_pos h1).trans ((if_pos h29).trans ((if_pos h57).trans ((if_neg h85).trans ((if_neg h86).trans ((if_pos h110))))))).symm.trans he
              exact m_iret X hr hlk hM d_Md_count_83 ⟨Nat.le_of_ble_eq_true rfl, Nat.le_of_ble_eq_true rfl⟩ ⟨fun _ _ _ => rfl, fun _ => Nat.le_refl _⟩ ⟨congrArg (fun z => some (Value.int z.1)) heL, congrArg (fun z => rs M z.2) heL, rfl⟩
            · skip
              have hk := hk.2 h110
              refine lv_aload_n X.1 X.2.1 d_Md_count_70 rfl (lv_at hl 0 rfl) ?_
              refine r_gets (q := 0) X hM rfl hR.1 f_Md_50 rfl (hR.2 13 (by decide)) d_Md_count_71 (fun g111 => ?_)
              refine lv_iload_n X.1 X.2.1 d_Md_count_74 rfl (lv_at hl 1 rfl) ?_
              refine lv_bipush (v := 30) X.1 X.2.1 d_Md_count_75 (by decide) ?_
              refine lv_isub X.1 X.2.1 d_Md_count_77 ?_
              have o112 := hk
              refine R_iald (k := 32) X hM (by decide) rfl g111 a_m_scope (fun _ => rfl) o112.1 o112.2 d_Md_count_78 ?_
              show W _ _ _ _ _ _ _ _ _ _ _ _ _ _ _ (F0 m 79 ls [.int (r 32 ((a0 - 30).toNatClampNeg))])
              refine lv_goto (tgt := 83) X.1 X.2.1 d_Md_count_79 (by decide) ?_
              have heL : (r 32 ((a0 - 30).toNatClampNeg), (ru r 18 34 0)) = F := ((if_pos h1).trans ((if_pos h29).trans ((if_pos h57).trans ((if_neg h85).trans ((if_neg h86).trans ((if_neg h110))))))).symm.trans he
              exact m_iret X hr hlk hM d_Md_count_83 ⟨Nat.le_of_ble_eq_true rfl, Nat.le_of_ble_eq_true rfl⟩ ⟨fun _ _ _ => rfl, fun _ => Nat.le_refl _⟩ ⟨congrArg (fun z => some (Value.int z.1)) heL, congrArg (fun z => rs M z.2) heL, rfl⟩
        · skip
          have hk := hk.1 h85
          refine lv_aload_n X.1 X.2.1 d_Md_count_42 rfl (lv_at hl 0 rfl) ?_
          refine lv_iconst (v := 1) X.1 X.2.1 d_Md_count_43 (by decide) ?_
          refine r_cV (As := [.int 1]) (rest := []) X hml hl.1 hM (k_Md_fail l D dA base M ad hR r 1) c_Md_161 v_Md_fail kc_Md rfl hR.1 rfl (Nat.le_of_ble_eq_true rfl) ⟨rfl, rfl, Nat.le_of_ble_eq_true rfl, Nat.le_of_ble_eq_true rfl⟩ ⟨Nat.le_of_ble_eq_true rfl, Nat.le_of_ble_eq_true rfl⟩ d_Md_count_44 ?_
          intro rv M1 ad1 H locs hP hM hE
          obtain ⟨e1, e2, e3⟩ := hP
          subst rv; subst M1; subst ad1
          show W _ _ _ _ _ _ _ _ _ _ _ _ _ _ _ (F0 m 47 ls [.int ((m_fail r 1).1)])
          have heL : ((m_fail r 1).1, (m_fail r 1).2) = F := ((if_pos h1).trans ((if_pos h29).trans ((if_pos h57).trans ((if_pos h85))))).symm.trans he
          exact m_iret X hr hlk hM d_Md_count_47 ⟨Nat.le_of_ble_eq_true rfl, Nat.le_of_ble_eq_true rfl⟩ ⟨fun _ _ _ => rfl, fun _ => Nat.le_refl _⟩ ⟨congrArg (fun z => some (Value.int z.1)) heL, congrArg (fun z => rs M z.2) heL, rfl⟩
