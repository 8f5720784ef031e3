def m_open_L15 : Nat → rR → Int32 → Int32 → Int32 × rR
  | 0, r, _, _ => (0, r)
  | n + 1, r, v1, v2 => (if 8 ≤ v2 then (if v2 = 8 then ((m_fail r 2).1, (m_fail r 2).2) else (if 0 ≤ (m_forPath (ru r 18 34 0) v1) then (v2, (ru (ru (ru (ru r 18 34 0) 38 (v2.toNatClampNeg) 1) 40 (v2.toNatClampNeg) v1) 41 (v2.toNatClampNeg) (r 36 ((m_forPath (ru r 18 34 0) v1).toNatClampNeg)))) else (v2, (ru (ru (ru (ru r 18 34 0) 38 (v2.toNatClampNeg) 1) 40 (v2.toNatClampNeg) v1) 41 (v2.toNatClampNeg) 0)))) else (if (r 38 (v2.toNatClampNeg)) = 0 then (if v2 = 8 then ((m_fail r 2).1, (m_fail r 2).2) else (if 0 ≤ (m_forPath (ru r 18 34 0) v1) then (v2, (ru (ru (ru (ru r 18 34 0) 38 (v2.toNatClampNeg) 1) 40 (v2.toNatClampNeg) v1) 41 (v2.toNatClampNeg) (r 36 ((m_forPath (ru r 18 34 0) v1).toNatClampNeg)))) else (v2, (ru (ru (ru (ru r 18 34 0) 38 (v2.toNatClampNeg) 1) 40 (v2.toNatClampNeg) v1) 41 (v2.toNatClampNeg) 0)))) else m_open_L15 n r v1 (v2 + 1)))
def m_open_L15_ok : Nat → rR → Int32 → Int32 → Prop
  | 0, _, _, _ => False
  | n + 1, r, v1, v2 => ((8 ≤ v2) → (((v2 = 8) → (True)) ∧ (¬ (v2 = 8) → ((m_forPath_ok (ru r 18 34 0) v1) ∧ ((ixk v2 8) ∧ (((0 ≤ (m_forPath (ru r 18 34 0) v1)) → (ixk (m_forPath (ru r 18 34 0) v1) 6)) ∧ (¬ (0 ≤ (m_forPath (ru r 18 34 0) v1)) → (True)))))))) ∧ (¬ (8 ≤ v2) → ((ixk v2 8) ∧ ((((r 38 (v2.toNatClampNeg)) = 0) → (((v2 = 8) → (True)) ∧ (¬ (v2 = 8) → ((m_forPath_ok (ru r 18 34 0) v1) ∧ (((0 ≤ (m_forPath (ru r 18 34 0) v1)) → (ixk (m_forPath (ru r 18 34 0) v1) 6)) ∧ (¬ (0 ≤ (m_forPath (ru r 18 34 0) v1)) → (True))))))) ∧ (¬ ((r 38 (v2.toNatClampNeg)) = 0) → (m_open_L15_ok n r v1 (v2 + 1))))))
def m_open (r : rR) (a0 : Int32) : Int32 × rR := (if (m_isPath a0) = 0 then ((m_fail r 1).1, (m_fail r 1).2) else m_open_L15 9 r a0 0)
def m_open_ok (r : rR) (a0 : Int32) : Prop := (m_isPath_ok a0) ∧ ((((m_isPath a0) = 0) → (True)) ∧ (¬ ((m_isPath a0) = 0) → (m_open_L15_ok 9 r a0 0)))
set_option maxHeartbeats 4000000 in
set_option maxRecDepth 100000 in
theorem k_Md_open (l : Launch) (D : va_G) (dA : Nat → ClassId) (base : Nat) (M : mM) (ad : Nat → Nat → Nat) (hR : wR M) (r : rR) (a0 : Int32) (hk : m_open_ok r a0) : mMet l y_Md_open b_Md_open 4 (some FieldType.int) ({ frames := 3, cells := 0, slots := 0, locals := 65 } : Room) 0 0 D dA base (rs M r) ad [.ref (ad 18 0), .int a0] (fun rv M' ad' => rv = some (.int (m_open r a0).1) ∧ M' = rs M (m_open r a0).2 ∧ ad' = ad) := by
  refine m_start (lvs := [(0, .ref (ad 18 0)), (1, .int a0)]) (by decide) (Nat.le_of_ble_eq_true rfl) rfl ?_
  intro p e s m below meth c ls X hr hlk hin hml hM hl
  generalize he : m_open r a0 = F
  refine lv_iload_n X.1 X.2.1 d_Md_open_0 rfl (lv_at hl 1 rfl) ?_
  obtain ⟨o1, hk⟩ := hk
  refine r_cS (As := [.int a0]) (rest := []) X hml hl.1 hM (k_Md_isPath l D dA base (rs M r) ad a0 o1) c_Md_118 v_Md_isPath rfl (Nat.le_of_ble_eq_true rfl) ⟨rfl, rfl, Nat.le_of_ble_eq_true rfl, Nat.le_of_ble_eq_true rfl⟩ ⟨Nat.le_of_ble_eq_true rfl, Nat.le_of_ble_eq_true rfl⟩ d_Md_open_1 ?_
  intro rv M1 ad1 H locs hP hM hE
  obtain ⟨e1, e2, e3⟩ := hP
  subst rv; subst M1; subst ad1
  show W _ _ _ _ _ _ _ _ _ _ _ _ _ _ _ (F0 m 4 ls [.int (m_isPath a0)])
  refine lv_if_ne (tgt := 13) X.1 X.2.1 d_Md_open_4 (by decide) (fun h2 => ?_) (fun h2 => ?_)
  · skip
    have hk := hk.2 h2
    refine lv_iconst (v := 0) X.1 X.2.1 d_Md_open_13 (by decide) ?_
    refine lv_istore_n (lv' := [(2, .int 0), (0, .ref (ad 18 0)), (1, .int a0)]) X.1 X.2.1 d_Md_open_14 rfl hl (by decide) rfl (fun ls hl => ?_)
    refine w_downW (fun ls => F0 m 15 ls []) (fun n H L ls => ∃ (r : rR) (v1 : Int32) (v2 : Int32), mSt D dA base (rs M r) ad s.heap H L ∧ lv_has ls 4 [(1, .int v1), (2, .int v2), (0, .ref (ad 18 0))] ∧ m_open_L15_ok n r v1 v2 ∧ m_open_L15 n r v1 v2 = F) ?_ ?_ 9 _ _ ls ⟨r, a0, 0, hM, lv_sub hl [2, 0, 1] rfl, hk, ((if_neg h2)).symm.trans he⟩
    · rintro H locs ls ⟨r, v1, v2, hM, hl, hk, he⟩
      exact hk.elim
    · rintro n ih H locs ls ⟨r, v1, v2, hM, hl, hk, he⟩
      refine lv_iload_n X.1 X.2.1 d_Md_open_15 rfl (lv_at hl 1 rfl) ?_
      refine lv_bipush (v := 8) X.1 X.2.1 d_Md_open_16 (by decide) ?_
      refine lv_icmp_ge (tgt := 36) X.1 X.2.1 d_Md_open_18 (by decide) (fun h3 => ?_) (fun h3 => ?_)
      · skip
        have hk := hk.1 h3
        refine lv_iload_n X.1 X.2.1 d_Md_open_36 rfl (lv_at hl 1 rfl) ?_
        refine lv_bipush (v := 8) X.1 X.2.1 d_Md_open_37 (by decide) ?_
        refine lv_icmp_ne (tgt := 48) X.1 X.2.1 d_Md_open_39 (by decide) (fun h4 => ?_) (fun h4 => ?_)
        · skip
          have hk := hk.2 h4
          refine lv_aload_n X.1 X.2.1 d_Md_open_48 rfl (lv_at hl 2 rfl) ?_
          refine lv_iconst (v := 0) X.1 X.2.1 d_Md_open_49 (by decide) ?_
          refine R_puti (k := 18) X hM (by decide) rfl hR.1 p_Md_98 rfl rfl rfl d_Md_open_50 (fun H locs hM => ?_)
          refine lv_aload_n X.1 X.2.1 d_Md_open_53 rfl (lv_at hl 2 rfl) ?_
          refine lv_iload_n X.1 X.2.1 d_Md_open_54 rfl (lv_at hl 0 rfl) ?_
          obtain ⟨o5, hk⟩ := hk
          refine r_cV (As := [.int v1]) (rest := []) X hml hl.1 hM (k_Md_forPath l D dA base M ad hR (ru r 18 34 0) v1 o5) c_Md_194 v_Md_forPath kc_Md rfl hR.1 rfl (Nat.le_of_ble_eq_true rfl) ⟨rfl, rfl, Nat.le_of_ble_eq_true rfl, Nat.le_of_ble_eq_true rfl⟩ ⟨Nat.le_of_ble_eq_true rfl, Nat.le_of_ble_eq_true rfl⟩ d_Md_open_55 ?_
          intro rv M1 ad1 H locs hP hM hE
          obtain ⟨e1, e2, e3⟩ := hP
          subst rv; subst M1; subst ad1
          show W _ _ _ _ _ _ _ _ _ _ _ _ _ _ _ (F0 m 58 ls [.int (m_forPath (ru r 18 34 0) v1)])
          refine lv_istore_n (lv' := [(3, .int (m_forPath (ru r 18 34 0) v1)), (1, .int v1), (2, .int v2), (0, .ref (ad 18 0))]) X.1 X.2.1 d_Md_open_58 rfl hl (by decide) rfl (fun ls hl => ?_)
          refine lv_aload_n X.1 X.2.1 d_Md_open_59 rfl (lv_at hl 3 rfl) ?_
          refine r_gets (q := 0) X hM rfl hR.1 f_Md_68 rfl (hR.2 19 (by decide)) d_Md_open_60 (fun g6 => ?_)
          refine lv_iload_n X.1 X.2.1 d_Md_open_63 rfl (lv_at hl 2 rfl) ?_
          refine lv_iconst (v := 1) X.1 X.2.1 d_Md_open_64 (by decide) ?_
          obtain ⟨o7, hk⟩ := hk
          refine R_zast (k := 38) X hM (by decide) rfl g6 a_m_there (fun _ => rfl) o7.1 o7.2 rfl d_Md_open_65 (fun H locs hM => ?_)
          refine lv_aload_n X.1 X.2.1 d_Md_open_66 rfl (lv_at hl 3 rfl) ?_
          refine r_gets (q := 0) X hM rfl hR.1 f_Md_74 rfl (hR.2 21 (by decide)) d_Md_open_67 (fun g8 => ?_)
          refine lv_iload_n X.1 X.2.1 d_Md_open_70 rfl (lv_at hl 2 rfl) ?_
          refine lv_iload_n X.1 X.2.1 d_Md_open_71 rfl (lv_at hl 1 rfl) ?_
          refine R_iast (k := 40) X hM (by decide) rfl g8 a_m_path (fun _ => rfl) o7.1 o7.2 d_Md_open_72 (fun H locs hM => ?_)
          refine lv_aload_n X.1 X.2.1 d_Md_open_73 rfl (lv_at hl 3 rfl) ?_
          refine r_gets (q := 0) X hM rfl hR.1 f_Md_77 rfl (hR.2 22 (by decide)) d_Md_open_74 (fun g9 => ?_)
          refine lv_iload_n X.1 X.2.1 d_Md_open_77 rfl (lv_at hl 2 rfl) ?_
          refine lv_iload_n X.1 X.2.1 d_Md_open_78 rfl (lv_at hl 0 rfl) ?_
          refine lv_if_ge (tgt := 86) X.1 X.2.1 d_Md_open_79 (by decide) (fun h10 => ?_) (fun h10 => ?_)
          · skip
            have hk := hk.1 h10
            refine lv_aload_n X.1 X.2.1 d_Md_open_86 rfl (lv_at hl 3 rfl) ?_
            refine r_gets (q := 0) X hM rfl hR.1 f_Md_62 rfl (hR.2 17 (by decide)) d_Md_open_87 (fun g11 => ?_)
            refine lv_iload_n X.1 X.2.1 d_Md_open_90 rfl (lv_at hl 0 rfl) ?_
            have o12 := hk
            refine R_iald (k := 36) X hM (by decide) rfl g11 a_m_active (fun _ => rfl) o12.1 o12.2 d_Md_open_91 ?_
            show W _ _ _ _ _ _ _ _ _ _ _ _ _ _ _ (F0 m 92 ls [.int (r 36 ((m_forPath (ru r 18 34 0) v1).toNatClampNeg)), .int v2, .ref (ad 41 0)])
            refine R_iast (k := 41) X hM (by decide) rfl g9 a_m_by (fun _ => rfl) o7.1 o7.2 d_Md_open_92 (fun H locs hM => ?_)
            refine lv_iload_n X.1 X.2.1 d_Md_open_93 rfl (lv_at hl 2 rfl) ?_
            have heL : (v2, (ru (ru (ru (ru r 18 34 0) 38 (v2.toNatClampNeg) 1) 40 (v2.toNatClampNeg) v1) 41 (v2.toNatClampNeg) (r 36 ((m_forPath (ru r 18 34 0) v1).toNatClampNeg)))) = F := ((if_pos h3).trans ((if_neg h4).trans ((if_pos h10)))).symm.trans he
            exact m_iret X hr hlk hM d_Md_open_94 ⟨Nat.le_of_ble_eq_true rfl, Nat.le_of_ble_eq_true rfl⟩ ⟨fun _ _ _ => rfl, fun _ => Nat.le_refl _⟩ ⟨congrArg (fun z => some (Value.int z.1)) heL, congrArg (fun z => rs M z.2) heL, rfl⟩
          · skip
            have hk := hk.2 h10
            refine lv_iconst (v := 0) X.1 X.2.1 d_Md_open_82 (by decide) ?_
            refine lv_goto (tgt := 92) X.1 X.2.1 d_Md_open_83 (by decide) ?_
            refine R_iast (k := 41) X hM (by decide) rfl g9 a_m_by (fun _ => rfl) o7.1 o7.2 d_Md_open_92 (fun H locs hM => ?_)
            refine lv_iload_n X.1 X.2.1 d_Md_open_93 rfl (lv_at hl 2 rfl) ?_
            have heL : (v2, (ru (ru (ru (ru r 18 34 0) 38 (v2.toNatClampNeg) 1) 40 (v2.toNatClampNeg) v1) 41 (v2.toNatClampNeg) 0)) = F := ((if_pos h3).trans ((if_neg h4).trans ((if_neg h10)))).symm.trans he
            exact m_iret X hr hlk hM d_Md_open_94 ⟨Nat.le_of_ble_eq_true rfl, Nat.le_of_ble_eq_true rfl⟩ ⟨fun _ _ _ => rfl, fun _ => Nat.le_refl _⟩ ⟨congrArg (fun z => some (Value.int z.1)) heL, congrArg (fun z => rs M z.2) heL, rfl⟩
        · skip
          have hk := hk.1 h4
          refine lv_aload_n X.1 X.2.1 d_Md_open_42 rfl (lv_at hl 2 rfl) ?_
          refine lv_iconst (v := 2) X.1 X.2.1 d_Md_open_43 (by decide) ?_
          refine r_cV (As := [.int 2]) (rest := []) X hml hl.1 hM (k_Md_fail l D dA base M ad hR r 2) c_Md_161 v_Md_fail kc_Md rfl hR.1 rfl (Nat.le_of_ble_eq_true rfl) ⟨rfl, rfl, Nat.le_of_ble_eq_true rfl, Nat.le_of_ble_eq_true rfl⟩ ⟨Nat.le_of_ble_eq_true rfl, Nat.le_of_ble_eq_true rfl⟩ d_Md_open_44 ?_
          intro rv M1 ad1 H locs hP hM hE
          obtain ⟨e1, e2, e3⟩ := hP
          subst rv; subst M1; subst ad1
          show W _ _ _ _ _ _ _ _ _ _ _ _ _ _ _ (F0 m 47 ls [.int ((m_fail r 2).1)])
          have heL : ((m_fail r 2).1, (m_fail r 2).2) = F := ((if_pos h3).trans ((if_pos h4))).symm.trans he
          exact m_iret X hr hlk hM d_Md_open_47 ⟨Nat.le_of_ble_eq_true rfl, Nat.le_of_ble_eq_true rfl⟩ ⟨fun _ _ _ => rfl, fun _ => Nat.le_refl _⟩ ⟨congrArg (fun z => some (Value.int z.1)) heL, congrArg (fun z => rs M z.2) heL, rfl⟩
      · skip
        have hk := hk.2 h3
        refine lv_aload_n X.1 X.2.1 d_Md_open_21 rfl (lv_at hl 2 rfl) ?_
        refine r_gets (q := 0) X hM rfl hR.1 f_Md_68 rfl (hR.2 19 (by decide)) d_Md_open_22 (fun g13 => ?_)
        refine lv_iload_n X.1 X.2.1 d_Md_open_25 rfl (lv_at hl 1 rfl) ?_
        obtain ⟨o14, hk⟩ := hk
        refine R_zald (k := 38) X hM (by decide) rfl g13 a_m_there (fun _ => rfl) o14.1 o14.2 d_Md_open_26 ?_
        refine lv_if_eq (tgt := 36) X.1 X.2.1 d_Md_open_27 (by decide) (fun h15 => ?_) (fun h15 => ?_)
        · skip
          have hk := hk.1 h15
          refine lv_iload_n X.1 X.2.1 d_Md_open_36 rfl (lv_at hl 1 rfl) ?_
          refine lv_bipush (v := 8) X.1 X.2.1 d_Md_open_37 (by decide) ?_
          refine lv_icmp_ne (tgt := 48) X.1 X.2.1 d_Md_open_39 (by decide) (fun h16 => ?_) (fun h16 => ?_)
          · skip
            have hk := hk.2 h16
            refine lv_aload_n X.1 X.2.1 d_Md_open_48 rfl (lv_at hl 2 rfl) ?_
            refine lv_iconst (v := 0) X.1 X.2.1 d_Md_open_49 (by decide) ?_
            refine R_puti (k := 18) X hM (by decide) rfl hR.1 p_Md_98 rfl rfl rfl d_Md_open_50 (fun H locs hM => ?_)
            refine lv_aload_n X.1 X.2.1 d_Md_open_53 rfl (lv_at hl 2 rfl) ?_
            refine lv_iload_n X.1 X.2.1 d_Md_open_54 rfl (lv_at hl 0 rfl) ?_
            obtain ⟨o17, hk⟩ := hk
            refine r_cV (As := [.int v1]) (rest := []) X hml hl.1 hM (k_Md_forPath l D dA base M ad hR (ru r 18 34 0) v1 o17) c_Md_194 v_Md_forPath kc_Md rfl hR.1 rfl (Nat.le_of_ble_eq_true rfl) ⟨rfl, rfl, Nat.le_of_ble_eq_true rfl, Nat.le_of_ble_eq_true rfl⟩ ⟨Nat.le_of_ble_eq_true rfl, Nat.le_of_ble_eq_true rfl⟩ d_Md_open_55 ?_
            intro rv M1 ad1 H locs hP hM hE
            obtain ⟨e1, e2, e3⟩ := hP
            subst rv; subst M1; subst ad1
            show W _ _ _ _ _ _ _ _ _ _ _ _ _ _ _ (F0 m 58 ls [.int (m_forPath (ru r 18 34 0) v1)])
            refine lv_istore_n (lv' := [(3, .int (m_forPath (ru r 18 34 0) v1)), (1, .int v1), (2, .int v2), (0, .ref (ad 18 0))]) X.1 X.2.1 d_Md_open_58 rfl hl (by decide) rfl (fun ls hl => ?_)
            refine lv_aload_n X.1 X.2.1 d_Md_open_59 rfl (lv_at hl 3 rfl) ?_
            refine r_gets (q := 0) X hM rfl hR.1 f_Md_68 rfl (hR.2 19 (by decide)) d_Md_open_60 (fun g18 => ?_)
            refine lv_iload_n X.1 X.2.1 d_Md_open_63 rfl (lv_at hl 2 rfl) ?_
            refine lv_iconst (v := 1) X.1 X.2.1 d_Md_open_64 (by decide) ?_
            refine R_zast (k := 38) X hM (by decide) rfl g18 a_m_there (fun _ => rfl) o14.1 o14.2 rfl d_Md_open_65 (fun H locs hM => ?_)
            refine lv_aload_n X.1 X.2.1 d_Md_open_66 rfl (lv_at hl 3 rfl) ?_
            refine r_gets (q := 0) X hM rfl hR.1 f_Md_74 rfl (hR.2 21 (by decide)) d_Md_open_67 (fun g19 => ?_)
            refine lv_iload_n X.1 X.2.1 d_Md_open_70 rfl (lv_at hl 2 rfl) ?_
            refine lv_iload_n X.1 X.2.1 d_Md_open_71 rfl (lv_at hl 1 rfl) ?_
            refine R_iast (k := 40) X hM (by decide) rfl g19 a_m_path (fun _ => rfl) o14.1 o14.2 d_Md_open_72 (fun H locs hM => ?_)
            refine lv_aload_n X.1 X.2.1 d_Md_open_73 rfl (lv_at hl 3 rfl) ?_
            refine r_gets (q := 0) X hM rfl hR.1 f_Md_77 rfl (hR.2 22 (by decide)) d_Md_open_74 (fun g20 => ?_)
            refine lv_iload_n X.1 X.2.1 d_Md_open_77 rfl (lv_at hl 2 rfl) ?_
            refine lv_iload_n X.1 X.2.1 d_Md_open_78 rfl (lv_at hl 0 rfl) ?_
            refine lv_if_ge (tgt := 86) X.1 X.2.1 d_Md_open_79 (by decide) (fun h21 => ?_) (fun h21 => ?_)
            · skip
              have hk := hk.1 h21
              refine lv_aload_n X.1 X.2.1 d_Md_open_86 rfl (lv_at hl 3 rfl) ?_
              refine r_gets (q := 0) X hM rfl hR.1 f_Md_62 rfl (hR.2 17 (by decide)) d_Md_open_87 (fun g22 => ?_)
              refine lv_iload_n X.1 X.2.1 d_Md_open_90 rfl (lv_at hl 0 rfl) ?_
              have o23 := hk
              refine R_iald (k := 36) X hM (by decide) rfl g22 a_m_active (fun _ => rfl) o23.1 o23.2 d_Md_open_91 ?_
              show W _ _ _ _ _ _ _ _ _ _ _ _ _ _ _ (F0 m 92 ls [.int (r 36 ((m_forPath (ru r 18 34 0) v1).toNatClampNeg)), .int v2, .ref (ad 41 0)])
              refine R_iast (k := 41) X hM (by decide) rfl g20 a_m_by (fun _ => rfl) o14.1 o14.2 d_Md_open_92 (fun H locs hM => ?_)
              refine lv_iload_n X.1 X.2.1 d_Md_open_93 rfl (lv_at hl 2 rfl) ?_
              have heL : (v2, (ru (ru (ru (ru r 18 34 0) 38 (v2.toNatClampNeg) 1) 40 (v2.toNatClampNeg) v1) 41 (v2.toNatClampNeg) (r 36 ((m_forPath (ru r 18 34 0) v1).toNatClampNeg)))) = F := ((if_neg h3).trans ((if_pos h15).trans ((if_neg h16).trans ((if_pos h21))))).symm.trans he
              exact m_iret X hr hlk hM d_Md_open_94 ⟨Nat.le_of_ble_eq_true rfl, Nat.le_of_ble_eq_true rfl⟩ ⟨fun _ _ _ => rfl, fun _ => Nat.le_refl _⟩ ⟨congrArg (fun z => some (Value.int z.1)) heL, congrArg (fun z => rs M z.2) heL, rfl⟩
            · skip
              have hk := hk.2 h21
              refine lv_iconst (v := 0) X.1 X.2.1 d_Md_open_82 (by decide) ?_
              refine lv_goto (tgt := 92) X.1 X.2.1 d_Md_open_83 (by decide) ?_
              refine R_iast (k := 41) X hM (by decide) rfl g20 a_m_by (fun _ => rfl) o14.1 o14.2 d_Md_open_92 (fun H locs hM => ?_)
              refine lv_iload_n X.1 X.2.1 d_Md_open_93 rfl (lv_at hl 2 rfl) ?_
              have heL : (v2, (ru (ru (ru (ru r 18 34 0) 38 (v2.toNatClampNeg) 1) 40 (v2.toNatClampNeg) v1) 41 (v2.toNatClampNeg) 0)) = F := ((if_neg h3).trans ((if_pos h15).trans ((if_neg h16).trans ((if_neg h21))))).symm.trans he
              exact m_iret X hr hlk hM d_Md_open_94 ⟨Nat.le_of_ble_eq_true rfl, Nat.le_of_ble_eq_true rfl⟩ ⟨fun _ _ _ => rfl, fun _ => Nat.le_refl _⟩ ⟨congrArg (fun z => some (Value.int z.1)) heL, congrArg (fun z => rs M z.2) heL, rfl⟩
          · skip
            have hk := hk.1 h16
            refine lv_aload_n X.1 X.2.1 d_Md_open_42 rfl (lv_at hl 2 rfl) ?_
            refine lv_iconst (v := 2) X.1 X.2.1 d_Md_open_43 (by decide) ?_
            refine r_cV (As := [.int 2]) (rest := []) X hml hl.1 hM (k_Md_fail l D dA base M ad hR r 2) c_Md_161 v_Md_fail kc_Md rfl hR.1 rfl (Nat.le_of_ble_eq_true rfl) ⟨rfl, rfl, Nat.le_of_ble_eq_true rfl, Nat.le_of_ble_eq_true rfl⟩ ⟨Nat.le_of_ble_eq_true rfl, Nat.le_of_ble_eq_true rfl⟩ d_Md_open_44 ?_
            intro rv M1 ad1 H locs hP hM hE
            obtain ⟨e1, e2, e3⟩ := hP
            subst rv; subst M1; subst ad1
            show W _ _ _ _ _ _ _ _ _ _ _ _ _ _ _ (F0 m 47 ls [.int ((m_fail r 2).1)])
            have heL : ((m_fail r 2).1, (m_fail r 2).2) = F := ((if_neg h3).trans ((if_pos h15).trans ((if_pos h16)))).symm.trans he
            exact m_iret X hr hlk hM d_Md_open_47 ⟨Nat.le_of_ble_eq_true rfl, Nat.le_of_ble_eq_true rfl⟩ ⟨fun _ _ _ => rfl, fun _ => Nat.le_refl _⟩ ⟨congrArg (fun z => some (Value.int z.1)) heL, congrArg (fun z => rs M z.2) heL, rfl⟩
        · skip
          have hk := hk.2 h15
          refine lv_iinc (v := v2 + 1) (lv' := [(2, .int (v2 + 1)), (1, .int v1), (0, .ref (ad 18 0))]) X.1 X.2.1 d_Md_open_30 hl (k := 1) rfl rfl (by decide) rfl (fun ls hl => ?_)
          refine lv_goto (tgt := 15) X.1 X.2.1 d_Md_open_33 (by decide) ?_
          exact ih _ _ ls ⟨_, _, _, hM, lv_sub hl [1, 0, 2] rfl, hk, ((if_neg h3).trans ((if_neg h15))).symm.trans he⟩
  · skip
    have hk := hk.1 h2
    refine lv_aload_n X.1 X.2.1 d_Md_open_7 rfl (lv_at hl 0 rfl) ?_
    refine lv_iconst (v := 1) X.1 X.2.1 d_Md_open_8 (by decide) ?_
    refine r_cV (As := [.int 1]) (rest := []) X hml hl.1 hM (k_Md_fail l D dA base M ad hR r 1) c_Md_161 v_Md_fail kc_Md rfl hR.1 rfl (Nat.le_of_ble_eq_true rfl) ⟨rfl, rfl, Nat.le_of_ble_eq_true rfl, Nat.le_of_ble_eq_true rfl⟩ ⟨Nat.le_of_ble_eq_true rfl, Nat.le_of_ble_eq_true rfl⟩ d_Md_open_9 ?_
    intro rv M1 ad1 H locs hP hM hE
    obtain ⟨e1, e2, e3⟩ := hP
    subst rv; subst M1; subst ad1
    show W _ _ _ _ _ _ _ _ _ _ _ _ _ _ _ (F0 m 12 ls [.int ((m_fail r 1).1)])
    have heL : ((m_fail r 1).1, (m_fail r 1).2) = F := ((if_pos h2)).symm.trans he
    exact m_iret X hr hlk hM d_Md_open_12 ⟨Nat.le_of_ble_eq_true rfl, Nat.le_of_ble_eq_true rfl⟩ ⟨fun _ _ _ => rfl, fun _ => Nat.le_refl _⟩ ⟨congrArg (fun z => some (Value.int z.1)) heL, congrArg (fun z => rs M z.2) heL, rfl⟩
def m_close (r : rR) (a0 : Int32) : Int32 × rR := (if (m_in a0 0 7) = 0 then ((m_fail r 1).1, (m_fail r 1).2) else (if (r 38 (a0.toNatClampNeg)) = 0 then ((m_fail r 1).1, (m_fail r 1).2) else (r 41 (a0.toNatClampNeg), (m_settle (ru (ru (ru r 18 34 0) 38 (a0.toNatClampNeg) 0) 41 (a0.toNatClampNeg) 0) (r 41 (a0.toNatClampNeg))))))
def m_close_ok (r : rR) (a0 : Int32) : Prop := (((m_in a0 0 7) = 0) → (True)) ∧ (¬ ((m_in a0 0 7) = 0) → ((ixk a0 8) ∧ ((((r 38 (a0.toNatClampNeg)) = 0) → (True)) ∧ (¬ ((r 38 (a0.toNatClampNeg)) = 0) → (m_settle_ok (ru (ru (ru r 18 34 0) 38 (a0.toNatClampNeg) 0) 41 (a0.toNatClampNeg) 0) (r 41 (a0.toNatClampNeg)))))))
set_option maxHeartbeats 4000000 in
set_option maxRecDepth 100000 in
theorem k_Md_close (l : Launch) (D : va_G) (dA : Nat → ClassId) (base : Nat) (M : mM) (ad : Nat → Nat → Nat) (hR : wR M) (r : rR) (a0 : Int32) (hk : m_close_ok r a0) : mMet l y_Md_close b_Md_close 3 (some FieldType.int) ({ frames := 4, cells := 0, slots := 0, locals := 90 } : Room) 0 0 D dA base (rs M r) ad [.ref (ad 18 0), .int a0] (fun rv M' ad' => rv = some (.int (m_close r a0).1) ∧ M' = rs M (m_close r a0).2 ∧ ad' = ad) := by
  refine m_start (lvs := [(0, .ref (ad 18 0)), (1, .int a0)]) (by decide) (Nat.le_of_ble_eq_true rfl) rfl ?_
  intro p e s m below meth c ls X hr hlk hin hml hM hl
  generalize he : m_close r a0 = F
  refine lv_iload_n X.1 X.2.1 d_Md_close_0 rfl (lv_at hl 1 rfl) ?_
  refine lv_iconst (v := 0) X.1 X.2.1 d_Md_close_1 (by decide) ?_
  refine lv_bipush (v := 7) X.1 X.2.1 d_Md_close_2 (by decide) ?_
  refine r_cS (As := [.int a0, .int 0, .int 7]) (rest := []) X hml hl.1 hM (k_Md_in l D dA base (rs M r) ad a0 0 7) c_Md_103 v_Md_in rfl (Nat.le_of_ble_eq_true rfl) ⟨rfl, rfl, Nat.le_of_ble_eq_true rfl, Nat.le_of_ble_eq_true rfl⟩ ⟨Nat.le_of_ble_eq_true rfl, Nat.le_of_ble_eq_true rfl⟩ d_Md_close_4 ?_
  intro rv M1 ad1 H locs hP hM hE
  obtain ⟨e1, e2, e3⟩ := hP
  subst rv; subst M1; subst ad1
  show W _ _ _ _ _ _ _ _ _ _ _ _ _ _ _ (F0 m 7 ls [.int (m_in a0 0 7)])
  refine lv_if_eq (tgt := 19) X.1 X.2.1 d_Md_close_7 (by decide) (fun h1 => ?_) (fun h1 => ?_)
  · skip
    have hk := hk.1 h1
    refine lv_aload_n X.1 X.2.1 d_Md_close_19 rfl (lv_at hl 0 rfl) ?_
    refine lv_iconst (v := 1) X.1 X.2.1 d_Md_close_20 (by decide) ?_
    refine r_cV (As := [.int 1]) (rest := []) X hml hl.1 hM (k_Md_fail l D dA base M ad hR r 1) c_Md_161 v_Md_fail kc_Md rfl hR.1 rfl (Nat.le_of_ble_eq_true rfl) ⟨rfl, rfl, Nat.le_of_ble_eq_true rfl, Nat.le_of_ble_eq_true rfl⟩ ⟨Nat.le_of_ble_eq_true rfl, Nat.le_of_ble_eq_true rfl⟩ d_Md_close_21 ?_
    intro rv M1 ad1 H locs hP hM hE
    obtain ⟨e1, e2, e3⟩ := hP
    subst rv; subst M1; subst ad1
    show W _ _ _ _ _ _ _ _ _ _ _ _ _ _ _ (F0 m 24 ls [.int ((m_fail r 1).1)])
    have heL : ((m_fail r 1).1, (m_fail r 1).2) = F := ((if_pos h1)).symm.trans he
    exact m_iret X hr hlk hM d_Md_close_24 ⟨Nat.le_of_ble_eq_true rfl, Nat.le_of_ble_eq_true rfl⟩ ⟨fun _ _ _ => rfl, fun _ => Nat.le_refl _⟩ ⟨congrArg (fun z => some (Value.int z.1)) heL, congrArg (fun z => rs M z.2) heL, rfl⟩
  · skip
    have hk := hk.2 h1
    refine lv_aload_n X.1 X.2.1 d_Md_close_10 rfl (lv_at hl 0 rfl) ?_
    refine r_gets (q := 0) X hM rfl hR.1 f_Md_68 rfl (hR.2 19 (by decide)) d_Md_close_11 (fun g2 => ?_)
    refine lv_iload_n X.1 X.2.1 d_Md_close_14 rfl (lv_at hl 1 rfl) ?_
    obtain ⟨o3, hk⟩ := hk
    refine R_zald (k := 38) X hM (by decide) rfl g2 a_m_there (fun _ => rfl) o3.1 o3.2 d_Md_close_15 ?_
    refine lv_if_ne (tgt := 25) X.1 X.2.1 d_Md_close_16 (by decide) (fun h4 => ?_) (fun h4 => ?_)
    · skip
      have hk := hk.2 h4
      refine lv_aload_n X.1 X.2.1 d_Md_close_25 rfl (lv_at hl 0 rfl) ?_
      refine lv_iconst (v := 0) X.1 X.2.1 d_Md_close_26 (by decide) ?_
      refine R_puti (k := 18) X hM (by decide) rfl hR.1 p_Md_98 rfl rfl rfl d_Md_close_27 (fun H locs hM => ?_)
      refine lv_aload_n X.1 X.2.1 d_Md_close_30 rfl (lv_at hl 0 rfl) ?_
      refine r_gets (q := 0) X hM rfl hR.1 f_Md_77 rfl (hR.2 22 (by decide)) d_Md_close_31 (fun g5 => ?_)
      refine lv_iload_n X.1 X.2.1 d_Md_close_34 rfl (lv_at hl 1 rfl) ?_
      refine R_iald (k := 41) X hM (by decide) rfl g5 a_m_by (fun _ => rfl) o3.1 o3.2 d_Md_close_35 ?_
      show W _ _ _ _ _ _ _ _ _ _ _ _ _ _ _ (F0 m 36 ls [.int (r 41 (a0.toNatClampNeg))])
      refine lv_istore_n (lv' := [(2, .int (r 41 (a0.toNatClampNeg))), (0, .ref (ad 18 0)), (1, .int a0)]) X.1 X.2.1 d_Md_close_36 rfl hl (by decide) rfl (fun ls hl => ?_)
      refine lv_aload_n X.1 X.2.1 d_Md_close_37 rfl (lv_at hl 1 rfl) ?_
      refine r_gets (q := 0) X hM rfl hR.1 f_Md_68 rfl (hR.2 19 (by decide)) d_Md_close_38 (fun g6 => ?_)
      refine lv_iload_n X.1 X.2.1 d_Md_close_41 rfl (lv_at hl 2 rfl) ?_
      refine lv_iconst (v := 0) X.1 X.2.1 d_Md_close_42 (by decide) ?_
      refine R_zast (k := 38) X hM (by decide) rfl g6 a_m_there (fun _ => rfl) o3.1 o3.2 rfl d_Md_close_43 (fun H locs hM => ?_)
      refine lv_aload_n X.1 X.2.1 d_Md_close_44 rfl (lv_at hl 1 rfl) ?_
      refine r_gets (q := 0) X hM rfl hR.1 f_Md_77 rfl (hR.2 22 (by decide)) d_Md_close_45 (fun g7 => ?_)
      refine lv_iload_n X.1 X.2.1 d_Md_close_48 rfl (lv_at hl 2 rfl) ?_
      refine lv_iconst (v := 0) X.1 X.2.1 d_Md_close_49 (by decide) ?_
      refine R_iast (k := 41) X hM (by decide) rfl g7 a_m_by (fun _ => rfl) o3.1 o3.2 d_Md_close_50 (fun H locs hM => ?_)
      refine lv_aload_n X.1 X.2.1 d_Md_close_51 rfl (lv_at hl 1 rfl) ?_
      refine lv_iload_n X.1 X.2.1 d_Md_close_52 rfl (lv_at hl 0 rfl) ?_
      have o8 := hk
      refine r_cV (As := [.int (r 41 (a0.toNatClampNeg))]) (rest := []) X hml hl.1 hM (k_Md_settle l D dA base M ad hR (ru (ru (ru r 18 34 0) 38 (a0.toNatClampNeg) 0) 41 (a0.toNatClampNeg) 0) (r 41 (a0.toNatClampNeg)) o8) c_Md_197 v_Md_settle kc_Md rfl hR.1 rfl (Nat.le_of_ble_eq_true rfl) ⟨rfl, rfl, Nat.le_of_ble_eq_true rfl, Nat.le_of_ble_eq_true rfl⟩ ⟨Nat.le_of_ble_eq_true rfl, Nat.le_of_ble_eq_true rfl⟩ d_Md_close_53 ?_
      intro rv M1 ad1 H locs hP hM hE
      obtain ⟨e1, e2, e3⟩ := hP
      subst rv; subst M1; subst ad1
      show W _ _ _ _ _ _ _ _ _ _ _ _ _ _ _ (F0 m 56 ls [])
      refine lv_iload_n X.1 X.2.1 d_Md_close_56 rfl (lv_at hl 0 rfl) ?_
      have heL : (r 41 (a0.toNatClampNeg), (m_settle (ru (ru (ru r 18 34 0) 38 (a0.toNatClampNeg) 0) 41 (a0.toNatClampNeg) 0) (r 41 (a0.toNatClampNeg)))) = F := ((if_neg h1).trans ((if_neg h4))).symm.trans he
      exact m_iret X hr hlk hM d_Md_close_57 ⟨Nat.le_of_ble_eq_true rfl, Nat.le_of_ble_eq_true rfl⟩ ⟨fun _ _ _ => rfl, fun _ => Nat.le_refl _⟩ ⟨congrArg (fun z => some (Value.int z.1)) heL, congrArg (fun z => rs M z.2) heL, rfl⟩
    · skip
      have hk := hk.1 h4
      refine lv_aload_n X.1 X.2.1 d_Md_close_19 rfl (lv_at hl 0 rfl) ?_
      refine lv_iconst (v := 1) X.1 X.2.1 d_Md_close_20 (by decide) ?_
      refine r_cV (As := [.int 1]) (rest := []) X hml hl.1 hM (k_Md_fail l D dA base M ad hR r 1) c_Md_161 v_Md_fail kc_Md rfl hR.1 rfl (Nat.le_of_ble_eq_true rfl) ⟨rfl, rfl, Nat.le_of_ble_eq_true rfl, Nat.le_of_ble_eq_true rfl⟩ ⟨Nat.le_of_ble_eq_true rfl, Nat.le_of_ble_eq_true rfl⟩ d_Md_close_21 ?_
      intro rv M1 ad1 H locs hP hM hE
      obtain ⟨e1, e2, e3⟩ := hP
      subst rv; subst M1; subst ad1
      show W _ _ _ _ _ _ _ _ _ _ _ _ _ _ _ (F0 m 24 ls [.int ((m_fail r 1).1)])
      have heL : ((m_fail r 1).1, (m_fail r 1).2) = F := ((if_neg h1).trans ((if_pos h4))).symm.trans he
      exact m_iret X hr hlk hM d_Md_close_24 ⟨Nat.le_of_ble_eq_true rfl, Nat.le_of_ble_eq_true rfl⟩ ⟨fun _ _ _ => rfl, fun _ => Nat.le_refl _⟩ ⟨congrArg (fun z => some (Value.int z.1)) heL, congrArg (fun z => rs M z.2) heL, rfl⟩
def m_claim_L142 : Nat → rR → Int32 → Int32 → Int32 → Int32 → Int32 × rR
  | 0, r, _, _, _, _ => (0, r)
  | n + 1, r, v1, v2, v3, v4 => (if v3 ≤ v4 then (v3, r) else m_claim_L142 n (m_settle r (r 47 (v4.toNatClampNeg))) v1 v2 v3 (v4 + 1))
def m_claim_L142_ok : Nat → rR → Int32 → Int32 → Int32 → Int32 → Prop
  | 0, _, _, _, _, _ => False
  | n + 1, r, v1, v2, v3, v4 => ((v3 ≤ v4) → (True)) ∧ (¬ (v3 ≤ v4) → ((ixk v4 8) ∧ ((m_settle_ok r (r 47 (v4.toNatClampNeg))) ∧ (m_claim_L142_ok n (m_settle r (r 47 (v4.toNatClampNeg))) v1 v2 v3 (v4 + 1)))))
def m_claim_L54 : Nat → rR → Int32 → Int32 → Int32 → Int32 → Int32 × rR
  | 0, r, _, _, _, _ => (0, r)
  | n + 1, r, v1, v2, v3, v4 => (if 8 ≤ v4 then m_claim_L142 9 r v1 v2 v3 0 else (if (r 38 (v4.toNatClampNeg)) = 0 then m_claim_L54 n r v1 v2 v3 (v4 + 1) else (if (m_forPath r (r 40 (v4.toNatClampNeg))) = v2 then (if (r 41 (v4.toNatClampNeg)) = (r 36 (v2.toNatClampNeg)) then m_claim_L54 n r v1 v2 v3 (v4 + 1) else m_claim_L54 n (m_control (ru r 47 (v3.toNatClampNeg) (r 41 (v4.toNatClampNeg))) v4 (r 36 (v2.toNatClampNeg))) v1 v2 (v3 + 1) (v4 + 1)) else m_claim_L54 n r v1 v2 v3 (v4 + 1))))
def m_claim_L54_ok : Nat → rR → Int32 → Int32 → Int32 → Int32 → Prop
  | 0, _, _, _, _, _ => False
  | n + 1, r, v1, v2, v3, v4 => ((8 ≤ v4) → (m_claim_L142_ok 9 r v1 v2 v3 0)) ∧ (¬ (8 ≤ v4) → ((ixk v4 8) ∧ ((((r 38 (v4.toNatClampNeg)) = 0) → (m_claim_L54_ok n r v1 v2 v3 (v4 + 1))) ∧ (¬ ((r 38 (v4.toNatClampNeg)) = 0) → ((m_forPath_ok r (r 40 (v4.toNatClampNeg))) ∧ ((((m_forPath r (r 40 (v4.toNatClampNeg))) = v2) → ((ixk v2 6) ∧ ((((r 41 (v4.toNatClampNeg)) = (r 36 (v2.toNatClampNeg))) → (m_claim_L54_ok n r v1 v2 v3 (v4 + 1))) ∧ (¬ ((r 41 (v4.toNatClampNeg)) = (r 36 (v2.toNatClampNeg))) → ((ixk v3 8) ∧ ((m_control_ok (ru r 47 (v3.toNatClampNeg) (r 41 (v4.toNatClampNeg))) v4 (r 36 (v2.toNatClampNeg))) ∧ (m_claim_L54_ok n (m_control (ru r 47 (v3.toNatClampNeg) (r 41 (v4.toNatClampNeg))) v4 (r 36 (v2.toNatClampNeg))) v1 v2 (v3 + 1) (v4 + 1)))))))) ∧ (¬ ((m_forPath r (r 40 (v4.toNatClampNeg))) = v2) → (m_claim_L54_ok n r v1 v2 v3 (v4 + 1)))))))))
def m_claim (r : rR) (a0 : Int32) : Int32 × rR := (if (m_isPath a0) = 0 then ((m_fail r 1).1, (m_fail r 1).2) else (if 0 ≤ (m_find r a0) then (if (r 36 ((m_find r a0).toNatClampNeg)) = 0 then ((m_fail r 3).1, (m_fail r 3).2) else m_claim_L54 9 (ru r 18 34 0) a0 (m_find r a0) 0 0) else ((m_fail r 2).1, (m_fail r 2).2)))
def m_claim_ok (r : rR) (a0 : Int32) : Prop := (m_isPath_ok a0) ∧ ((((m_isPath a0) = 0) → (True)) ∧ (¬ ((m_isPath a0) = 0) → ((m_find_ok r a0) ∧ (((0 ≤ (m_find r a0)) → ((ixk (m_find r a0) 6) ∧ ((((r 36 ((m_find r a0).toNatClampNeg)) = 0) → (True)) ∧ (¬ ((r 36 ((m_find r a0).toNatClampNeg)) = 0) → (m_claim_L54_ok 9 (ru r 18 34 0) a0 (m_find r a0) 0 0))))) ∧ (¬ (0 ≤ (m_find r a0)) → (True))))))
set_option maxHeartbeats 4000000 in
set_option maxRecDepth 100000 in
theorem k_Md_claim (l : Launch) (D : va_G) (dA : Nat → ClassId) (base : Nat) (M : mM) (ad : Nat → Nat → Nat) (hR : wR M) (r : rR) (a0 : Int32) (hk : m_claim_ok r a0) : mMet l y_Md_claim b_Md_claim 5 (some FieldType.int) ({ frames := 4, cells := 0, slots := 0, locals := 90 } : Room) 0 0 D dA base (rs M r) ad [.ref (ad 18 0), .int a0] (fun rv M' ad' => rv = some (.int (m_claim r a0).1) ∧ M' = rs M (m_claim r a0).2 ∧ ad' = ad) := by
  refine m_start (lvs := [(0, .ref (ad 18 0)), (1, .int a0)]) (by decide) (Nat.le_of_ble_eq_true rfl) rfl ?_
  intro p e s m below meth c ls X hr hlk hin hml hM hl
  generalize he : m_claim r a0 = F
  refine lv_iload_n X.1 X.2.1 d_Md_claim_0 rfl (lv_at hl 1 rfl) ?_
  obtain ⟨o1, hk⟩ := hk
  refine r_cS (As := [.int a0]) (rest := []) X hml hl.1 hM (k_Md_isPath l D dA base (rs M r) ad a0 o1) c_Md_118 v_Md_isPath rfl (Nat.le_of_ble_eq_true rfl) ⟨rfl, rfl, Nat.le_of_ble_eq_true rfl, Nat.le_of_ble_eq_true rfl⟩ ⟨Nat.le_of_ble_eq_true rfl, Nat.le_of_ble_eq_true rfl⟩ d_Md_claim_1 ?_
  intro rv M1 ad1 H locs hP hM hE
  obtain ⟨e1, e2, e3⟩ := hP
  subst rv; subst M1; subst ad1
  show W _ _ _ _ _ _ _ _ _ _ _ _ _ _ _ (F0 m 4 ls [.int (m_isPath a0)])
  refine lv_if_ne (tgt := 13) X.1 X.2.1 d_Md_claim_4 (by decide) (fun h2 => ?_) (fun h2 => ?_)
  · skip
    have hk := hk.2 h2
    refine lv_aload_n X.1 X.2.1 d_Md_claim_13 rfl (lv_at hl 0 rfl) ?_
    refine lv_iload_n X.1 X.2.1 d_Md_claim_14 rfl (lv_at hl 1 rfl) ?_
    obtain ⟨o3, hk⟩ := hk
    refine r_cV (As := [.int a0]) (rest := []) X hml hl.1 hM (k_Md_find l D dA base M ad hR r a0 o3) c_Md_167 v_Md_find kc_Md rfl hR.1 rfl (Nat.le_of_ble_eq_true rfl) ⟨rfl, rfl, Nat.le_of_ble_eq_true rfl, Nat.le_of_ble_eq_true rfl⟩ ⟨Nat.le_of_ble_eq_true rfl, Nat.le_of_ble_eq_true rfl⟩ d_Md_claim_15 ?_
    intro rv M1 ad1 H locs hP hM hE
    obtain ⟨e1, e2, e3⟩ := hP
    subst rv; subst M1; subst ad1
    show W _ _ _ _ _ _ _ _ _ _ _ _ _ _ _ (F0 m 18 ls [.int (m_find r a0)])
    refine lv_istore_n (lv' := [(2, .int (m_find r a0)), (0, .ref (ad 18 0)), (1, .int a0)]) X.1 X.2.1 d_Md_claim_18 rfl hl (by decide) rfl (fun ls hl => ?_)
    refine lv_iconst (v := 0) X.1 X.2.1 d_Md_claim_19 (by decide) ?_
    refine lv_istore_n (lv' := [(3, .int 0), (2, .int (m_find r a0)), (0, .ref (ad 18 0)), (1, .int a0)]) X.1 X.2.1 d_Md_claim_20 rfl hl (by decide) rfl (fun ls hl => ?_)
    refine lv_iload_n X.1 X.2.1 d_Md_claim_21 rfl (lv_at hl 1 rfl) ?_
    refine lv_if_ge (tgt := 31) X.1 X.2.1 d_Md_claim_22 (by decide) (fun h4 => ?_) (fun h4 => ?_)
    · skip
      have hk := hk.1 h4
      refine lv_aload_n X.1 X.2.1 d_Md_claim_31 rfl (lv_at hl 2 rfl) ?_
      refine r_gets (q := 0) X hM rfl hR.1 f_Md_62 rfl (hR.2 17 (by decide)) d_Md_claim_32 (fun g5 => ?_)
      refine lv_iload_n X.1 X.2.1 d_Md_claim_35 rfl (lv_at hl 1 rfl) ?_
      obtain ⟨o6, hk⟩ := hk
      refine R_iald (k := 36) X hM (by decide) rfl g5 a_m_active (fun _ => rfl) o6.1 o6.2 d_Md_claim_36 ?_
      refine lv_if_ne (tgt := 46) X.1 X.2.1 d_Md_claim_37 (by decide) (fun h7 => ?_) (fun h7 => ?_)
      · skip
        have hk := hk.2 h7
        refine lv_aload_n X.1 X.2.1 d_Md_claim_46 rfl (lv_at hl 2 rfl) ?_
        refine lv_iconst (v := 0) X.1 X.2.1 d_Md_claim_47 (by decide) ?_
        refine R_puti (k := 18) X hM (by decide) rfl hR.1 p_Md_98 rfl rfl rfl d_Md_claim_48 (fun H locs hM => ?_)
        refine lv_iconst (v := 0) X.1 X.2.1 d_Md_claim_51 (by decide) ?_
        refine lv_istore (lv' := [(4, .int 0), (3, .int 0), (2, .int (m_find r a0)), (0, .ref (ad 18 0)), (1, .int a0)]) X.1 X.2.1 d_Md_claim_52 hl (by decide) rfl (fun ls hl => ?_)
        refine w_downW (fun ls => F0 m 54 ls []) (fun n H L ls => ∃ (r : rR) (v1 : Int32) (v2 : Int32) (v3 : Int32) (v4 : Int32), mSt D dA base (rs M r) ad s.heap H L ∧ lv_has ls 5 [(1, .int v1), (2, .int v2), (3, .int v3), (4, .int v4), (0, .ref (ad 18 0))] ∧ m_claim_L54_ok n r v1 v2 v3 v4 ∧ m_claim_L54 n r v1 v2 v3 v4 = F) ?_ ?_ 9 _ _ ls ⟨(ru r 18 34 0), a0, (m_find r a0), 0, 0, hM, lv_sub hl [4, 2, 1, 0, 3] rfl, hk, ((if_neg h2).trans ((if_pos h4).trans ((if_neg h7)))).symm.trans he⟩
        · rintro H locs ls ⟨r, v1, v2, v3, v4, hM, hl, hk, he⟩
          exact hk.elim
        · rintro n ih H locs ls ⟨r, v1, v2, v3, v4, hM, hl, hk, he⟩
          refine lv_iload X.1 X.2.1 d_Md_claim_54 (lv_at hl 3 rfl) ?_
          refine lv_bipush (v := 8) X.1 X.2.1 d_Md_claim_56 (by decide) ?_
          refine lv_icmp_ge (tgt := 139) X.1 X.2.1 d_Md_claim_58 (by decide) (fun h8 => ?_) (fun h8 => ?_)
          · skip
            have hk := hk.1 h8
            refine lv_iconst (v := 0) X.1 X.2.1 d_Md_claim_139 (by decide) ?_
            refine lv_istore (lv' := [(4, .int 0), (1, .int v1), (2, .int v2), (3, .int v3), (0, .ref (ad 18 0))]) X.1 X.2.1 d_Md_claim_140 hl (by decide) rfl (fun ls hl => ?_)
            refine w_downW (fun ls => F0 m 142 ls []) (fun n H L ls => ∃ (r : rR) (v1 : Int32) (v2 : Int32) (v3 : Int32) (v4 : Int32), mSt D dA base (rs M r) ad s.heap H L ∧ lv_has ls 5 [(1, .int v1), (2, .int v2), (3, .int v3), (4, .int v4), (0, .ref (ad 18 0))] ∧ m_claim_L142_ok n r v1 v2 v3 v4 ∧ m_claim_L142 n r v1 v2 v3 v4 = F) ?_ ?_ 9 _ _ ls ⟨r, v1, v2, v3, 0, hM, lv_sub hl [1, 2, 3, 0, 4] rfl, hk, ((if_pos h8)).symm.trans he⟩
            · rintro H locs ls ⟨r, v1, v2, v3, v4, hM, hl, hk, he⟩
              exact hk.elim
            · rintro n ih H locs ls ⟨r, v1, v2, v3, v4, hM, hl, hk, he⟩
              refine lv_iload X.1 X.2.1 d_Md_claim_142 (lv_at hl 3 rfl) ?_
              refine lv_iload_n X.1 X.2.1 d_Md_claim_144 rfl (lv_at hl 2 rfl) ?_
              refine lv_icmp_ge (tgt := 165) X.1 X.2.1 d_Md_claim_145 (by decide) (fun h9 => ?_) (fun h9 => ?_)
              · skip
                have hk := hk.1 h9
                refine lv_iload_n X.1 X.2.1 d_Md_claim_165 rfl (lv_at hl 2 rfl) ?_
                have heL : (v3, r) = F := ((if_pos h9)).symm.trans he
                exact m_iret X hr hlk hM d_Md_claim_166 ⟨Nat.le_of_ble_eq_true rfl, Nat.le_of_ble_eq_true rfl⟩ ⟨fun _ _ _ => rfl, fun _ => Nat.le_refl _⟩ ⟨congrArg (fun z => some (Value.int z.1)) heL, congrArg (fun z => rs M z.2) heL, rfl⟩
              · skip
                have hk := hk.2 h9
                refine lv_aload_n X.1 X.2.1 d_Md_claim_148 rfl (lv_at hl 4 rfl) ?_
                refine lv_aload_n X.1 X.2.1 d_Md_claim_149 rfl (lv_at hl 4 rfl) ?_
                refine r_gets (q := 0) X hM rfl hR.1 f_Md_95 rfl (hR.2 28 (by decide)) d_Md_claim_150 (fun g10 => ?_)
                refine lv_iload X.1 X.2.1 d_Md_claim_153 (lv_at hl 3 rfl) ?_
                obtain ⟨o11, hk⟩ := hk
                refine R_iald (k := 47) X hM (by decide) rfl g10 a_m_freed (fun _ => rfl) o11.1 o11.2 d_Md_claim_155 ?_
                obtain ⟨o12, hk⟩ := hk
                refine r_cV (As := [.int (r 47 (v4.toNatClampNeg))]) (rest := []) X hml hl.1 hM (k_Md_settle l D dA base M ad hR r (r 47 (v4.toNatClampNeg)) o12) c_Md_197 v_Md_settle kc_Md rfl hR.1 rfl (Nat.le_of_ble_eq_true rfl) ⟨rfl, rfl, Nat.le_of_ble_eq_true rfl, Nat.le_of_ble_eq_true rfl⟩ ⟨Nat.le_of_ble_eq_true rfl, Nat.le_of_ble_eq_true rfl⟩ d_Md_claim_156 ?_
                intro rv M1 ad1 H locs hP hM hE
                obtain ⟨e1, e2, e3⟩ := hP
                subst rv; subst M1; subst ad1
                show W _ _ _ _ _ _ _ _ _ _ _ _ _ _ _ (F0 m 159 ls [])
                refine lv_iinc (v := v4 + 1) (lv' := [(4, .int (v4 + 1)), (1, .int v1), (2, .int v2), (3, .int v3), (0, .ref (ad 18 0))]) X.1 X.2.1 d_Md_claim_159 hl (k := 3) rfl rfl (by decide) rfl (fun ls hl => ?_)
                refine lv_goto (tgt := 142) X.1 X.2.1 d_Md_claim_162 (by decide) ?_
                exact ih _ _ ls ⟨_, _, _, _, _, hM, lv_sub hl [1, 2, 3, 0, 4] rfl, hk, ((if_neg h9)).symm.trans he⟩
          · skip
            have hk := hk.2 h8
            refine lv_aload_n X.1 X.2.1 d_Md_claim_61 rfl (lv_at hl 4 rfl) ?_
            refine r_gets (q := 0) X hM rfl hR.1 f_Md_68 rfl (hR.2 19 (by decide)) d_Md_claim_62 (fun g13 => ?_)
            refine lv_iload X.1 X.2.1 d_Md_claim_65 (lv_at hl 3 rfl) ?_
            obtain ⟨o14, hk⟩ := hk
            refine R_zald (k := 38) X hM (by decide) rfl g13 a_m_there (fun _ => rfl) o14.1 o14.2 d_Md_claim_67 ?_
            refine lv_if_eq (tgt := 133) X.1 X.2.1 d_Md_claim_68 (by decide) (fun h15 => ?_) (fun h15 => ?_)
            · skip
              have hk := hk.1 h15
              refine lv_iinc (v := v4 + 1) (lv' := [(4, .int (v4 + 1)), (1, .int v1), (2, .int v2), (3, .int v3), (0, .ref (ad 18 0))]) X.1 X.2.1 d_Md_claim_133 hl (k := 3) rfl rfl (by decide) rfl (fun ls hl => ?_)
              refine lv_goto (tgt := 54) X.1 X.2.1 d_Md_claim_136 (by decide) ?_
              exact ih _ _ ls ⟨_, _, _, _, _, hM, lv_sub hl [1, 2, 3, 0, 4] rfl, hk, ((if_neg h8).trans ((if_pos h15))).symm.trans he⟩
            · skip
              have hk := hk.2 h15
              refine lv_aload_n X.1 X.2.1 d_Md_claim_71 rfl (lv_at hl 4 rfl) ?_
              refine lv_aload_n X.1 X.2.1 d_Md_claim_72 rfl (lv_at hl 4 rfl) ?_
              refine r_gets (q := 0) X hM rfl hR.1 f_Md_74 rfl (hR.2 21 (by decide)) d_Md_claim_73 (fun g16 => ?_)
              refine lv_iload X.1 X.2.1 d_Md_claim_76 (lv_at hl 3 rfl) ?_
              refine R_iald (k := 40) X hM (by decide) rfl g16 a_m_path (fun _ => rfl) o14.1 o14.2 d_Md_claim_78 ?_
              obtain ⟨o17, hk⟩ := hk
              refine r_cV (As := [.int (r 40 (v4.toNatClampNeg))]) (rest := []) X hml hl.1 hM (k_Md_forPath l D dA base M ad hR r (r 40 (v4.toNatClampNeg)) o17) c_Md_194 v_Md_forPath kc_Md rfl hR.1 rfl (Nat.le_of_ble_eq_true rfl) ⟨rfl, rfl, Nat.le_of_ble_eq_true rfl, Nat.le_of_ble_eq_true rfl⟩ ⟨Nat.le_of_ble_eq_true rfl, Nat.le_of_ble_eq_true rfl⟩ d_Md_claim_79 ?_
              intro rv M1 ad1 H locs hP hM hE
              obtain ⟨e1, e2, e3⟩ := hP
              subst rv; subst M1; subst ad1
              show W _ _ _ _ _ _ _ _ _ _ _ _ _ _ _ (F0 m 82 ls [.int (m_forPath r (r 40 (v4.toNatClampNeg)))])
              refine lv_iload_n X.1 X.2.1 d_Md_claim_82 rfl (lv_at hl 1 rfl) ?_
              refine lv_icmp_ne (tgt := 133) X.1 X.2.1 d_Md_claim_83 (by decide) (fun h18 => ?_) (fun h18 => ?_)
              · skip
                have hk := hk.2 h18
                refine lv_iinc (v := v4 + 1) (lv' := [(4, .int (v4 + 1)), (1, .int v1), (2, .int v2), (3, .int v3), (0, .ref (ad 18 0))]) X.1 X.2.1 d_Md_claim_133 hl (k := 3) rfl rfl (by decide) rfl (fun ls hl => ?_)
                refine lv_goto (tgt := 54) X.1 X.2.1 d_Md_claim_136 (by decide) ?_
                exact ih _ _ ls ⟨_, _, _, _, _, hM, lv_sub hl [1, 2, 3, 0, 4] rfl, hk, ((if_neg h8).trans ((if_neg h15).trans ((if_neg h18)))).symm.trans he⟩
              · skip
                have hk := hk.1 h18
                refine lv_aload_n X.1 X.2.1 d_Md_claim_86 rfl (lv_at hl 4 rfl) ?_
                refine r_gets (q := 0) X hM rfl hR.1 f_Md_77 rfl (hR.2 22 (by decide)) d_Md_claim_87 (fun g19 => ?_)
                refine lv_iload X.1 X.2.1 d_Md_claim_90 (lv_at hl 3 rfl) ?_
                refine R_iald (k := 41) X hM (by decide) rfl g19 a_m_by (fun _ => rfl) o14.1 o14.2 d_Md_claim_92 ?_
                refine lv_aload_n X.1 X.2.1 d_Md_claim_93 rfl (lv_at hl 4 rfl) ?_
                refine r_gets (q := 0) X hM rfl hR.1 f_Md_62 rfl (hR.2 17 (by decide)) d_Md_claim_94 (fun g20 => ?_)
                refine lv_iload_n X.1 X.2.1 d_Md_claim_97 rfl (lv_at hl 1 rfl) ?_
                obtain ⟨o21, hk⟩ := hk
                refine R_iald (k := 36) X hM (by decide) rfl g20 a_m_active (fun _ => rfl) o21.1 o21.2 d_Md_claim_98 ?_
                refine lv_icmp_ne (tgt := 105) X.1 X.2.1 d_Md_claim_99 (by decide) (fun h22 => ?_) (fun h22 => ?_)
                · skip
                  have hk := hk.2 h22
                  refine lv_aload_n X.1 X.2.1 d_Md_claim_105 rfl (lv_at hl 4 rfl) ?_
                  refine r_gets (q := 0) X hM rfl hR.1 f_Md_95 rfl (hR.2 28 (by decide)) d_Md_claim_106 (fun g23 => ?_)
                  refine lv_iload_n X.1 X.2.1 d_Md_claim_109 rfl (lv_at hl 2 rfl) ?_
                  refine lv_aload_n X.1 X.2.1 d_Md_claim_110 rfl (lv_at hl 4 rfl) ?_
                  refine r_gets (q := 0) X hM rfl hR.1 f_Md_77 rfl (hR.2 22 (by decide)) d_Md_claim_111 (fun g24 => ?_)
                  refine lv_iload X.1 X.2.1 d_Md_claim_114 (lv_at hl 3 rfl) ?_
                  refine R_iald (k := 41) X hM (by decide) rfl g24 a_m_by (fun _ => rfl) o14.1 o14.2 d_Md_claim_116 ?_
                  obtain ⟨o25, hk⟩ := hk
                  refine R_iast (k := 47) X hM (by decide) rfl g23 a_m_freed (fun _ => rfl) o25.1 o25.2 d_Md_claim_117 (fun H locs hM => ?_)
                  refine lv_iinc (v := v3 + 1) (lv' := [(3, .int (v3 + 1)), (1, .int v1), (2, .int v2), (4, .int v4), (0, .ref (ad 18 0))]) X.1 X.2.1 d_Md_claim_118 hl (k := 2) rfl rfl (by decide) rfl (fun ls hl => ?_)
                  refine lv_aload_n X.1 X.2.1 d_Md_claim_121 rfl (lv_at hl 4 rfl) ?_
                  refine lv_iload X.1 X.2.1 d_Md_claim_122 (lv_at hl 3 rfl) ?_
                  refine lv_aload_n X.1 X.2.1 d_Md_claim_124 rfl (lv_at hl 4 rfl) ?_
                  refine r_gets (q := 0) X hM rfl hR.1 f_Md_62 rfl (hR.2 17 (by decide)) d_Md_claim_125 (fun g26 => ?_)
                  refine lv_iload_n X.1 X.2.1 d_Md_claim_128 rfl (lv_at hl 2 rfl) ?_
                  refine R_iald (k := 36) X hM (by decide) rfl g26 a_m_active (fun _ => rfl) o21.1 o21.2 d_Md_claim_129 ?_
                  show W _ _ _ _ _ _ _ _ _ _ _ _ _ _ _ (F0 m 130 ls [.int (r 36 (v2.toNatClampNeg)), .int v4, .ref (ad 18 0)])
                  obtain ⟨o27, hk⟩ := hk
                  refine r_cV (As := [.int v4, .int (r 36 (v2.toNatClampNeg))]) (rest := []) X hml hl.1 hM (k_Md_control l D dA base M ad hR (ru r 47 (v3.toNatClampNeg) (r 41 (v4.toNatClampNeg))) v4 (r 36 (v2.toNatClampNeg)) o27) c_Md_143 v_Md_control kc_Md rfl hR.1 rfl (Nat.le_of_ble_eq_true rfl) ⟨rfl, rfl, Nat.le_of_ble_eq_true rfl, Nat.le_of_ble_eq_true rfl⟩ ⟨Nat.le_of_ble_eq_true rfl, Nat.le_of_ble_eq_true rfl⟩ d_Md_claim_130 ?_
                  intro rv M1 ad1 H locs hP hM hE
                  obtain ⟨e1, e2, e3⟩ := hP
                  subst rv; subst M1; subst ad1
                  show W _ _ _ _ _ _ _ _ _ _ _ _ _ _ _ (F0 m 133 ls [])
                  refine lv_iinc (v := v4 + 1) (lv' := [(4, .int (v4 + 1)), (3, .int (v3 + 1)), (1, .int v1), (2, .int v2), (0, .ref (ad 18 0))]) X.1 X.2.1 d_Md_claim_133 hl (k := 3) rfl rfl (by decide) rfl (fun ls hl => ?_)
                  refine lv_goto (tgt := 54) X.1 X.2.1 d_Md_claim_136 (by decide) ?_
                  exact ih _ _ ls ⟨_, _, _, _, _, hM, lv_sub hl [2, 3, 1, 0, 4] rfl, hk, ((if_neg h8).trans ((if_neg h15).trans ((if_pos h18).trans ((if_neg h22))))).symm.trans he⟩
                · skip
                  have hk := hk.1 h22
                  refine lv_goto (tgt := 133) X.1 X.2.1 d_Md_claim_102 (by decide) ?_
                  refine lv_iinc (v := v4 + 1) (lv' := [(4, .int (v4 + 1)), (1, .int v1), (2, .int v2), (3, .int v3), (0, .ref (ad 18 0))]) X.1 X.2.1 d_Md_claim_133 hl (k := 3) rfl rfl (by decide) rfl (fun ls hl => ?_)
                  refine lv_goto (tgt := 54) X.1 X.2.1 d_Md_claim_136 (by decide) ?_
                  exact ih _ _ ls ⟨_, _, _, _, _, hM, lv_sub hl [1, 2, 3, 0, 4] rfl, hk, ((if_neg h8).trans ((if_neg h15).trans ((if_pos h18).trans ((if_pos h22))))).symm.trans he⟩
      · skip
        have hk := hk.1 h7
        refine lv_aload_n X.1 X.2.1 d_Md_claim_40 rfl (lv_at hl 2 rfl) ?_
        refine lv_iconst (v := 3) X.1 X.2.1 d_Md_claim_41 (by decide) ?_
        refine r_cV (As := [.int 3]) (rest := []) X hml hl.1 hM (k_Md_fail l D dA base M ad hR r 3) c_Md_161 v_Md_fail kc_Md rfl hR.1 rfl (Nat.le_of_ble_eq_true rfl) ⟨rfl, rfl, Nat.le_of_ble_eq_true rfl, Nat.le_of_ble_eq_true rfl⟩ ⟨Nat.le_of_ble_eq_true rfl, Nat.le_of_ble_eq_true rfl⟩ d_Md_claim_42 ?_
        intro rv M1 ad1 H locs hP hM hE
        obtain ⟨e1, e2, e3⟩ := hP
        subst rv; subst M1; subst ad1
        show W _ _ _ _ _ _ _ _ _ _ _ _ _ _ _ (F0 m 45 ls [.int ((m_fail r 3).1)])
        have heL : ((m_fail r 3).1, (m_fail r 3).2) = F := ((if_neg h2).trans ((if_pos h4).trans ((if_pos h7)))).symm.trans he
        exact m_iret X hr hlk hM d_Md_claim_45 ⟨Nat.le_of_ble_eq_true rfl, Nat.le_of_ble_eq_true rfl⟩ ⟨fun _ _ _ => rfl, fun _ => Nat.le_refl _⟩ ⟨congrArg (fun z => some (Value.int z.1)) heL, congrArg (fun z => rs M z.2) heL, rfl⟩
    · skip
      have hk := hk.2 h4
      refine lv_aload_n X.1 X.2.1 d_Md_claim_25 rfl (lv_at hl 2 rfl) ?_
      refine lv_iconst (v := 2) X.1 X.2.1 d_Md_claim_26 (by decide) ?_
      refine r_cV (As := [.int 2]) (rest := []) X hml hl.1 hM (k_Md_fail l D dA base M ad hR r 2) c_Md_161 v_Md_fail kc_Md rfl hR.1 rfl (Nat.le_of_ble_eq_true rfl) ⟨rfl, rfl, Nat.le_of_ble_eq_true rfl, Nat.le_of_ble_eq_true rfl⟩ ⟨Nat.le_of_ble_eq_true rfl, Nat.le_of_ble_eq_true rfl⟩ d_Md_claim_27 ?_
      intro rv M1 ad1 H locs hP hM hE
      obtain ⟨e1, e2, e3⟩ := hP
      subst rv; subst M1; subst ad1
      show W _ _ _ _ _ _ _ _ _ _ _ _ _ _ _ (F0 m 30 ls [.int ((m_fail r 2).1)])
      have heL : ((m_fail r 2).1, (m_fail r 2).2) = F := ((if_neg h2).trans ((if_neg h4))).symm.trans he
      exact m_iret X hr hlk hM d_Md_claim_30 ⟨Nat.le_of_ble_eq_true rfl, Nat.le_of_ble_eq_true rfl⟩ ⟨fun _ _ _ => rfl, fun _ => Nat.le_refl _⟩ ⟨congrArg (fun z => some (Value.int z.1)) heL, congrArg (fun z => rs M z.2) heL, rfl⟩
  · skip
    have hk := hk.1 h2
    refine lv_aload_n X.1 X.2.1 d_Md_claim_7 rfl (lv_at hl 0 rfl) ?_
    refine lv_iconst (v := 1) X.1 X.2.1 d_Md_claim_8 (by decide) ?_
    refine r_cV (As := [.int 1]) (rest := []) X hml hl.1 hM (k_Md_fail l D dA base M ad hR r 1) c_Md_161 v_Md_fail kc_Md rfl hR.1 rfl (Nat.le_of_ble_eq_true rfl) ⟨rfl, rfl, Nat.le_of_ble_eq_true rfl, Nat.le_of_ble_eq_true rfl⟩ ⟨Nat.le_of_ble_eq_true rfl, Nat.le_of_ble_eq_true rfl⟩ d_Md_claim_9 ?_
    intro rv M1 ad1 H locs hP hM hE
    obtain ⟨e1, e2, e3⟩ := hP
    subst rv; subst M1; subst ad1
    show W _ _ _ _ _ _ _ _ _ _ _ _ _ _ _ (F0 m 12 ls [.int ((m_fail r 1).1)])
    have heL : ((m_fail r 1).1, (m_fail r 1).2) = F := ((if_pos h2)).symm.trans he
    exact m_iret X hr hlk hM d_Md_claim_12 ⟨Nat.le_of_ble_eq_true rfl, Nat.le_of_ble_eq_true rfl⟩ ⟨fun _ _ _ => rfl, fun _ => Nat.le_refl _⟩ ⟨congrArg (fun z => some (Value.int z.1)) heL, congrArg (fun z => rs M z.2) heL, rfl⟩
def m_skip (r : rR) (a0 : Int32) : Int32 × rR := (if (m_isPath a0) = 0 then ((m_fail r 1).1, (m_fail r 1).2) else (if 0 ≤ (m_find r a0) then (if (r 35 ((m_find r a0).toNatClampNeg)) ≤ 0 then (if (r 34 ((m_find r a0).toNatClampNeg)) = 0 then ((m_fail r 3).1, (m_fail r 3).2) else (r 34 ((m_find r a0).toNatClampNeg), (m_activate (ru (ru r 18 34 0) 31 ((r 34 ((m_find r a0).toNatClampNeg)).toNatClampNeg) 1) (m_find r a0)))) else (if (r 35 ((m_find r a0).toNatClampNeg)) = 0 then ((m_fail r 3).1, (m_fail r 3).2) else (r 35 ((m_find r a0).toNatClampNeg), (m_activate (ru (ru r 18 34 0) 31 ((r 35 ((m_find r a0).toNatClampNeg)).toNatClampNeg) 1) (m_find r a0))))) else ((m_fail r 2).1, (m_fail r 2).2)))
def m_skip_ok (r : rR) (a0 : Int32) : Prop := (m_isPath_ok a0) ∧ ((((m_isPath a0) = 0) → (True)) ∧ (¬ ((m_isPath a0) = 0) → ((m_find_ok r a0) ∧ (((0 ≤ (m_find r a0)) → ((ixk (m_find r a0) 6) ∧ ((((r 35 ((m_find r a0).toNatClampNeg)) ≤ 0) → ((((r 34 ((m_find r a0).toNatClampNeg)) = 0) → (True)) ∧ (¬ ((r 34 ((m_find r a0).toNatClampNeg)) = 0) → ((ixk (r 34 ((m_find r a0).toNatClampNeg)) 41) ∧ (m_activate_ok (ru (ru r 18 34 0) 31 ((r 34 ((m_find r a0).toNatClampNeg)).toNatClampNeg) 1) (m_find r a0)))))) ∧ (¬ ((r 35 ((m_find r a0).toNatClampNeg)) ≤ 0) → ((((r 35 ((m_find r a0).toNatClampNeg)) = 0) → (True)) ∧ (¬ ((r 35 ((m_find r a0).toNatClampNeg)) = 0) → ((ixk (r 35 ((m_find r a0).toNatClampNeg)) 41) ∧ (m_activate_ok (ru (ru r 18 34 0) 31 ((r 35 ((m_find r a0).toNatClampNeg)).toNatClampNeg) 1) (m_find r a0))))))))) ∧ (¬ (0 ≤ (m_find r a0)) → (True))))))
set_option maxHeartbeats 4000000 in
set_option maxRecDepth 100000 in
theorem k_Md_skip (l : Launch) (D : va_G) (dA : Nat → ClassId) (base : Nat) (M : mM) (ad : Nat → Nat → Nat) (hR : wR M) (r : rR) (a0 : Int32) (hk : m_skip_ok r a0) : mMet l y_Md_skip b_Md_skip 4 (some FieldType.int) ({ frames := 3, cells := 0, slots := 0, locals := 67 } : Room) 0 0 D dA base (rs M r) ad [.ref (ad 18 0), .int a0] (fun rv M' ad' => rv = some (.int (m_skip r a0).1) ∧ M' = rs M (m_skip r a0).2 ∧ ad' = ad) := by
  refine m_start (lvs := [(0, .ref (ad 18 0)), (1, .int a0)]) (by decide) (Nat.le_of_ble_eq_true rfl) rfl ?_
  intro p e s m below meth c ls X hr hlk hin hml hM hl
  generalize he : m_skip r a0 = F
  refine lv_iload_n X.1 X.2.1 d_Md_skip_0 rfl (lv_at hl 1 rfl) ?_
  obtain ⟨o1, hk⟩ := hk
  refine r_cS (As := [.int a0]) (rest := []) X hml hl.1 hM (k_Md_isPath l D dA base (rs M r) ad a0 o1) c_Md_118 v_Md_isPath rfl (Nat.le_of_ble_eq_true rfl) ⟨rfl, rfl, Nat.le_of_ble_eq_true rfl, Nat.le_of_ble_eq_true rfl⟩ ⟨Nat.le_of_ble_eq_true rfl, Nat.le_of_ble_eq_true rfl⟩ d_Md_skip_1 ?_
  intro rv M1 ad1 H locs hP hM hE
  obtain ⟨e1, e2, e3⟩ := hP
  subst rv; subst M1; subst ad1
  show W _ _ _ _ _ _ _ _ _ _ _ _ _ _ _ (F0 m 4 ls [.int (m_isPath a0)])
  refine lv_if_ne (tgt := 13) X.1 X.2.1 d_Md_skip_4 (by decide) (fun h2 => ?_) (fun h2 => ?_)
  · skip
    have hk := hk.2 h2
    refine lv_aload_n X.1 X.2.1 d_Md_skip_13 rfl (lv_at hl 0 rfl) ?_
    refine lv_iload_n X.1 X.2.1 d_Md_skip_14 rfl (lv_at hl 1 rfl) ?_
    obtain ⟨o3, hk⟩ := hk
    refine r_cV (As := [.int a0]) (rest := []) X hml hl.1 hM (k_Md_find l D dA base M ad hR r a0 o3) c_Md_167 v_Md_find kc_Md rfl hR.1 rfl (Nat.le_of_ble_eq_true rfl) ⟨rfl, rfl, Nat.le_of_ble_eq_true rfl, Nat.le_of_ble_eq_true rfl⟩ ⟨Nat.le_of_ble_eq_true rfl, Nat.le_of_ble_eq_true rfl⟩ d_Md_skip_15 ?_
    intro rv M1 ad1 H locs hP hM hE
    obtain ⟨e1, e2, e3⟩ := hP
    subst rv; subst M1; subst ad1
    show W _ _ _ _ _ _ _ _ _ _ _ _ _ _ _ (F0 m 18 ls [.int (m_find r a0)])
    refine lv_istore_n (lv' := [(2, .int (m_find r a0)), (0, .ref (ad 18 0)), (1, .int a0)]) X.1 X.2.1 d_Md_skip_18 rfl hl (by decide) rfl (fun ls hl => ?_)
    refine lv_iload_n X.1 X.2.1 d_Md_skip_19 rfl (lv_at hl 0 rfl) ?_
    refine lv_if_ge (tgt := 29) X.1 X.2.1 d_Md_skip_20 (by decide) (fun h4 => ?_) (fun h4 => ?_)
    · skip
      have hk := hk.1 h4
      refine lv_aload_n X.1 X.2.1 d_Md_skip_29 rfl (lv_at hl 1 rfl) ?_
      refine r_gets (q := 0) X hM rfl hR.1 f_Md_59 rfl (hR.2 16 (by decide)) d_Md_skip_30 (fun g5 => ?_)
      refine lv_iload_n X.1 X.2.1 d_Md_skip_33 rfl (lv_at hl 0 rfl) ?_
      obtain ⟨o6, hk⟩ := hk
      refine R_iald (k := 35) X hM (by decide) rfl g5 a_m_waiting (fun _ => rfl) o6.1 o6.2 d_Md_skip_34 ?_
      refine lv_if_le (tgt := 47) X.1 X.2.1 d_Md_skip_35 (by decide) (fun h7 => ?_) (fun h7 => ?_)
      · skip
        have hk := hk.1 h7
        refine lv_aload_n X.1 X.2.1 d_Md_skip_47 rfl (lv_at hl 1 rfl) ?_
        refine r_gets (q := 0) X hM rfl hR.1 f_Md_56 rfl (hR.2 15 (by decide)) d_Md_skip_48 (fun g8 => ?_)
        refine lv_iload_n X.1 X.2.1 d_Md_skip_51 rfl (lv_at hl 0 rfl) ?_
        refine R_iald (k := 34) X hM (by decide) rfl g8 a_m_installing (fun _ => rfl) o6.1 o6.2 d_Md_skip_52 ?_
        refine lv_istore_n (lv' := [(3, .int (r 34 ((m_find r a0).toNatClampNeg))), (2, .int (m_find r a0)), (0, .ref (ad 18 0)), (1, .int a0)]) X.1 X.2.1 d_Md_skip_53 rfl hl (by decide) rfl (fun ls hl => ?_)
        refine lv_iload_n X.1 X.2.1 d_Md_skip_54 rfl (lv_at hl 0 rfl) ?_
        refine lv_if_ne (tgt := 64) X.1 X.2.1 d_Md_skip_55 (by decide) (fun h9 => ?_) (fun h9 => ?_)
        · skip
          have hk := hk.2 h9
          refine lv_aload_n X.1 X.2.1 d_Md_skip_64 rfl (lv_at hl 2 rfl) ?_
          refine lv_iconst (v := 0) X.1 X.2.1 d_Md_skip_65 (by decide) ?_
          refine R_puti (k := 18) X hM (by decide) rfl hR.1 p_Md_98 rfl rfl rfl d_Md_skip_66 (fun H locs hM => ?_)
          refine lv_aload_n X.1 X.2.1 d_Md_skip_69 rfl (lv_at hl 2 rfl) ?_
          refine r_gets (q := 0) X hM rfl hR.1 f_Md_46 rfl (hR.2 12 (by decide)) d_Md_skip_70 (fun g10 => ?_)
          refine lv_iload_n X.1 X.2.1 d_Md_skip_73 rfl (lv_at hl 0 rfl) ?_
          refine lv_iconst (v := 1) X.1 X.2.1 d_Md_skip_74 (by decide) ?_
          obtain ⟨o11, hk⟩ := hk
          refine R_zast (k := 31) X hM (by decide) rfl g10 a_m_skips (fun _ => rfl) o11.1 o11.2 rfl d_Md_skip_75 (fun H locs hM => ?_)
          refine lv_aload_n X.1 X.2.1 d_Md_skip_76 rfl (lv_at hl 2 rfl) ?_
          refine lv_iload_n X.1 X.2.1 d_Md_skip_77 rfl (lv_at hl 1 rfl) ?_
          have o12 := hk
          refine r_cV (As := [.int (m_find r a0)]) (rest := []) X hml hl.1 hM (k_Md_activate l D dA base M ad hR (ru (ru r 18 34 0) 31 ((r 34 ((m_find r a0).toNatClampNeg)).toNatClampNeg) 1) (m_find r a0) o12) c_Md_155 v_Md_activate kc_Md rfl hR.1 rfl (Nat.le_of_ble_eq_true rfl) ⟨rfl, rfl, Nat.le_of_ble_eq_true rfl, Nat.le_of_ble_eq_true rfl⟩ ⟨Nat.le_of_ble_eq_true rfl, Nat.le_of_ble_eq_true rfl⟩ d_Md_skip_78 ?_
          intro rv M1 ad1 H locs hP hM hE
          obtain ⟨e1, e2, e3⟩ := hP
          subst rv; subst M1; subst ad1
          show W _ _ _ _ _ _ _ _ _ _ _ _ _ _ _ (F0 m 81 ls [])
          refine lv_iload_n X.1 X.2.1 d_Md_skip_81 rfl (lv_at hl 0 rfl) ?_
          have heL : (r 34 ((m_find r a0).toNatClampNeg), (m_activate (ru (ru r 18 34 0) 31 ((r 34 ((m_find r a0).toNatClampNeg)).toNatClampNeg) 1) (m_find r a0))) = F := ((if_neg h2).trans ((if_pos h4).trans ((if_pos h7).trans ((if_neg h9))))).symm.trans he
          exact m_iret X hr hlk hM d_Md_skip_82 ⟨Nat.le_of_ble_eq_true rfl, Nat.le_of_ble_eq_true rfl⟩ ⟨fun _ _ _ => rfl, fun _ => Nat.le_refl _⟩ ⟨congrArg (fun z => some (Value.int z.1)) heL, congrArg (fun z => rs M z.2) heL, rfl⟩
        · skip
          have hk := hk.1 h9
          refine lv_aload_n X.1 X.2.1 d_Md_skip_58 rfl (lv_at hl 2 rfl) ?_
          refine lv_iconst (v := 3) X.1 X.2.1 d_Md_skip_59 (by decide) ?_
          refine r_cV (As := [.int 3]) (rest := []) X hml hl.1 hM (k_Md_fail l D dA base M ad hR r 3) c_Md_161 v_Md_fail kc_Md rfl hR.1 rfl (Nat.le_of_ble_eq_true rfl) ⟨rfl, rfl, Nat.le_of_ble_eq_true rfl, Nat.le_of_ble_eq_true rfl⟩ ⟨Nat.le_of_ble_eq_true rfl, Nat.le_of_ble_eq_true rfl⟩ d_Md_skip_60 ?_
          intro rv M1 ad1 H locs hP hM hE
          obtain ⟨e1, e2, e3⟩ := hP
          subst rv; subst M1; subst ad1
          show W _ _ _ _ _ _ _ _ _ _ _ _ _ _ _ (F0 m 63 ls [.int ((m_fail r 3).1)])
          have heL : ((m_fail r 3).1, (m_fail r 3).2) = F := ((if_neg h2).trans ((if_pos h4).trans ((if_pos h7).trans ((if_pos h9))))).symm.trans he
          exact m_iret X hr hlk hM d_Md_skip_63 ⟨Nat.le_of_ble_eq_true rfl, Nat.le_of_ble_eq_true rfl⟩ ⟨fun _ _ _ => rfl, fun _ => Nat.le_refl _⟩ ⟨congrArg (fun z => some (Value.int z.1)) heL, congrArg (fun z => rs M z.2) heL, rfl⟩
      · skip
        have hk := hk.2 h7
        refine lv_aload_n X.1 X.2.1 d_Md_skip_38 rfl (lv_at hl 1 rfl) ?_
        refine r_gets (q := 0) X hM rfl hR.1 f_Md_59 rfl (hR.2 16 (by decide)) d_Md_skip_39 (fun g13 => ?_)
        refine lv_iload_n X.1 X.2.1 d_Md_skip_42 rfl (lv_at hl 0 rfl) ?_
        refine R_iald (k := 35) X hM (by decide) rfl g13 a_m_waiting (fun _ => rfl) o6.1 o6.2 d_Md_skip_43 ?_
        refine lv_goto (tgt := 53) X.1 X.2.1 d_Md_skip_44 (by decide) ?_
        refine lv_istore_n (lv' := [(3, .int (r 35 ((m_find r a0).toNatClampNeg))), (2, .int (m_find r a0)), (0, .ref (ad 18 0)), (1, .int a0)]) X.1 X.2.1 d_Md_skip_53 rfl hl (by decide) rfl (fun ls hl => ?_)
        refine lv_iload_n X.1 X.2.1 d_Md_skip_54 rfl (lv_at hl 0 rfl) ?_
        refine lv_if_ne (tgt := 64) X.1 X.2.1 d_Md_skip_55 (by decide) (fun h14 => ?_) (fun h14 => ?_)
        · skip
          have hk := hk.2 h14
          refine lv_aload_n X.1 X.2.1 d_Md_skip_64 rfl (lv_at hl 2 rfl) ?_
          refine lv_iconst (v := 0) X.1 X.2.1 d_Md_skip_65 (by decide) ?_
          refine R_puti (k := 18) X hM (by decide) rfl hR.1 p_Md_98 rfl rfl rfl d_Md_skip_66 (fun H locs hM => ?_)
          refine lv_aload_n X.1 X.2.1 d_Md_skip_69 rfl (lv_at hl 2 rfl) ?_
          refine r_gets (q := 0) X hM rfl hR.1 f_Md_46 rfl (hR.2 12 (by decide)) d_Md_skip_70 (fun g15 => ?_)
          refine lv_iload_n X.1 X.2.1 d_Md_skip_73 rfl (lv_at hl 0 rfl) ?_
          refine lv_iconst (v := 1) X.1 X.2.1 d_Md_skip_74 (by decide) ?_
          obtain ⟨o16, hk⟩ := hk
          refine R_zast (k := 31) X hM (by decide) rfl g15 a_m_skips (fun _ => rfl) o16.1 o16.2 rfl d_Md_skip_75 (fun H locs hM => ?_)
          refine lv_aload_n X.1 X.2.1 d_Md_skip_76 rfl (lv_at hl 2 rfl) ?_
          refine lv_iload_n X.1 X.2.1 d_Md_skip_77 rfl (lv_at hl 1 rfl) ?_
          have o17 := hk
          refine r_cV (As := [.int (m_find r a0)]) (rest := []) X hml hl.1 hM (k_Md_activate l D dA base M ad hR (ru (ru r 18 34 0) 31 ((r 35 ((m_find r a0).toNatClampNeg)).toNatClampNeg) 1) (m_find r a0) o17) c_Md_155 v_Md_activate kc_Md rfl hR.1 rfl (Nat.le_of_ble_eq_true rfl) ⟨rfl, rfl, Nat.le_of_ble_eq_true rfl, Nat.le_of_ble_eq_true rfl⟩ ⟨Nat.le_of_ble_eq_true rfl, Nat.le_of_ble_eq_true rfl⟩ d_Md_skip_78 ?_
          intro rv M1 ad1 H locs hP hM hE
          obtain ⟨e1, e2, e3⟩ := hP
          subst rv; subst M1; subst ad1
          show W _ _ _ _ _ _ _ _ _ _ _ _ _ _ _ (F0 m 81 ls [])
          refine lv_iload_n X.1 X.2.1 d_Md_skip_81 rfl (lv_at hl 0 rfl) ?_
          have heL : (r 35 ((m_find r a0).toNatClampNeg), (m_activate (ru (ru r 18 34 0) 31 ((r 35 ((m_find r a0).toNatClampNeg)).toNatClampNeg) 1) (m_find r a0))) = F := ((if_neg h2).trans ((if_pos h4).trans ((if_neg h7).trans ((if_neg h14))))).symm.trans he
          exact m_iret X hr hlk hM d_Md_skip_82 ⟨Nat.le_of_ble_eq_true rfl, Nat.le_of_ble_eq_true rfl⟩ ⟨fun _ _ _ => rfl, fun _ => Nat.le_refl _⟩ ⟨congrArg (fun z => some (Value.int z.1)) heL, congrArg (fun z => rs M z.2) heL, rfl⟩
        · skip
          have hk := hk.1 h14
          refine lv_aload_n X.1 X.2.1 d_Md_skip_58 rfl (lv_at hl 2 rfl) ?_
          refine lv_iconst (v := 3) X.1 X.2.1 d_Md_skip_59 (by decide) ?_
          refine r_cV (As := [.int 3]) (rest := []) X hml hl.1 hM (k_Md_fail l D dA base M ad hR r 3) c_Md_161 v_Md_fail kc_Md rfl hR.1 rfl (Nat.le_of_ble_eq_true rfl) ⟨rfl, rfl, Nat.le_of_ble_eq_true rfl, Nat.le_of_ble_eq_true rfl⟩ ⟨Nat.le_of_ble_eq_true rfl, Nat.le_of_ble_eq_true rfl⟩ d_Md_skip_60 ?_
          intro rv M1 ad1 H locs hP hM hE
          obtain ⟨e1, e2, e3⟩ := hP
          subst rv; subst M1; subst ad1
          show W _ _ _ _ _ _ _ _ _ _ _ _ _ _ _ (F0 m 63 ls [.int ((m_fail r 3).1)])
          have heL : ((m_fail r 3).1, (m_fail r 3).2) = F := ((if_neg h2).trans ((if_pos h4).trans ((if_neg h7).trans ((if_pos h14))))).symm.trans he
          exact m_iret X hr hlk hM d_Md_skip_63 ⟨Nat.le_of_ble_eq_true rfl, Nat.le_of_ble_eq_true rfl⟩ ⟨fun _ _ _ => rfl, fun _ => Nat.le_refl _⟩ ⟨congrArg (fun z => some (Value.int z.1)) heL, congrArg (fun z => rs M z.2) heL, rfl⟩
    · skip
      have hk := hk.2 h4
      refine lv_aload_n X.1 X.2.1 d_Md_skip_23 rfl (lv_at hl 1 rfl) ?_
      refine lv_iconst (v := 2) X.1 X.2.1 d_Md_skip_24 (by decide) ?_
      refine r_cV (As := [.int 2]) (rest := []) X hml hl.1 hM (k_Md_fail l D dA base M ad hR r 2) c_Md_161 v_Md_fail kc_Md rfl hR.1 rfl (Nat.le_of_ble_eq_true rfl) ⟨rfl, rfl, Nat.le_of_ble_eq_true rfl, Nat.le_of_ble_eq_true rfl⟩ ⟨Nat.le_of_ble_eq_true rfl, Nat.le_of_ble_eq_true rfl⟩ d_Md_skip_25 ?_
      intro rv M1 ad1 H locs hP hM hE
      obtain ⟨e1, e2, e3⟩ := hP
      subst rv; subst M1; subst ad1
      show W _ _ _ _ _ _ _ _ _ _ _ _ _ _ _ (F0 m 28 ls [.int ((m_fail r 2).1)])
      have heL : ((m_fail r 2).1, (m_fail r 2).2) = F := ((if_neg h2).trans ((if_neg h4))).symm.trans he
      exact m_iret X hr hlk hM d_Md_skip_28 ⟨Nat.le_of_ble_eq_true rfl, Nat.le_of_ble_eq_true rfl⟩ ⟨fun _ _ _ => rfl, fun _ => Nat.le_refl _⟩ ⟨congrArg (fun z => some (Value.int z.1)) heL, congrArg (fun z => rs M z.2) heL, rfl⟩
  · skip
    have hk := hk.1 h2
    refine lv_aload_n X.1 X.2.1 d_Md_skip_7 rfl (lv_at hl 0 rfl) ?_
    refine lv_iconst (v := 1) X.1 X.2.1 d_Md_skip_8 (by decide) ?_
    refine r_cV (As := [.int 1]) (rest := []) X hml hl.1 hM (k_Md_fail l D dA base M ad hR r 1) c_Md_161 v_Md_fail kc_Md rfl hR.1 rfl (Nat.le_of_ble_eq_true rfl) ⟨rfl, rfl, Nat.le_of_ble_eq_true rfl, Nat.le_of_ble_eq_true rfl⟩ ⟨Nat.le_of_ble_eq_true rfl, Nat.le_of_ble_eq_true rfl⟩ d_Md_skip_9 ?_
    intro rv M1 ad1 H locs hP hM hE
    obtain ⟨e1, e2, e3⟩ := hP
    subst rv; subst M1; subst ad1
    show W _ _ _ _ _ _ _ _ _ _ _ _ _ _ _ (F0 m 12 ls [.int ((m_fail r 1).1)])
    have heL : ((m_fail r 1).1, (m_fail r 1).2) = F := ((if_pos h2)).symm.trans he
    exact m_iret X hr hlk hM d_Md_skip_12 ⟨Nat.le_of_ble_eq_true rfl, Nat.le_of_ble_eq_true rfl⟩ ⟨fun _ _ _ => rfl, fun _ => Nat.le_refl _⟩ ⟨congrArg (fun z => some (Value.int z.1)) heL, congrArg (fun z => rs M z.2) heL, rfl⟩
