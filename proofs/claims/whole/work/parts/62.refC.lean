def m_activate_L73 : Nat → rR → Int32 → Int32 → Int32 → Int32 → rR
  | 0, r, _, _, _, _ => r
  | n + 1, r, v1, v2, v3, v4 => (if 8 ≤ v4 then r else (if v3 ≤ 0 then r else (if (r 38 (v4.toNatClampNeg)) = 0 then m_activate_L73 n r v1 v2 v3 (v4 + 1) else (if (r 41 (v4.toNatClampNeg)) = v3 then m_activate_L73 n (m_control r v4 v2) v1 v2 v3 (v4 + 1) else m_activate_L73 n r v1 v2 v3 (v4 + 1)))))
def m_activate_L73_ok : Nat → rR → Int32 → Int32 → Int32 → Int32 → Prop
  | 0, _, _, _, _, _ => False
  | n + 1, r, v1, v2, v3, v4 => ((8 ≤ v4) → (True)) ∧ (¬ (8 ≤ v4) → (((v3 ≤ 0) → (True)) ∧ (¬ (v3 ≤ 0) → ((ixk v4 8) ∧ ((((r 38 (v4.toNatClampNeg)) = 0) → (m_activate_L73_ok n r v1 v2 v3 (v4 + 1))) ∧ (¬ ((r 38 (v4.toNatClampNeg)) = 0) → ((((r 41 (v4.toNatClampNeg)) = v3) → ((m_control_ok r v4 v2) ∧ (m_activate_L73_ok n (m_control r v4 v2) v1 v2 v3 (v4 + 1)))) ∧ (¬ ((r 41 (v4.toNatClampNeg)) = v3) → (m_activate_L73_ok n r v1 v2 v3 (v4 + 1))))))))))
def m_activate (r : rR) (a0 : Int32) : rR := (if (r 35 (a0.toNatClampNeg)) = 0 then r else (if (r 36 (a0.toNatClampNeg)) ≤ 0 then m_activate_L73 9 (m_come (ru (ru r 35 (a0.toNatClampNeg) 0) 36 (a0.toNatClampNeg) (r 35 (a0.toNatClampNeg))) (r 35 (a0.toNatClampNeg)) 3) a0 (r 35 (a0.toNatClampNeg)) (r 36 (a0.toNatClampNeg)) 0 else (if (r 31 ((r 35 (a0.toNatClampNeg)).toNatClampNeg)) = 0 then (if (m_isControlling r (r 36 (a0.toNatClampNeg))) = 0 then m_activate_L73 9 (m_come (ru (ru (m_come r (r 36 (a0.toNatClampNeg)) 4) 35 (a0.toNatClampNeg) 0) 36 (a0.toNatClampNeg) (r 35 (a0.toNatClampNeg))) (r 35 (a0.toNatClampNeg)) 3) a0 (r 35 (a0.toNatClampNeg)) (r 36 (a0.toNatClampNeg)) 0 else r) else m_activate_L73 9 (m_come (ru (ru (m_come r (r 36 (a0.toNatClampNeg)) 4) 35 (a0.toNatClampNeg) 0) 36 (a0.toNatClampNeg) (r 35 (a0.toNatClampNeg))) (r 35 (a0.toNatClampNeg)) 3) a0 (r 35 (a0.toNatClampNeg)) (r 36 (a0.toNatClampNeg)) 0)))
def m_activate_ok (r : rR) (a0 : Int32) : Prop := (ixk a0 6) ∧ ((((r 35 (a0.toNatClampNeg)) = 0) → (True)) ∧ (¬ ((r 35 (a0.toNatClampNeg)) = 0) → ((((r 36 (a0.toNatClampNeg)) ≤ 0) → ((m_come_ok (ru (ru r 35 (a0.toNatClampNeg) 0) 36 (a0.toNatClampNeg) (r 35 (a0.toNatClampNeg))) (r 35 (a0.toNatClampNeg)) 3) ∧ (m_activate_L73_ok 9 (m_come (ru (ru r 35 (a0.toNatClampNeg) 0) 36 (a0.toNatClampNeg) (r 35 (a0.toNatClampNeg))) (r 35 (a0.toNatClampNeg)) 3) a0 (r 35 (a0.toNatClampNeg)) (r 36 (a0.toNatClampNeg)) 0))) ∧ (¬ ((r 36 (a0.toNatClampNeg)) ≤ 0) → ((ixk (r 35 (a0.toNatClampNeg)) 41) ∧ ((((r 31 ((r 35 (a0.toNatClampNeg)).toNatClampNeg)) = 0) → ((m_isControlling_ok r (r 36 (a0.toNatClampNeg))) ∧ ((((m_isControlling r (r 36 (a0.toNatClampNeg))) = 0) → ((m_come_ok r (r 36 (a0.toNatClampNeg)) 4) ∧ ((m_come_ok (ru (ru (m_come r (r 36 (a0.toNatClampNeg)) 4) 35 (a0.toNatClampNeg) 0) 36 (a0.toNatClampNeg) (r 35 (a0.toNatClampNeg))) (r 35 (a0.toNatClampNeg)) 3) ∧ (m_activate_L73_ok 9 (m_come (ru (ru (m_come r (r 36 (a0.toNatClampNeg)) 4) 35 (a0.toNatClampNeg) 0) 36 (a0.toNatClampNeg) (r 35 (a0.toNatClampNeg))) (r 35 (a0.toNatClampNeg)) 3) a0 (r 35 (a0.toNatClampNeg)) (r 36 (a0.toNatClampNeg)) 0)))) ∧ (¬ ((m_isControlling r (r 36 (a0.toNatClampNeg))) = 0) → (True))))) ∧ (¬ ((r 31 ((r 35 (a0.toNatClampNeg)).toNatClampNeg)) = 0) → ((m_come_ok r (r 36 (a0.toNatClampNeg)) 4) ∧ ((m_come_ok (ru (ru (m_come r (r 36 (a0.toNatClampNeg)) 4) 35 (a0.toNatClampNeg) 0) 36 (a0.toNatClampNeg) (r 35 (a0.toNatClampNeg))) (r 35 (a0.toNatClampNeg)) 3) ∧ (m_activate_L73_ok 9 (m_come (ru (ru (m_come r (r 36 (a0.toNatClampNeg)) 4) 35 (a0.toNatClampNeg) 0) 36 (a0.toNatClampNeg) (r 35 (a0.toNatClampNeg))) (r 35 (a0.toNatClampNeg)) 3) a0 (r 35 (a0.toNatClampNeg)) (r 36 (a0.toNatClampNeg)) 0))))))))))
set_option maxHeartbeats 4000000 in
set_option maxRecDepth 100000 in
theorem k_Md_activate (l : Launch) (D : va_G) (dA : Nat → ClassId) (base : Nat) (M : mM) (ad : Nat → Nat → Nat) (hR : wR M) (r : rR) (a0 : Int32) (hk : m_activate_ok r a0) : mMet l y_Md_activate b_Md_activate 5 none ({ frames := 2, cells := 0, slots := 0, locals := 43 } : Room) 0 0 D dA base (rs M r) ad [.ref (ad 18 0), .int a0] (fun rv M' ad' => rv = none ∧ M' = rs M (m_activate r a0) ∧ ad' = ad) := by
  refine m_start (lvs := [(0, .ref (ad 18 0)), (1, .int a0)]) (by decide) (Nat.le_of_ble_eq_true rfl) rfl ?_
  intro p e s m below meth c ls X hr hlk hin hml hM hl
  generalize he : m_activate r a0 = F
  refine lv_aload_n X.1 X.2.1 d_Md_activate_0 rfl (lv_at hl 0 rfl) ?_
  refine r_gets (q := 0) X hM rfl hR.1 f_Md_59 rfl (hR.2 16 (by decide)) d_Md_activate_1 (fun g1 => ?_)
  refine lv_iload_n X.1 X.2.1 d_Md_activate_4 rfl (lv_at hl 1 rfl) ?_
  obtain ⟨o2, hk⟩ := hk
  refine R_iald (k := 35) X hM (by decide) rfl g1 a_m_waiting (fun _ => rfl) o2.1 o2.2 d_Md_activate_5 ?_
  refine lv_istore_n (lv' := [(2, .int (r 35 (a0.toNatClampNeg))), (0, .ref (ad 18 0)), (1, .int a0)]) X.1 X.2.1 d_Md_activate_6 rfl hl (by decide) rfl (fun ls hl => ?_)
  refine lv_aload_n X.1 X.2.1 d_Md_activate_7 rfl (lv_at hl 1 rfl) ?_
  refine r_gets (q := 0) X hM rfl hR.1 f_Md_62 rfl (hR.2 17 (by decide)) d_Md_activate_8 (fun g3 => ?_)
  refine lv_iload_n X.1 X.2.1 d_Md_activate_11 rfl (lv_at hl 2 rfl) ?_
  refine R_iald (k := 36) X hM (by decide) rfl g3 a_m_active (fun _ => rfl) o2.1 o2.2 d_Md_activate_12 ?_
  refine lv_istore_n (lv' := [(3, .int (r 36 (a0.toNatClampNeg))), (2, .int (r 35 (a0.toNatClampNeg))), (0, .ref (ad 18 0)), (1, .int a0)]) X.1 X.2.1 d_Md_activate_13 rfl hl (by decide) rfl (fun ls hl => ?_)
  refine lv_iload_n X.1 X.2.1 d_Md_activate_14 rfl (lv_at hl 1 rfl) ?_
  refine lv_if_eq (tgt := 39) X.1 X.2.1 d_Md_activate_15 (by decide) (fun h4 => ?_) (fun h4 => ?_)
  · skip
    have hk := hk.1 h4
    have heL : r = F := ((if_pos h4)).symm.trans he
    exact m_vret X hr hlk hM d_Md_activate_39 ⟨Nat.le_of_ble_eq_true rfl, Nat.le_of_ble_eq_true rfl⟩ ⟨fun _ _ _ => rfl, fun _ => Nat.le_refl _⟩ ⟨rfl, congrArg (rs M) heL, rfl⟩
  · skip
    have hk := hk.2 h4
    refine lv_iload_n X.1 X.2.1 d_Md_activate_18 rfl (lv_at hl 0 rfl) ?_
    refine lv_if_le (tgt := 40) X.1 X.2.1 d_Md_activate_19 (by decide) (fun h5 => ?_) (fun h5 => ?_)
    · skip
      have hk := hk.1 h5
      refine lv_iload_n X.1 X.2.1 d_Md_activate_40 rfl (lv_at hl 0 rfl) ?_
      refine lv_if_le (tgt := 50) X.1 X.2.1 d_Md_activate_41 (by decide) (fun h6 => ?_) (fun h6 => absurd h5 h6)
      refine lv_aload_n X.1 X.2.1 d_Md_activate_50 rfl (lv_at hl 2 rfl) ?_
      refine r_gets (q := 0) X hM rfl hR.1 f_Md_59 rfl (hR.2 16 (by decide)) d_Md_activate_51 (fun g7 => ?_)
      refine lv_iload_n X.1 X.2.1 d_Md_activate_54 rfl (lv_at hl 3 rfl) ?_
      refine lv_iconst (v := 0) X.1 X.2.1 d_Md_activate_55 (by decide) ?_
      refine R_iast (k := 35) X hM (by decide) rfl g7 a_m_waiting (fun _ => rfl) o2.1 o2.2 d_Md_activate_56 (fun H locs hM => ?_)
      refine lv_aload_n X.1 X.2.1 d_Md_activate_57 rfl (lv_at hl 2 rfl) ?_
      refine r_gets (q := 0) X hM rfl hR.1 f_Md_62 rfl (hR.2 17 (by decide)) d_Md_activate_58 (fun g8 => ?_)
      refine lv_iload_n X.1 X.2.1 d_Md_activate_61 rfl (lv_at hl 3 rfl) ?_
      refine lv_iload_n X.1 X.2.1 d_Md_activate_62 rfl (lv_at hl 1 rfl) ?_
      refine R_iast (k := 36) X hM (by decide) rfl g8 a_m_active (fun _ => rfl) o2.1 o2.2 d_Md_activate_63 (fun H locs hM => ?_)
      refine lv_aload_n X.1 X.2.1 d_Md_activate_64 rfl (lv_at hl 2 rfl) ?_
      refine lv_iload_n X.1 X.2.1 d_Md_activate_65 rfl (lv_at hl 1 rfl) ?_
      refine lv_iconst (v := 3) X.1 X.2.1 d_Md_activate_66 (by decide) ?_
      obtain ⟨o9, hk⟩ := hk
      refine r_cV (As := [.int (r 35 (a0.toNatClampNeg)), .int 3]) (rest := []) X hml hl.1 hM (k_Md_come l D dA base M ad hR (ru (ru r 35 (a0.toNatClampNeg) 0) 36 (a0.toNatClampNeg) (r 35 (a0.toNatClampNeg))) (r 35 (a0.toNatClampNeg)) 3 o9) c_Md_139 v_Md_come kc_Md rfl hR.1 rfl (Nat.le_of_ble_eq_true rfl) ⟨rfl, rfl, Nat.le_of_ble_eq_true rfl, Nat.le_of_ble_eq_true rfl⟩ ⟨Nat.le_of_ble_eq_true rfl, Nat.le_of_ble_eq_true rfl⟩ d_Md_activate_67 ?_
      intro rv M1 ad1 H locs hP hM hE
      obtain ⟨e1, e2, e3⟩ := hP
      subst rv; subst M1; subst ad1
      show W _ _ _ _ _ _ _ _ _ _ _ _ _ _ _ (F0 m 70 ls [])
      refine lv_iconst (v := 0) X.1 X.2.1 d_Md_activate_70 (by decide) ?_
      refine lv_istore (lv' := [(4, .int 0), (3, .int (r 36 (a0.toNatClampNeg))), (2, .int (r 35 (a0.toNatClampNeg))), (0, .ref (ad 18 0)), (1, .int a0)]) X.1 X.2.1 d_Md_activate_71 hl (by decide) rfl (fun ls hl => ?_)
      refine w_downW (fun ls => F0 m 73 ls []) (fun n H L ls => ∃ (r : rR) (v1 : Int32) (v2 : Int32) (v3 : Int32) (v4 : Int32), mSt D dA base (rs M r) ad s.heap H L ∧ lv_has ls 5 [(1, .int v1), (2, .int v2), (3, .int v3), (4, .int v4), (0, .ref (ad 18 0))] ∧ m_activate_L73_ok n r v1 v2 v3 v4 ∧ m_activate_L73 n r v1 v2 v3 v4 = F) ?_ ?_ 9 _ _ ls ⟨(m_come (ru (ru r 35 (a0.toNatClampNeg) 0) 36 (a0.toNatClampNeg) (r 35 (a0.toNatClampNeg))) (r 35 (a0.toNatClampNeg)) 3), a0, (r 35 (a0.toNatClampNeg)), (r 36 (a0.toNatClampNeg)), 0, hM, lv_sub hl [4, 2, 1, 0, 3] rfl, hk, ((if_neg h4).trans ((if_pos h5))).symm.trans he⟩
      · rintro H locs ls ⟨r, v1, v2, v3, v4, hM, hl, hk, he⟩
        exact hk.elim
      · rintro n ih H locs ls ⟨r, v1, v2, v3, v4, hM, hl, hk, he⟩
        refine lv_iload X.1 X.2.1 d_Md_activate_73 (lv_at hl 3 rfl) ?_
        refine lv_bipush (v := 8) X.1 X.2.1 d_Md_activate_75 (by decide) ?_
        refine lv_icmp_ge (tgt := 118) X.1 X.2.1 d_Md_activate_77 (by decide) (fun h10 => ?_) (fun h10 => ?_)
        · skip
          have hk := hk.1 h10
          have heL : r = F := ((if_pos h10)).symm.trans he
          exact m_vret X hr hlk hM d_Md_activate_118 ⟨Nat.le_of_ble_eq_true rfl, Nat.le_of_ble_eq_true rfl⟩ ⟨fun _ _ _ => rfl, fun _ => Nat.le_refl _⟩ ⟨rfl, congrArg (rs M) heL, rfl⟩
        · skip
          have hk := hk.2 h10
          refine lv_iload_n X.1 X.2.1 d_Md_activate_80 rfl (lv_at hl 2 rfl) ?_
          refine lv_if_le (tgt := 118) X.1 X.2.1 d_Md_activate_81 (by decide) (fun h11 => ?_) (fun h11 => ?_)
          · skip
            have hk := hk.1 h11
            have heL : r = F := ((if_neg h10).trans ((if_pos h11))).symm.trans he
            exact m_vret X hr hlk hM d_Md_activate_118 ⟨Nat.le_of_ble_eq_true rfl, Nat.le_of_ble_eq_true rfl⟩ ⟨fun _ _ _ => rfl, fun _ => Nat.le_refl _⟩ ⟨rfl, congrArg (rs M) heL, rfl⟩
          · skip
            have hk := hk.2 h11
            refine lv_aload_n X.1 X.2.1 d_Md_activate_84 rfl (lv_at hl 4 rfl) ?_
            refine r_gets (q := 0) X hM rfl hR.1 f_Md_68 rfl (hR.2 19 (by decide)) d_Md_activate_85 (fun g12 => ?_)
            refine lv_iload X.1 X.2.1 d_Md_activate_88 (lv_at hl 3 rfl) ?_
            obtain ⟨o13, hk⟩ := hk
            refine R_zald (k := 38) X hM (by decide) rfl g12 a_m_there (fun _ => rfl) o13.1 o13.2 d_Md_activate_90 ?_
            refine lv_if_eq (tgt := 112) X.1 X.2.1 d_Md_activate_91 (by decide) (fun h14 => ?_) (fun h14 => ?_)
            · skip
              have hk := hk.1 h14
              refine lv_iinc (v := v4 + 1) (lv' := [(4, .int (v4 + 1)), (1, .int v1), (2, .int v2), (3, .int v3), (0, .ref (ad 18 0))]) X.1 X.2.1 d_Md_activate_112 hl (k := 3) rfl rfl (by decide) rfl (fun ls hl => ?_)
              refine lv_goto (tgt := 73) X.1 X.2.1 d_Md_activate_115 (by decide) ?_
              exact ih _ _ ls ⟨_, _, _, _, _, hM, lv_sub hl [1, 2, 3, 0, 4] rfl, hk, ((if_neg h10).trans ((if_neg h11).trans ((if_pos h14)))).symm.trans he⟩
            · skip
              have hk := hk.2 h14
              refine lv_aload_n X.1 X.2.1 d_Md_activate_94 rfl (lv_at hl 4 rfl) ?_
              refine r_gets (q := 0) X hM rfl hR.1 f_Md_77 rfl (hR.2 22 (by decide)) d_Md_activate_95 (fun g15 => ?_)
              refine lv_iload X.1 X.2.1 d_Md_activate_98 (lv_at hl 3 rfl) ?_
              refine R_iald (k := 41) X hM (by decide) rfl g15 a_m_by (fun _ => rfl) o13.1 o13.2 d_Md_activate_100 ?_
              refine lv_iload_n X.1 X.2.1 d_Md_activate_101 rfl (lv_at hl 2 rfl) ?_
              refine lv_icmp_ne (tgt := 112) X.1 X.2.1 d_Md_activate_102 (by decide) (fun h16 => ?_) (fun h16 => ?_)
              · skip
                have hk := hk.2 h16
                refine lv_iinc (v := v4 + 1) (lv' := [(4, .int (v4 + 1)), (1, .int v1), (2, .int v2), (3, .int v3), (0, .ref (ad 18 0))]) X.1 X.2.1 d_Md_activate_112 hl (k := 3) rfl rfl (by decide) rfl (fun ls hl => ?_)
                refine lv_goto (tgt := 73) X.1 X.2.1 d_Md_activate_115 (by decide) ?_
                exact ih _ _ ls ⟨_, _, _, _, _, hM, lv_sub hl [1, 2, 3, 0, 4] rfl, hk, ((if_neg h10).trans ((if_neg h11).trans ((if_neg h14).trans ((if_neg h16))))).symm.trans he⟩
              · skip
                have hk := hk.1 h16
                refine lv_aload_n X.1 X.2.1 d_Md_activate_105 rfl (lv_at hl 4 rfl) ?_
                refine lv_iload X.1 X.2.1 d_Md_activate_106 (lv_at hl 3 rfl) ?_
                refine lv_iload_n X.1 X.2.1 d_Md_activate_108 rfl (lv_at hl 1 rfl) ?_
                obtain ⟨o17, hk⟩ := hk
                refine r_cV (As := [.int v4, .int v2]) (rest := []) X hml hl.1 hM (k_Md_control l D dA base M ad hR r v4 v2 o17) c_Md_143 v_Md_control kc_Md rfl hR.1 rfl (Nat.le_of_ble_eq_true rfl) ⟨rfl, rfl, Nat.le_of_ble_eq_true rfl, Nat.le_of_ble_eq_true rfl⟩ ⟨Nat.le_of_ble_eq_true rfl, Nat.le_of_ble_eq_true rfl⟩ d_Md_activate_109 ?_
                intro rv M1 ad1 H locs hP hM hE
                obtain ⟨e1, e2, e3⟩ := hP
                subst rv; subst M1; subst ad1
                show W _ _ _ _ _ _ _ _ _ _ _ _ _ _ _ (F0 m 112 ls [])
                refine lv_iinc (v := v4 + 1) (lv' := [(4, .int (v4 + 1)), (1, .int v1), (2, .int v2), (3, .int v3), (0, .ref (ad 18 0))]) X.1 X.2.1 d_Md_activate_112 hl (k := 3) rfl rfl (by decide) rfl (fun ls hl => ?_)
                refine lv_goto (tgt := 73) X.1 X.2.1 d_Md_activate_115 (by decide) ?_
                exact ih _ _ ls ⟨_, _, _, _, _, hM, lv_sub hl [1, 2, 3, 0, 4] rfl, hk, ((if_neg h10).trans ((if_neg h11).trans ((if_neg h14).trans ((if_pos h16))))).symm.trans he⟩
    · skip
      have hk := hk.2 h5
      refine lv_aload_n X.1 X.2.1 d_Md_activate_22 rfl (lv_at hl 2 rfl) ?_
      refine r_gets (q := 0) X hM rfl hR.1 f_Md_46 rfl (hR.2 12 (by decide)) d_Md_activate_23 (fun g18 => ?_)
      refine lv_iload_n X.1 X.2.1 d_Md_activate_26 rfl (lv_at hl 1 rfl) ?_
      obtain ⟨o19, hk⟩ := hk
      refine R_zald (k := 31) X hM (by decide) rfl g18 a_m_skips (fun _ => rfl) o19.1 o19.2 d_Md_activate_27 ?_
      refine lv_if_ne (tgt := 40) X.1 X.2.1 d_Md_activate_28 (by decide) (fun h20 => ?_) (fun h20 => ?_)
      · skip
        have hk := hk.2 h20
        refine lv_iload_n X.1 X.2.1 d_Md_activate_40 rfl (lv_at hl 0 rfl) ?_
        refine lv_if_le (tgt := 50) X.1 X.2.1 d_Md_activate_41 (by decide) (fun h21 => absurd h21 h5) (fun h21 => ?_)
        refine lv_aload_n X.1 X.2.1 d_Md_activate_44 rfl (lv_at hl 2 rfl) ?_
        refine lv_iload_n X.1 X.2.1 d_Md_activate_45 rfl (lv_at hl 0 rfl) ?_
        refine lv_iconst (v := 4) X.1 X.2.1 d_Md_activate_46 (by decide) ?_
        obtain ⟨o22, hk⟩ := hk
        refine r_cV (As := [.int (r 36 (a0.toNatClampNeg)), .int 4]) (rest := []) X hml hl.1 hM (k_Md_come l D dA base M ad hR r (r 36 (a0.toNatClampNeg)) 4 o22) c_Md_139 v_Md_come kc_Md rfl hR.1 rfl (Nat.le_of_ble_eq_true rfl) ⟨rfl, rfl, Nat.le_of_ble_eq_true rfl, Nat.le_of_ble_eq_true rfl⟩ ⟨Nat.le_of_ble_eq_true rfl, Nat.le_of_ble_eq_true rfl⟩ d_Md_activate_47 ?_
        intro rv M1 ad1 H locs hP hM hE
        obtain ⟨e1, e2, e3⟩ := hP
        subst rv; subst M1; subst ad1
        show W _ _ _ _ _ _ _ _ _ _ _ _ _ _ _ (F0 m 50 ls [])
        refine lv_aload_n X.1 X.2.1 d_Md_activate_50 rfl (lv_at hl 2 rfl) ?_
        refine r_gets (q := 0) X hM rfl hR.1 f_Md_59 rfl (hR.2 16 (by decide)) d_Md_activate_51 (fun g23 => ?_)
        refine lv_iload_n X.1 X.2.1 d_Md_activate_54 rfl (lv_at hl 3 rfl) ?_
        refine lv_iconst (v := 0) X.1 X.2.1 d_Md_activate_55 (by decide) ?_
        refine R_iast (k := 35) X hM (by decide) rfl g23 a_m_waiting (fun _ => rfl) o2.1 o2.2 d_Md_activate_56 (fun H locs hM => ?_)
        refine lv_aload_n X.1 X.2.1 d_Md_activate_57 rfl (lv_at hl 2 rfl) ?_
        refine r_gets (q := 0) X hM rfl hR.1 f_Md_62 rfl (hR.2 17 (by decide)) d_Md_activate_58 (fun g24 => ?_)
        refine lv_iload_n X.1 X.2.1 d_Md_activate_61 rfl (lv_at hl 3 rfl) ?_
        refine lv_iload_n X.1 X.2.1 d_Md_activate_62 rfl (lv_at hl 1 rfl) ?_
        refine R_iast (k := 36) X hM (by decide) rfl g24 a_m_active (fun _ => rfl) o2.1 o2.2 d_Md_activate_63 (fun H locs hM => ?_)
        refine lv_aload_n X.1 X.2.1 d_Md_activate_64 rfl (lv_at hl 2 rfl) ?_
        refine lv_iload_n X.1 X.2.1 d_Md_activate_65 rfl (lv_at hl 1 rfl) ?_
        refine lv_iconst (v := 3) X.1 X.2.1 d_Md_activate_66 (by decide) ?_
        obtain ⟨o25, hk⟩ := hk
        refine r_cV (As := [.int (r 35 (a0.toNatClampNeg)), .int 3]) (rest := []) X hml hl.1 hM (k_Md_come l D dA base M ad hR (ru (ru (m_come r (r 36 (a0.toNatClampNeg)) 4) 35 (a0.toNatClampNeg) 0) 36 (a0.toNatClampNeg) (r 35 (a0.toNatClampNeg))) (r 35 (a0.toNatClampNeg)) 3 o25) c_Md_139 v_Md_come kc_Md rfl hR.1 rfl (Nat.le_of_ble_eq_true rfl) ⟨rfl, rfl, Nat.le_of_ble_eq_true rfl, Nat.le_of_ble_eq_true rfl⟩ ⟨Nat.le_of_ble_eq_true rfl, Nat.le_of_ble_eq_true rfl⟩ d_Md_activate_67 ?_
        intro rv M1 ad1 H locs hP hM hE
        obtain ⟨e1, e2, e3⟩ := hP
        subst rv; subst M1; subst ad1
        show W _ _ _ _ _ _ _ _ _ _ _ _ _ _ _ (F0 m 70 ls [])
        refine lv_iconst (v := 0) X.1 X.2.1 d_Md_activate_70 (by decide) ?_
        refine lv_istore (lv' := [(4, .int 0), (3, .int (r 36 (a0.toNatClampNeg))), (2, .int (r 35 (a0.toNatClampNeg))), (0, .ref (ad 18 0)), (1, .int a0)]) X.1 X.2.1 d_Md_activate_71 hl (by decide) rfl (fun ls hl => ?_)
        refine w_downW (fun ls => F0 m 73 ls []) (fun n H L ls => ∃ (r : rR) (v1 : Int32) (v2 : Int32) (v3 : Int32) (v4 : Int32), mSt D dA base (rs M r) ad s.heap H L ∧ lv_has ls 5 [(1, .int v1), (2, .int v2), (3, .int v3), (4, .int v4), (0, .ref (ad 18 0))] ∧ m_activate_L73_ok n r v1 v2 v3 v4 ∧ m_activate_L73 n r v1 v2 v3 v4 = F) ?_ ?_ 9 _ _ ls ⟨(m_come (ru (ru (m_come r (r 36 (a0.toNatClampNeg)) 4) 35 (a0.toNatClampNeg) 0) 36 (a0.toNatClampNeg) (r 35 (a0.toNatClampNeg))) (r 35 (a0.toNatClampNeg)) 3), a0, (r 35 (a0.toNatClampNeg)), (r 36 (a0.toNatClampNeg)), 0, hM, lv_sub hl [4, 2, 1, 0, 3] rfl, hk, ((if_neg h4).trans ((if_neg h5).trans ((if_neg h20)))).symm.trans he⟩
        · rintro H locs ls ⟨r, v1, v2, v3, v4, hM, hl, hk, he⟩
          exact hk.elim
        · rintro n ih H locs ls ⟨r, v1, v2, v3, v4, hM, hl, hk, he⟩
          refine lv_iload X.1 X.2.1 d_Md_activate_73 (lv_at hl 3 rfl) ?_
          refine lv_bipush (v := 8) X.1 X.2.1 d_Md_activate_75 (by decide) ?_
          refine lv_icmp_ge (tgt := 118) X.1 X.2.1 d_Md_activate_77 (by decide) (fun h26 => ?_) (fun h26 => ?_)
          · skip
            have hk := hk.1 h26
            have heL : r = F := ((if_pos h26)).symm.trans he
            exact m_vret X hr hlk hM d_Md_activate_118 ⟨Nat.le_of_ble_eq_true rfl, Nat.le_of_ble_eq_true rfl⟩ ⟨fun _ _ _ => rfl, fun _ => Nat.le_refl _⟩ ⟨rfl, congrArg (rs M) heL, rfl⟩
          · skip
            have hk := hk.2 h26
            refine lv_iload_n X.1 X.2.1 d_Md_activate_80 rfl (lv_at hl 2 rfl) ?_
            refine lv_if_le (tgt := 118) X.1 X.2.1 d_Md_activate_81 (by decide) (fun h27 => ?_) (fun h27 => ?_)
            · skip
              have hk := hk.1 h27
              have heL : r = F := ((if_neg h26).trans ((if_pos h27))).symm.trans he
              exact m_vret X hr hlk hM d_Md_activate_118 ⟨Nat.le_of_ble_eq_true rfl, Nat.le_of_ble_eq_true rfl⟩ ⟨fun _ _ _ => rfl, fun _ => Nat.le_refl _⟩ ⟨rfl, congrArg (rs M) heL, rfl⟩
            · skip
              have hk := hk.2 h27
              refine lv_aload_n X.1 X.2.1 d_Md_activate_84 rfl (lv_at hl 4 rfl) ?_
              refine r_gets (q := 0) X hM rfl hR.1 f_Md_68 rfl (hR.2 19 (by decide)) d_Md_activate_85 (fun g28 => ?_)
              refine lv_iload X.1 X.2.1 d_Md_activate_88 (lv_at hl 3 rfl) ?_
              obtain ⟨o29, hk⟩ := hk
              refine R_zald (k := 38) X hM (by decide) rfl g28 a_m_there (fun _ => rfl) o29.1 o29.2 d_Md_activate_90 ?_
              refine lv_if_eq (tgt := 112) X.1 X.2.1 d_Md_activate_91 (by decide) (fun h30 => ?_) (fun h30 => ?_)
              · skip
                have hk := hk.1 h30
                refine lv_iinc (v := v4 + 1) (lv' := [(4, .int (v4 + 1)), (1, .int v1), (2, .int v2), (3, .int v3), (0, .ref (ad 18 0))]) X.1 X.2.1 d_Md_activate_112 hl (k := 3) rfl rfl (by decide) rfl (fun ls hl => ?_)
                refine lv_goto (tgt := 73) X.1 X.2.1 d_Md_activate_115 (by decide) ?_
                exact ih _ _ ls ⟨_, _, _, _, _, hM, lv_sub hl [1, 2, 3, 0, 4] rfl, hk, ((if_neg h26).trans ((if_neg h27).trans ((if_pos h30)))).symm.trans he⟩
              · skip
                have hk := hk.2 h30
                refine lv_aload_n X.1 X.2.1 d_Md_activate_94 rfl (lv_at hl 4 rfl) ?_
                refine r_gets (q := 0) X hM rfl hR.1 f_Md_77 rfl (hR.2 22 (by decide)) d_Md_activate_95 (fun g31 => ?_)
                refine lv_iload X.1 X.2.1 d_Md_activate_98 (lv_at hl 3 rfl) ?_
                refine R_iald (k := 41) X hM (by decide) rfl g31 a_m_by (fun _ => rfl) o29.1 o29.2 d_Md_activate_100 ?_
                refine lv_iload_n X.1 X.2.1 d_Md_activate_101 rfl (lv_at hl 2 rfl) ?_
                refine lv_icmp_ne (tgt := 112) X.1 X.2.1 d_Md_activate_102 (by decide) (fun h32 => ?_) (fun h32 => ?_)
                · skip
                  have hk := hk.2 h32
                  refine lv_iinc (v := v4 + 1) (lv' := [(4, .int (v4 + 1)), (1, .int v1), (2, .int v2), (3, .int v3), (0, .ref (ad 18 0))]) X.1 X.2.1 d_Md_activate_112 hl (k := 3) rfl rfl (by decide) rfl (fun ls hl => ?_)
                  refine lv_goto (tgt := 73) X.1 X.2.1 d_Md_activate_115 (by decide) ?_
                  exact ih _ _ ls ⟨_, _, _, _, _, hM, lv_sub hl [1, 2, 3, 0, 4] rfl, hk, ((if_neg h26).trans ((if_neg h27).trans ((if_neg h30).trans ((if_neg h32))))).symm.trans he⟩
                · skip
                  have hk := hk.1 h32
                  refine lv_aload_n X.1 X.2.1 d_Md_activate_105 rfl (lv_at hl 4 rfl) ?_
                  refine lv_iload X.1 X.2.1 d_Md_activate_106 (lv_at hl 3 rfl) ?_
                  refine lv_iload_n X.1 X.2.1 d_Md_activate_108 rfl (lv_at hl 1 rfl) ?_
                  obtain ⟨o33, hk⟩ := hk
                  refine r_cV (As := [.int v4, .int v2]) (rest := []) X hml hl.1 hM (k_Md_control l D dA base M ad hR r v4 v2 o33) c_Md_143 v_Md_control kc_Md rfl hR.1 rfl (Nat.le_of_ble_eq_true rfl) ⟨rfl, rfl, Nat.le_of_ble_eq_true rfl, Nat.le_of_ble_eq_true rfl⟩ ⟨Nat.le_of_ble_eq_true rfl, Nat.le_of_ble_eq_true rfl⟩ d_Md_activate_109 ?_
                  intro rv M1 ad1 H locs hP hM hE
                  obtain ⟨e1, e2, e3⟩ := hP
                  subst rv; subst M1; subst ad1
                  show W _ _ _ _ _ _ _ _ _ _ _ _ _ _ _ (F0 m 112 ls [])
                  refine lv_iinc (v := v4 + 1) (lv' := [(4, .int (v4 + 1)), (1, .int v1), (2, .int v2), (3, .int v3), (0, .ref (ad 18 0))]) X.1 X.2.1 d_Md_activate_112 hl (k := 3) rfl rfl (by decide) rfl (fun ls hl => ?_)
                  refine lv_goto (tgt := 73) X.1 X.2.1 d_Md_activate_115 (by decide) ?_
                  exact ih _ _ ls ⟨_, _, _, _, _, hM, lv_sub hl [1, 2, 3, 0, 4] rfl, hk, ((if_neg h26).trans ((if_neg h27).trans ((if_neg h30).trans ((if_pos h32))))).symm.trans he⟩
      · skip
        have hk := hk.1 h20
        refine lv_aload_n X.1 X.2.1 d_Md_activate_31 rfl (lv_at hl 2 rfl) ?_
        refine lv_iload_n X.1 X.2.1 d_Md_activate_32 rfl (lv_at hl 0 rfl) ?_
        obtain ⟨o34, hk⟩ := hk
        refine r_cV (As := [.int (r 36 (a0.toNatClampNeg))]) (rest := []) X hml hl.1 hM (k_Md_isControlling l D dA base M ad hR r (r 36 (a0.toNatClampNeg)) o34) c_Md_136 v_Md_isControlling kc_Md rfl hR.1 rfl (Nat.le_of_ble_eq_true rfl) ⟨rfl, rfl, Nat.le_of_ble_eq_true rfl, Nat.le_of_ble_eq_true rfl⟩ ⟨Nat.le_of_ble_eq_true rfl, Nat.le_of_ble_eq_true rfl⟩ d_Md_activate_33 ?_
        intro rv M1 ad1 H locs hP hM hE
        obtain ⟨e1, e2, e3⟩ := hP
        subst rv; subst M1; subst ad1
        show W _ _ _ _ _ _ _ _ _ _ _ _ _ _ _ (F0 m 36 ls [.int (m_isControlling r (r 36 (a0.toNatClampNeg)))])
        refine lv_if_eq (tgt := 40) X.1 X.2.1 d_Md_activate_36 (by decide) (fun h35 => ?_) (fun h35 => ?_)
        · skip
          have hk := hk.1 h35
          refine lv_iload_n X.1 X.2.1 d_Md_activate_40 rfl (lv_at hl 0 rfl) ?_
          refine lv_if_le (tgt := 50) X.1 X.2.1 d_Md_activate_41 (by decide) (fun h36 => absurd h36 h5) (fun h36 => ?_)
          refine lv_aload_n X.1 X.2.1 d_Md_activate_44 rfl (lv_at hl 2 rfl) ?_
          refine lv_iload_n X.1 X.2.1 d_Md_activate_45 rfl (lv_at hl 0 rfl) ?_
          refine lv_iconst (v := 4) X.1 X.2.1 d_Md_activate_46 (by decide) ?_
          obtain ⟨o37, hk⟩ := hk
          refine r_cV (As := [.int (r 36 (a0.toNatClampNeg)), .int 4]) (rest := []) X hml hl.1 hM (k_Md_come l D dA base M ad hR r (r 36 (a0.toNatClampNeg)) 4 o37) c_Md_139 v_Md_come kc_Md rfl hR.1 rfl (Nat.le_of_ble_eq_true rfl) ⟨rfl, rfl, Nat.le_of_ble_eq_true rfl, Nat.le_of_ble_eq_true rfl⟩ ⟨Nat.le_of_ble_eq_true rfl, Nat.le_of_ble_eq_true rfl⟩ d_Md_activate_47 ?_
          intro rv M1 ad1 H locs hP hM hE
          obtain ⟨e1, e2, e3⟩ := hP
          subst rv; subst M1; subst ad1
          show W _ _ _ _ _ _ _ _ _ _ _ _ _ _ _ (F0 m 50 ls [])
          refine lv_aload_n X.1 X.2.1 d_Md_activate_50 rfl (lv_at hl 2 rfl) ?_
          refine r_gets (q := 0) X hM rfl hR.1 f_Md_59 rfl (hR.2 16 (by decide)) d_Md_activate_51 (fun g38 => ?_)
          refine lv_iload_n X.1 X.2.1 d_Md_activate_54 rfl (lv_at hl 3 rfl) ?_
          refine lv_iconst (v := 0) X.1 X.2.1 d_Md_activate_55 (by decide) ?_
          refine R_iast (k := 35) X hM (by decide) rfl g38 a_m_waiting (fun _ => rfl) o2.1 o2.2 d_Md_activate_56 (fun H locs hM => ?_)
          refine lv_aload_n X.1 X.2.1 d_Md_activate_57 rfl (lv_at hl 2 rfl) ?_
          refine r_gets (q := 0) X hM rfl hR.1 f_Md_62 rfl (hR.2 17 (by decide)) d_Md_activate_58 (fun g39 => ?_)
          refine lv_iload_n X.1 X.2.1 d_Md_activate_61 rfl (lv_at hl 3 rfl) ?_
          refine lv_iload_n X.1 X.2.1 d_Md_activate_62 rfl (lv_at hl 1 rfl) ?_
          refine R_iast (k := 36) X hM (by decide) rfl g39 a_m_active (fun _ => rfl) o2.1 o2.2 d_Md_activate_63 (fun H locs hM => ?_)
          refine lv_aload_n X.1 X.2.1 d_Md_activate_64 rfl (lv_at hl 2 rfl) ?_
          refine lv_iload_n X.1 X.2.1 d_Md_activate_65 rfl (lv_at hl 1 rfl) ?_
          refine lv_iconst (v := 3) X.1 X.2.1 d_Md_activate_66 (by decide) ?_
          obtain ⟨o40, hk⟩ := hk
          refine r_cV (As := [.int (r 35 (a0.toNatClampNeg)), .int 3]) (rest := []) X hml hl.1 hM (k_Md_come l D dA base M ad hR (ru (ru (m_come r (r 36 (a0.toNatClampNeg)) 4) 35 (a0.toNatClampNeg) 0) 36 (a0.toNatClampNeg) (r 35 (a0.toNatClampNeg))) (r 35 (a0.toNatClampNeg)) 3 o40) c_Md_139 v_Md_come kc_Md rfl hR.1 rfl (Nat.le_of_ble_eq_true rfl) ⟨rfl, rfl, Nat.le_of_ble_eq_true rfl, Nat.le_of_ble_eq_true rfl⟩ ⟨Nat.le_of_ble_eq_true rfl, Nat.le_of_ble_eq_true rfl⟩ d_Md_activate_67 ?_
          intro rv M1 ad1 H locs hP hM hE
          obtain ⟨e1, e2, e3⟩ := hP
          subst rv; subst M1; subst ad1
          show W _ _ _ _ _ _ _ _ _ _ _ _ _ _ _ (F0 m 70 ls [])
          refine lv_iconst (v := 0) X.1 X.2.1 d_Md_activate_70 (by decide) ?_
          refine lv_istore (lv' := [(4, .int 0), (3, .int (r 36 (a0.toNatClampNeg))), (2, .int (r 35 (a0.toNatClampNeg))), (0, .ref (ad 18 0)), (1, .int a0)]) X.1 X.2.1 d_Md_activate_71 hl (by decide) rfl (fun ls hl => ?_)
          refine w_downW (fun ls => F0 m 73 ls []) (fun n H L ls => ∃ (r : rR) (v1 : Int32) (v2 : Int32) (v3 : Int32) (v4 : Int32), mSt D dA base (rs M r) ad s.heap H L ∧ lv_has ls 5 [(1, .int v1), (2, .int v2), (3, .int v3), (4, .int v4), (0, .ref (ad 18 0))] ∧ m_activate_L73_ok n r v1 v2 v3 v4 ∧ m_activate_L73 n r v1 v2 v3 v4 = F) ?_ ?_ 9 _ _ ls ⟨(m_come (ru (ru (m_come r (r 36 (a0.toNatClampNeg)) 4) 35 (a0.toNatClampNeg) 0) 36 (a0.toNatClampNeg) (r 35 (a0.toNatClampNeg))) (r 35 (a0.toNatClampNeg)) 3), a0, (r 35 (a0.toNatClampNeg)), (r 36 (a0.toNatClampNeg)), 0, hM, lv_sub hl [4, 2, 1, 0, 3] rfl, hk, ((if_neg h4).trans ((if_neg h5).trans ((if_pos h20).trans ((if_pos h35))))).symm.trans he⟩
          · rintro H locs ls ⟨r, v1, v2, v3, v4, hM, hl, hk, he⟩
            exact hk.elim
          · rintro n ih H locs ls ⟨r, v1, v2, v3, v4, hM, hl, hk, he⟩
            refine lv_iload X.1 X.2.1 d_Md_activate_73 (lv_at hl 3 rfl) ?_
            refine lv_bipush (v := 8) X.1 X.2.1 d_Md_activate_75 (by decide) ?_
            refine lv_icmp_ge (tgt := 118) X.1 X.2.1 d_Md_activate_77 (by decide) (fun h41 => ?_) (fun h41 => ?_)
            · skip
              have hk := hk.1 h41
              have heL : r = F := ((if_pos h41)).symm.trans he
              exact m_vret X hr hlk hM d_Md_activate_118 ⟨Nat.le_of_ble_eq_true rfl, Nat.le_of_ble_eq_true rfl⟩ ⟨fun _ _ _ => rfl, fun _ => Nat.le_refl _⟩ ⟨rfl, congrArg (rs M) heL, rfl⟩
            · skip
              have hk := hk.2 h41
              refine lv_iload_n X.1 X.2.1 d_Md_activate_80 rfl (lv_at hl 2 rfl) ?_
              refine lv_if_le (tgt := 118) X.1 X.2.1 d_Md_activate_81 (by decide) (fun h42 => ?_) (fun h42 => ?_)
              · skip
                have hk := hk.1 h42
                have heL : r = F := ((if_neg h41).trans ((if_pos h42))).symm.trans he
                exact m_vret X hr hlk hM d_Md_activate_118 ⟨Nat.le_of_ble_eq_true rfl, Nat.le_of_ble_eq_true rfl⟩ ⟨fun _ _ _ => rfl, fun _ => Nat.le_refl _⟩ ⟨rfl, congrArg (rs M) heL, rfl⟩
              · skip
                have hk := hk.2 h42
                refine lv_aload_n X.1 X.2.1 d_Md_activate_84 rfl (lv_at hl 4 rfl) ?_
                refine r_gets (q := 0) X hM rfl hR.1 f_Md_68 rfl (hR.2 19 (by decide)) d_Md_activate_85 (fun g43 => ?_)
                refine lv_iload X.1 X.2.1 d_Md_activate_88 (lv_at hl 3 rfl) ?_
                obtain ⟨o44, hk⟩ := hk
                refine R_zald (k := 38) X hM (by decide) rfl g43 a_m_there (fun _ => rfl) o44.1 o44.2 d_Md_activate_90 ?_
                refine lv_if_eq (tgt := 112) X.1 X.2.1 d_Md_activate_91 (by decide) (fun h45 => ?_) (fun h45 => ?_)
                · skip
                  have hk := hk.1 h45
                  refine lv_iinc (v := v4 + 1) (lv' := [(4, .int (v4 + 1)), (1, .int v1), (2, .int v2), (3, .int v3), (0, .ref (ad 18 0))]) X.1 X.2.1 d_Md_activate_112 hl (k := 3) rfl rfl (by decide) rfl (fun ls hl => ?_)
                  refine lv_goto (tgt := 73) X.1 X.2.1 d_Md_activate_115 (by decide) ?_
                  exact ih _ _ ls ⟨_, _, _, _, _, hM, lv_sub hl [1, 2, 3, 0, 4] rfl, hk, ((if_neg h41).trans ((if_neg h42).trans ((if_pos h45)))).symm.trans he⟩
                · skip
                  have hk := hk.2 h45
                  refine lv_aload_n X.1 X.2.1 d_Md_activate_94 rfl (lv_at hl 4 rfl) ?_
                  refine r_gets (q := 0) X hM rfl hR.1 f_Md_77 rfl (hR.2 22 (by decide)) d_Md_activate_95 (fun g46 => ?_)
                  refine lv_iload X.1 X.2.1 d_Md_activate_98 (lv_at hl 3 rfl) ?_
                  refine R_iald (k := 41) X hM (by decide) rfl g46 a_m_by (fun _ => rfl) o44.1 o44.2 d_Md_activate_100 ?_
                  refine lv_iload_n X.1 X.2.1 d_Md_activate_101 rfl (lv_at hl 2 rfl) ?_
                  refine lv_icmp_ne (tgt := 112) X.1 X.2.1 d_Md_activate_102 (by decide) (fun h47 => ?_) (fun h47 => ?_)
                  · skip
                    have hk := hk.2 h47
                    refine lv_iinc (v := v4 + 1) (lv' := [(4, .int (v4 + 1)), (1, .int v1), (2, .int v2), (3, .int v3), (0, .ref (ad 18 0))]) X.1 X.2.1 d_Md_activate_112 hl (k := 3) rfl rfl (by decide) rfl (fun ls hl => ?_)
                    refine lv_goto (tgt := 73) X.1 X.2.1 d_Md_activate_115 (by decide) ?_
                    exact ih _ _ ls ⟨_, _, _, _, _, hM, lv_sub hl [1, 2, 3, 0, 4] rfl, hk, ((if_neg h41).trans ((if_neg h42).trans ((if_neg h45).trans ((if_neg h47))))).symm.trans he⟩
                  · skip
                    have hk := hk.1 h47
                    refine lv_aload_n X.1 X.2.1 d_Md_activate_105 rfl (lv_at hl 4 rfl) ?_
                    refine lv_iload X.1 X.2.1 d_Md_activate_106 (lv_at hl 3 rfl) ?_
                    refine lv_iload_n X.1 X.2.1 d_Md_activate_108 rfl (lv_at hl 1 rfl) ?_
                    obtain ⟨o48, hk⟩ := hk
                    refine r_cV (As := [.int v4, .int v2]) (rest := []) X hml hl.1 hM (k_Md_control l D dA base M ad hR r v4 v2 o48) c_Md_143 v_Md_control kc_Md rfl hR.1 rfl (Nat.le_of_ble_eq_true rfl) ⟨rfl, rfl, Nat.le_of_ble_eq_true rfl, Nat.le_of_ble_eq_true rfl⟩ ⟨Nat.le_of_ble_eq_true rfl, Nat.le_of_ble_eq_true rfl⟩ d_Md_activate_109 ?_
                    intro rv M1 ad1 H locs hP hM hE
                    obtain ⟨e1, e2, e3⟩ := hP
                    subst rv; subst M1; subst ad1
                    show W _ _ _ _ _ _ _ _ _ _ _ _ _ _ _ (F0 m 112 ls [])
                    refine lv_iinc (v := v4 + 1) (lv' := [(4, .int (v4 + 1)), (1, .int v1), (2, .int v2), (3, .int v3), (0, .ref (ad 18 0))]) X.1 X.2.1 d_Md_activate_112 hl (k := 3) rfl rfl (by decide) rfl (fun ls hl => ?_)
                    refine lv_goto (tgt := 73) X.1 X.2.1 d_Md_activate_115 (by decide) ?_
                    exact ih _ _ ls ⟨_, _, _, _, _, hM, lv_sub hl [1, 2, 3, 0, 4] rfl, hk, ((if_neg h41).trans ((if_neg h42).trans ((if_neg h45).trans ((if_pos h47))))).symm.trans he⟩
        · skip
          have hk := hk.2 h35
          have heL : r = F := ((if_neg h4).trans ((if_neg h5).trans ((if_pos h20).trans ((if_neg h35))))).symm.trans he
          exact m_vret X hr hlk hM d_Md_activate_39 ⟨Nat.le_of_ble_eq_true rfl, Nat.le_of_ble_eq_true rfl⟩ ⟨fun _ _ _ => rfl, fun _ => Nat.le_refl _⟩ ⟨rfl, congrArg (rs M) heL, rfl⟩
def m_clearAway (r : rR) (a0 : Int32) : Int32 × rR := (if (r 37 (a0.toNatClampNeg)) = 0 then (0, r) else (if 0 < (r 34 (a0.toNatClampNeg)) then (0, r) else (if (r 36 (a0.toNatClampNeg)) ≤ 0 then (if (r 35 (a0.toNatClampNeg)) ≤ 0 then (1, (m_go r a0)) else (if ((m_come r (r 35 (a0.toNatClampNeg)) 4) 36 (a0.toNatClampNeg)) ≤ 0 then (1, (m_go (m_come r (r 35 (a0.toNatClampNeg)) 4) a0)) else (1, (m_go (m_come (m_come r (r 35 (a0.toNatClampNeg)) 4) ((m_come r (r 35 (a0.toNatClampNeg)) 4) 36 (a0.toNatClampNeg)) 4) a0)))) else (if (m_isControlling r (r 36 (a0.toNatClampNeg))) = 0 then (if (r 35 (a0.toNatClampNeg)) ≤ 0 then (1, (m_go (m_come r (r 36 (a0.toNatClampNeg)) 4) a0)) else (if ((m_come r (r 35 (a0.toNatClampNeg)) 4) 36 (a0.toNatClampNeg)) ≤ 0 then (1, (m_go (m_come r (r 35 (a0.toNatClampNeg)) 4) a0)) else (1, (m_go (m_come (m_come r (r 35 (a0.toNatClampNeg)) 4) ((m_come r (r 35 (a0.toNatClampNeg)) 4) 36 (a0.toNatClampNeg)) 4) a0)))) else (0, r)))))
def m_clearAway_ok (r : rR) (a0 : Int32) : Prop := (ixk a0 6) ∧ ((((r 37 (a0.toNatClampNeg)) = 0) → (True)) ∧ (¬ ((r 37 (a0.toNatClampNeg)) = 0) → (((0 < (r 34 (a0.toNatClampNeg))) → (True)) ∧ (¬ (0 < (r 34 (a0.toNatClampNeg))) → ((((r 36 (a0.toNatClampNeg)) ≤ 0) → ((((r 35 (a0.toNatClampNeg)) ≤ 0) → (m_go_ok r a0)) ∧ (¬ ((r 35 (a0.toNatClampNeg)) ≤ 0) → ((m_come_ok r (r 35 (a0.toNatClampNeg)) 4) ∧ (((((m_come r (r 35 (a0.toNatClampNeg)) 4) 36 (a0.toNatClampNeg)) ≤ 0) → (m_go_ok (m_come r (r 35 (a0.toNatClampNeg)) 4) a0)) ∧ (¬ (((m_come r (r 35 (a0.toNatClampNeg)) 4) 36 (a0.toNatClampNeg)) ≤ 0) → ((m_come_ok (m_come r (r 35 (a0.toNatClampNeg)) 4) ((m_come r (r 35 (a0.toNatClampNeg)) 4) 36 (a0.toNatClampNeg)) 4) ∧ (m_go_ok (m_come (m_come r (r 35 (a0.toNatClampNeg)) 4) ((m_come r (r 35 (a0.toNatClampNeg)) 4) 36 (a0.toNatClampNeg)) 4) a0)))))))) ∧ (¬ ((r 36 (a0.toNatClampNeg)) ≤ 0) → ((m_isControlling_ok r (r 36 (a0.toNatClampNeg))) ∧ ((((m_isControlling r (r 36 (a0.toNatClampNeg))) = 0) → ((((r 35 (a0.toNatClampNeg)) ≤ 0) → ((m_come_ok r (r 36 (a0.toNatClampNeg)) 4) ∧ (m_go_ok (m_come r (r 36 (a0.toNatClampNeg)) 4) a0))) ∧ (¬ ((r 35 (a0.toNatClampNeg)) ≤ 0) → ((m_come_ok r (r 35 (a0.toNatClampNeg)) 4) ∧ (((((m_come r (r 35 (a0.toNatClampNeg)) 4) 36 (a0.toNatClampNeg)) ≤ 0) → (m_go_ok (m_come r (r 35 (a0.toNatClampNeg)) 4) a0)) ∧ (¬ (((m_come r (r 35 (a0.toNatClampNeg)) 4) 36 (a0.toNatClampNeg)) ≤ 0) → ((m_come_ok (m_come r (r 35 (a0.toNatClampNeg)) 4) ((m_come r (r 35 (a0.toNatClampNeg)) 4) 36 (a0.toNatClampNeg)) 4) ∧ (m_go_ok (m_come (m_come r (r 35 (a0.toNatClampNeg)) 4) ((m_come r (r 35 (a0.toNatClampNeg)) 4) 36 (a0.toNatClampNeg)) 4) a0)))))))) ∧ (¬ ((m_isControlling r (r 36 (a0.toNatClampNeg))) = 0) → (True))))))))))
set_option maxHeartbeats 4000000 in
set_option maxRecDepth 100000 in
theorem k_Md_clearAway (l : Launch) (D : va_G) (dA : Nat → ClassId) (base : Nat) (M : mM) (ad : Nat → Nat → Nat) (hR : wR M) (r : rR) (a0 : Int32) (hk : m_clearAway_ok r a0) : mMet l y_Md_clearAway b_Md_clearAway 2 (some FieldType.boolean) ({ frames := 2, cells := 0, slots := 0, locals := 43 } : Room) 0 0 D dA base (rs M r) ad [.ref (ad 18 0), .int a0] (fun rv M' ad' => rv = some (.int (m_clearAway r a0).1) ∧ M' = rs M (m_clearAway r a0).2 ∧ ad' = ad) := by
  refine m_start (lvs := [(0, .ref (ad 18 0)), (1, .int a0)]) (by decide) (Nat.le_of_ble_eq_true rfl) rfl ?_
  intro p e s m below meth c ls X hr hlk hin hml hM hl
  generalize he : m_clearAway r a0 = F
  refine lv_aload_n X.1 X.2.1 d_Md_clearAway_0 rfl (lv_at hl 0 rfl) ?_
  refine r_gets (q := 0) X hM rfl hR.1 f_Md_65 rfl (hR.2 18 (by decide)) d_Md_clearAway_1 (fun g1 => ?_)
  refine lv_iload_n X.1 X.2.1 d_Md_clearAway_4 rfl (lv_at hl 1 rfl) ?_
  obtain ⟨o2, hk⟩ := hk
  refine R_zald (k := 37) X hM (by decide) rfl g1 a_m_leaving (fun _ => rfl) o2.1 o2.2 d_Md_clearAway_5 ?_
  refine lv_if_eq (tgt := 40) X.1 X.2.1 d_Md_clearAway_6 (by decide) (fun h3 => ?_) (fun h3 => ?_)
  · skip
    have hk := hk.1 h3
    refine lv_iconst (v := 0) X.1 X.2.1 d_Md_clearAway_40 (by decide) ?_
    have heL : (0, r) = F := ((if_pos h3)).symm.trans he
    exact m_zret X hr hlk hM (by first | rfl | decide) d_Md_clearAway_41 ⟨Nat.le_of_ble_eq_true rfl, Nat.le_of_ble_eq_true rfl⟩ ⟨fun _ _ _ => rfl, fun _ => Nat.le_refl _⟩ ⟨congrArg (fun z => some (Value.int z.1)) heL, congrArg (fun z => rs M z.2) heL, rfl⟩
  · skip
    have hk := hk.2 h3
    refine lv_aload_n X.1 X.2.1 d_Md_clearAway_9 rfl (lv_at hl 0 rfl) ?_
    refine r_gets (q := 0) X hM rfl hR.1 f_Md_56 rfl (hR.2 15 (by decide)) d_Md_clearAway_10 (fun g4 => ?_)
    refine lv_iload_n X.1 X.2.1 d_Md_clearAway_13 rfl (lv_at hl 1 rfl) ?_
    refine R_iald (k := 34) X hM (by decide) rfl g4 a_m_installing (fun _ => rfl) o2.1 o2.2 d_Md_clearAway_14 ?_
    refine lv_if_gt (tgt := 40) X.1 X.2.1 d_Md_clearAway_15 (by decide) (fun h5 => ?_) (fun h5 => ?_)
    · skip
      have hk := hk.1 h5
      refine lv_iconst (v := 0) X.1 X.2.1 d_Md_clearAway_40 (by decide) ?_
      have heL : (0, r) = F := ((if_neg h3).trans ((if_pos h5))).symm.trans he
      exact m_zret X hr hlk hM (by first | rfl | decide) d_Md_clearAway_41 ⟨Nat.le_of_ble_eq_true rfl, Nat.le_of_ble_eq_true rfl⟩ ⟨fun _ _ _ => rfl, fun _ => Nat.le_refl _⟩ ⟨congrArg (fun z => some (Value.int z.1)) heL, congrArg (fun z => rs M z.2) heL, rfl⟩
    · skip
      have hk := hk.2 h5
      refine lv_aload_n X.1 X.2.1 d_Md_clearAway_18 rfl (lv_at hl 0 rfl) ?_
      refine r_gets (q := 0) X hM rfl hR.1 f_Md_62 rfl (hR.2 17 (by decide)) d_Md_clearAway_19 (fun g6 => ?_)
      refine lv_iload_n X.1 X.2.1 d_Md_clearAway_22 rfl (lv_at hl 1 rfl) ?_
      refine R_iald (k := 36) X hM (by decide) rfl g6 a_m_active (fun _ => rfl) o2.1 o2.2 d_Md_clearAway_23 ?_
      refine lv_if_le (tgt := 42) X.1 X.2.1 d_Md_clearAway_24 (by decide) (fun h7 => ?_) (fun h7 => ?_)
      · skip
        have hk := hk.1 h7
        refine lv_aload_n X.1 X.2.1 d_Md_clearAway_42 rfl (lv_at hl 0 rfl) ?_
        refine r_gets (q := 0) X hM rfl hR.1 f_Md_59 rfl (hR.2 16 (by decide)) d_Md_clearAway_43 (fun g8 => ?_)
        refine lv_iload_n X.1 X.2.1 d_Md_clearAway_46 rfl (lv_at hl 1 rfl) ?_
        refine R_iald (k := 35) X hM (by decide) rfl g8 a_m_waiting (fun _ => rfl) o2.1 o2.2 d_Md_clearAway_47 ?_
        refine lv_if_le (tgt := 62) X.1 X.2.1 d_Md_clearAway_48 (by decide) (fun h9 => ?_) (fun h9 => ?_)
        · skip
          have hk := hk.1 h9
          refine lv_aload_n X.1 X.2.1 d_Md_clearAway_62 rfl (lv_at hl 0 rfl) ?_
          refine r_gets (q := 0) X hM rfl hR.1 f_Md_62 rfl (hR.2 17 (by decide)) d_Md_clearAway_63 (fun g10 => ?_)
          refine lv_iload_n X.1 X.2.1 d_Md_clearAway_66 rfl (lv_at hl 1 rfl) ?_
          refine R_iald (k := 36) X hM (by decide) rfl g10 a_m_active (fun _ => rfl) o2.1 o2.2 d_Md_clearAway_67 ?_
          refine lv_if_le (tgt := 82) X.1 X.2.1 d_Md_clearAway_68 (by decide) (fun h11 => ?_) (fun h11 => absurd h7 h11)
          refine lv_aload_n X.1 X.2.1 d_Md_clearAway_82 rfl (lv_at hl 0 rfl) ?_
          refine lv_iload_n X.1 X.2.1 d_Md_clearAway_83 rfl (lv_at hl 1 rfl) ?_
          have o12 := hk
          refine r_cV (As := [.int a0]) (rest := []) X hml hl.1 hM (k_Md_go l D dA base M ad hR r a0 o12) c_Md_146 v_Md_go kc_Md rfl hR.1 rfl (Nat.le_of_ble_eq_true rfl) ⟨rfl, rfl, Nat.le_of_ble_eq_true rfl, Nat.le_of_ble_eq_true rfl⟩ ⟨Nat.le_of_ble_eq_true rfl, Nat.le_of_ble_eq_true rfl⟩ d_Md_clearAway_84 ?_
          intro rv M1 ad1 H locs hP hM hE
          obtain ⟨e1, e2, e3⟩ := hP
          subst rv; subst M1; subst ad1
          show W _ _ _ _ _ _ _ _ _ _ _ _ _ _ _ (F0 m 87 ls [])
          refine lv_iconst (v := 1) X.1 X.2.1 d_Md_clearAway_87 (by decide) ?_
          have heL : (1, (m_go r a0)) = F := ((if_neg h3).trans ((if_neg h5).trans ((if_pos h7).trans ((if_pos h9))))).symm.trans he
          exact m_zret X hr hlk hM (by first | rfl | decide) d_Md_clearAway_88 ⟨Nat.le_of_ble_eq_true rfl, Nat.le_of_ble_eq_true rfl⟩ ⟨fun _ _ _ => rfl, fun _ => Nat.le_refl _⟩ ⟨congrArg (fun z => some (Value.int z.1)) heL, congrArg (fun z => rs M z.2) heL, rfl⟩
        · skip
          have hk := hk.2 h9
          refine lv_aload_n X.1 X.2.1 d_Md_clearAway_51 rfl (lv_at hl 0 rfl) ?_
          refine lv_aload_n X.1 X.2.1 d_Md_clearAway_52 rfl (lv_at hl 0 rfl) ?_
          refine r_gets (q := 0) X hM rfl hR.1 f_Md_59 rfl (hR.2 16 (by decide)) d_Md_clearAway_53 (fun g13 => ?_)
          refine lv_iload_n X.1 X.2.1 d_Md_clearAway_56 rfl (lv_at hl 1 rfl) ?_
          refine R_iald (k := 35) X hM (by decide) rfl g13 a_m_waiting (fun _ => rfl) o2.1 o2.2 d_Md_clearAway_57 ?_
          refine lv_iconst (v := 4) X.1 X.2.1 d_Md_clearAway_58 (by decide) ?_
          obtain ⟨o14, hk⟩ := hk
          refine r_cV (As := [.int (r 35 (a0.toNatClampNeg)), .int 4]) (rest := []) X hml hl.1 hM (k_Md_come l D dA base M ad hR r (r 35 (a0.toNatClampNeg)) 4 o14) c_Md_139 v_Md_come kc_Md rfl hR.1 rfl (Nat.le_of_ble_eq_true rfl) ⟨rfl, rfl, Nat.le_of_ble_eq_true rfl, Nat.le_of_ble_eq_true rfl⟩ ⟨Nat.le_of_ble_eq_true rfl, Nat.le_of_ble_eq_true rfl⟩ d_Md_clearAway_59 ?_
          intro rv M1 ad1 H locs hP hM hE
          obtain ⟨e1, e2, e3⟩ := hP
          subst rv; subst M1; subst ad1
          show W _ _ _ _ _ _ _ _ _ _ _ _ _ _ _ (F0 m 62 ls [])
          refine lv_aload_n X.1 X.2.1 d_Md_clearAway_62 rfl (lv_at hl 0 rfl) ?_
          refine r_gets (q := 0) X hM rfl hR.1 f_Md_62 rfl (hR.2 17 (by decide)) d_Md_clearAway_63 (fun g15 => ?_)
          refine lv_iload_n X.1 X.2.1 d_Md_clearAway_66 rfl (lv_at hl 1 rfl) ?_
          refine R_iald (k := 36) X hM (by decide) rfl g15 a_m_active (fun _ => rfl) o2.1 o2.2 d_Md_clearAway_67 ?_
          refine lv_if_le (tgt := 82) X.1 X.2.1 d_Md_clearAway_68 (by decide) (fun h16 => ?_) (fun h16 => ?_)
          · skip
            have hk := hk.1 h16
            refine lv_aload_n X.1 X.2.1 d_Md_clearAway_82 rfl (lv_at hl 0 rfl) ?_
            refine lv_iload_n X.1 X.2.1 d_Md_clearAway_83 rfl (lv_at hl 1 rfl) ?_
            have o17 := hk
            refine r_cV (As := [.int a0]) (rest := []) X hml hl.1 hM (k_Md_go l D dA base M ad hR (m_come r (r 35 (a0.toNatClampNeg)) 4) a0 o17) c_Md_146 v_Md_go kc_Md rfl hR.1 rfl (Nat.le_of_ble_eq_true rfl) ⟨rfl, rfl, Nat.le_of_ble_eq_true rfl, Nat.le_of_ble_eq_true rfl⟩ ⟨Nat.le_of_ble_eq_true rfl, Nat.le_of_ble_eq_true rfl⟩ d_Md_clearAway_84 ?_
            intro rv M1 ad1 H locs hP hM hE
            obtain ⟨e1, e2, e3⟩ := hP
            subst rv; subst M1; subst ad1
            show W _ _ _ _ _ _ _ _ _ _ _ _ _ _ _ (F0 m 87 ls [])
            refine lv_iconst (v := 1) X.1 X.2.1 d_Md_clearAway_87 (by decide) ?_
            have heL : (1, (m_go (m_come r (r 35 (a0.toNatClampNeg)) 4) a0)) = F := ((if_neg h3).trans ((if_neg h5).trans ((if_pos h7).trans ((if_neg h9).trans ((if_pos h16)))))).symm.trans he
            exact m_zret X hr hlk hM (by first | rfl | decide) d_Md_clearAway_88 ⟨Nat.le_of_ble_eq_true rfl, Nat.le_of_ble_eq_true rfl⟩ ⟨fun _ _ _ => rfl, fun _ => Nat.le_refl _⟩ ⟨congrArg (fun z => some (Value.int z.1)) heL, congrArg (fun z => rs M z.2) heL, rfl⟩
          · skip
            have hk := hk.2 h16
            refine lv_aload_n X.1 X.2.1 d_Md_clearAway_71 rfl (lv_at hl 0 rfl) ?_
            refine lv_aload_n X.1 X.2.1 d_Md_clearAway_72 rfl (lv_at hl 0 rfl) ?_
            refine r_gets (q := 0) X hM rfl hR.1 f_Md_62 rfl (hR.2 17 (by decide)) d_Md_clearAway_73 (fun g18 => ?_)
            refine lv_iload_n X.1 X.2.1 d_Md_clearAway_76 rfl (lv_at hl 1 rfl) ?_
            refine R_iald (k := 36) X hM (by decide) rfl g18 a_m_active (fun _ => rfl) o2.1 o2.2 d_Md_clearAway_77 ?_
            refine lv_iconst (v := 4) X.1 X.2.1 d_Md_clearAway_78 (by decide) ?_
            obtain ⟨o19, hk⟩ := hk
            refine r_cV (As := [.int ((m_come r (r 35 (a0.toNatClampNeg)) 4) 36 (a0.toNatClampNeg)), .int 4]) (rest := []) X hml hl.1 hM (k_Md_come l D dA base M ad hR (m_come r (r 35 (a0.toNatClampNeg)) 4) ((m_come r (r 35 (a0.toNatClampNeg)) 4) 36 (a0.toNatClampNeg)) 4 o19) c_Md_139 v_Md_come kc_Md rfl hR.1 rfl (Nat.le_of_ble_eq_true rfl) ⟨rfl, rfl, Nat.le_of_ble_eq_true rfl, Nat.le_of_ble_eq_true rfl⟩ ⟨Nat.le_of_ble_eq_true rfl, Nat.le_of_ble_eq_true rfl⟩ d_Md_clearAway_79 ?_
            intro rv M1 ad1 H locs hP hM hE
            obtain ⟨e1, e2, e3⟩ := hP
            subst rv; subst M1; subst ad1
            show W _ _ _ _ _ _ _ _ _ _ _ _ _ _ _ (F0 m 82 ls [])
            refine lv_aload_n X.1 X.2.1 d_Md_clearAway_82 rfl (lv_at hl 0 rfl) ?_
            refine lv_iload_n X.1 X.2.1 d_Md_clearAway_83 rfl (lv_at hl 1 rfl) ?_
            have o20 := hk
            refine r_cV (As := [.int a0]) (rest := []) X hml hl.1 hM (k_Md_go l D dA base M ad hR (m_come (m_come r (r 35 (a0.toNatClampNeg)) 4) ((m_come r (r 35 (a0.toNatClampNeg)) 4) 36 (a0.toNatClampNeg)) 4) a0 o20) c_Md_146 v_Md_go kc_Md rfl hR.1 rfl (Nat.le_of_ble_eq_true rfl) ⟨rfl, rfl, Nat.le_of_ble_eq_true rfl, Nat.le_of_ble_eq_true rfl⟩ ⟨Nat.le_of_ble_eq_true rfl, Nat.le_of_ble_eq_true rfl⟩ d_Md_clearAway_84 ?_
            intro rv M1 ad1 H locs hP hM hE
            obtain ⟨e1, e2, e3⟩ := hP
            subst rv; subst M1; subst ad1
            show W _ _ _ _ _ _ _ _ _ _ _ _ _ _ _ (F0 m 87 ls [])
            refine lv_iconst (v := 1) X.1 X.2.1 d_Md_clearAway_87 (by decide) ?_
            have heL : (1, (m_go (m_come (m_come r (r 35 (a0.toNatClampNeg)) 4) ((m_come r (r 35 (a0.toNatClampNeg)) 4) 36 (a0.toNatClampNeg)) 4) a0)) = F := ((if_neg h3).trans ((if_neg h5).trans ((if_pos h7).trans ((if_neg h9).trans ((if_neg h16)))))).symm.trans he
            exact m_zret X hr hlk hM (by first | rfl | decide) d_Md_clearAway_88 ⟨Nat.le_of_ble_eq_true rfl, Nat.le_of_ble_eq_true rfl⟩ ⟨fun _ _ _ => rfl, fun _ => Nat.le_refl _⟩ ⟨congrArg (fun z => some (Value.int z.1)) heL, congrArg (fun z => rs M z.2) heL, rfl⟩
      · skip
        have hk := hk.2 h7
        refine lv_aload_n X.1 X.2.1 d_Md_clearAway_27 rfl (lv_at hl 0 rfl) ?_
        refine lv_aload_n X.1 X.2.1 d_Md_clearAway_28 rfl (lv_at hl 0 rfl) ?_
        refine r_gets (q := 0) X hM rfl hR.1 f_Md_62 rfl (hR.2 17 (by decide)) d_Md_clearAway_29 (fun g21 => ?_)
        refine lv_iload_n X.1 X.2.1 d_Md_clearAway_32 rfl (lv_at hl 1 rfl) ?_
        refine R_iald (k := 36) X hM (by decide) rfl g21 a_m_active (fun _ => rfl) o2.1 o2.2 d_Md_clearAway_33 ?_
        obtain ⟨o22, hk⟩ := hk
        refine r_cV (As := [.int (r 36 (a0.toNatClampNeg))]) (rest := []) X hml hl.1 hM (k_Md_isControlling l D dA base M ad hR r (r 36 (a0.toNatClampNeg)) o22) c_Md_136 v_Md_isControlling kc_Md rfl hR.1 rfl (Nat.le_of_ble_eq_true rfl) ⟨rfl, rfl, Nat.le_of_ble_eq_true rfl, Nat.le_of_ble_eq_true rfl⟩ ⟨Nat.le_of_ble_eq_true rfl, Nat.le_of_ble_eq_true rfl⟩ d_Md_clearAway_34 ?_
        intro rv M1 ad1 H locs hP hM hE
        obtain ⟨e1, e2, e3⟩ := hP
        subst rv; subst M1; subst ad1
        show W _ _ _ _ _ _ _ _ _ _ _ _ _ _ _ (F0 m 37 ls [.int (m_isControlling r (r 36 (a0.toNatClampNeg)))])
        refine lv_if_eq (tgt := 42) X.1 X.2.1 d_Md_clearAway_37 (by decide) (fun h23 => ?_) (fun h23 => ?_)
        · skip
          have hk := hk.1 h23
          refine lv_aload_n X.1 X.2.1 d_Md_clearAway_42 rfl (lv_at hl 0 rfl) ?_
          refine r_gets (q := 0) X hM rfl hR.1 f_Md_59 rfl (hR.2 16 (by decide)) d_Md_clearAway_43 (fun g24 => ?_)
          refine lv_iload_n X.1 X.2.1 d_Md_clearAway_46 rfl (lv_at hl 1 rfl) ?_
          refine R_iald (k := 35) X hM (by decide) rfl g24 a_m_waiting (fun _ => rfl) o2.1 o2.2 d_Md_clearAway_47 ?_
          refine lv_if_le (tgt := 62) X.1 X.2.1 d_Md_clearAway_48 (by decide) (fun h25 => ?_) (fun h25 => ?_)
          · skip
            have hk := hk.1 h25
            refine lv_aload_n X.1 X.2.1 d_Md_clearAway_62 rfl (lv_at hl 0 rfl) ?_
            refine r_gets (q := 0) X hM rfl hR.1 f_Md_62 rfl (hR.2 17 (by decide)) d_Md_clearAway_63 (fun g26 => ?_)
            refine lv_iload_n X.1 X.2.1 d_Md_clearAway_66 rfl (lv_at hl 1 rfl) ?_
            refine R_iald (k := 36) X hM (by decide) rfl g26 a_m_active (fun _ => rfl) o2.1 o2.2 d_Md_clearAway_67 ?_
            refine lv_if_le (tgt := 82) X.1 X.2.1 d_Md_clearAway_68 (by decide) (fun h27 => absurd h27 h7) (fun h27 => ?_)
            refine lv_aload_n X.1 X.2.1 d_Md_clearAway_71 rfl (lv_at hl 0 rfl) ?_
            refine lv_aload_n X.1 X.2.1 d_Md_clearAway_72 rfl (lv_at hl 0 rfl) ?_
            refine r_gets (q := 0) X hM rfl hR.1 f_Md_62 rfl (hR.2 17 (by decide)) d_Md_clearAway_73 (fun g28 => ?_)
            refine lv_iload_n X.1 X.2.1 d_Md_clearAway_76 rfl (lv_at hl 1 rfl) ?_
            refine R_iald (k := 36) X hM (by decide) rfl g28 a_m_active (fun _ => rfl) o2.1 o2.2 d_Md_clearAway_77 ?_
            refine lv_iconst (v := 4) X.1 X.2.1 d_Md_clearAway_78 (by decide) ?_
            obtain ⟨o29, hk⟩ := hk
            refine r_cV (As := [.int (r 36 (a0.toNatClampNeg)), .int 4]) (rest := []) X hml hl.1 hM (k_Md_come l D dA base M ad hR r (r 36 (a0.toNatClampNeg)) 4 o29) c_Md_139 v_Md_come kc_Md rfl hR.1 rfl (Nat.le_of_ble_eq_true rfl) ⟨rfl, rfl, Nat.le_of_ble_eq_true rfl, Nat.le_of_ble_eq_true rfl⟩ ⟨Nat.le_of_ble_eq_true rfl, Nat.le_of_ble_eq_true rfl⟩ d_Md_clearAway_79 ?_
            intro rv M1 ad1 H locs hP hM hE
            obtain ⟨e1, e2, e3⟩ := hP
            subst rv; subst M1; subst ad1
            show W _ _ _ _ _ _ _ _ _ _ _ _ _ _ _ (F0 m 82 ls [])
            refine lv_aload_n X.1 X.2.1 d_Md_clearAway_82 rfl (lv_at hl 0 rfl) ?_
            refine lv_iload_n X.1 X.2.1 d_Md_clearAway_83 rfl (lv_at hl 1 rfl) ?_
            have o30 := hk
            refine r_cV (As := [.int a0]) (rest := []) X hml hl.1 hM (k_Md_go l D dA base M ad hR (m_come r (r 36 (a0.toNatClampNeg)) 4) a0 o30) c_Md_146 v_Md_go kc_Md rfl hR.1 rfl (Nat.le_of_ble_eq_true rfl) ⟨rfl, rfl, Nat.le_of_ble_eq_true rfl, Nat.le_of_ble_eq_true rfl⟩ ⟨Nat.le_of_ble_eq_true rfl, Nat.le_of_ble_eq_true rfl⟩ d_Md_clearAway_84 ?_
            intro rv M1 ad1 H locs hP hM hE
            obtain ⟨e1, e2, e3⟩ := hP
            subst rv; subst M1; subst ad1
            show W _ _ _ _ _ _ _ _ _ _ _ _ _ _ _ (F0 m 87 ls [])
            refine lv_iconst (v := 1) X.1 X.2.1 d_Md_clearAway_87 (by decide) ?_
            have heL : (1, (m_go (m_come r (r 36 (a0.toNatClampNeg)) 4) a0)) = F := ((if_neg h3).trans ((if_neg h5).trans ((if_neg h7).trans ((if_pos h23).trans ((if_pos h25)))))).symm.trans he
            exact m_zret X hr hlk hM (by first | rfl | decide) d_Md_clearAway_88 ⟨Nat.le_of_ble_eq_true rfl, Nat.le_of_ble_eq_true rfl⟩ ⟨fun _ _ _ => rfl, fun _ => Nat.le_refl _⟩ ⟨congrArg (fun z => some (Value.int z.1)) heL, congrArg (fun z => rs M z.2) heL, rfl⟩
          · skip
            have hk := hk.2 h25
            refine lv_aload_n X.1 X.2.1 d_Md_clearAway_51 rfl (lv_at hl 0 rfl) ?_
            refine lv_aload_n X.1 X.2.1 d_Md_clearAway_52 rfl (lv_at hl 0 rfl) ?_
            refine r_gets (q := 0) X hM rfl hR.1 f_Md_59 rfl (hR.2 16 (by decide)) d_Md_clearAway_53 (fun g31 => ?_)
            refine lv_iload_n X.1 X.2.1 d_Md_clearAway_56 rfl (lv_at hl 1 rfl) ?_
            refine R_iald (k := 35) X hM (by decide) rfl g31 a_m_waiting (fun _ => rfl) o2.1 o2.2 d_Md_clearAway_57 ?_
            refine lv_iconst (v := 4) X.1 X.2.1 d_Md_clearAway_58 (by decide) ?_
            obtain ⟨o32, hk⟩ := hk
            refine r_cV (As := [.int (r 35 (a0.toNatClampNeg)), .int 4]) (rest := []) X hml hl.1 hM (k_Md_come l D dA base M ad hR r (r 35 (a0.toNatClampNeg)) 4 o32) c_Md_139 v_Md_come kc_Md rfl hR.1 rfl (Nat.le_of_ble_eq_true rfl) ⟨rfl, rfl, Nat.le_of_ble_eq_true rfl, Nat.le_of_ble_eq_true rfl⟩ ⟨Nat.le_of_ble_eq_true rfl, Nat.le_of_ble_eq_true rfl⟩ d_Md_clearAway_59 ?_
            intro rv M1 ad1 H locs hP hM hE
            obtain ⟨e1, e2, e3⟩ := hP
            subst rv; subst M1; subst ad1
            show W _ _ _ _ _ _ _ _ _ _ _ _ _ _ _ (F0 m 62 ls [])
            refine lv_aload_n X.1 X.2.1 d_Md_clearAway_62 rfl (lv_at hl 0 rfl) ?_
            refine r_gets (q := 0) X hM rfl hR.1 f_Md_62 rfl (hR.2 17 (by decide)) d_Md_clearAway_63 (fun g33 => ?_)
            refine lv_iload_n X.1 X.2.1 d_Md_clearAway_66 rfl (lv_at hl 1 rfl) ?_
            refine R_iald (k := 36) X hM (by decide) rfl g33 a_m_active (fun _ => rfl) o2.1 o2.2 d_Md_clearAway_67 ?_
            refine lv_if_le (tgt := 82) X.1 X.2.1 d_Md_clearAway_68 (by decide) (fun h34 => ?_) (fun h34 => ?_)
            · skip
              have hk := hk.1 h34
              refine lv_aload_n X.1 X.2.1 d_Md_clearAway_82 rfl (lv_at hl 0 rfl) ?_
              refine lv_iload_n X.1 X.2.1 d_Md_clearAway_83 rfl (lv_at hl 1 rfl) ?_
              have o35 := hk
              refine r_cV (As := [.int a0]) (rest := []) X hml hl.1 hM (k_Md_go l D dA base M ad hR (m_come r (r 35 (a0.toNatClampNeg)) 4) a0 o35) c_Md_146 v_Md_go kc_Md rfl hR.1 rfl (Nat.le_of_ble_eq_true rfl) ⟨rfl, rfl, Nat.le_of_ble_eq_true rfl, Nat.le_of_ble_eq_true rfl⟩ ⟨Nat.le_of_ble_eq_true rfl, Nat.le_of_ble_eq_true rfl⟩ d_Md_clearAway_84 ?_
              intro rv M1 ad1 H locs hP hM hE
              obtain ⟨e1, e2, e3⟩ := hP
              subst rv; subst M1; subst ad1
              show W _ _ _ _ _ _ _ _ _ _ _ _ _ _ _ (F0 m 87 ls [])
              refine lv_iconst (v := 1) X.1 X.2.1 d_Md_clearAway_87 (by decide) ?_
              have heL : (1, (m_go (m_come r (r 35 (a0.toNatClampNeg)) 4) a0)) = F := ((if_neg h3).trans ((if_neg h5).trans ((if_neg h7).trans ((if_pos h23).trans ((if_neg h25).trans ((if_pos h34))))))).symm.trans he
              exact m_zret X hr hlk hM (by first | rfl | decide) d_Md_clearAway_88 ⟨Nat.le_of_ble_eq_true rfl, Nat.le_of_ble_eq_true rfl⟩ ⟨fun _ _ _ => rfl, fun _ => Nat.le_refl _⟩ ⟨congrArg (fun z => some (Value.int z.1)) heL, congrArg (fun z => rs M z.2) heL, rfl⟩
            · skip
              have hk := hk.2 h34
              refine lv_aload_n X.1 X.2.1 d_Md_clearAway_71 rfl (lv_at hl 0 rfl) ?_
              refine lv_aload_n X.1 X.2.1 d_Md_clearAway_72 rfl (lv_at hl 0 rfl) ?_
              refine r_gets (q := 0) X hM rfl hR.1 f_Md_62 rfl (hR.2 17 (by decide)) d_Md_clearAway_73 (fun g36 => ?_)
              refine lv_iload_n X.1 X.2.1 d_Md_clearAway_76 rfl (lv_at hl 1 rfl) ?_
              refine R_iald (k := 36) X hM (by decide) rfl g36 a_m_active (fun _ => rfl) o2.1 o2.2 d_Md_clearAway_77 ?_
              refine lv_iconst (v := 4) X.1 X.2.1 d_Md_clearAway_78 (by decide) ?_
              obtain ⟨o37, hk⟩ := hk
              refine r_cV (As := [.int ((m_come r (r 35 (a0.toNatClampNeg)) 4) 36 (a0.toNatClampNeg)), .int 4]) (rest := []) X hml hl.1 hM (k_Md_come l D dA base M ad hR (m_come r (r 35 (a0.toNatClampNeg)) 4) ((m_come r (r 35 (a0.toNatClampNeg)) 4) 36 (a0.toNatClampNeg)) 4 o37) c_Md_139 v_Md_come kc_Md rfl hR.1 rfl (Nat.le_of_ble_eq_true rfl) ⟨rfl, rfl, Nat.le_of_ble_eq_true rfl, Nat.le_of_ble_eq_true rfl⟩ ⟨Nat.le_of_ble_eq_true rfl, Nat.le_of_ble_eq_true rfl⟩ d_Md_clearAway_79 ?_
              intro rv M1 ad1 H locs hP hM hE
              obtain ⟨e1, e2, e3⟩ := hP
              subst rv; subst M1; subst ad1
              show W _ _ _ _ _ _ _ _ _ _ _ _ _ _ _ (F0 m 82 ls [])
              refine lv_aload_n X.1 X.2.1 d_Md_clearAway_82 rfl (lv_at hl 0 rfl) ?_
              refine lv_iload_n X.1 X.2.1 d_Md_clearAway_83 rfl (lv_at hl 1 rfl) ?_
              have o38 := hk
              refine r_cV (As := [.int a0]) (rest := []) X hml hl.1 hM (k_Md_go l D dA base M ad hR (m_come (m_come r (r 35 (a0.toNatClampNeg)) 4) ((m_come r (r 35 (a0.toNatClampNeg)) 4) 36 (a0.toNatClampNeg)) 4) a0 o38) c_Md_146 v_Md_go kc_Md rfl hR.1 rfl (Nat.le_of_ble_eq_true rfl) ⟨rfl, rfl, Nat.le_of_ble_eq_true rfl, Nat.le_of_ble_eq_true rfl⟩ ⟨Nat.le_of_ble_eq_true rfl, Nat.le_of_ble_eq_true rfl⟩ d_Md_clearAway_84 ?_
              intro rv M1 ad1 H locs hP hM hE
              obtain ⟨e1, e2, e3⟩ := hP
              subst rv; subst M1; subst ad1
              show W _ _ _ _ _ _ _ _ _ _ _ _ _ _ _ (F0 m 87 ls [])
              refine lv_iconst (v := 1) X.1 X.2.1 d_Md_clearAway_87 (by decide) ?_
              have heL : (1, (m_go (m_come (m_come r (r 35 (a0.toNatClampNeg)) 4) ((m_come r (r 35 (a0.toNatClampNeg)) 4) 36 (a0.toNatClampNeg)) 4) a0)) = F := ((if_neg h3).trans ((if_neg h5).trans ((if_neg h7).trans ((if_pos h23).trans ((if_neg h25).trans ((if_neg h34))))))).symm.trans he
              exact m_zret X hr hlk hM (by first | rfl | decide) d_Md_clearAway_88 ⟨Nat.le_of_ble_eq_true rfl, Nat.le_of_ble_eq_true rfl⟩ ⟨fun _ _ _ => rfl, fun _ => Nat.le_refl _⟩ ⟨congrArg (fun z => some (Value.int z.1)) heL, congrArg (fun z => rs M z.2) heL, rfl⟩
        · skip
          have hk := hk.2 h23
          refine lv_iconst (v := 0) X.1 X.2.1 d_Md_clearAway_40 (by decide) ?_
          have heL : (0, r) = F := ((if_neg h3).trans ((if_neg h5).trans ((if_neg h7).trans ((if_neg h23))))).symm.trans he
          exact m_zret X hr hlk hM (by first | rfl | decide) d_Md_clearAway_41 ⟨Nat.le_of_ble_eq_true rfl, Nat.le_of_ble_eq_true rfl⟩ ⟨fun _ _ _ => rfl, fun _ => Nat.le_refl _⟩ ⟨congrArg (fun z => some (Value.int z.1)) heL, congrArg (fun z => rs M z.2) heL, rfl⟩
def m_settle (r : rR) (a0 : Int32) : rR := (if a0 ≤ 0 then r else (if 0 ≤ (m_withActive r a0) then (if ((m_clearAway r (m_withActive r a0)).1) = 0 then (m_activate (m_clearAway r (m_withActive r a0)).2 (m_withActive r a0)) else (m_clearAway r (m_withActive r a0)).2) else r))
def m_settle_ok (r : rR) (a0 : Int32) : Prop := ((a0 ≤ 0) → (True)) ∧ (¬ (a0 ≤ 0) → ((m_withActive_ok r a0) ∧ (((0 ≤ (m_withActive r a0)) → ((m_clearAway_ok r (m_withActive r a0)) ∧ (((((m_clearAway r (m_withActive r a0)).1) = 0) → (m_activate_ok (m_clearAway r (m_withActive r a0)).2 (m_withActive r a0))) ∧ (¬ (((m_clearAway r (m_withActive r a0)).1) = 0) → (True))))) ∧ (¬ (0 ≤ (m_withActive r a0)) → (True)))))
set_option maxHeartbeats 4000000 in
set_option maxRecDepth 100000 in
theorem k_Md_settle (l : Launch) (D : va_G) (dA : Nat → ClassId) (base : Nat) (M : mM) (ad : Nat → Nat → Nat) (hR : wR M) (r : rR) (a0 : Int32) (hk : m_settle_ok r a0) : mMet l y_Md_settle b_Md_settle 4 none ({ frames := 3, cells := 0, slots := 0, locals := 67 } : Room) 0 0 D dA base (rs M r) ad [.ref (ad 18 0), .int a0] (fun rv M' ad' => rv = none ∧ M' = rs M (m_settle r a0) ∧ ad' = ad) := by
  refine m_start (lvs := [(0, .ref (ad 18 0)), (1, .int a0)]) (by decide) (Nat.le_of_ble_eq_true rfl) rfl ?_
  intro p e s m below meth c ls X hr hlk hin hml hM hl
  generalize he : m_settle r a0 = F
  refine lv_iload_n X.1 X.2.1 d_Md_settle_0 rfl (lv_at hl 1 rfl) ?_
  refine lv_if_le (tgt := 12) X.1 X.2.1 d_Md_settle_1 (by decide) (fun h1 => ?_) (fun h1 => ?_)
  · skip
    have hk := hk.1 h1
    refine lv_iconst (v := (-1)) X.1 X.2.1 d_Md_settle_12 (by decide) ?_
    refine lv_istore_n (lv' := [(2, .int (-1)), (0, .ref (ad 18 0)), (1, .int a0)]) X.1 X.2.1 d_Md_settle_13 rfl hl (by decide) rfl (fun ls hl => ?_)
    refine lv_iload_n X.1 X.2.1 d_Md_settle_14 rfl (lv_at hl 0 rfl) ?_
    refine lv_if_ge (tgt := 19) X.1 X.2.1 d_Md_settle_15 (by decide) (fun h2 => absurd h2 (by decide)) (fun h2 => ?_)
    have heL : r = F := ((if_pos h1)).symm.trans he
    exact m_vret X hr hlk hM d_Md_settle_18 ⟨Nat.le_of_ble_eq_true rfl, Nat.le_of_ble_eq_true rfl⟩ ⟨fun _ _ _ => rfl, fun _ => Nat.le_refl _⟩ ⟨rfl, congrArg (rs M) heL, rfl⟩
  · skip
    have hk := hk.2 h1
    refine lv_aload_n X.1 X.2.1 d_Md_settle_4 rfl (lv_at hl 0 rfl) ?_
    refine lv_iload_n X.1 X.2.1 d_Md_settle_5 rfl (lv_at hl 1 rfl) ?_
    obtain ⟨o3, hk⟩ := hk
    refine r_cV (As := [.int a0]) (rest := []) X hml hl.1 hM (k_Md_withActive l D dA base M ad hR r a0 o3) c_Md_149 v_Md_withActive kc_Md rfl hR.1 rfl (Nat.le_of_ble_eq_true rfl) ⟨rfl, rfl, Nat.le_of_ble_eq_true rfl, Nat.le_of_ble_eq_true rfl⟩ ⟨Nat.le_of_ble_eq_true rfl, Nat.le_of_ble_eq_true rfl⟩ d_Md_settle_6 ?_
    intro rv M1 ad1 H locs hP hM hE
    obtain ⟨e1, e2, e3⟩ := hP
    subst rv; subst M1; subst ad1
    show W _ _ _ _ _ _ _ _ _ _ _ _ _ _ _ (F0 m 9 ls [.int (m_withActive r a0)])
    refine lv_goto (tgt := 13) X.1 X.2.1 d_Md_settle_9 (by decide) ?_
    refine lv_istore_n (lv' := [(2, .int (m_withActive r a0)), (0, .ref (ad 18 0)), (1, .int a0)]) X.1 X.2.1 d_Md_settle_13 rfl hl (by decide) rfl (fun ls hl => ?_)
    refine lv_iload_n X.1 X.2.1 d_Md_settle_14 rfl (lv_at hl 0 rfl) ?_
    refine lv_if_ge (tgt := 19) X.1 X.2.1 d_Md_settle_15 (by decide) (fun h4 => ?_) (fun h4 => ?_)
    · skip
      have hk := hk.1 h4
      refine lv_aload_n X.1 X.2.1 d_Md_settle_19 rfl (lv_at hl 1 rfl) ?_
      refine lv_iload_n X.1 X.2.1 d_Md_settle_20 rfl (lv_at hl 0 rfl) ?_
      obtain ⟨o5, hk⟩ := hk
      refine r_cV (As := [.int (m_withActive r a0)]) (rest := []) X hml hl.1 hM (k_Md_clearAway l D dA base M ad hR r (m_withActive r a0) o5) c_Md_152 v_Md_clearAway kc_Md rfl hR.1 rfl (Nat.le_of_ble_eq_true rfl) ⟨rfl, rfl, Nat.le_of_ble_eq_true rfl, Nat.le_of_ble_eq_true rfl⟩ ⟨Nat.le_of_ble_eq_true rfl, Nat.le_of_ble_eq_true rfl⟩ d_Md_settle_21 ?_
      intro rv M1 ad1 H locs hP hM hE
      obtain ⟨e1, e2, e3⟩ := hP
      subst rv; subst M1; subst ad1
      show W _ _ _ _ _ _ _ _ _ _ _ _ _ _ _ (F0 m 24 ls [.int ((m_clearAway r (m_withActive r a0)).1)])
      refine lv_istore_n (lv' := [(3, .int ((m_clearAway r (m_withActive r a0)).1)), (2, .int (m_withActive r a0)), (0, .ref (ad 18 0)), (1, .int a0)]) X.1 X.2.1 d_Md_settle_24 rfl hl (by decide) rfl (fun ls hl => ?_)
      refine lv_iload_n X.1 X.2.1 d_Md_settle_25 rfl (lv_at hl 0 rfl) ?_
      refine lv_if_ne (tgt := 34) X.1 X.2.1 d_Md_settle_26 (by decide) (fun h6 => ?_) (fun h6 => ?_)
      · skip
        have hk := hk.2 h6
        have heL : (m_clearAway r (m_withActive r a0)).2 = F := ((if_neg h1).trans ((if_pos h4).trans ((if_neg h6)))).symm.trans he
        exact m_vret X hr hlk hM d_Md_settle_34 ⟨Nat.le_of_ble_eq_true rfl, Nat.le_of_ble_eq_true rfl⟩ ⟨fun _ _ _ => rfl, fun _ => Nat.le_refl _⟩ ⟨rfl, congrArg (rs M) heL, rfl⟩
      · skip
        have hk := hk.1 h6
        refine lv_aload_n X.1 X.2.1 d_Md_settle_29 rfl (lv_at hl 2 rfl) ?_
        refine lv_iload_n X.1 X.2.1 d_Md_settle_30 rfl (lv_at hl 1 rfl) ?_
        have o7 := hk
        refine r_cV (As := [.int (m_withActive r a0)]) (rest := []) X hml hl.1 hM (k_Md_activate l D dA base M ad hR (m_clearAway r (m_withActive r a0)).2 (m_withActive r a0) o7) c_Md_155 v_Md_activate kc_Md rfl hR.1 rfl (Nat.le_of_ble_eq_true rfl) ⟨rfl, rfl, Nat.le_of_ble_eq_true rfl, Nat.le_of_ble_eq_true rfl⟩ ⟨Nat.le_of_ble_eq_true rfl, Nat.le_of_ble_eq_true rfl⟩ d_Md_settle_31 ?_
        intro rv M1 ad1 H locs hP hM hE
        obtain ⟨e1, e2, e3⟩ := hP
        subst rv; subst M1; subst ad1
        show W _ _ _ _ _ _ _ _ _ _ _ _ _ _ _ (F0 m 34 ls [])
        have heL : (m_activate (m_clearAway r (m_withActive r a0)).2 (m_withActive r a0)) = F := ((if_neg h1).trans ((if_pos h4).trans ((if_pos h6)))).symm.trans he
        exact m_vret X hr hlk hM d_Md_settle_34 ⟨Nat.le_of_ble_eq_true rfl, Nat.le_of_ble_eq_true rfl⟩ ⟨fun _ _ _ => rfl, fun _ => Nat.le_refl _⟩ ⟨rfl, congrArg (rs M) heL, rfl⟩
    · skip
      have hk := hk.2 h4
      have heL : r = F := ((if_neg h1).trans ((if_neg h4))).symm.trans he
      exact m_vret X hr hlk hM d_Md_settle_18 ⟨Nat.le_of_ble_eq_true rfl, Nat.le_of_ble_eq_true rfl⟩ ⟨fun _ _ _ => rfl, fun _ => Nat.le_refl _⟩ ⟨rfl, congrArg (rs M) heL, rfl⟩
