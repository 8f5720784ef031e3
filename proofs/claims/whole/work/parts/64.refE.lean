def m_register (r : rR) (a0 : Int32) : rR := (if (m_begins (r 20 ((r 44 (a0.toNatClampNeg)).toNatClampNeg)) (r 43 (a0.toNatClampNeg))) = 0 then (m_finish r a0 (-1)) else (if (r 18 35) = 0 then (if 0 ≤ (m_find r (r 43 (a0.toNatClampNeg))) then (if (r 18 30) = 40 then (m_finish r a0 (-5)) else (if (m_find r (r 43 (a0.toNatClampNeg))) < 0 then (m_install (ru (ru r 37 ((m_find r (r 43 (a0.toNatClampNeg))).toNatClampNeg) 0) 33 ((m_find r (r 43 (a0.toNatClampNeg))).toNatClampNeg) (r 44 (a0.toNatClampNeg))) (m_find r (r 43 (a0.toNatClampNeg))) (r 44 (a0.toNatClampNeg))) else (if (m_isSame r (m_find r (r 43 (a0.toNatClampNeg))) (r 44 (a0.toNatClampNeg))) = 0 then (m_install (ru (ru r 37 ((m_find r (r 43 (a0.toNatClampNeg))).toNatClampNeg) 0) 33 ((m_find r (r 43 (a0.toNatClampNeg))).toNatClampNeg) (r 44 (a0.toNatClampNeg))) (m_find r (r 43 (a0.toNatClampNeg))) (r 44 (a0.toNatClampNeg))) else (m_finish (ru r 37 ((m_find r (r 43 (a0.toNatClampNeg))).toNatClampNeg) 0) a0 2)))) else (if (r 18 29) = 5 then (m_finish r a0 (-5)) else (if (r 18 30) = 40 then (m_finish r a0 (-5)) else (if (m_find r (r 43 (a0.toNatClampNeg))) < 0 then (m_install (ru (ru (ru (ru (ru (ru (ru r 18 29 ((r 18 29) + 1)) 32 ((r 18 29).toNatClampNeg) (r 43 (a0.toNatClampNeg))) 34 ((r 18 29).toNatClampNeg) 0) 35 ((r 18 29).toNatClampNeg) 0) 36 ((r 18 29).toNatClampNeg) 0) 37 ((r 18 29).toNatClampNeg) 0) 33 ((r 18 29).toNatClampNeg) (r 44 (a0.toNatClampNeg))) (r 18 29) (r 44 (a0.toNatClampNeg))) else (if (m_isSame r (m_find r (r 43 (a0.toNatClampNeg))) (r 44 (a0.toNatClampNeg))) = 0 then (m_install (ru (ru (ru (ru (ru (ru (ru r 18 29 ((r 18 29) + 1)) 32 ((r 18 29).toNatClampNeg) (r 43 (a0.toNatClampNeg))) 34 ((r 18 29).toNatClampNeg) 0) 35 ((r 18 29).toNatClampNeg) 0) 36 ((r 18 29).toNatClampNeg) 0) 37 ((r 18 29).toNatClampNeg) 0) 33 ((r 18 29).toNatClampNeg) (r 44 (a0.toNatClampNeg))) (r 18 29) (r 44 (a0.toNatClampNeg))) else (m_finish (ru r 37 ((m_find r (r 43 (a0.toNatClampNeg))).toNatClampNeg) 0) a0 2)))))) else (m_finish r a0 (-4))))
def m_register_ok (r : rR) (a0 : Int32) : Prop := (ixk a0 60) ∧ ((m_find_ok r (r 43 (a0.toNatClampNeg))) ∧ ((ixk (r 44 (a0.toNatClampNeg)) 4) ∧ ((m_begins_ok (r 20 ((r 44 (a0.toNatClampNeg)).toNatClampNeg)) (r 43 (a0.toNatClampNeg))) ∧ ((((m_begins (r 20 ((r 44 (a0.toNatClampNeg)).toNatClampNeg)) (r 43 (a0.toNatClampNeg))) = 0) → (m_finish_ok r a0 (-1))) ∧ (¬ ((m_begins (r 20 ((r 44 (a0.toNatClampNeg)).toNatClampNeg)) (r 43 (a0.toNatClampNeg))) = 0) → ((((r 18 35) = 0) → (((0 ≤ (m_find r (r 43 (a0.toNatClampNeg)))) → ((((r 18 30) = 40) → (m_finish_ok r a0 (-5))) ∧ (¬ ((r 18 30) = 40) → ((((m_find r (r 43 (a0.toNatClampNeg))) < 0) → ((ixk (m_find r (r 43 (a0.toNatClampNeg))) 6) ∧ (m_install_ok (ru (ru r 37 ((m_find r (r 43 (a0.toNatClampNeg))).toNatClampNeg) 0) 33 ((m_find r (r 43 (a0.toNatClampNeg))).toNatClampNeg) (r 44 (a0.toNatClampNeg))) (m_find r (r 43 (a0.toNatClampNeg))) (r 44 (a0.toNatClampNeg))))) ∧ (¬ ((m_find r (r 43 (a0.toNatClampNeg))) < 0) → ((m_isSame_ok r (m_find r (r 43 (a0.toNatClampNeg))) (r 44 (a0.toNatClampNeg))) ∧ ((((m_isSame r (m_find r (r 43 (a0.toNatClampNeg))) (r 44 (a0.toNatClampNeg))) = 0) → ((ixk (m_find r (r 43 (a0.toNatClampNeg))) 6) ∧ (m_install_ok (ru (ru r 37 ((m_find r (r 43 (a0.toNatClampNeg))).toNatClampNeg) 0) 33 ((m_find r (r 43 (a0.toNatClampNeg))).toNatClampNeg) (r 44 (a0.toNatClampNeg))) (m_find r (r 43 (a0.toNatClampNeg))) (r 44 (a0.toNatClampNeg))))) ∧ (¬ ((m_isSame r (m_find r (r 43 (a0.toNatClampNeg))) (r 44 (a0.toNatClampNeg))) = 0) → ((ixk (m_find r (r 43 (a0.toNatClampNeg))) 6) ∧ (m_finish_ok (ru r 37 ((m_find r (r 43 (a0.toNatClampNeg))).toNatClampNeg) 0) a0 2)))))))))) ∧ (¬ (0 ≤ (m_find r (r 43 (a0.toNatClampNeg)))) → ((((r 18 29) = 5) → (m_finish_ok r a0 (-5))) ∧ (¬ ((r 18 29) = 5) → ((((r 18 30) = 40) → (m_finish_ok r a0 (-5))) ∧ (¬ ((r 18 30) = 40) → ((((m_find r (r 43 (a0.toNatClampNeg))) < 0) → ((ixk (r 18 29) 6) ∧ (m_install_ok (ru (ru (ru (ru (ru (ru (ru r 18 29 ((r 18 29) + 1)) 32 ((r 18 29).toNatClampNeg) (r 43 (a0.toNatClampNeg))) 34 ((r 18 29).toNatClampNeg) 0) 35 ((r 18 29).toNatClampNeg) 0) 36 ((r 18 29).toNatClampNeg) 0) 37 ((r 18 29).toNatClampNeg) 0) 33 ((r 18 29).toNatClampNeg) (r 44 (a0.toNatClampNeg))) (r 18 29) (r 44 (a0.toNatClampNeg))))) ∧ (¬ ((m_find r (r 43 (a0.toNatClampNeg))) < 0) → ((m_isSame_ok r (m_find r (r 43 (a0.toNatClampNeg))) (r 44 (a0.toNatClampNeg))) ∧ ((((m_isSame r (m_find r (r 43 (a0.toNatClampNeg))) (r 44 (a0.toNatClampNeg))) = 0) → ((ixk (r 18 29) 6) ∧ (m_install_ok (ru (ru (ru (ru (ru (ru (ru r 18 29 ((r 18 29) + 1)) 32 ((r 18 29).toNatClampNeg) (r 43 (a0.toNatClampNeg))) 34 ((r 18 29).toNatClampNeg) 0) 35 ((r 18 29).toNatClampNeg) 0) 36 ((r 18 29).toNatClampNeg) 0) 37 ((r 18 29).toNatClampNeg) 0) 33 ((r 18 29).toNatClampNeg) (r 44 (a0.toNatClampNeg))) (r 18 29) (r 44 (a0.toNatClampNeg))))) ∧ (¬ ((m_isSame r (m_find r (r 43 (a0.toNatClampNeg))) (r 44 (a0.toNatClampNeg))) = 0) → ((ixk (m_find r (r 43 (a0.toNatClampNeg))) 6) ∧ (m_finish_ok (ru r 37 ((m_find r (r 43 (a0.toNatClampNeg))).toNatClampNeg) 0) a0 2)))))))))))))) ∧ (¬ ((r 18 35) = 0) → (m_finish_ok r a0 (-4)))))))))
set_option maxHeartbeats 4000000 in
set_option maxRecDepth 100000 in
theorem k_Md_register (l : Launch) (D : va_G) (dA : Nat → ClassId) (base : Nat) (M : mM) (ad : Nat → Nat → Nat) (hR : wR M) (r : rR) (a0 : Int32) (hk : m_register_ok r a0) : mMet l y_Md_register b_Md_register 4 none ({ frames := 3, cells := 0, slots := 0, locals := 66 } : Room) 0 0 D dA base (rs M r) ad [.ref (ad 18 0), .int a0] (fun rv M' ad' => rv = none ∧ M' = rs M (m_register r a0) ∧ ad' = ad) := by
  refine m_start (lvs := [(0, .ref (ad 18 0)), (1, .int a0)]) (by decide) (Nat.le_of_ble_eq_true rfl) rfl ?_
  intro p e s m below meth c ls X hr hlk hin hml hM hl
  generalize he : m_register r a0 = F
  refine lv_aload_n X.1 X.2.1 d_Md_register_0 rfl (lv_at hl 0 rfl) ?_
  refine r_gets (q := 0) X hM rfl hR.1 f_Md_86 rfl (hR.2 25 (by decide)) d_Md_register_1 (fun g1 => ?_)
  refine lv_iload_n X.1 X.2.1 d_Md_register_4 rfl (lv_at hl 1 rfl) ?_
  obtain ⟨o2, hk⟩ := hk
  refine R_iald (k := 44) X hM (by decide) rfl g1 a_m_jobScript (fun _ => rfl) o2.1 o2.2 d_Md_register_5 ?_
  refine lv_istore_n (lv' := [(2, .int (r 44 (a0.toNatClampNeg))), (0, .ref (ad 18 0)), (1, .int a0)]) X.1 X.2.1 d_Md_register_6 rfl hl (by decide) rfl (fun ls hl => ?_)
  refine lv_aload_n X.1 X.2.1 d_Md_register_7 rfl (lv_at hl 1 rfl) ?_
  refine lv_aload_n X.1 X.2.1 d_Md_register_8 rfl (lv_at hl 1 rfl) ?_
  refine r_gets (q := 0) X hM rfl hR.1 f_Md_83 rfl (hR.2 24 (by decide)) d_Md_register_9 (fun g3 => ?_)
  refine lv_iload_n X.1 X.2.1 d_Md_register_12 rfl (lv_at hl 2 rfl) ?_
  refine R_iald (k := 43) X hM (by decide) rfl g3 a_m_jobScope (fun _ => rfl) o2.1 o2.2 d_Md_register_13 ?_
  obtain ⟨o4, hk⟩ := hk
  refine r_cV (As := [.int (r 43 (a0.toNatClampNeg))]) (rest := []) X hml hl.1 hM (k_Md_find l D dA base M ad hR r (r 43 (a0.toNatClampNeg)) o4) c_Md_167 v_Md_find kc_Md rfl hR.1 rfl (Nat.le_of_ble_eq_true rfl) ⟨rfl, rfl, Nat.le_of_ble_eq_true rfl, Nat.le_of_ble_eq_true rfl⟩ ⟨Nat.le_of_ble_eq_true rfl, Nat.le_of_ble_eq_true rfl⟩ d_Md_register_14 ?_
  intro rv M1 ad1 H locs hP hM hE
  obtain ⟨e1, e2, e3⟩ := hP
  subst rv; subst M1; subst ad1
  show W _ _ _ _ _ _ _ _ _ _ _ _ _ _ _ (F0 m 17 ls [.int (m_find r (r 43 (a0.toNatClampNeg)))])
  refine lv_istore_n (lv' := [(3, .int (m_find r (r 43 (a0.toNatClampNeg)))), (2, .int (r 44 (a0.toNatClampNeg))), (0, .ref (ad 18 0)), (1, .int a0)]) X.1 X.2.1 d_Md_register_17 rfl hl (by decide) rfl (fun ls hl => ?_)
  refine lv_aload_n X.1 X.2.1 d_Md_register_18 rfl (lv_at hl 2 rfl) ?_
  refine r_gets (q := 0) X hM rfl hR.1 f_Md_13 rfl (hR.2 1 (by decide)) d_Md_register_19 (fun g5 => ?_)
  refine lv_iload_n X.1 X.2.1 d_Md_register_22 rfl (lv_at hl 1 rfl) ?_
  obtain ⟨o6, hk⟩ := hk
  refine R_iald (k := 20) X hM (by decide) rfl g5 a_m_broad (fun _ => rfl) o6.1 o6.2 d_Md_register_23 ?_
  refine lv_aload_n X.1 X.2.1 d_Md_register_24 rfl (lv_at hl 2 rfl) ?_
  refine r_gets (q := 0) X hM rfl hR.1 f_Md_83 rfl (hR.2 24 (by decide)) d_Md_register_25 (fun g7 => ?_)
  refine lv_iload_n X.1 X.2.1 d_Md_register_28 rfl (lv_at hl 3 rfl) ?_
  refine R_iald (k := 43) X hM (by decide) rfl g7 a_m_jobScope (fun _ => rfl) o2.1 o2.2 d_Md_register_29 ?_
  obtain ⟨o8, hk⟩ := hk
  refine r_cS (As := [.int (r 20 ((r 44 (a0.toNatClampNeg)).toNatClampNeg)), .int (r 43 (a0.toNatClampNeg))]) (rest := []) X hml hl.1 hM (k_Md_begins l D dA base (rs M r) ad (r 20 ((r 44 (a0.toNatClampNeg)).toNatClampNeg)) (r 43 (a0.toNatClampNeg)) o8) c_Md_132 v_Md_begins rfl (Nat.le_of_ble_eq_true rfl) ⟨rfl, rfl, Nat.le_of_ble_eq_true rfl, Nat.le_of_ble_eq_true rfl⟩ ⟨Nat.le_of_ble_eq_true rfl, Nat.le_of_ble_eq_true rfl⟩ d_Md_register_30 ?_
  intro rv M1 ad1 H locs hP hM hE
  obtain ⟨e1, e2, e3⟩ := hP
  subst rv; subst M1; subst ad1
  show W _ _ _ _ _ _ _ _ _ _ _ _ _ _ _ (F0 m 33 ls [.int (m_begins (r 20 ((r 44 (a0.toNatClampNeg)).toNatClampNeg)) (r 43 (a0.toNatClampNeg)))])
  refine lv_if_ne (tgt := 45) X.1 X.2.1 d_Md_register_33 (by decide) (fun h9 => ?_) (fun h9 => ?_)
  · skip
    have hk := hk.2 h9
    refine lv_aload_n X.1 X.2.1 d_Md_register_45 rfl (lv_at hl 2 rfl) ?_
    refine R_geti (k := 18) X hM (by decide) rfl hR.1 f_Md_122 rfl d_Md_register_46 ?_
    refine lv_if_eq (tgt := 62) X.1 X.2.1 d_Md_register_49 (by decide) (fun h10 => ?_) (fun h10 => ?_)
    · skip
      have hk := hk.1 h10
      refine lv_iload_n X.1 X.2.1 d_Md_register_62 rfl (lv_at hl 0 rfl) ?_
      refine lv_if_ge (tgt := 74) X.1 X.2.1 d_Md_register_63 (by decide) (fun h11 => ?_) (fun h11 => ?_)
      · skip
        have hk := hk.1 h11
        refine lv_aload_n X.1 X.2.1 d_Md_register_74 rfl (lv_at hl 2 rfl) ?_
        refine R_geti (k := 18) X hM (by decide) rfl hR.1 f_Md_164 rfl d_Md_register_75 ?_
        refine lv_bipush (v := 40) X.1 X.2.1 d_Md_register_78 (by decide) ?_
        refine lv_icmp_ne (tgt := 93) X.1 X.2.1 d_Md_register_80 (by decide) (fun h12 => ?_) (fun h12 => ?_)
        · skip
          have hk := hk.2 h12
          refine lv_iload_n X.1 X.2.1 d_Md_register_93 rfl (lv_at hl 0 rfl) ?_
          refine lv_if_lt (tgt := 122) X.1 X.2.1 d_Md_register_94 (by decide) (fun h13 => ?_) (fun h13 => ?_)
          · skip
            have hk := hk.1 h13
            refine lv_iload_n X.1 X.2.1 d_Md_register_122 rfl (lv_at hl 0 rfl) ?_
            refine lv_if_ge (tgt := 174) X.1 X.2.1 d_Md_register_123 (by decide) (fun h14 => ?_) (fun h14 => absurd h11 h14)
            refine lv_aload_n X.1 X.2.1 d_Md_register_174 rfl (lv_at hl 2 rfl) ?_
            refine r_gets (q := 0) X hM rfl hR.1 f_Md_65 rfl (hR.2 18 (by decide)) d_Md_register_175 (fun g15 => ?_)
            refine lv_iload_n X.1 X.2.1 d_Md_register_178 rfl (lv_at hl 0 rfl) ?_
            refine lv_iconst (v := 0) X.1 X.2.1 d_Md_register_179 (by decide) ?_
            obtain ⟨o16, hk⟩ := hk
            refine R_zast (k := 37) X hM (by decide) rfl g15 a_m_leaving (fun _ => rfl) o16.1 o16.2 rfl d_Md_register_180 (fun H locs hM => ?_)
            refine lv_aload_n X.1 X.2.1 d_Md_register_181 rfl (lv_at hl 2 rfl) ?_
            refine r_gets (q := 0) X hM rfl hR.1 f_Md_53 rfl (hR.2 14 (by decide)) d_Md_register_182 (fun g17 => ?_)
            refine lv_iload_n X.1 X.2.1 d_Md_register_185 rfl (lv_at hl 0 rfl) ?_
            refine lv_iload_n X.1 X.2.1 d_Md_register_186 rfl (lv_at hl 1 rfl) ?_
            refine R_iast (k := 33) X hM (by decide) rfl g17 a_m_script (fun _ => rfl) o16.1 o16.2 d_Md_register_187 (fun H locs hM => ?_)
            refine lv_aload_n X.1 X.2.1 d_Md_register_188 rfl (lv_at hl 2 rfl) ?_
            refine lv_iload_n X.1 X.2.1 d_Md_register_189 rfl (lv_at hl 0 rfl) ?_
            refine lv_iload_n X.1 X.2.1 d_Md_register_190 rfl (lv_at hl 1 rfl) ?_
            have o18 := hk
            refine r_cV (As := [.int (m_find r (r 43 (a0.toNatClampNeg))), .int (r 44 (a0.toNatClampNeg))]) (rest := []) X hml hl.1 hM (k_Md_install l D dA base M ad hR (ru (ru r 37 ((m_find r (r 43 (a0.toNatClampNeg))).toNatClampNeg) 0) 33 ((m_find r (r 43 (a0.toNatClampNeg))).toNatClampNeg) (r 44 (a0.toNatClampNeg))) (m_find r (r 43 (a0.toNatClampNeg))) (r 44 (a0.toNatClampNeg)) o18) c_Md_176 v_Md_install kc_Md rfl hR.1 rfl (Nat.le_of_ble_eq_true rfl) ⟨rfl, rfl, Nat.le_of_ble_eq_true rfl, Nat.le_of_ble_eq_true rfl⟩ ⟨Nat.le_of_ble_eq_true rfl, Nat.le_of_ble_eq_true rfl⟩ d_Md_register_191 ?_
            intro rv M1 ad1 H locs hP hM hE
            obtain ⟨e1, e2, e3⟩ := hP
            subst rv; subst M1; subst ad1
            show W _ _ _ _ _ _ _ _ _ _ _ _ _ _ _ (F0 m 194 ls [])
            have heL : (m_install (ru (ru r 37 ((m_find r (r 43 (a0.toNatClampNeg))).toNatClampNeg) 0) 33 ((m_find r (r 43 (a0.toNatClampNeg))).toNatClampNeg) (r 44 (a0.toNatClampNeg))) (m_find r (r 43 (a0.toNatClampNeg))) (r 44 (a0.toNatClampNeg))) = F := ((if_neg h9).trans ((if_pos h10).trans ((if_pos h11).trans ((if_neg h12).trans ((if_pos h13)))))).symm.trans he
            exact m_vret X hr hlk hM d_Md_register_194 ⟨Nat.le_of_ble_eq_true rfl, Nat.le_of_ble_eq_true rfl⟩ ⟨fun _ _ _ => rfl, fun _ => Nat.le_refl _⟩ ⟨rfl, congrArg (rs M) heL, rfl⟩
          · skip
            have hk := hk.2 h13
            refine lv_aload_n X.1 X.2.1 d_Md_register_97 rfl (lv_at hl 2 rfl) ?_
            refine lv_iload_n X.1 X.2.1 d_Md_register_98 rfl (lv_at hl 0 rfl) ?_
            refine lv_iload_n X.1 X.2.1 d_Md_register_99 rfl (lv_at hl 1 rfl) ?_
            obtain ⟨o19, hk⟩ := hk
            refine r_cV (As := [.int (m_find r (r 43 (a0.toNatClampNeg))), .int (r 44 (a0.toNatClampNeg))]) (rest := []) X hml hl.1 hM (k_Md_isSame l D dA base M ad hR r (m_find r (r 43 (a0.toNatClampNeg))) (r 44 (a0.toNatClampNeg)) o19) c_Md_173 v_Md_isSame kc_Md rfl hR.1 rfl (Nat.le_of_ble_eq_true rfl) ⟨rfl, rfl, Nat.le_of_ble_eq_true rfl, Nat.le_of_ble_eq_true rfl⟩ ⟨Nat.le_of_ble_eq_true rfl, Nat.le_of_ble_eq_true rfl⟩ d_Md_register_100 ?_
            intro rv M1 ad1 H locs hP hM hE
            obtain ⟨e1, e2, e3⟩ := hP
            subst rv; subst M1; subst ad1
            show W _ _ _ _ _ _ _ _ _ _ _ _ _ _ _ (F0 m 103 ls [.int (m_isSame r (m_find r (r 43 (a0.toNatClampNeg))) (r 44 (a0.toNatClampNeg)))])
            refine lv_if_eq (tgt := 122) X.1 X.2.1 d_Md_register_103 (by decide) (fun h20 => ?_) (fun h20 => ?_)
            · skip
              have hk := hk.1 h20
              refine lv_iload_n X.1 X.2.1 d_Md_register_122 rfl (lv_at hl 0 rfl) ?_
              refine lv_if_ge (tgt := 174) X.1 X.2.1 d_Md_register_123 (by decide) (fun h21 => ?_) (fun h21 => absurd h11 h21)
              refine lv_aload_n X.1 X.2.1 d_Md_register_174 rfl (lv_at hl 2 rfl) ?_
              refine r_gets (q := 0) X hM rfl hR.1 f_Md_65 rfl (hR.2 18 (by decide)) d_Md_register_175 (fun g22 => ?_)
              refine lv_iload_n X.1 X.2.1 d_Md_register_178 rfl (lv_at hl 0 rfl) ?_
              refine lv_iconst (v := 0) X.1 X.2.1 d_Md_register_179 (by decide) ?_
              obtain ⟨o23, hk⟩ := hk
              refine R_zast (k := 37) X hM (by decide) rfl g22 a_m_leaving (fun _ => rfl) o23.1 o23.2 rfl d_Md_register_180 (fun H locs hM => ?_)
              refine lv_aload_n X.1 X.2.1 d_Md_register_181 rfl (lv_at hl 2 rfl) ?_
              refine r_gets (q := 0) X hM rfl hR.1 f_Md_53 rfl (hR.2 14 (by decide)) d_Md_register_182 (fun g24 => ?_)
              refine lv_iload_n X.1 X.2.1 d_Md_register_185 rfl (lv_at hl 0 rfl) ?_
              refine lv_iload_n X.1 X.2.1 d_Md_register_186 rfl (lv_at hl 1 rfl) ?_
              refine R_iast (k := 33) X hM (by decide) rfl g24 a_m_script (fun _ => rfl) o23.1 o23.2 d_Md_register_187 (fun H locs hM => ?_)
              refine lv_aload_n X.1 X.2.1 d_Md_register_188 rfl (lv_at hl 2 rfl) ?_
              refine lv_iload_n X.1 X.2.1 d_Md_register_189 rfl (lv_at hl 0 rfl) ?_
              refine lv_iload_n X.1 X.2.1 d_Md_register_190 rfl (lv_at hl 1 rfl) ?_
              have o25 := hk
              refine r_cV (As := [.int (m_find r (r 43 (a0.toNatClampNeg))), .int (r 44 (a0.toNatClampNeg))]) (rest := []) X hml hl.1 hM (k_Md_install l D dA base M ad hR (ru (ru r 37 ((m_find r (r 43 (a0.toNatClampNeg))).toNatClampNeg) 0) 33 ((m_find r (r 43 (a0.toNatClampNeg))).toNatClampNeg) (r 44 (a0.toNatClampNeg))) (m_find r (r 43 (a0.toNatClampNeg))) (r 44 (a0.toNatClampNeg)) o25) c_Md_176 v_Md_install kc_Md rfl hR.1 rfl (Nat.le_of_ble_eq_true rfl) ⟨rfl, rfl, Nat.le_of_ble_eq_true rfl, Nat.le_of_ble_eq_true rfl⟩ ⟨Nat.le_of_ble_eq_true rfl, Nat.le_of_ble_eq_true rfl⟩ d_Md_register_191 ?_
              intro rv M1 ad1 H locs hP hM hE
              obtain ⟨e1, e2, e3⟩ := hP
              subst rv; subst M1; subst ad1
              show W _ _ _ _ _ _ _ _ _ _ _ _ _ _ _ (F0 m 194 ls [])
              have heL : (m_install (ru (ru r 37 ((m_find r (r 43 (a0.toNatClampNeg))).toNatClampNeg) 0) 33 ((m_find r (r 43 (a0.toNatClampNeg))).toNatClampNeg) (r 44 (a0.toNatClampNeg))) (m_find r (r 43 (a0.toNatClampNeg))) (r 44 (a0.toNatClampNeg))) = F := ((if_neg h9).trans ((if_pos h10).trans ((if_pos h11).trans ((if_neg h12).trans ((if_neg h13).trans ((if_pos h20))))))).symm.trans he
              exact m_vret X hr hlk hM d_Md_register_194 ⟨Nat.le_of_ble_eq_true rfl, Nat.le_of_ble_eq_true rfl⟩ ⟨fun _ _ _ => rfl, fun _ => Nat.le_refl _⟩ ⟨rfl, congrArg (rs M) heL, rfl⟩
            · skip
              have hk := hk.2 h20
              refine lv_aload_n X.1 X.2.1 d_Md_register_106 rfl (lv_at hl 2 rfl) ?_
              refine r_gets (q := 0) X hM rfl hR.1 f_Md_65 rfl (hR.2 18 (by decide)) d_Md_register_107 (fun g26 => ?_)
              refine lv_iload_n X.1 X.2.1 d_Md_register_110 rfl (lv_at hl 0 rfl) ?_
              refine lv_iconst (v := 0) X.1 X.2.1 d_Md_register_111 (by decide) ?_
              obtain ⟨o27, hk⟩ := hk
              refine R_zast (k := 37) X hM (by decide) rfl g26 a_m_leaving (fun _ => rfl) o27.1 o27.2 rfl d_Md_register_112 (fun H locs hM => ?_)
              refine lv_aload_n X.1 X.2.1 d_Md_register_113 rfl (lv_at hl 2 rfl) ?_
              refine lv_iload_n X.1 X.2.1 d_Md_register_114 rfl (lv_at hl 3 rfl) ?_
              refine lv_iconst (v := 2) X.1 X.2.1 d_Md_register_115 (by decide) ?_
              have o28 := hk
              refine r_cV (As := [.int a0, .int 2]) (rest := []) X hml hl.1 hM (k_Md_finish l D dA base M ad hR (ru r 37 ((m_find r (r 43 (a0.toNatClampNeg))).toNatClampNeg) 0) a0 2 o28) c_Md_170 v_Md_finish kc_Md rfl hR.1 rfl (Nat.le_of_ble_eq_true rfl) ⟨rfl, rfl, Nat.le_of_ble_eq_true rfl, Nat.le_of_ble_eq_true rfl⟩ ⟨Nat.le_of_ble_eq_true rfl, Nat.le_of_ble_eq_true rfl⟩ d_Md_register_116 ?_
              intro rv M1 ad1 H locs hP hM hE
              obtain ⟨e1, e2, e3⟩ := hP
              subst rv; subst M1; subst ad1
              show W _ _ _ _ _ _ _ _ _ _ _ _ _ _ _ (F0 m 119 ls [])
              refine lv_goto (tgt := 194) X.1 X.2.1 d_Md_register_119 (by decide) ?_
              have heL : (m_finish (ru r 37 ((m_find r (r 43 (a0.toNatClampNeg))).toNatClampNeg) 0) a0 2) = F := ((if_neg h9).trans ((if_pos h10).trans ((if_pos h11).trans ((if_neg h12).trans ((if_neg h13).trans ((if_neg h20))))))).symm.trans he
              exact m_vret X hr hlk hM d_Md_register_194 ⟨Nat.le_of_ble_eq_true rfl, Nat.le_of_ble_eq_true rfl⟩ ⟨fun _ _ _ => rfl, fun _ => Nat.le_refl _⟩ ⟨rfl, congrArg (rs M) heL, rfl⟩
        · skip
          have hk := hk.1 h12
          refine lv_aload_n X.1 X.2.1 d_Md_register_83 rfl (lv_at hl 2 rfl) ?_
          refine lv_iload_n X.1 X.2.1 d_Md_register_84 rfl (lv_at hl 3 rfl) ?_
          refine lv_bipush (v := (-5)) X.1 X.2.1 d_Md_register_85 (by decide) ?_
          have o29 := hk
          refine r_cV (As := [.int a0, .int (-5)]) (rest := []) X hml hl.1 hM (k_Md_finish l D dA base M ad hR r a0 (-5) o29) c_Md_170 v_Md_finish kc_Md rfl hR.1 rfl (Nat.le_of_ble_eq_true rfl) ⟨rfl, rfl, Nat.le_of_ble_eq_true rfl, Nat.le_of_ble_eq_true rfl⟩ ⟨Nat.le_of_ble_eq_true rfl, Nat.le_of_ble_eq_true rfl⟩ d_Md_register_87 ?_
          intro rv M1 ad1 H locs hP hM hE
          obtain ⟨e1, e2, e3⟩ := hP
          subst rv; subst M1; subst ad1
          show W _ _ _ _ _ _ _ _ _ _ _ _ _ _ _ (F0 m 90 ls [])
          refine lv_goto (tgt := 194) X.1 X.2.1 d_Md_register_90 (by decide) ?_
          have heL : (m_finish r a0 (-5)) = F := ((if_neg h9).trans ((if_pos h10).trans ((if_pos h11).trans ((if_pos h12))))).symm.trans he
          exact m_vret X hr hlk hM d_Md_register_194 ⟨Nat.le_of_ble_eq_true rfl, Nat.le_of_ble_eq_true rfl⟩ ⟨fun _ _ _ => rfl, fun _ => Nat.le_refl _⟩ ⟨rfl, congrArg (rs M) heL, rfl⟩
      · skip
        have hk := hk.2 h11
        refine lv_aload_n X.1 X.2.1 d_Md_register_66 rfl (lv_at hl 2 rfl) ?_
        refine R_geti (k := 18) X hM (by decide) rfl hR.1 f_Md_129 rfl d_Md_register_67 ?_
        refine lv_iconst (v := 5) X.1 X.2.1 d_Md_register_70 (by decide) ?_
        refine lv_icmp_eq (tgt := 83) X.1 X.2.1 d_Md_register_71 (by decide) (fun h30 => ?_) (fun h30 => ?_)
        · skip
          have hk := hk.1 h30
          refine lv_aload_n X.1 X.2.1 d_Md_register_83 rfl (lv_at hl 2 rfl) ?_
          refine lv_iload_n X.1 X.2.1 d_Md_register_84 rfl (lv_at hl 3 rfl) ?_
          refine lv_bipush (v := (-5)) X.1 X.2.1 d_Md_register_85 (by decide) ?_
          have o31 := hk
          refine r_cV (As := [.int a0, .int (-5)]) (rest := []) X hml hl.1 hM (k_Md_finish l D dA base M ad hR r a0 (-5) o31) c_Md_170 v_Md_finish kc_Md rfl hR.1 rfl (Nat.le_of_ble_eq_true rfl) ⟨rfl, rfl, Nat.le_of_ble_eq_true rfl, Nat.le_of_ble_eq_true rfl⟩ ⟨Nat.le_of_ble_eq_true rfl, Nat.le_of_ble_eq_true rfl⟩ d_Md_register_87 ?_
          intro rv M1 ad1 H locs hP hM hE
          obtain ⟨e1, e2, e3⟩ := hP
          subst rv; subst M1; subst ad1
          show W _ _ _ _ _ _ _ _ _ _ _ _ _ _ _ (F0 m 90 ls [])
          refine lv_goto (tgt := 194) X.1 X.2.1 d_Md_register_90 (by decide) ?_
          have heL : (m_finish r a0 (-5)) = F := ((if_neg h9).trans ((if_pos h10).trans ((if_neg h11).trans ((if_pos h30))))).symm.trans he
          exact m_vret X hr hlk hM d_Md_register_194 ⟨Nat.le_of_ble_eq_true rfl, Nat.le_of_ble_eq_true rfl⟩ ⟨fun _ _ _ => rfl, fun _ => Nat.le_refl _⟩ ⟨rfl, congrArg (rs M) heL, rfl⟩
        · skip
          have hk := hk.2 h30
          refine lv_aload_n X.1 X.2.1 d_Md_register_74 rfl (lv_at hl 2 rfl) ?_
          refine R_geti (k := 18) X hM (by decide) rfl hR.1 f_Md_164 rfl d_Md_register_75 ?_
          refine lv_bipush (v := 40) X.1 X.2.1 d_Md_register_78 (by decide) ?_
          refine lv_icmp_ne (tgt := 93) X.1 X.2.1 d_Md_register_80 (by decide) (fun h32 => ?_) (fun h32 => ?_)
          · skip
            have hk := hk.2 h32
            refine lv_iload_n X.1 X.2.1 d_Md_register_93 rfl (lv_at hl 0 rfl) ?_
            refine lv_if_lt (tgt := 122) X.1 X.2.1 d_Md_register_94 (by decide) (fun h33 => ?_) (fun h33 => ?_)
            · skip
              have hk := hk.1 h33
              refine lv_iload_n X.1 X.2.1 d_Md_register_122 rfl (lv_at hl 0 rfl) ?_
              refine lv_if_ge (tgt := 174) X.1 X.2.1 d_Md_register_123 (by decide) (fun h34 => absurd h34 h11) (fun h34 => ?_)
              refine lv_aload_n X.1 X.2.1 d_Md_register_126 rfl (lv_at hl 2 rfl) ?_
              refine R_geti (k := 18) X hM (by decide) rfl hR.1 f_Md_129 rfl d_Md_register_127 ?_
              refine lv_istore_n (lv' := [(3, .int (r 18 29)), (2, .int (r 44 (a0.toNatClampNeg))), (0, .ref (ad 18 0)), (1, .int a0)]) X.1 X.2.1 d_Md_register_130 rfl hl (by decide) rfl (fun ls hl => ?_)
              refine lv_aload_n X.1 X.2.1 d_Md_register_131 rfl (lv_at hl 2 rfl) ?_
              refine lv_dup X.1 X.2.1 d_Md_register_132 rfl ?_
              refine R_geti (k := 18) X hM (by decide) rfl hR.1 f_Md_129 rfl d_Md_register_133 ?_
              refine lv_iconst (v := 1) X.1 X.2.1 d_Md_register_136 (by decide) ?_
              refine lv_iadd X.1 X.2.1 d_Md_register_137 ?_
              refine R_puti (k := 18) X hM (by decide) rfl hR.1 p_Md_129 rfl rfl rfl d_Md_register_138 (fun H locs hM => ?_)
              refine lv_aload_n X.1 X.2.1 d_Md_register_141 rfl (lv_at hl 2 rfl) ?_
              refine r_gets (q := 0) X hM rfl hR.1 f_Md_50 rfl (hR.2 13 (by decide)) d_Md_register_142 (fun g35 => ?_)
              refine lv_iload_n X.1 X.2.1 d_Md_register_145 rfl (lv_at hl 0 rfl) ?_
              refine lv_aload_n X.1 X.2.1 d_Md_register_146 rfl (lv_at hl 2 rfl) ?_
              refine r_gets (q := 0) X hM rfl hR.1 f_Md_83 rfl (hR.2 24 (by decide)) d_Md_register_147 (fun g36 => ?_)
              refine lv_iload_n X.1 X.2.1 d_Md_register_150 rfl (lv_at hl 3 rfl) ?_
              refine R_iald (k := 43) X hM (by decide) rfl g36 a_m_jobScope (fun _ => rfl) o2.1 o2.2 d_Md_register_151 ?_
              show W _ _ _ _ _ _ _ _ _ _ _ _ _ _ _ (F0 m 152 ls [.int (r 43 (a0.toNatClampNeg)), .int (r 18 29), .ref (ad 32 0)])
              obtain ⟨o37, hk⟩ := hk
              refine R_iast (k := 32) X hM (by decide) rfl g35 a_m_scope (fun _ => rfl) o37.1 o37.2 d_Md_register_152 (fun H locs hM => ?_)
              refine lv_aload_n X.1 X.2.1 d_Md_register_153 rfl (lv_at hl 2 rfl) ?_
              refine r_gets (q := 0) X hM rfl hR.1 f_Md_56 rfl (hR.2 15 (by decide)) d_Md_register_154 (fun g38 => ?_)
              refine lv_iload_n X.1 X.2.1 d_Md_register_157 rfl (lv_at hl 0 rfl) ?_
              refine lv_iconst (v := 0) X.1 X.2.1 d_Md_register_158 (by decide) ?_
              refine R_iast (k := 34) X hM (by decide) rfl g38 a_m_installing (fun _ => rfl) o37.1 o37.2 d_Md_register_159 (fun H locs hM => ?_)
              refine lv_aload_n X.1 X.2.1 d_Md_register_160 rfl (lv_at hl 2 rfl) ?_
              refine r_gets (q := 0) X hM rfl hR.1 f_Md_59 rfl (hR.2 16 (by decide)) d_Md_register_161 (fun g39 => ?_)
              refine lv_iload_n X.1 X.2.1 d_Md_register_164 rfl (lv_at hl 0 rfl) ?_
              refine lv_iconst (v := 0) X.1 X.2.1 d_Md_register_165 (by decide) ?_
              refine R_iast (k := 35) X hM (by decide) rfl g39 a_m_waiting (fun _ => rfl) o37.1 o37.2 d_Md_register_166 (fun H locs hM => ?_)
              refine lv_aload_n X.1 X.2.1 d_Md_register_167 rfl (lv_at hl 2 rfl) ?_
              refine r_gets (q := 0) X hM rfl hR.1 f_Md_62 rfl (hR.2 17 (by decide)) d_Md_register_168 (fun g40 => ?_)
              refine lv_iload_n X.1 X.2.1 d_Md_register_171 rfl (lv_at hl 0 rfl) ?_
              refine lv_iconst (v := 0) X.1 X.2.1 d_Md_register_172 (by decide) ?_
              refine R_iast (k := 36) X hM (by decide) rfl g40 a_m_active (fun _ => rfl) o37.1 o37.2 d_Md_register_173 (fun H locs hM => ?_)
              refine lv_aload_n X.1 X.2.1 d_Md_register_174 rfl (lv_at hl 2 rfl) ?_
              refine r_gets (q := 0) X hM rfl hR.1 f_Md_65 rfl (hR.2 18 (by decide)) d_Md_register_175 (fun g41 => ?_)
              refine lv_iload_n X.1 X.2.1 d_Md_register_178 rfl (lv_at hl 0 rfl) ?_
              refine lv_iconst (v := 0) X.1 X.2.1 d_Md_register_179 (by decide) ?_
              refine R_zast (k := 37) X hM (by decide) rfl g41 a_m_leaving (fun _ => rfl) o37.1 o37.2 rfl d_Md_register_180 (fun H locs hM => ?_)
              refine lv_aload_n X.1 X.2.1 d_Md_register_181 rfl (lv_at hl 2 rfl) ?_
              refine r_gets (q := 0) X hM rfl hR.1 f_Md_53 rfl (hR.2 14 (by decide)) d_Md_register_182 (fun g42 => ?_)
              refine lv_iload_n X.1 X.2.1 d_Md_register_185 rfl (lv_at hl 0 rfl) ?_
              refine lv_iload_n X.1 X.2.1 d_Md_register_186 rfl (lv_at hl 1 rfl) ?_
              refine R_iast (k := 33) X hM (by decide) rfl g42 a_m_script (fun _ => rfl) o37.1 o37.2 d_Md_register_187 (fun H locs hM => ?_)
              refine lv_aload_n X.1 X.2.1 d_Md_register_188 rfl (lv_at hl 2 rfl) ?_
              refine lv_iload_n X.1 X.2.1 d_Md_register_189 rfl (lv_at hl 0 rfl) ?_
              refine lv_iload_n X.1 X.2.1 d_Md_register_190 rfl (lv_at hl 1 rfl) ?_
              have o43 := hk
              refine r_cV (As := [.int (r 18 29), .int (r 44 (a0.toNatClampNeg))]) (rest := []) X hml hl.1 hM (k_Md_install l D dA base M ad hR (ru (ru (ru (ru (ru (ru (ru r 18 29 ((r 18 29) + 1)) 32 ((r 18 29).toNatClampNeg) (r 43 (a0.toNatClampNeg))) 34 ((r 18 29).toNatClampNeg) 0) 35 ((r 18 29).toNatClampNeg) 0) 36 ((r 18 29).toNatClampNeg) 0) 37 ((r 18 29).toNatClampNeg) 0) 33 ((r 18 29).toNatClampNeg) (r 44 (a0.toNatClampNeg))) (r 18 29) (r 44 (a0.toNatClampNeg)) o43) c_Md_176 v_Md_install kc_Md rfl hR.1 rfl (Nat.le_of_ble_eq_true rfl) ⟨rfl, rfl, Nat.le_of_ble_eq_true rfl, Nat.le_of_ble_eq_true rfl⟩ ⟨Nat.le_of_ble_eq_true rfl, Nat.le_of_ble_eq_true rfl⟩ d_Md_register_191 ?_
              intro rv M1 ad1 H locs hP hM hE
              obtain ⟨e1, e2, e3⟩ := hP
              subst rv; subst M1; subst ad1
              show W _ _ _ _ _ _ _ _ _ _ _ _ _ _ _ (F0 m 194 ls [])
              have heL : (m_install (ru (ru (ru (ru (ru (ru (ru r 18 29 ((r 18 29) + 1)) 32 ((r 18 29).toNatClampNeg) (r 43 (a0.toNatClampNeg))) 34 ((r 18 29).toNatClampNeg) 0) 35 ((r 18 29).toNatClampNeg) 0) 36 ((r 18 29).toNatClampNeg) 0) 37 ((r 18 29).toNatClampNeg) 0) 33 ((r 18 29).toNatClampNeg) (r 44 (a0.toNatClampNeg))) (r 18 29) (r 44 (a0.toNatClampNeg))) = F := ((if_neg h9).trans ((if_pos h10).trans ((if_neg h11).trans ((if_neg h30).trans ((if_neg h32).trans ((if_pos h33))))))).symm.trans he
              exact m_vret X hr hlk hM d_Md_register_194 ⟨Nat.le_of_ble_eq_true rfl, Nat.le_of_ble_eq_true rfl⟩ ⟨fun _ _ _ => rfl, fun _ => Nat.le_refl _⟩ ⟨rfl, congrArg (rs M) heL, rfl⟩
            · skip
              have hk := hk.2 h33
              refine lv_aload_n X.1 X.2.1 d_Md_register_97 rfl (lv_at hl 2 rfl) ?_
              refine lv_iload_n X.1 X.2.1 d_Md_register_98 rfl (lv_at hl 0 rfl) ?_
              refine lv_iload_n X.1 X.2.1 d_Md_register_99 rfl (lv_at hl 1 rfl) ?_
              obtain ⟨o44, hk⟩ := hk
              refine r_cV (As := [.int (m_find r (r 43 (a0.toNatClampNeg))), .int (r 44 (a0.toNatClampNeg))]) (rest := []) X hml hl.1 hM (k_Md_isSame l D dA base M ad hR r (m_find r (r 43 (a0.toNatClampNeg))) (r 44 (a0.toNatClampNeg)) o44) c_Md_173 v_Md_isSame kc_Md rfl hR.1 rfl (Nat.le_of_ble_eq_true rfl) ⟨rfl, rfl, Nat.le_of_ble_eq_true rfl, Nat.le_of_ble_eq_true rfl⟩ ⟨Nat.le_of_ble_eq_true rfl, Nat.le_of_ble_eq_true rfl⟩ d_Md_register_100 ?_
              intro rv M1 ad1 H locs hP hM hE
              obtain ⟨e1, e2, e3⟩ := hP
              subst rv; subst M1; subst ad1
              show W _ _ _ _ _ _ _ _ _ _ _ _ _ _ _ (F0 m 103 ls [.int (m_isSame r (m_find r (r 43 (a0.toNatClampNeg))) (r 44 (a0.toNatClampNeg)))])
              refine lv_if_eq (tgt := 122) X.1 X.2.1 d_Md_register_103 (by decide) (fun h45 => ?_) (fun h45 => ?_)
              · skip
                have hk := hk.1 h45
                refine lv_iload_n X.1 X.2.1 d_Md_register_122 rfl (lv_at hl 0 rfl) ?_
                refine lv_if_ge (tgt := 174) X.1 X.2.1 d_Md_register_123 (by decide) (fun h46 => absurd h46 h11) (fun h46 => ?_)
                refine lv_aload_n X.1 X.2.1 d_Md_register_126 rfl (lv_at hl 2 rfl) ?_
                refine R_geti (k := 18) X hM (by decide) rfl hR.1 f_Md_129 rfl d_Md_register_127 ?_
                refine lv_istore_n (lv' := [(3, .int (r 18 29)), (2, .int (r 44 (a0.toNatClampNeg))), (0, .ref (ad 18 0)), (1, .int a0)]) X.1 X.2.1 d_Md_register_130 rfl hl (by decide) rfl (fun ls hl => ?_)
                refine lv_aload_n X.1 X.2.1 d_Md_register_131 rfl (lv_at hl 2 rfl) ?_
                refine lv_dup X.1 X.2.1 d_Md_register_132 rfl ?_
                refine R_geti (k := 18) X hM (by decide) rfl hR.1 f_Md_129 rfl d_Md_register_133 ?_
                refine lv_iconst (v := 1) X.1 X.2.1 d_Md_register_136 (by decide) ?_
                refine lv_iadd X.1 X.2.1 d_Md_register_137 ?_
                refine R_puti (k := 18) X hM (by decide) rfl hR.1 p_Md_129 rfl rfl rfl d_Md_register_138 (fun H locs hM => ?_)
                refine lv_aload_n X.1 X.2.1 d_Md_register_141 rfl (lv_at hl 2 rfl) ?_
                refine r_gets (q := 0) X hM rfl hR.1 f_Md_50 rfl (hR.2 13 (by decide)) d_Md_register_142 (fun g47 => ?_)
                refine lv_iload_n X.1 X.2.1 d_Md_register_145 rfl (lv_at hl 0 rfl) ?_
                refine lv_aload_n X.1 X.2.1 d_Md_register_146 rfl (lv_at hl 2 rfl) ?_
                refine r_gets (q := 0) X hM rfl hR.1 f_Md_83 rfl (hR.2 24 (by decide)) d_Md_register_147 (fun g48 => ?_)
                refine lv_iload_n X.1 X.2.1 d_Md_register_150 rfl (lv_at hl 3 rfl) ?_
                refine R_iald (k := 43) X hM (by decide) rfl g48 a_m_jobScope (fun _ => rfl) o2.1 o2.2 d_Md_register_151 ?_
                show W _ _ _ _ _ _ _ _ _ _ _ _ _ _ _ (F0 m 152 ls [.int (r 43 (a0.toNatClampNeg)), .int (r 18 29), .ref (ad 32 0)])
                obtain ⟨o49, hk⟩ := hk
                refine R_iast (k := 32) X hM (by decide) rfl g47 a_m_scope (fun _ => rfl) o49.1 o49.2 d_Md_register_152 (fun H locs hM => ?_)
                refine lv_aload_n X.1 X.2.1 d_Md_register_153 rfl (lv_at hl 2 rfl) ?_
                refine r_gets (q := 0) X hM rfl hR.1 f_Md_56 rfl (hR.2 15 (by decide)) d_Md_register_154 (fun g50 => ?_)
                refine lv_iload_n X.1 X.2.1 d_Md_register_157 rfl (lv_at hl 0 rfl) ?_
                refine lv_iconst (v := 0) X.1 X.2.1 d_Md_register_158 (by decide) ?_
                refine R_iast (k := 34) X hM (by decide) rfl g50 a_m_installing (fun _ => rfl) o49.1 o49.2 d_Md_register_159 (fun H locs hM => ?_)
                refine lv_aload_n X.1 X.2.1 d_Md_register_160 rfl (lv_at hl 2 rfl) ?_
                refine r_gets (q := 0) X hM rfl hR.1 f_Md_59 rfl (hR.2 16 (by decide)) d_Md_register_161 (fun g51 => ?_)
                refine lv_iload_n X.1 X.2.1 d_Md_register_164 rfl (lv_at hl 0 rfl) ?_
                refine lv_iconst (v := 0) X.1 X.2.1 d_Md_register_165 (by decide) ?_
                refine R_iast (k := 35) X hM (by decide) rfl g51 a_m_waiting (fun _ => rfl) o49.1 o49.2 d_Md_register_166 (fun H locs hM => ?_)
                refine lv_aload_n X.1 X.2.1 d_Md_register_167 rfl (lv_at hl 2 rfl) ?_
                refine r_gets (q := 0) X hM rfl hR.1 f_Md_62 rfl (hR.2 17 (by decide)) d_Md_register_168 (fun g52 => ?_)
                refine lv_iload_n X.1 X.2.1 d_Md_register_171 rfl (lv_at hl 0 rfl) ?_
                refine lv_iconst (v := 0) X.1 X.2.1 d_Md_register_172 (by decide) ?_
                refine R_iast (k := 36) X hM (by decide) rfl g52 a_m_active (fun _ => rfl) o49.1 o49.2 d_Md_register_173 (fun H locs hM => ?_)
                refine lv_aload_n X.1 X.2.1 d_Md_register_174 rfl (lv_at hl 2 rfl) ?_
                refine r_gets (q := 0) X hM rfl hR.1 f_Md_65 rfl (hR.2 18 (by decide)) d_Md_register_175 (fun g53 => ?_)
                refine lv_iload_n X.1 X.2.1 d_Md_register_178 rfl (lv_at hl 0 rfl) ?_
                refine lv_iconst (v := 0) X.1 X.2.1 d_Md_register_179 (by decide) ?_
                refine R_zast (k := 37) X hM (by decide) rfl g53 a_m_leaving (fun _ => rfl) o49.1 o49.2 rfl d_Md_register_180 (fun H locs hM => ?_)
                refine lv_aload_n X.1 X.2.1 d_Md_register_181 rfl (lv_at hl 2 rfl) ?_
                refine r_gets (q := 0) X hM rfl hR.1 f_Md_53 rfl (hR.2 14 (by decide)) d_Md_register_182 (fun g54 => ?_)
                refine lv_iload_n X.1 X.2.1 d_Md_register_185 rfl (lv_at hl 0 rfl) ?_
                refine lv_iload_n X.1 X.2.1 d_Md_register_186 rfl (lv_at hl 1 rfl) ?_
                refine R_iast (k := 33) X hM (by decide) rfl g54 a_m_script (fun _ => rfl) o49.1 o49.2 d_Md_register_187 (fun H locs hM => ?_)
                refine lv_aload_n X.1 X.2.1 d_Md_register_188 rfl (lv_at hl 2 rfl) ?_
                refine lv_iload_n X.1 X.2.1 d_Md_register_189 rfl (lv_at hl 0 rfl) ?_
                refine lv_iload_n X.1 X.2.1 d_Md_register_190 rfl (lv_at hl 1 rfl) ?_
                have o55 := hk
                refine r_cV (As := [.int (r 18 29), .int (r 44 (a0.toNatClampNeg))]) (rest := []) X hml hl.1 hM (k_Md_install l D dA base M ad hR (ru (ru (ru (ru (ru (ru (ru r 18 29 ((r 18 29) + 1)) 32 ((r 18 29).toNatClampNeg) (r 43 (a0.toNatClampNeg))) 34 ((r 18 29).toNatClampNeg) 0) 35 ((r 18 29).toNatClampNeg) 0) 36 ((r 18 29).toNatClampNeg) 0) 37 ((r 18 29).toNatClampNeg) 0) 33 ((r 18 29).toNatClampNeg) (r 44 (a0.toNatClampNeg))) (r 18 29) (r 44 (a0.toNatClampNeg)) o55) c_Md_176 v_Md_install kc_Md rfl hR.1 rfl (Nat.le_of_ble_eq_true rfl) ⟨rfl, rfl, Nat.le_of_ble_eq_true rfl, Nat.le_of_ble_eq_true rfl⟩ ⟨Nat.le_of_ble_eq_true rfl, Nat.le_of_ble_eq_true rfl⟩ d_Md_register_191 ?_
                intro rv M1 ad1 H locs hP hM hE
                obtain ⟨e1, e2, e3⟩ := hP
                subst rv; subst M1; subst ad1
                show W _ _ _ _ _ _ _ _ _ _ _ _ _ _ _ (F0 m 194 ls [])
                have heL : (m_install (ru (ru (ru (ru (ru (ru (ru r 18 29 ((r 18 29) + 1)) 32 ((r 18 29).toNatClampNeg) (r 43 (a0.toNatClampNeg))) 34 ((r 18 29).toNatClampNeg) 0) 35 ((r 18 29).toNatClampNeg) 0) 36 ((r 18 29).toNatClampNeg) 0) 37 ((r 18 29).toNatClampNeg) 0) 33 ((r 18 29).toNatClampNeg) (r 44 (a0.toNatClampNeg))) (r 18 29) (r 44 (a0.toNatClampNeg))) = F := ((if_neg h9).trans ((if_pos h10).trans ((if_neg h11).trans ((if_neg h30).trans ((if_neg h32).trans ((if_neg h33).trans ((if_pos h45)))))))).symm.trans he
                exact m_vret X hr hlk hM d_Md_register_194 ⟨Nat.le_of_ble_eq_true rfl, Nat.le_of_ble_eq_true rfl⟩ ⟨fun _ _ _ => rfl, fun _ => Nat.le_refl _⟩ ⟨rfl, congrArg (rs M) heL, rfl⟩
              · skip
                have hk := hk.2 h45
                refine lv_aload_n X.1 X.2.1 d_Md_register_106 rfl (lv_at hl 2 rfl) ?_
                refine r_gets (q := 0) X hM rfl hR.1 f_Md_65 rfl (hR.2 18 (by decide)) d_Md_register_107 (fun g56 => ?_)
                refine lv_iload_n X.1 X.2.1 d_Md_register_110 rfl (lv_at hl 0 rfl) ?_
                refine lv_iconst (v := 0) X.1 X.2.1 d_Md_register_111 (by decide) ?_
                obtain ⟨o57, hk⟩ := hk
                refine R_zast (k := 37) X hM (by decide) rfl g56 a_m_leaving (fun _ => rfl) o57.1 o57.2 rfl d_Md_register_112 (fun H locs hM => ?_)
                refine lv_aload_n X.1 X.2.1 d_Md_register_113 rfl (lv_at hl 2 rfl) ?_
                refine lv_iload_n X.1 X.2.1 d_Md_register_114 rfl (lv_at hl 3 rfl) ?_
                refine lv_iconst (v := 2) X.1 X.2.1 d_Md_register_115 (by decide) ?_
                have o58 := hk
                refine r_cV (As := [.int a0, .int 2]) (rest := []) X hml hl.1 hM (k_Md_finish l D dA base M ad hR (ru r 37 ((m_find r (r 43 (a0.toNatClampNeg))).toNatClampNeg) 0) a0 2 o58) c_Md_170 v_Md_finish kc_Md rfl hR.1 rfl (Nat.le_of_ble_eq_true rfl) ⟨rfl, rfl, Nat.le_of_ble_eq_true rfl, Nat.le_of_ble_eq_true rfl⟩ ⟨Nat.le_of_ble_eq_true rfl, Nat.le_of_ble_eq_true rfl⟩ d_Md_register_116 ?_
                intro rv M1 ad1 H locs hP hM hE
                obtain ⟨e1, e2, e3⟩ := hP
                subst rv; subst M1; subst ad1
                show W _ _ _ _ _ _ _ _ _ _ _ _ _ _ _ (F0 m 119 ls [])
                refine lv_goto (tgt := 194) X.1 X.2.1 d_Md_register_119 (by decide) ?_
                have heL : (m_finish (ru r 37 ((m_find r (r 43 (a0.toNatClampNeg))).toNatClampNeg) 0) a0 2) = F := ((if_neg h9).trans ((if_pos h10).trans ((if_neg h11).trans ((if_neg h30).trans ((if_neg h32).trans ((if_neg h33).trans ((if_neg h45)))))))).symm.trans he
                exact m_vret X hr hlk hM d_Md_register_194 ⟨Nat.le_of_ble_eq_true rfl, Nat.le_of_ble_eq_true rfl⟩ ⟨fun _ _ _ => rfl, fun _ => Nat.le_refl _⟩ ⟨rfl, congrArg (rs M) heL, rfl⟩
          · skip
            have hk := hk.1 h32
            refine lv_aload_n X.1 X.2.1 d_Md_register_83 rfl (lv_at hl 2 rfl) ?_
            refine lv_iload_n X.1 X.2.1 d_Md_register_84 rfl (lv_at hl 3 rfl) ?_
            refine lv_bipush (v := (-5)) X.1 X.2.1 d_Md_register_85 (by decide) ?_
            have o59 := hk
            refine r_cV (As := [.int a0, .int (-5)]) (rest := []) X hml hl.1 hM (k_Md_finish l D dA base M ad hR r a0 (-5) o59) c_Md_170 v_Md_finish kc_Md rfl hR.1 rfl (Nat.le_of_ble_eq_true rfl) ⟨rfl, rfl, Nat.le_of_ble_eq_true rfl, Nat.le_of_ble_eq_true rfl⟩ ⟨Nat.le_of_ble_eq_true rfl, Nat.le_of_ble_eq_true rfl⟩ d_Md_register_87 ?_
            intro rv M1 ad1 H locs hP hM hE
            obtain ⟨e1, e2, e3⟩ := hP
            subst rv; subst M1; subst ad1
            show W _ _ _ _ _ _ _ _ _ _ _ _ _ _ _ (F0 m 90 ls [])
            refine lv_goto (tgt := 194) X.1 X.2.1 d_Md_register_90 (by decide) ?_
            have heL : (m_finish r a0 (-5)) = F := ((if_neg h9).trans ((if_pos h10).trans ((if_neg h11).trans ((if_neg h30).trans ((if_pos h32)))))).symm.trans he
            exact m_vret X hr hlk hM d_Md_register_194 ⟨Nat.le_of_ble_eq_true rfl, Nat.le_of_ble_eq_true rfl⟩ ⟨fun _ _ _ => rfl, fun _ => Nat.le_refl _⟩ ⟨rfl, congrArg (rs M) heL, rfl⟩
    · skip
      have hk := hk.2 h10
      refine lv_aload_n X.1 X.2.1 d_Md_register_52 rfl (lv_at hl 2 rfl) ?_
      refine lv_iload_n X.1 X.2.1 d_Md_register_53 rfl (lv_at hl 3 rfl) ?_
      refine lv_bipush (v := (-4)) X.1 X.2.1 d_Md_register_54 (by decide) ?_
      have o60 := hk
      refine r_cV (As := [.int a0, .int (-4)]) (rest := []) X hml hl.1 hM (k_Md_finish l D dA base M ad hR r a0 (-4) o60) c_Md_170 v_Md_finish kc_Md rfl hR.1 rfl (Nat.le_of_ble_eq_true rfl) ⟨rfl, rfl, Nat.le_of_ble_eq_true rfl, Nat.le_of_ble_eq_true rfl⟩ ⟨Nat.le_of_ble_eq_true rfl, Nat.le_of_ble_eq_true rfl⟩ d_Md_register_56 ?_
      intro rv M1 ad1 H locs hP hM hE
      obtain ⟨e1, e2, e3⟩ := hP
      subst rv; subst M1; subst ad1
      show W _ _ _ _ _ _ _ _ _ _ _ _ _ _ _ (F0 m 59 ls [])
      refine lv_goto (tgt := 194) X.1 X.2.1 d_Md_register_59 (by decide) ?_
      have heL : (m_finish r a0 (-4)) = F := ((if_neg h9).trans ((if_neg h10))).symm.trans he
      exact m_vret X hr hlk hM d_Md_register_194 ⟨Nat.le_of_ble_eq_true rfl, Nat.le_of_ble_eq_true rfl⟩ ⟨fun _ _ _ => rfl, fun _ => Nat.le_refl _⟩ ⟨rfl, congrArg (rs M) heL, rfl⟩
  · skip
    have hk := hk.1 h9
    refine lv_aload_n X.1 X.2.1 d_Md_register_36 rfl (lv_at hl 2 rfl) ?_
    refine lv_iload_n X.1 X.2.1 d_Md_register_37 rfl (lv_at hl 3 rfl) ?_
    refine lv_iconst (v := (-1)) X.1 X.2.1 d_Md_register_38 (by decide) ?_
    have o61 := hk
    refine r_cV (As := [.int a0, .int (-1)]) (rest := []) X hml hl.1 hM (k_Md_finish l D dA base M ad hR r a0 (-1) o61) c_Md_170 v_Md_finish kc_Md rfl hR.1 rfl (Nat.le_of_ble_eq_true rfl) ⟨rfl, rfl, Nat.le_of_ble_eq_true rfl, Nat.le_of_ble_eq_true rfl⟩ ⟨Nat.le_of_ble_eq_true rfl, Nat.le_of_ble_eq_true rfl⟩ d_Md_register_39 ?_
    intro rv M1 ad1 H locs hP hM hE
    obtain ⟨e1, e2, e3⟩ := hP
    subst rv; subst M1; subst ad1
    show W _ _ _ _ _ _ _ _ _ _ _ _ _ _ _ (F0 m 42 ls [])
    refine lv_goto (tgt := 194) X.1 X.2.1 d_Md_register_42 (by decide) ?_
    have heL : (m_finish r a0 (-1)) = F := ((if_pos h9)).symm.trans he
    exact m_vret X hr hlk hM d_Md_register_194 ⟨Nat.le_of_ble_eq_true rfl, Nat.le_of_ble_eq_true rfl⟩ ⟨fun _ _ _ => rfl, fun _ => Nat.le_refl _⟩ ⟨rfl, congrArg (rs M) heL, rfl⟩
def m_update (r : rR) (a0 : Int32) : rR := (if (m_find r (r 43 (a0.toNatClampNeg))) < 0 then (m_finish r a0 (-2)) else (if (r 37 ((m_find r (r 43 (a0.toNatClampNeg))).toNatClampNeg)) = 0 then (if (r 18 35) = 0 then (if (r 18 30) = 40 then (m_finish r a0 (-5)) else (if (m_isSame r (m_find r (r 43 (a0.toNatClampNeg))) (r 33 ((m_find r (r 43 (a0.toNatClampNeg))).toNatClampNeg))) = 0 then (m_install r (m_find r (r 43 (a0.toNatClampNeg))) (r 33 ((m_find r (r 43 (a0.toNatClampNeg))).toNatClampNeg))) else (m_finish r a0 2))) else (m_finish r a0 (-4))) else (m_finish r a0 (-2))))
def m_update_ok (r : rR) (a0 : Int32) : Prop := (ixk a0 60) ∧ ((m_find_ok r (r 43 (a0.toNatClampNeg))) ∧ ((((m_find r (r 43 (a0.toNatClampNeg))) < 0) → (m_finish_ok r a0 (-2))) ∧ (¬ ((m_find r (r 43 (a0.toNatClampNeg))) < 0) → ((ixk (m_find r (r 43 (a0.toNatClampNeg))) 6) ∧ ((((r 37 ((m_find r (r 43 (a0.toNatClampNeg))).toNatClampNeg)) = 0) → ((((r 18 35) = 0) → ((((r 18 30) = 40) → (m_finish_ok r a0 (-5))) ∧ (¬ ((r 18 30) = 40) → ((m_isSame_ok r (m_find r (r 43 (a0.toNatClampNeg))) (r 33 ((m_find r (r 43 (a0.toNatClampNeg))).toNatClampNeg))) ∧ ((((m_isSame r (m_find r (r 43 (a0.toNatClampNeg))) (r 33 ((m_find r (r 43 (a0.toNatClampNeg))).toNatClampNeg))) = 0) → (m_install_ok r (m_find r (r 43 (a0.toNatClampNeg))) (r 33 ((m_find r (r 43 (a0.toNatClampNeg))).toNatClampNeg)))) ∧ (¬ ((m_isSame r (m_find r (r 43 (a0.toNatClampNeg))) (r 33 ((m_find r (r 43 (a0.toNatClampNeg))).toNatClampNeg))) = 0) → (m_finish_ok r a0 2))))))) ∧ (¬ ((r 18 35) = 0) → (m_finish_ok r a0 (-4))))) ∧ (¬ ((r 37 ((m_find r (r 43 (a0.toNatClampNeg))).toNatClampNeg)) = 0) → (m_finish_ok r a0 (-2))))))))
set_option maxHeartbeats 4000000 in
set_option maxRecDepth 100000 in
theorem k_Md_update (l : Launch) (D : va_G) (dA : Nat → ClassId) (base : Nat) (M : mM) (ad : Nat → Nat → Nat) (hR : wR M) (r : rR) (a0 : Int32) (hk : m_update_ok r a0) : mMet l y_Md_update b_Md_update 3 none ({ frames := 3, cells := 0, slots := 0, locals := 66 } : Room) 0 0 D dA base (rs M r) ad [.ref (ad 18 0), .int a0] (fun rv M' ad' => rv = none ∧ M' = rs M (m_update r a0) ∧ ad' = ad) := by
  refine m_start (lvs := [(0, .ref (ad 18 0)), (1, .int a0)]) (by decide) (Nat.le_of_ble_eq_true rfl) rfl ?_
  intro p e s m below meth c ls X hr hlk hin hml hM hl
  generalize he : m_update r a0 = F
  refine lv_aload_n X.1 X.2.1 d_Md_update_0 rfl (lv_at hl 0 rfl) ?_
  refine lv_aload_n X.1 X.2.1 d_Md_update_1 rfl (lv_at hl 0 rfl) ?_
  refine r_gets (q := 0) X hM rfl hR.1 f_Md_83 rfl (hR.2 24 (by decide)) d_Md_update_2 (fun g1 => ?_)
  refine lv_iload_n X.1 X.2.1 d_Md_update_5 rfl (lv_at hl 1 rfl) ?_
  obtain ⟨o2, hk⟩ := hk
  refine R_iald (k := 43) X hM (by decide) rfl g1 a_m_jobScope (fun _ => rfl) o2.1 o2.2 d_Md_update_6 ?_
  obtain ⟨o3, hk⟩ := hk
  refine r_cV (As := [.int (r 43 (a0.toNatClampNeg))]) (rest := []) X hml hl.1 hM (k_Md_find l D dA base M ad hR r (r 43 (a0.toNatClampNeg)) o3) c_Md_167 v_Md_find kc_Md rfl hR.1 rfl (Nat.le_of_ble_eq_true rfl) ⟨rfl, rfl, Nat.le_of_ble_eq_true rfl, Nat.le_of_ble_eq_true rfl⟩ ⟨Nat.le_of_ble_eq_true rfl, Nat.le_of_ble_eq_true rfl⟩ d_Md_update_7 ?_
  intro rv M1 ad1 H locs hP hM hE
  obtain ⟨e1, e2, e3⟩ := hP
  subst rv; subst M1; subst ad1
  show W _ _ _ _ _ _ _ _ _ _ _ _ _ _ _ (F0 m 10 ls [.int (m_find r (r 43 (a0.toNatClampNeg)))])
  refine lv_istore_n (lv' := [(2, .int (m_find r (r 43 (a0.toNatClampNeg)))), (0, .ref (ad 18 0)), (1, .int a0)]) X.1 X.2.1 d_Md_update_10 rfl hl (by decide) rfl (fun ls hl => ?_)
  refine lv_iload_n X.1 X.2.1 d_Md_update_11 rfl (lv_at hl 0 rfl) ?_
  refine lv_if_lt (tgt := 24) X.1 X.2.1 d_Md_update_12 (by decide) (fun h4 => ?_) (fun h4 => ?_)
  · skip
    have hk := hk.1 h4
    refine lv_aload_n X.1 X.2.1 d_Md_update_24 rfl (lv_at hl 1 rfl) ?_
    refine lv_iload_n X.1 X.2.1 d_Md_update_25 rfl (lv_at hl 2 rfl) ?_
    refine lv_bipush (v := (-2)) X.1 X.2.1 d_Md_update_26 (by decide) ?_
    have o5 := hk
    refine r_cV (As := [.int a0, .int (-2)]) (rest := []) X hml hl.1 hM (k_Md_finish l D dA base M ad hR r a0 (-2) o5) c_Md_170 v_Md_finish kc_Md rfl hR.1 rfl (Nat.le_of_ble_eq_true rfl) ⟨rfl, rfl, Nat.le_of_ble_eq_true rfl, Nat.le_of_ble_eq_true rfl⟩ ⟨Nat.le_of_ble_eq_true rfl, Nat.le_of_ble_eq_true rfl⟩ d_Md_update_28 ?_
    intro rv M1 ad1 H locs hP hM hE
    obtain ⟨e1, e2, e3⟩ := hP
    subst rv; subst M1; subst ad1
    show W _ _ _ _ _ _ _ _ _ _ _ _ _ _ _ (F0 m 31 ls [])
    refine lv_goto (tgt := 104) X.1 X.2.1 d_Md_update_31 (by decide) ?_
    have heL : (m_finish r a0 (-2)) = F := ((if_pos h4)).symm.trans he
    exact m_vret X hr hlk hM d_Md_update_104 ⟨Nat.le_of_ble_eq_true rfl, Nat.le_of_ble_eq_true rfl⟩ ⟨fun _ _ _ => rfl, fun _ => Nat.le_refl _⟩ ⟨rfl, congrArg (rs M) heL, rfl⟩
  · skip
    have hk := hk.2 h4
    refine lv_aload_n X.1 X.2.1 d_Md_update_15 rfl (lv_at hl 1 rfl) ?_
    refine r_gets (q := 0) X hM rfl hR.1 f_Md_65 rfl (hR.2 18 (by decide)) d_Md_update_16 (fun g6 => ?_)
    refine lv_iload_n X.1 X.2.1 d_Md_update_19 rfl (lv_at hl 0 rfl) ?_
    obtain ⟨o7, hk⟩ := hk
    refine R_zald (k := 37) X hM (by decide) rfl g6 a_m_leaving (fun _ => rfl) o7.1 o7.2 d_Md_update_20 ?_
    refine lv_if_eq (tgt := 34) X.1 X.2.1 d_Md_update_21 (by decide) (fun h8 => ?_) (fun h8 => ?_)
    · skip
      have hk := hk.1 h8
      refine lv_aload_n X.1 X.2.1 d_Md_update_34 rfl (lv_at hl 1 rfl) ?_
      refine R_geti (k := 18) X hM (by decide) rfl hR.1 f_Md_122 rfl d_Md_update_35 ?_
      refine lv_if_eq (tgt := 51) X.1 X.2.1 d_Md_update_38 (by decide) (fun h9 => ?_) (fun h9 => ?_)
      · skip
        have hk := hk.1 h9
        refine lv_aload_n X.1 X.2.1 d_Md_update_51 rfl (lv_at hl 1 rfl) ?_
        refine R_geti (k := 18) X hM (by decide) rfl hR.1 f_Md_164 rfl d_Md_update_52 ?_
        refine lv_bipush (v := 40) X.1 X.2.1 d_Md_update_55 (by decide) ?_
        refine lv_icmp_ne (tgt := 70) X.1 X.2.1 d_Md_update_57 (by decide) (fun h10 => ?_) (fun h10 => ?_)
        · skip
          have hk := hk.2 h10
          refine lv_aload_n X.1 X.2.1 d_Md_update_70 rfl (lv_at hl 1 rfl) ?_
          refine lv_iload_n X.1 X.2.1 d_Md_update_71 rfl (lv_at hl 0 rfl) ?_
          refine lv_aload_n X.1 X.2.1 d_Md_update_72 rfl (lv_at hl 1 rfl) ?_
          refine r_gets (q := 0) X hM rfl hR.1 f_Md_53 rfl (hR.2 14 (by decide)) d_Md_update_73 (fun g11 => ?_)
          refine lv_iload_n X.1 X.2.1 d_Md_update_76 rfl (lv_at hl 0 rfl) ?_
          refine R_iald (k := 33) X hM (by decide) rfl g11 a_m_script (fun _ => rfl) o7.1 o7.2 d_Md_update_77 ?_
          obtain ⟨o12, hk⟩ := hk
          refine r_cV (As := [.int (m_find r (r 43 (a0.toNatClampNeg))), .int (r 33 ((m_find r (r 43 (a0.toNatClampNeg))).toNatClampNeg))]) (rest := []) X hml hl.1 hM (k_Md_isSame l D dA base M ad hR r (m_find r (r 43 (a0.toNatClampNeg))) (r 33 ((m_find r (r 43 (a0.toNatClampNeg))).toNatClampNeg)) o12) c_Md_173 v_Md_isSame kc_Md rfl hR.1 rfl (Nat.le_of_ble_eq_true rfl) ⟨rfl, rfl, Nat.le_of_ble_eq_true rfl, Nat.le_of_ble_eq_true rfl⟩ ⟨Nat.le_of_ble_eq_true rfl, Nat.le_of_ble_eq_true rfl⟩ d_Md_update_78 ?_
          intro rv M1 ad1 H locs hP hM hE
          obtain ⟨e1, e2, e3⟩ := hP
          subst rv; subst M1; subst ad1
          show W _ _ _ _ _ _ _ _ _ _ _ _ _ _ _ (F0 m 81 ls [.int (m_isSame r (m_find r (r 43 (a0.toNatClampNeg))) (r 33 ((m_find r (r 43 (a0.toNatClampNeg))).toNatClampNeg)))])
          refine lv_if_eq (tgt := 93) X.1 X.2.1 d_Md_update_81 (by decide) (fun h13 => ?_) (fun h13 => ?_)
          · skip
            have hk := hk.1 h13
            refine lv_aload_n X.1 X.2.1 d_Md_update_93 rfl (lv_at hl 1 rfl) ?_
            refine lv_iload_n X.1 X.2.1 d_Md_update_94 rfl (lv_at hl 0 rfl) ?_
            refine lv_aload_n X.1 X.2.1 d_Md_update_95 rfl (lv_at hl 1 rfl) ?_
            refine r_gets (q := 0) X hM rfl hR.1 f_Md_53 rfl (hR.2 14 (by decide)) d_Md_update_96 (fun g14 => ?_)
            refine lv_iload_n X.1 X.2.1 d_Md_update_99 rfl (lv_at hl 0 rfl) ?_
            refine R_iald (k := 33) X hM (by decide) rfl g14 a_m_script (fun _ => rfl) o7.1 o7.2 d_Md_update_100 ?_
            have o15 := hk
            refine r_cV (As := [.int (m_find r (r 43 (a0.toNatClampNeg))), .int (r 33 ((m_find r (r 43 (a0.toNatClampNeg))).toNatClampNeg))]) (rest := []) X hml hl.1 hM (k_Md_install l D dA base M ad hR r (m_find r (r 43 (a0.toNatClampNeg))) (r 33 ((m_find r (r 43 (a0.toNatClampNeg))).toNatClampNeg)) o15) c_Md_176 v_Md_install kc_Md rfl hR.1 rfl (Nat.le_of_ble_eq_true rfl) ⟨rfl, rfl, Nat.le_of_ble_eq_true rfl, Nat.le_of_ble_eq_true rfl⟩ ⟨Nat.le_of_ble_eq_true rfl, Nat.le_of_ble_eq_true rfl⟩ d_Md_update_101 ?_
            intro rv M1 ad1 H locs hP hM hE
            obtain ⟨e1, e2, e3⟩ := hP
            subst rv; subst M1; subst ad1
            show W _ _ _ _ _ _ _ _ _ _ _ _ _ _ _ (F0 m 104 ls [])
            have heL : (m_install r (m_find r (r 43 (a0.toNatClampNeg))) (r 33 ((m_find r (r 43 (a0.toNatClampNeg))).toNatClampNeg))) = F := ((if_neg h4).trans ((if_pos h8).trans ((if_pos h9).trans ((if_neg h10).trans ((if_pos h13)))))).symm.trans he
            exact m_vret X hr hlk hM d_Md_update_104 ⟨Nat.le_of_ble_eq_true rfl, Nat.le_of_ble_eq_true rfl⟩ ⟨fun _ _ _ => rfl, fun _ => Nat.le_refl _⟩ ⟨rfl, congrArg (rs M) heL, rfl⟩
          · skip
            have hk := hk.2 h13
            refine lv_aload_n X.1 X.2.1 d_Md_update_84 rfl (lv_at hl 1 rfl) ?_
            refine lv_iload_n X.1 X.2.1 d_Md_update_85 rfl (lv_at hl 2 rfl) ?_
            refine lv_iconst (v := 2) X.1 X.2.1 d_Md_update_86 (by decide) ?_
            have o16 := hk
            refine r_cV (As := [.int a0, .int 2]) (rest := []) X hml hl.1 hM (k_Md_finish l D dA base M ad hR r a0 2 o16) c_Md_170 v_Md_finish kc_Md rfl hR.1 rfl (Nat.le_of_ble_eq_true rfl) ⟨rfl, rfl, Nat.le_of_ble_eq_true rfl, Nat.le_of_ble_eq_true rfl⟩ ⟨Nat.le_of_ble_eq_true rfl, Nat.le_of_ble_eq_true rfl⟩ d_Md_update_87 ?_
            intro rv M1 ad1 H locs hP hM hE
            obtain ⟨e1, e2, e3⟩ := hP
            subst rv; subst M1; subst ad1
            show W _ _ _ _ _ _ _ _ _ _ _ _ _ _ _ (F0 m 90 ls [])
            refine lv_goto (tgt := 104) X.1 X.2.1 d_Md_update_90 (by decide) ?_
            have heL : (m_finish r a0 2) = F := ((if_neg h4).trans ((if_pos h8).trans ((if_pos h9).trans ((if_neg h10).trans ((if_neg h13)))))).symm.trans he
            exact m_vret X hr hlk hM d_Md_update_104 ⟨Nat.le_of_ble_eq_true rfl, Nat.le_of_ble_eq_true rfl⟩ ⟨fun _ _ _ => rfl, fun _ => Nat.le_refl _⟩ ⟨rfl, congrArg (rs M) heL, rfl⟩
        · skip
          have hk := hk.1 h10
          refine lv_aload_n X.1 X.2.1 d_Md_update_60 rfl (lv_at hl 1 rfl) ?_
          refine lv_iload_n X.1 X.2.1 d_Md_update_61 rfl (lv_at hl 2 rfl) ?_
          refine lv_bipush (v := (-5)) X.1 X.2.1 d_Md_update_62 (by decide) ?_
          have o17 := hk
          refine r_cV (As := [.int a0, .int (-5)]) (rest := []) X hml hl.1 hM (k_Md_finish l D dA base M ad hR r a0 (-5) o17) c_Md_170 v_Md_finish kc_Md rfl hR.1 rfl (Nat.le_of_ble_eq_true rfl) ⟨rfl, rfl, Nat.le_of_ble_eq_true rfl, Nat.le_of_ble_eq_true rfl⟩ ⟨Nat.le_of_ble_eq_true rfl, Nat.le_of_ble_eq_true rfl⟩ d_Md_update_64 ?_
          intro rv M1 ad1 H locs hP hM hE
          obtain ⟨e1, e2, e3⟩ := hP
          subst rv; subst M1; subst ad1
          show W _ _ _ _ _ _ _ _ _ _ _ _ _ _ _ (F0 m 67 ls [])
          refine lv_goto (tgt := 104) X.1 X.2.1 d_Md_update_67 (by decide) ?_
          have heL : (m_finish r a0 (-5)) = F := ((if_neg h4).trans ((if_pos h8).trans ((if_pos h9).trans ((if_pos h10))))).symm.trans he
          exact m_vret X hr hlk hM d_Md_update_104 ⟨Nat.le_of_ble_eq_true rfl, Nat.le_of_ble_eq_true rfl⟩ ⟨fun _ _ _ => rfl, fun _ => Nat.le_refl _⟩ ⟨rfl, congrArg (rs M) heL, rfl⟩
      · skip
        have hk := hk.2 h9
        refine lv_aload_n X.1 X.2.1 d_Md_update_41 rfl (lv_at hl 1 rfl) ?_
        refine lv_iload_n X.1 X.2.1 d_Md_update_42 rfl (lv_at hl 2 rfl) ?_
        refine lv_bipush (v := (-4)) X.1 X.2.1 d_Md_update_43 (by decide) ?_
        have o18 := hk
        refine r_cV (As := [.int a0, .int (-4)]) (rest := []) X hml hl.1 hM (k_Md_finish l D dA base M ad hR r a0 (-4) o18) c_Md_170 v_Md_finish kc_Md rfl hR.1 rfl (Nat.le_of_ble_eq_true rfl) ⟨rfl, rfl, Nat.le_of_ble_eq_true rfl, Nat.le_of_ble_eq_true rfl⟩ ⟨Nat.le_of_ble_eq_true rfl, Nat.le_of_ble_eq_true rfl⟩ d_Md_update_45 ?_
        intro rv M1 ad1 H locs hP hM hE
        obtain ⟨e1, e2, e3⟩ := hP
        subst rv; subst M1; subst ad1
        show W _ _ _ _ _ _ _ _ _ _ _ _ _ _ _ (F0 m 48 ls [])
        refine lv_goto (tgt := 104) X.1 X.2.1 d_Md_update_48 (by decide) ?_
        have heL : (m_finish r a0 (-4)) = F := ((if_neg h4).trans ((if_pos h8).trans ((if_neg h9)))).symm.trans he
        exact m_vret X hr hlk hM d_Md_update_104 ⟨Nat.le_of_ble_eq_true rfl, Nat.le_of_ble_eq_true rfl⟩ ⟨fun _ _ _ => rfl, fun _ => Nat.le_refl _⟩ ⟨rfl, congrArg (rs M) heL, rfl⟩
    · skip
      have hk := hk.2 h8
      refine lv_aload_n X.1 X.2.1 d_Md_update_24 rfl (lv_at hl 1 rfl) ?_
      refine lv_iload_n X.1 X.2.1 d_Md_update_25 rfl (lv_at hl 2 rfl) ?_
      refine lv_bipush (v := (-2)) X.1 X.2.1 d_Md_update_26 (by decide) ?_
      have o19 := hk
      refine r_cV (As := [.int a0, .int (-2)]) (rest := []) X hml hl.1 hM (k_Md_finish l D dA base M ad hR r a0 (-2) o19) c_Md_170 v_Md_finish kc_Md rfl hR.1 rfl (Nat.le_of_ble_eq_true rfl) ⟨rfl, rfl, Nat.le_of_ble_eq_true rfl, Nat.le_of_ble_eq_true rfl⟩ ⟨Nat.le_of_ble_eq_true rfl, Nat.le_of_ble_eq_true rfl⟩ d_Md_update_28 ?_
      intro rv M1 ad1 H locs hP hM hE
      obtain ⟨e1, e2, e3⟩ := hP
      subst rv; subst M1; subst ad1
      show W _ _ _ _ _ _ _ _ _ _ _ _ _ _ _ (F0 m 31 ls [])
      refine lv_goto (tgt := 104) X.1 X.2.1 d_Md_update_31 (by decide) ?_
      have heL : (m_finish r a0 (-2)) = F := ((if_neg h4).trans ((if_neg h8))).symm.trans he
      exact m_vret X hr hlk hM d_Md_update_104 ⟨Nat.le_of_ble_eq_true rfl, Nat.le_of_ble_eq_true rfl⟩ ⟨fun _ _ _ => rfl, fun _ => Nat.le_refl _⟩ ⟨rfl, congrArg (rs M) heL, rfl⟩
def m_installed (r : rR) (a0 : Int32) : rR := (if (r 26 ((r 34 ((m_find r (r 43 (a0.toNatClampNeg))).toNatClampNeg)).toNatClampNeg)) = 1 then (if ((m_come (ru r 34 ((m_find r (r 43 (a0.toNatClampNeg))).toNatClampNeg) 0) (r 34 ((m_find r (r 43 (a0.toNatClampNeg))).toNatClampNeg)) 4) 35 ((m_find r (r 43 (a0.toNatClampNeg))).toNatClampNeg)) = 0 then (if ((m_come (ru r 34 ((m_find r (r 43 (a0.toNatClampNeg))).toNatClampNeg) 0) (r 34 ((m_find r (r 43 (a0.toNatClampNeg))).toNatClampNeg)) 4) 36 ((m_find r (r 43 (a0.toNatClampNeg))).toNatClampNeg)) = 0 then (m_finish (m_go (m_come (ru r 34 ((m_find r (r 43 (a0.toNatClampNeg))).toNatClampNeg) 0) (r 34 ((m_find r (r 43 (a0.toNatClampNeg))).toNatClampNeg)) 4) (m_find r (r 43 (a0.toNatClampNeg)))) a0 (-3)) else (m_finish (m_come (ru r 34 ((m_find r (r 43 (a0.toNatClampNeg))).toNatClampNeg) 0) (r 34 ((m_find r (r 43 (a0.toNatClampNeg))).toNatClampNeg)) 4) a0 (-3))) else (m_finish (m_come (ru r 34 ((m_find r (r 43 (a0.toNatClampNeg))).toNatClampNeg) 0) (r 34 ((m_find r (r 43 (a0.toNatClampNeg))).toNatClampNeg)) 4) a0 (-3))) else (if (r 35 ((m_find r (r 43 (a0.toNatClampNeg))).toNatClampNeg)) ≤ 0 then (m_finish (m_activate (m_come (ru (ru r 34 ((m_find r (r 43 (a0.toNatClampNeg))).toNatClampNeg) 0) 35 ((m_find r (r 43 (a0.toNatClampNeg))).toNatClampNeg) (r 34 ((m_find r (r 43 (a0.toNatClampNeg))).toNatClampNeg))) (r 34 ((m_find r (r 43 (a0.toNatClampNeg))).toNatClampNeg)) 2) (m_find r (r 43 (a0.toNatClampNeg)))) a0 1) else (m_finish (m_activate (m_come (ru (m_come (ru r 34 ((m_find r (r 43 (a0.toNatClampNeg))).toNatClampNeg) 0) (r 35 ((m_find r (r 43 (a0.toNatClampNeg))).toNatClampNeg)) 4) 35 ((m_find r (r 43 (a0.toNatClampNeg))).toNatClampNeg) (r 34 ((m_find r (r 43 (a0.toNatClampNeg))).toNatClampNeg))) (r 34 ((m_find r (r 43 (a0.toNatClampNeg))).toNatClampNeg)) 2) (m_find r (r 43 (a0.toNatClampNeg)))) a0 1)))
def m_installed_ok (r : rR) (a0 : Int32) : Prop := (ixk a0 60) ∧ ((m_find_ok r (r 43 (a0.toNatClampNeg))) ∧ ((ixk (m_find r (r 43 (a0.toNatClampNeg))) 6) ∧ ((ixk (r 34 ((m_find r (r 43 (a0.toNatClampNeg))).toNatClampNeg)) 41) ∧ ((((r 26 ((r 34 ((m_find r (r 43 (a0.toNatClampNeg))).toNatClampNeg)).toNatClampNeg)) = 1) → ((m_come_ok (ru r 34 ((m_find r (r 43 (a0.toNatClampNeg))).toNatClampNeg) 0) (r 34 ((m_find r (r 43 (a0.toNatClampNeg))).toNatClampNeg)) 4) ∧ (((((m_come (ru r 34 ((m_find r (r 43 (a0.toNatClampNeg))).toNatClampNeg) 0) (r 34 ((m_find r (r 43 (a0.toNatClampNeg))).toNatClampNeg)) 4) 35 ((m_find r (r 43 (a0.toNatClampNeg))).toNatClampNeg)) = 0) → (((((m_come (ru r 34 ((m_find r (r 43 (a0.toNatClampNeg))).toNatClampNeg) 0) (r 34 ((m_find r (r 43 (a0.toNatClampNeg))).toNatClampNeg)) 4) 36 ((m_find r (r 43 (a0.toNatClampNeg))).toNatClampNeg)) = 0) → ((m_go_ok (m_come (ru r 34 ((m_find r (r 43 (a0.toNatClampNeg))).toNatClampNeg) 0) (r 34 ((m_find r (r 43 (a0.toNatClampNeg))).toNatClampNeg)) 4) (m_find r (r 43 (a0.toNatClampNeg)))) ∧ (m_finish_ok (m_go (m_come (ru r 34 ((m_find r (r 43 (a0.toNatClampNeg))).toNatClampNeg) 0) (r 34 ((m_find r (r 43 (a0.toNatClampNeg))).toNatClampNeg)) 4) (m_find r (r 43 (a0.toNatClampNeg)))) a0 (-3)))) ∧ (¬ (((m_come (ru r 34 ((m_find r (r 43 (a0.toNatClampNeg))).toNatClampNeg) 0) (r 34 ((m_find r (r 43 (a0.toNatClampNeg))).toNatClampNeg)) 4) 36 ((m_find r (r 43 (a0.toNatClampNeg))).toNatClampNeg)) = 0) → (m_finish_ok (m_come (ru r 34 ((m_find r (r 43 (a0.toNatClampNeg))).toNatClampNeg) 0) (r 34 ((m_find r (r 43 (a0.toNatClampNeg))).toNatClampNeg)) 4) a0 (-3))))) ∧ (¬ (((m_come (ru r 34 ((m_find r (r 43 (a0.toNatClampNeg))).toNatClampNeg) 0) (r 34 ((m_find r (r 43 (a0.toNatClampNeg))).toNatClampNeg)) 4) 35 ((m_find r (r 43 (a0.toNatClampNeg))).toNatClampNeg)) = 0) → (m_finish_ok (m_come (ru r 34 ((m_find r (r 43 (a0.toNatClampNeg))).toNatClampNeg) 0) (r 34 ((m_find r (r 43 (a0.toNatClampNeg))).toNatClampNeg)) 4) a0 (-3)))))) ∧ (¬ ((r 26 ((r 34 ((m_find r (r 43 (a0.toNatClampNeg))).toNatClampNeg)).toNatClampNeg)) = 1) → ((((r 35 ((m_find r (r 43 (a0.toNatClampNeg))).toNatClampNeg)) ≤ 0) → ((m_come_ok (ru (ru r 34 ((m_find r (r 43 (a0.toNatClampNeg))).toNatClampNeg) 0) 35 ((m_find r (r 43 (a0.toNatClampNeg))).toNatClampNeg) (r 34 ((m_find r (r 43 (a0.toNatClampNeg))).toNatClampNeg))) (r 34 ((m_find r (r 43 (a0.toNatClampNeg))).toNatClampNeg)) 2) ∧ ((m_activate_ok (m_come (ru (ru r 34 ((m_find r (r 43 (a0.toNatClampNeg))).toNatClampNeg) 0) 35 ((m_find r (r 43 (a0.toNatClampNeg))).toNatClampNeg) (r 34 ((m_find r (r 43 (a0.toNatClampNeg))).toNatClampNeg))) (r 34 ((m_find r (r 43 (a0.toNatClampNeg))).toNatClampNeg)) 2) (m_find r (r 43 (a0.toNatClampNeg)))) ∧ (m_finish_ok (m_activate (m_come (ru (ru r 34 ((m_find r (r 43 (a0.toNatClampNeg))).toNatClampNeg) 0) 35 ((m_find r (r 43 (a0.toNatClampNeg))).toNatClampNeg) (r 34 ((m_find r (r 43 (a0.toNatClampNeg))).toNatClampNeg))) (r 34 ((m_find r (r 43 (a0.toNatClampNeg))).toNatClampNeg)) 2) (m_find r (r 43 (a0.toNatClampNeg)))) a0 1)))) ∧ (¬ ((r 35 ((m_find r (r 43 (a0.toNatClampNeg))).toNatClampNeg)) ≤ 0) → ((m_come_ok (ru r 34 ((m_find r (r 43 (a0.toNatClampNeg))).toNatClampNeg) 0) (r 35 ((m_find r (r 43 (a0.toNatClampNeg))).toNatClampNeg)) 4) ∧ ((m_come_ok (ru (m_come (ru r 34 ((m_find r (r 43 (a0.toNatClampNeg))).toNatClampNeg) 0) (r 35 ((m_find r (r 43 (a0.toNatClampNeg))).toNatClampNeg)) 4) 35 ((m_find r (r 43 (a0.toNatClampNeg))).toNatClampNeg) (r 34 ((m_find r (r 43 (a0.toNatClampNeg))).toNatClampNeg))) (r 34 ((m_find r (r 43 (a0.toNatClampNeg))).toNatClampNeg)) 2) ∧ ((m_activate_ok (m_come (ru (m_come (ru r 34 ((m_find r (r 43 (a0.toNatClampNeg))).toNatClampNeg) 0) (r 35 ((m_find r (r 43 (a0.toNatClampNeg))).toNatClampNeg)) 4) 35 ((m_find r (r 43 (a0.toNatClampNeg))).toNatClampNeg) (r 34 ((m_find r (r 43 (a0.toNatClampNeg))).toNatClampNeg))) (r 34 ((m_find r (r 43 (a0.toNatClampNeg))).toNatClampNeg)) 2) (m_find r (r 43 (a0.toNatClampNeg)))) ∧ (m_finish_ok (m_activate (m_come (ru (m_come (ru r 34 ((m_find r (r 43 (a0.toNatClampNeg))).toNatClampNeg) 0) (r 35 ((m_find r (r 43 (a0.toNatClampNeg))).toNatClampNeg)) 4) 35 ((m_find r (r 43 (a0.toNatClampNeg))).toNatClampNeg) (r 34 ((m_find r (r 43 (a0.toNatClampNeg))).toNatClampNeg))) (r 34 ((m_find r (r 43 (a0.toNatClampNeg))).toNatClampNeg)) 2) (m_find r (r 43 (a0.toNatClampNeg)))) a0 1)))))))))))
set_option maxHeartbeats 4000000 in
set_option maxRecDepth 100000 in
theorem k_Md_installed (l : Launch) (D : va_G) (dA : Nat → ClassId) (base : Nat) (M : mM) (ad : Nat → Nat → Nat) (hR : wR M) (r : rR) (a0 : Int32) (hk : m_installed_ok r a0) : mMet l y_Md_installed b_Md_installed 4 none ({ frames := 3, cells := 0, slots := 0, locals := 67 } : Room) 0 0 D dA base (rs M r) ad [.ref (ad 18 0), .int a0] (fun rv M' ad' => rv = none ∧ M' = rs M (m_installed r a0) ∧ ad' = ad) := by
  refine m_start (lvs := [(0, .ref (ad 18 0)), (1, .int a0)]) (by decide) (Nat.le_of_ble_eq_true rfl) rfl ?_
  intro p e s m below meth c ls X hr hlk hin hml hM hl
  generalize he : m_installed r a0 = F
  refine lv_aload_n X.1 X.2.1 d_Md_installed_0 rfl (lv_at hl 0 rfl) ?_
  refine lv_aload_n X.1 X.2.1 d_Md_installed_1 rfl (lv_at hl 0 rfl) ?_
  refine r_gets (q := 0) X hM rfl hR.1 f_Md_83 rfl (hR.2 24 (by decide)) d_Md_installed_2 (fun g1 => ?_)
  refine lv_iload_n X.1 X.2.1 d_Md_installed_5 rfl (lv_at hl 1 rfl) ?_
  obtain ⟨o2, hk⟩ := hk
  refine R_iald (k := 43) X hM (by decide) rfl g1 a_m_jobScope (fun _ => rfl) o2.1 o2.2 d_Md_installed_6 ?_
  obtain ⟨o3, hk⟩ := hk
  refine r_cV (As := [.int (r 43 (a0.toNatClampNeg))]) (rest := []) X hml hl.1 hM (k_Md_find l D dA base M ad hR r (r 43 (a0.toNatClampNeg)) o3) c_Md_167 v_Md_find kc_Md rfl hR.1 rfl (Nat.le_of_ble_eq_true rfl) ⟨rfl, rfl, Nat.le_of_ble_eq_true rfl, Nat.le_of_ble_eq_true rfl⟩ ⟨Nat.le_of_ble_eq_true rfl, Nat.le_of_ble_eq_true rfl⟩ d_Md_installed_7 ?_
  intro rv M1 ad1 H locs hP hM hE
  obtain ⟨e1, e2, e3⟩ := hP
  subst rv; subst M1; subst ad1
  show W _ _ _ _ _ _ _ _ _ _ _ _ _ _ _ (F0 m 10 ls [.int (m_find r (r 43 (a0.toNatClampNeg)))])
  refine lv_istore_n (lv' := [(2, .int (m_find r (r 43 (a0.toNatClampNeg)))), (0, .ref (ad 18 0)), (1, .int a0)]) X.1 X.2.1 d_Md_installed_10 rfl hl (by decide) rfl (fun ls hl => ?_)
  refine lv_aload_n X.1 X.2.1 d_Md_installed_11 rfl (lv_at hl 1 rfl) ?_
  refine r_gets (q := 0) X hM rfl hR.1 f_Md_56 rfl (hR.2 15 (by decide)) d_Md_installed_12 (fun g4 => ?_)
  refine lv_iload_n X.1 X.2.1 d_Md_installed_15 rfl (lv_at hl 0 rfl) ?_
  obtain ⟨o5, hk⟩ := hk
  refine R_iald (k := 34) X hM (by decide) rfl g4 a_m_installing (fun _ => rfl) o5.1 o5.2 d_Md_installed_16 ?_
  refine lv_istore_n (lv' := [(3, .int (r 34 ((m_find r (r 43 (a0.toNatClampNeg))).toNatClampNeg))), (2, .int (m_find r (r 43 (a0.toNatClampNeg)))), (0, .ref (ad 18 0)), (1, .int a0)]) X.1 X.2.1 d_Md_installed_17 rfl hl (by decide) rfl (fun ls hl => ?_)
  refine lv_aload_n X.1 X.2.1 d_Md_installed_18 rfl (lv_at hl 2 rfl) ?_
  refine r_gets (q := 0) X hM rfl hR.1 f_Md_56 rfl (hR.2 15 (by decide)) d_Md_installed_19 (fun g6 => ?_)
  refine lv_iload_n X.1 X.2.1 d_Md_installed_22 rfl (lv_at hl 1 rfl) ?_
  refine lv_iconst (v := 0) X.1 X.2.1 d_Md_installed_23 (by decide) ?_
  refine R_iast (k := 34) X hM (by decide) rfl g6 a_m_installing (fun _ => rfl) o5.1 o5.2 d_Md_installed_24 (fun H locs hM => ?_)
  refine lv_aload_n X.1 X.2.1 d_Md_installed_25 rfl (lv_at hl 2 rfl) ?_
  refine r_gets (q := 0) X hM rfl hR.1 f_Md_31 rfl (hR.2 7 (by decide)) d_Md_installed_26 (fun g7 => ?_)
  refine lv_iload_n X.1 X.2.1 d_Md_installed_29 rfl (lv_at hl 0 rfl) ?_
  obtain ⟨o8, hk⟩ := hk
  refine R_iald (k := 26) X hM (by decide) rfl g7 a_m_spoilt (fun _ => rfl) o8.1 o8.2 d_Md_installed_30 ?_
  show W _ _ _ _ _ _ _ _ _ _ _ _ _ _ _ (F0 m 31 ls [.int (r 26 ((r 34 ((m_find r (r 43 (a0.toNatClampNeg))).toNatClampNeg)).toNatClampNeg))])
  refine lv_iconst (v := 1) X.1 X.2.1 d_Md_installed_31 (by decide) ?_
  refine lv_icmp_ne (tgt := 72) X.1 X.2.1 d_Md_installed_32 (by decide) (fun h9 => ?_) (fun h9 => ?_)
  · skip
    have hk := hk.2 h9
    refine lv_aload_n X.1 X.2.1 d_Md_installed_72 rfl (lv_at hl 2 rfl) ?_
    refine r_gets (q := 0) X hM rfl hR.1 f_Md_59 rfl (hR.2 16 (by decide)) d_Md_installed_73 (fun g10 => ?_)
    refine lv_iload_n X.1 X.2.1 d_Md_installed_76 rfl (lv_at hl 1 rfl) ?_
    refine R_iald (k := 35) X hM (by decide) rfl g10 a_m_waiting (fun _ => rfl) o5.1 o5.2 d_Md_installed_77 ?_
    show W _ _ _ _ _ _ _ _ _ _ _ _ _ _ _ (F0 m 78 ls [.int (r 35 ((m_find r (r 43 (a0.toNatClampNeg))).toNatClampNeg))])
    refine lv_if_le (tgt := 92) X.1 X.2.1 d_Md_installed_78 (by decide) (fun h11 => ?_) (fun h11 => ?_)
    · skip
      have hk := hk.1 h11
      refine lv_aload_n X.1 X.2.1 d_Md_installed_92 rfl (lv_at hl 2 rfl) ?_
      refine r_gets (q := 0) X hM rfl hR.1 f_Md_59 rfl (hR.2 16 (by decide)) d_Md_installed_93 (fun g12 => ?_)
      refine lv_iload_n X.1 X.2.1 d_Md_installed_96 rfl (lv_at hl 1 rfl) ?_
      refine lv_iload_n X.1 X.2.1 d_Md_installed_97 rfl (lv_at hl 0 rfl) ?_
      refine R_iast (k := 35) X hM (by decide) rfl g12 a_m_waiting (fun _ => rfl) o5.1 o5.2 d_Md_installed_98 (fun H locs hM => ?_)
      refine lv_aload_n X.1 X.2.1 d_Md_installed_99 rfl (lv_at hl 2 rfl) ?_
      refine lv_iload_n X.1 X.2.1 d_Md_installed_100 rfl (lv_at hl 0 rfl) ?_
      refine lv_iconst (v := 2) X.1 X.2.1 d_Md_installed_101 (by decide) ?_
      obtain ⟨o13, hk⟩ := hk
      refine r_cV (As := [.int (r 34 ((m_find r (r 43 (a0.toNatClampNeg))).toNatClampNeg)), .int 2]) (rest := []) X hml hl.1 hM (k_Md_come l D dA base M ad hR (ru (ru r 34 ((m_find r (r 43 (a0.toNatClampNeg))).toNatClampNeg) 0) 35 ((m_find r (r 43 (a0.toNatClampNeg))).toNatClampNeg) (r 34 ((m_find r (r 43 (a0.toNatClampNeg))).toNatClampNeg))) (r 34 ((m_find r (r 43 (a0.toNatClampNeg))).toNatClampNeg)) 2 o13) c_Md_139 v_Md_come kc_Md rfl hR.1 rfl (Nat.le_of_ble_eq_true rfl) ⟨rfl, rfl, Nat.le_of_ble_eq_true rfl, Nat.le_of_ble_eq_true rfl⟩ ⟨Nat.le_of_ble_eq_true rfl, Nat.le_of_ble_eq_true rfl⟩ d_Md_installed_102 ?_
      intro rv M1 ad1 H locs hP hM hE
      obtain ⟨e1, e2, e3⟩ := hP
      subst rv; subst M1; subst ad1
      show W _ _ _ _ _ _ _ _ _ _ _ _ _ _ _ (F0 m 105 ls [])
      refine lv_aload_n X.1 X.2.1 d_Md_installed_105 rfl (lv_at hl 2 rfl) ?_
      refine lv_iload_n X.1 X.2.1 d_Md_installed_106 rfl (lv_at hl 1 rfl) ?_
      obtain ⟨o14, hk⟩ := hk
      refine r_cV (As := [.int (m_find r (r 43 (a0.toNatClampNeg)))]) (rest := []) X hml hl.1 hM (k_Md_activate l D dA base M ad hR (m_come (ru (ru r 34 ((m_find r (r 43 (a0.toNatClampNeg))).toNatClampNeg) 0) 35 ((m_find r (r 43 (a0.toNatClampNeg))).toNatClampNeg) (r 34 ((m_find r (r 43 (a0.toNatClampNeg))).toNatClampNeg))) (r 34 ((m_find r (r 43 (a0.toNatClampNeg))).toNatClampNeg)) 2) (m_find r (r 43 (a0.toNatClampNeg))) o14) c_Md_155 v_Md_activate kc_Md rfl hR.1 rfl (Nat.le_of_ble_eq_true rfl) ⟨rfl, rfl, Nat.le_of_ble_eq_true rfl, Nat.le_of_ble_eq_true rfl⟩ ⟨Nat.le_of_ble_eq_true rfl, Nat.le_of_ble_eq_true rfl⟩ d_Md_installed_107 ?_
      intro rv M1 ad1 H locs hP hM hE
      obtain ⟨e1, e2, e3⟩ := hP
      subst rv; subst M1; subst ad1
      show W _ _ _ _ _ _ _ _ _ _ _ _ _ _ _ (F0 m 110 ls [])
      refine lv_aload_n X.1 X.2.1 d_Md_installed_110 rfl (lv_at hl 2 rfl) ?_
      refine lv_iload_n X.1 X.2.1 d_Md_installed_111 rfl (lv_at hl 3 rfl) ?_
      refine lv_iconst (v := 1) X.1 X.2.1 d_Md_installed_112 (by decide) ?_
      have o15 := hk
      refine r_cV (As := [.int a0, .int 1]) (rest := []) X hml hl.1 hM (k_Md_finish l D dA base M ad hR (m_activate (m_come (ru (ru r 34 ((m_find r (r 43 (a0.toNatClampNeg))).toNatClampNeg) 0) 35 ((m_find r (r 43 (a0.toNatClampNeg))).toNatClampNeg) (r 34 ((m_find r (r 43 (a0.toNatClampNeg))).toNatClampNeg))) (r 34 ((m_find r (r 43 (a0.toNatClampNeg))).toNatClampNeg)) 2) (m_find r (r 43 (a0.toNatClampNeg)))) a0 1 o15) c_Md_170 v_Md_finish kc_Md rfl hR.1 rfl (Nat.le_of_ble_eq_true rfl) ⟨rfl, rfl, Nat.le_of_ble_eq_true rfl, Nat.le_of_ble_eq_true rfl⟩ ⟨Nat.le_of_ble_eq_true rfl, Nat.le_of_ble_eq_true rfl⟩ d_Md_installed_113 ?_
      intro rv M1 ad1 H locs hP hM hE
      obtain ⟨e1, e2, e3⟩ := hP
      subst rv; subst M1; subst ad1
      show W _ _ _ _ _ _ _ _ _ _ _ _ _ _ _ (F0 m 116 ls [])
      have heL : (m_finish (m_activate (m_come (ru (ru r 34 ((m_find r (r 43 (a0.toNatClampNeg))).toNatClampNeg) 0) 35 ((m_find r (r 43 (a0.toNatClampNeg))).toNatClampNeg) (r 34 ((m_find r (r 43 (a0.toNatClampNeg))).toNatClampNeg))) (r 34 ((m_find r (r 43 (a0.toNatClampNeg))).toNatClampNeg)) 2) (m_find r (r 43 (a0.toNatClampNeg)))) a0 1) = F := ((if_neg h9).trans ((if_pos h11))).symm.trans he
      exact m_vret X hr hlk hM d_Md_installed_116 ⟨Nat.le_of_ble_eq_true rfl, Nat.le_of_ble_eq_true rfl⟩ ⟨fun _ _ _ => rfl, fun _ => Nat.le_refl _⟩ ⟨rfl, congrArg (rs M) heL, rfl⟩
    · skip
      have hk := hk.2 h11
      refine lv_aload_n X.1 X.2.1 d_Md_installed_81 rfl (lv_at hl 2 rfl) ?_
      refine lv_aload_n X.1 X.2.1 d_Md_installed_82 rfl (lv_at hl 2 rfl) ?_
      refine r_gets (q := 0) X hM rfl hR.1 f_Md_59 rfl (hR.2 16 (by decide)) d_Md_installed_83 (fun g16 => ?_)
      refine lv_iload_n X.1 X.2.1 d_Md_installed_86 rfl (lv_at hl 1 rfl) ?_
      refine R_iald (k := 35) X hM (by decide) rfl g16 a_m_waiting (fun _ => rfl) o5.1 o5.2 d_Md_installed_87 ?_
      show W _ _ _ _ _ _ _ _ _ _ _ _ _ _ _ (F0 m 88 ls [.int (r 35 ((m_find r (r 43 (a0.toNatClampNeg))).toNatClampNeg)), .ref (ad 18 0)])
      refine lv_iconst (v := 4) X.1 X.2.1 d_Md_installed_88 (by decide) ?_
      obtain ⟨o17, hk⟩ := hk
      refine r_cV (As := [.int (r 35 ((m_find r (r 43 (a0.toNatClampNeg))).toNatClampNeg)), .int 4]) (rest := []) X hml hl.1 hM (k_Md_come l D dA base M ad hR (ru r 34 ((m_find r (r 43 (a0.toNatClampNeg))).toNatClampNeg) 0) (r 35 ((m_find r (r 43 (a0.toNatClampNeg))).toNatClampNeg)) 4 o17) c_Md_139 v_Md_come kc_Md rfl hR.1 rfl (Nat.le_of_ble_eq_true rfl) ⟨rfl, rfl, Nat.le_of_ble_eq_true rfl, Nat.le_of_ble_eq_true rfl⟩ ⟨Nat.le_of_ble_eq_true rfl, Nat.le_of_ble_eq_true rfl⟩ d_Md_installed_89 ?_
      intro rv M1 ad1 H locs hP hM hE
      obtain ⟨e1, e2, e3⟩ := hP
      subst rv; subst M1; subst ad1
      show W _ _ _ _ _ _ _ _ _ _ _ _ _ _ _ (F0 m 92 ls [])
      refine lv_aload_n X.1 X.2.1 d_Md_installed_92 rfl (lv_at hl 2 rfl) ?_
      refine r_gets (q := 0) X hM rfl hR.1 f_Md_59 rfl (hR.2 16 (by decide)) d_Md_installed_93 (fun g18 => ?_)
      refine lv_iload_n X.1 X.2.1 d_Md_installed_96 rfl (lv_at hl 1 rfl) ?_
      refine lv_iload_n X.1 X.2.1 d_Md_installed_97 rfl (lv_at hl 0 rfl) ?_
      refine R_iast (k := 35) X hM (by decide) rfl g18 a_m_waiting (fun _ => rfl) o5.1 o5.2 d_Md_installed_98 (fun H locs hM => ?_)
      refine lv_aload_n X.1 X.2.1 d_Md_installed_99 rfl (lv_at hl 2 rfl) ?_
      refine lv_iload_n X.1 X.2.1 d_Md_installed_100 rfl (lv_at hl 0 rfl) ?_
      refine lv_iconst (v := 2) X.1 X.2.1 d_Md_installed_101 (by decide) ?_
      obtain ⟨o19, hk⟩ := hk
      refine r_cV (As := [.int (r 34 ((m_find r (r 43 (a0.toNatClampNeg))).toNatClampNeg)), .int 2]) (rest := []) X hml hl.1 hM (k_Md_come l D dA base M ad hR (ru (m_come (ru r 34 ((m_find r (r 43 (a0.toNatClampNeg))).toNatClampNeg) 0) (r 35 ((m_find r (r 43 (a0.toNatClampNeg))).toNatClampNeg)) 4) 35 ((m_find r (r 43 (a0.toNatClampNeg))).toNatClampNeg) (r 34 ((m_find r (r 43 (a0.toNatClampNeg))).toNatClampNeg))) (r 34 ((m_find r (r 43 (a0.toNatClampNeg))).toNatClampNeg)) 2 o19) c_Md_139 v_Md_come kc_Md rfl hR.1 rfl (Nat.le_of_ble_eq_true rfl) ⟨rfl, rfl, Nat.le_of_ble_eq_true rfl, Nat.le_of_ble_eq_true rfl⟩ ⟨Nat.le_of_ble_eq_true rfl, Nat.le_of_ble_eq_true rfl⟩ d_Md_installed_102 ?_
      intro rv M1 ad1 H locs hP hM hE
      obtain ⟨e1, e2, e3⟩ := hP
      subst rv; subst M1; subst ad1
      show W _ _ _ _ _ _ _ _ _ _ _ _ _ _ _ (F0 m 105 ls [])
      refine lv_aload_n X.1 X.2.1 d_Md_installed_105 rfl (lv_at hl 2 rfl) ?_
      refine lv_iload_n X.1 X.2.1 d_Md_installed_106 rfl (lv_at hl 1 rfl) ?_
      obtain ⟨o20, hk⟩ := hk
      refine r_cV (As := [.int (m_find r (r 43 (a0.toNatClampNeg)))]) (rest := []) X hml hl.1 hM (k_Md_activate l D dA base M ad hR (m_come (ru (m_come (ru r 34 ((m_find r (r 43 (a0.toNatClampNeg))).toNatClampNeg) 0) (r 35 ((m_find r (r 43 (a0.toNatClampNeg))).toNatClampNeg)) 4) 35 ((m_find r (r 43 (a0.toNatClampNeg))).toNatClampNeg) (r 34 ((m_find r (r 43 (a0.toNatClampNeg))).toNatClampNeg))) (r 34 ((m_find r (r 43 (a0.toNatClampNeg))).toNatClampNeg)) 2) (m_find r (r 43 (a0.toNatClampNeg))) o20) c_Md_155 v_Md_activate kc_Md rfl hR.1 rfl (Nat.le_of_ble_eq_true rfl) ⟨rfl, rfl, Nat.le_of_ble_eq_true rfl, Nat.le_of_ble_eq_true rfl⟩ ⟨Nat.le_of_ble_eq_true rfl, Nat.le_of_ble_eq_true rfl⟩ d_Md_installed_107 ?_
      intro rv M1 ad1 H locs hP hM hE
      obtain ⟨e1, e2, e3⟩ := hP
      subst rv; subst M1; subst ad1
      show W _ _ _ _ _ _ _ _ _ _ _ _ _ _ _ (F0 m 110 ls [])
      refine lv_aload_n X.1 X.2.1 d_Md_installed_110 rfl (lv_at hl 2 rfl) ?_
      refine lv_iload_n X.1 X.2.1 d_Md_installed_111 rfl (lv_at hl 3 rfl) ?_
      refine lv_iconst (v := 1) X.1 X.2.1 d_Md_installed_112 (by decide) ?_
      have o21 := hk
      refine r_cV (As := [.int a0, .int 1]) (rest := []) X hml hl.1 hM (k_Md_finish l D dA base M ad hR (m_activate (m_come (ru (m_come (ru r 34 ((m_find r (r 43 (a0.toNatClampNeg))).toNatClampNeg) 0) (r 35 ((m_find r (r 43 (a0.toNatClampNeg))).toNatClampNeg)) 4) 35 ((m_find r (r 43 (a0.toNatClampNeg))).toNatClampNeg) (r 34 ((m_find r (r 43 (a0.toNatClampNeg))).toNatClampNeg))) (r 34 ((m_find r (r 43 (a0.toNatClampNeg))).toNatClampNeg)) 2) (m_find r (r 43 (a0.toNatClampNeg)))) a0 1 o21) c_Md_170 v_Md_finish kc_Md rfl hR.1 rfl (Nat.le_of_ble_eq_true rfl) ⟨rfl, rfl, Nat.le_of_ble_eq_true rfl, Nat.le_of_ble_eq_true rfl⟩ ⟨Nat.le_of_ble_eq_true rfl, Nat.le_of_ble_eq_true rfl⟩ d_Md_installed_113 ?_
      intro rv M1 ad1 H locs hP hM hE
      obtain ⟨e1, e2, e3⟩ := hP
      subst rv; subst M1; subst ad1
      show W _ _ _ _ _ _ _ _ _ _ _ _ _ _ _ (F0 m 116 ls [])
      have heL : (m_finish (m_activate (m_come (ru (m_come (ru r 34 ((m_find r (r 43 (a0.toNatClampNeg))).toNatClampNeg) 0) (r 35 ((m_find r (r 43 (a0.toNatClampNeg))).toNatClampNeg)) 4) 35 ((m_find r (r 43 (a0.toNatClampNeg))).toNatClampNeg) (r 34 ((m_find r (r 43 (a0.toNatClampNeg))).toNatClampNeg))) (r 34 ((m_find r (r 43 (a0.toNatClampNeg))).toNatClampNeg)) 2) (m_find r (r 43 (a0.toNatClampNeg)))) a0 1) = F := ((if_neg h9).trans ((if_neg h11))).symm.trans he
      exact m_vret X hr hlk hM d_Md_installed_116 ⟨Nat.le_of_ble_eq_true rfl, Nat.le_of_ble_eq_true rfl⟩ ⟨fun _ _ _ => rfl, fun _ => Nat.le_refl _⟩ ⟨rfl, congrArg (rs M) heL, rfl⟩
  · skip
    have hk := hk.1 h9
    refine lv_aload_n X.1 X.2.1 d_Md_installed_35 rfl (lv_at hl 2 rfl) ?_
    refine lv_iload_n X.1 X.2.1 d_Md_installed_36 rfl (lv_at hl 0 rfl) ?_
    refine lv_iconst (v := 4) X.1 X.2.1 d_Md_installed_37 (by decide) ?_
    obtain ⟨o22, hk⟩ := hk
    refine r_cV (As := [.int (r 34 ((m_find r (r 43 (a0.toNatClampNeg))).toNatClampNeg)), .int 4]) (rest := []) X hml hl.1 hM (k_Md_come l D dA base M ad hR (ru r 34 ((m_find r (r 43 (a0.toNatClampNeg))).toNatClampNeg) 0) (r 34 ((m_find r (r 43 (a0.toNatClampNeg))).toNatClampNeg)) 4 o22) c_Md_139 v_Md_come kc_Md rfl hR.1 rfl (Nat.le_of_ble_eq_true rfl) ⟨rfl, rfl, Nat.le_of_ble_eq_true rfl, Nat.le_of_ble_eq_true rfl⟩ ⟨Nat.le_of_ble_eq_true rfl, Nat.le_of_ble_eq_true rfl⟩ d_Md_installed_38 ?_
    intro rv M1 ad1 H locs hP hM hE
    obtain ⟨e1, e2, e3⟩ := hP
    subst rv; subst M1; subst ad1
    show W _ _ _ _ _ _ _ _ _ _ _ _ _ _ _ (F0 m 41 ls [])
    refine lv_aload_n X.1 X.2.1 d_Md_installed_41 rfl (lv_at hl 2 rfl) ?_
    refine r_gets (q := 0) X hM rfl hR.1 f_Md_59 rfl (hR.2 16 (by decide)) d_Md_installed_42 (fun g23 => ?_)
    refine lv_iload_n X.1 X.2.1 d_Md_installed_45 rfl (lv_at hl 1 rfl) ?_
    refine R_iald (k := 35) X hM (by decide) rfl g23 a_m_waiting (fun _ => rfl) o5.1 o5.2 d_Md_installed_46 ?_
    refine lv_if_ne (tgt := 64) X.1 X.2.1 d_Md_installed_47 (by decide) (fun h24 => ?_) (fun h24 => ?_)
    · skip
      have hk := hk.2 h24
      refine lv_aload_n X.1 X.2.1 d_Md_installed_64 rfl (lv_at hl 2 rfl) ?_
      refine lv_iload_n X.1 X.2.1 d_Md_installed_65 rfl (lv_at hl 3 rfl) ?_
      refine lv_bipush (v := (-3)) X.1 X.2.1 d_Md_installed_66 (by decide) ?_
      have o25 := hk
      refine r_cV (As := [.int a0, .int (-3)]) (rest := []) X hml hl.1 hM (k_Md_finish l D dA base M ad hR (m_come (ru r 34 ((m_find r (r 43 (a0.toNatClampNeg))).toNatClampNeg) 0) (r 34 ((m_find r (r 43 (a0.toNatClampNeg))).toNatClampNeg)) 4) a0 (-3) o25) c_Md_170 v_Md_finish kc_Md rfl hR.1 rfl (Nat.le_of_ble_eq_true rfl) ⟨rfl, rfl, Nat.le_of_ble_eq_true rfl, Nat.le_of_ble_eq_true rfl⟩ ⟨Nat.le_of_ble_eq_true rfl, Nat.le_of_ble_eq_true rfl⟩ d_Md_installed_68 ?_
      intro rv M1 ad1 H locs hP hM hE
      obtain ⟨e1, e2, e3⟩ := hP
      subst rv; subst M1; subst ad1
      show W _ _ _ _ _ _ _ _ _ _ _ _ _ _ _ (F0 m 71 ls [])
      have heL : (m_finish (m_come (ru r 34 ((m_find r (r 43 (a0.toNatClampNeg))).toNatClampNeg) 0) (r 34 ((m_find r (r 43 (a0.toNatClampNeg))).toNatClampNeg)) 4) a0 (-3)) = F := ((if_pos h9).trans ((if_neg h24))).symm.trans he
      exact m_vret X hr hlk hM d_Md_installed_71 ⟨Nat.le_of_ble_eq_true rfl, Nat.le_of_ble_eq_true rfl⟩ ⟨fun _ _ _ => rfl, fun _ => Nat.le_refl _⟩ ⟨rfl, congrArg (rs M) heL, rfl⟩
    · skip
      have hk := hk.1 h24
      refine lv_aload_n X.1 X.2.1 d_Md_installed_50 rfl (lv_at hl 2 rfl) ?_
      refine r_gets (q := 0) X hM rfl hR.1 f_Md_62 rfl (hR.2 17 (by decide)) d_Md_installed_51 (fun g26 => ?_)
      refine lv_iload_n X.1 X.2.1 d_Md_installed_54 rfl (lv_at hl 1 rfl) ?_
      refine R_iald (k := 36) X hM (by decide) rfl g26 a_m_active (fun _ => rfl) o5.1 o5.2 d_Md_installed_55 ?_
      refine lv_if_ne (tgt := 64) X.1 X.2.1 d_Md_installed_56 (by decide) (fun h27 => ?_) (fun h27 => ?_)
      · skip
        have hk := hk.2 h27
        refine lv_aload_n X.1 X.2.1 d_Md_installed_64 rfl (lv_at hl 2 rfl) ?_
        refine lv_iload_n X.1 X.2.1 d_Md_installed_65 rfl (lv_at hl 3 rfl) ?_
        refine lv_bipush (v := (-3)) X.1 X.2.1 d_Md_installed_66 (by decide) ?_
        have o28 := hk
        refine r_cV (As := [.int a0, .int (-3)]) (rest := []) X hml hl.1 hM (k_Md_finish l D dA base M ad hR (m_come (ru r 34 ((m_find r (r 43 (a0.toNatClampNeg))).toNatClampNeg) 0) (r 34 ((m_find r (r 43 (a0.toNatClampNeg))).toNatClampNeg)) 4) a0 (-3) o28) c_Md_170 v_Md_finish kc_Md rfl hR.1 rfl (Nat.le_of_ble_eq_true rfl) ⟨rfl, rfl, Nat.le_of_ble_eq_true rfl, Nat.le_of_ble_eq_true rfl⟩ ⟨Nat.le_of_ble_eq_true rfl, Nat.le_of_ble_eq_true rfl⟩ d_Md_installed_68 ?_
        intro rv M1 ad1 H locs hP hM hE
        obtain ⟨e1, e2, e3⟩ := hP
        subst rv; subst M1; subst ad1
        show W _ _ _ _ _ _ _ _ _ _ _ _ _ _ _ (F0 m 71 ls [])
        have heL : (m_finish (m_come (ru r 34 ((m_find r (r 43 (a0.toNatClampNeg))).toNatClampNeg) 0) (r 34 ((m_find r (r 43 (a0.toNatClampNeg))).toNatClampNeg)) 4) a0 (-3)) = F := ((if_pos h9).trans ((if_pos h24).trans ((if_neg h27)))).symm.trans he
        exact m_vret X hr hlk hM d_Md_installed_71 ⟨Nat.le_of_ble_eq_true rfl, Nat.le_of_ble_eq_true rfl⟩ ⟨fun _ _ _ => rfl, fun _ => Nat.le_refl _⟩ ⟨rfl, congrArg (rs M) heL, rfl⟩
      · skip
        have hk := hk.1 h27
        refine lv_aload_n X.1 X.2.1 d_Md_installed_59 rfl (lv_at hl 2 rfl) ?_
        refine lv_iload_n X.1 X.2.1 d_Md_installed_60 rfl (lv_at hl 1 rfl) ?_
        obtain ⟨o29, hk⟩ := hk
        refine r_cV (As := [.int (m_find r (r 43 (a0.toNatClampNeg)))]) (rest := []) X hml hl.1 hM (k_Md_go l D dA base M ad hR (m_come (ru r 34 ((m_find r (r 43 (a0.toNatClampNeg))).toNatClampNeg) 0) (r 34 ((m_find r (r 43 (a0.toNatClampNeg))).toNatClampNeg)) 4) (m_find r (r 43 (a0.toNatClampNeg))) o29) c_Md_146 v_Md_go kc_Md rfl hR.1 rfl (Nat.le_of_ble_eq_true rfl) ⟨rfl, rfl, Nat.le_of_ble_eq_true rfl, Nat.le_of_ble_eq_true rfl⟩ ⟨Nat.le_of_ble_eq_true rfl, Nat.le_of_ble_eq_true rfl⟩ d_Md_installed_61 ?_
        intro rv M1 ad1 H locs hP hM hE
        obtain ⟨e1, e2, e3⟩ := hP
        subst rv; subst M1; subst ad1
        show W _ _ _ _ _ _ _ _ _ _ _ _ _ _ _ (F0 m 64 ls [])
        refine lv_aload_n X.1 X.2.1 d_Md_installed_64 rfl (lv_at hl 2 rfl) ?_
        refine lv_iload_n X.1 X.2.1 d_Md_installed_65 rfl (lv_at hl 3 rfl) ?_
        refine lv_bipush (v := (-3)) X.1 X.2.1 d_Md_installed_66 (by decide) ?_
        have o30 := hk
        refine r_cV (As := [.int a0, .int (-3)]) (rest := []) X hml hl.1 hM (k_Md_finish l D dA base M ad hR (m_go (m_come (ru r 34 ((m_find r (r 43 (a0.toNatClampNeg))).toNatClampNeg) 0) (r 34 ((m_find r (r 43 (a0.toNatClampNeg))).toNatClampNeg)) 4) (m_find r (r 43 (a0.toNatClampNeg)))) a0 (-3) o30) c_Md_170 v_Md_finish kc_Md rfl hR.1 rfl (Nat.le_of_ble_eq_true rfl) ⟨rfl, rfl, Nat.le_of_ble_eq_true rfl, Nat.le_of_ble_eq_true rfl⟩ ⟨Nat.le_of_ble_eq_true rfl, Nat.le_of_ble_eq_true rfl⟩ d_Md_installed_68 ?_
        intro rv M1 ad1 H locs hP hM hE
        obtain ⟨e1, e2, e3⟩ := hP
        subst rv; subst M1; subst ad1
        show W _ _ _ _ _ _ _ _ _ _ _ _ _ _ _ (F0 m 71 ls [])
        have heL : (m_finish (m_go (m_come (ru r 34 ((m_find r (r 43 (a0.toNatClampNeg))).toNatClampNeg) 0) (r 34 ((m_find r (r 43 (a0.toNatClampNeg))).toNatClampNeg)) 4) (m_find r (r 43 (a0.toNatClampNeg)))) a0 (-3)) = F := ((if_pos h9).trans ((if_pos h24).trans ((if_pos h27)))).symm.trans he
        exact m_vret X hr hlk hM d_Md_installed_71 ⟨Nat.le_of_ble_eq_true rfl, Nat.le_of_ble_eq_true rfl⟩ ⟨fun _ _ _ => rfl, fun _ => Nat.le_refl _⟩ ⟨rfl, congrArg (rs M) heL, rfl⟩
def m_unregister (r : rR) (a0 : Int32) : rR := (if (m_find r (r 43 (a0.toNatClampNeg))) < 0 then (m_finish r a0 (-2)) else (if (r 37 ((m_find r (r 43 (a0.toNatClampNeg))).toNatClampNeg)) = 0 then (m_finish (m_clearAway (ru r 37 ((m_find r (r 43 (a0.toNatClampNeg))).toNatClampNeg) 1) (m_find r (r 43 (a0.toNatClampNeg)))).2 a0 1) else (m_finish r a0 (-2))))
def m_unregister_ok (r : rR) (a0 : Int32) : Prop := (ixk a0 60) ∧ ((m_find_ok r (r 43 (a0.toNatClampNeg))) ∧ ((((m_find r (r 43 (a0.toNatClampNeg))) < 0) → (m_finish_ok r a0 (-2))) ∧ (¬ ((m_find r (r 43 (a0.toNatClampNeg))) < 0) → ((ixk (m_find r (r 43 (a0.toNatClampNeg))) 6) ∧ ((((r 37 ((m_find r (r 43 (a0.toNatClampNeg))).toNatClampNeg)) = 0) → ((m_clearAway_ok (ru r 37 ((m_find r (r 43 (a0.toNatClampNeg))).toNatClampNeg) 1) (m_find r (r 43 (a0.toNatClampNeg)))) ∧ (m_finish_ok (m_clearAway (ru r 37 ((m_find r (r 43 (a0.toNatClampNeg))).toNatClampNeg) 1) (m_find r (r 43 (a0.toNatClampNeg)))).2 a0 1))) ∧ (¬ ((r 37 ((m_find r (r 43 (a0.toNatClampNeg))).toNatClampNeg)) = 0) → (m_finish_ok r a0 (-2))))))))
set_option maxHeartbeats 4000000 in
set_option maxRecDepth 100000 in
theorem k_Md_unregister (l : Launch) (D : va_G) (dA : Nat → ClassId) (base : Nat) (M : mM) (ad : Nat → Nat → Nat) (hR : wR M) (r : rR) (a0 : Int32) (hk : m_unregister_ok r a0) : mMet l y_Md_unregister b_Md_unregister 3 none ({ frames := 3, cells := 0, slots := 0, locals := 64 } : Room) 0 0 D dA base (rs M r) ad [.ref (ad 18 0), .int a0] (fun rv M' ad' => rv = none ∧ M' = rs M (m_unregister r a0) ∧ ad' = ad) := by
  refine m_start (lvs := [(0, .ref (ad 18 0)), (1, .int a0)]) (by decide) (Nat.le_of_ble_eq_true rfl) rfl ?_
  intro p e s m below meth c ls X hr hlk hin hml hM hl
  generalize he : m_unregister r a0 = F
  refine lv_aload_n X.1 X.2.1 d_Md_unregister_0 rfl (lv_at hl 0 rfl) ?_
  refine lv_aload_n X.1 X.2.1 d_Md_unregister_1 rfl (lv_at hl 0 rfl) ?_
  refine r_gets (q := 0) X hM rfl hR.1 f_Md_83 rfl (hR.2 24 (by decide)) d_Md_unregister_2 (fun g1 => ?_)
  refine lv_iload_n X.1 X.2.1 d_Md_unregister_5 rfl (lv_at hl 1 rfl) ?_
  obtain ⟨o2, hk⟩ := hk
  refine R_iald (k := 43) X hM (by decide) rfl g1 a_m_jobScope (fun _ => rfl) o2.1 o2.2 d_Md_unregister_6 ?_
  obtain ⟨o3, hk⟩ := hk
  refine r_cV (As := [.int (r 43 (a0.toNatClampNeg))]) (rest := []) X hml hl.1 hM (k_Md_find l D dA base M ad hR r (r 43 (a0.toNatClampNeg)) o3) c_Md_167 v_Md_find kc_Md rfl hR.1 rfl (Nat.le_of_ble_eq_true rfl) ⟨rfl, rfl, Nat.le_of_ble_eq_true rfl, Nat.le_of_ble_eq_true rfl⟩ ⟨Nat.le_of_ble_eq_true rfl, Nat.le_of_ble_eq_true rfl⟩ d_Md_unregister_7 ?_
  intro rv M1 ad1 H locs hP hM hE
  obtain ⟨e1, e2, e3⟩ := hP
  subst rv; subst M1; subst ad1
  show W _ _ _ _ _ _ _ _ _ _ _ _ _ _ _ (F0 m 10 ls [.int (m_find r (r 43 (a0.toNatClampNeg)))])
  refine lv_istore_n (lv' := [(2, .int (m_find r (r 43 (a0.toNatClampNeg)))), (0, .ref (ad 18 0)), (1, .int a0)]) X.1 X.2.1 d_Md_unregister_10 rfl hl (by decide) rfl (fun ls hl => ?_)
  refine lv_iload_n X.1 X.2.1 d_Md_unregister_11 rfl (lv_at hl 0 rfl) ?_
  refine lv_if_lt (tgt := 24) X.1 X.2.1 d_Md_unregister_12 (by decide) (fun h4 => ?_) (fun h4 => ?_)
  · skip
    have hk := hk.1 h4
    refine lv_aload_n X.1 X.2.1 d_Md_unregister_24 rfl (lv_at hl 1 rfl) ?_
    refine lv_iload_n X.1 X.2.1 d_Md_unregister_25 rfl (lv_at hl 2 rfl) ?_
    refine lv_bipush (v := (-2)) X.1 X.2.1 d_Md_unregister_26 (by decide) ?_
    have o5 := hk
    refine r_cV (As := [.int a0, .int (-2)]) (rest := []) X hml hl.1 hM (k_Md_finish l D dA base M ad hR r a0 (-2) o5) c_Md_170 v_Md_finish kc_Md rfl hR.1 rfl (Nat.le_of_ble_eq_true rfl) ⟨rfl, rfl, Nat.le_of_ble_eq_true rfl, Nat.le_of_ble_eq_true rfl⟩ ⟨Nat.le_of_ble_eq_true rfl, Nat.le_of_ble_eq_true rfl⟩ d_Md_unregister_28 ?_
    intro rv M1 ad1 H locs hP hM hE
    obtain ⟨e1, e2, e3⟩ := hP
    subst rv; subst M1; subst ad1
    show W _ _ _ _ _ _ _ _ _ _ _ _ _ _ _ (F0 m 31 ls [])
    have heL : (m_finish r a0 (-2)) = F := ((if_pos h4)).symm.trans he
    exact m_vret X hr hlk hM d_Md_unregister_31 ⟨Nat.le_of_ble_eq_true rfl, Nat.le_of_ble_eq_true rfl⟩ ⟨fun _ _ _ => rfl, fun _ => Nat.le_refl _⟩ ⟨rfl, congrArg (rs M) heL, rfl⟩
  · skip
    have hk := hk.2 h4
    refine lv_aload_n X.1 X.2.1 d_Md_unregister_15 rfl (lv_at hl 1 rfl) ?_
    refine r_gets (q := 0) X hM rfl hR.1 f_Md_65 rfl (hR.2 18 (by decide)) d_Md_unregister_16 (fun g6 => ?_)
    refine lv_iload_n X.1 X.2.1 d_Md_unregister_19 rfl (lv_at hl 0 rfl) ?_
    obtain ⟨o7, hk⟩ := hk
    refine R_zald (k := 37) X hM (by decide) rfl g6 a_m_leaving (fun _ => rfl) o7.1 o7.2 d_Md_unregister_20 ?_
    refine lv_if_eq (tgt := 32) X.1 X.2.1 d_Md_unregister_21 (by decide) (fun h8 => ?_) (fun h8 => ?_)
    · skip
      have hk := hk.1 h8
      refine lv_aload_n X.1 X.2.1 d_Md_unregister_32 rfl (lv_at hl 1 rfl) ?_
      refine r_gets (q := 0) X hM rfl hR.1 f_Md_65 rfl (hR.2 18 (by decide)) d_Md_unregister_33 (fun g9 => ?_)
      refine lv_iload_n X.1 X.2.1 d_Md_unregister_36 rfl (lv_at hl 0 rfl) ?_
      refine lv_iconst (v := 1) X.1 X.2.1 d_Md_unregister_37 (by decide) ?_
      refine R_zast (k := 37) X hM (by decide) rfl g9 a_m_leaving (fun _ => rfl) o7.1 o7.2 rfl d_Md_unregister_38 (fun H locs hM => ?_)
      refine lv_aload_n X.1 X.2.1 d_Md_unregister_39 rfl (lv_at hl 1 rfl) ?_
      refine lv_iload_n X.1 X.2.1 d_Md_unregister_40 rfl (lv_at hl 0 rfl) ?_
      obtain ⟨o10, hk⟩ := hk
      refine r_cV (As := [.int (m_find r (r 43 (a0.toNatClampNeg)))]) (rest := []) X hml hl.1 hM (k_Md_clearAway l D dA base M ad hR (ru r 37 ((m_find r (r 43 (a0.toNatClampNeg))).toNatClampNeg) 1) (m_find r (r 43 (a0.toNatClampNeg))) o10) c_Md_152 v_Md_clearAway kc_Md rfl hR.1 rfl (Nat.le_of_ble_eq_true rfl) ⟨rfl, rfl, Nat.le_of_ble_eq_true rfl, Nat.le_of_ble_eq_true rfl⟩ ⟨Nat.le_of_ble_eq_true rfl, Nat.le_of_ble_eq_true rfl⟩ d_Md_unregister_41 ?_
      intro rv M1 ad1 H locs hP hM hE
      obtain ⟨e1, e2, e3⟩ := hP
      subst rv; subst M1; subst ad1
      show W _ _ _ _ _ _ _ _ _ _ _ _ _ _ _ (F0 m 44 ls [.int ((m_clearAway (ru r 37 ((m_find r (r 43 (a0.toNatClampNeg))).toNatClampNeg) 1) (m_find r (r 43 (a0.toNatClampNeg)))).1)])
      refine lv_pop X.1 X.2.1 d_Md_unregister_44 rfl ?_
      refine lv_aload_n X.1 X.2.1 d_Md_unregister_45 rfl (lv_at hl 1 rfl) ?_
      refine lv_iload_n X.1 X.2.1 d_Md_unregister_46 rfl (lv_at hl 2 rfl) ?_
      refine lv_iconst (v := 1) X.1 X.2.1 d_Md_unregister_47 (by decide) ?_
      have o11 := hk
      refine r_cV (As := [.int a0, .int 1]) (rest := []) X hml hl.1 hM (k_Md_finish l D dA base M ad hR (m_clearAway (ru r 37 ((m_find r (r 43 (a0.toNatClampNeg))).toNatClampNeg) 1) (m_find r (r 43 (a0.toNatClampNeg)))).2 a0 1 o11) c_Md_170 v_Md_finish kc_Md rfl hR.1 rfl (Nat.le_of_ble_eq_true rfl) ⟨rfl, rfl, Nat.le_of_ble_eq_true rfl, Nat.le_of_ble_eq_true rfl⟩ ⟨Nat.le_of_ble_eq_true rfl, Nat.le_of_ble_eq_true rfl⟩ d_Md_unregister_48 ?_
      intro rv M1 ad1 H locs hP hM hE
      obtain ⟨e1, e2, e3⟩ := hP
      subst rv; subst M1; subst ad1
      show W _ _ _ _ _ _ _ _ _ _ _ _ _ _ _ (F0 m 51 ls [])
      have heL : (m_finish (m_clearAway (ru r 37 ((m_find r (r 43 (a0.toNatClampNeg))).toNatClampNeg) 1) (m_find r (r 43 (a0.toNatClampNeg)))).2 a0 1) = F := ((if_neg h4).trans ((if_pos h8))).symm.trans he
      exact m_vret X hr hlk hM d_Md_unregister_51 ⟨Nat.le_of_ble_eq_true rfl, Nat.le_of_ble_eq_true rfl⟩ ⟨fun _ _ _ => rfl, fun _ => Nat.le_refl _⟩ ⟨rfl, congrArg (rs M) heL, rfl⟩
    · skip
      have hk := hk.2 h8
      refine lv_aload_n X.1 X.2.1 d_Md_unregister_24 rfl (lv_at hl 1 rfl) ?_
      refine lv_iload_n X.1 X.2.1 d_Md_unregister_25 rfl (lv_at hl 2 rfl) ?_
      refine lv_bipush (v := (-2)) X.1 X.2.1 d_Md_unregister_26 (by decide) ?_
      have o12 := hk
      refine r_cV (As := [.int a0, .int (-2)]) (rest := []) X hml hl.1 hM (k_Md_finish l D dA base M ad hR r a0 (-2) o12) c_Md_170 v_Md_finish kc_Md rfl hR.1 rfl (Nat.le_of_ble_eq_true rfl) ⟨rfl, rfl, Nat.le_of_ble_eq_true rfl, Nat.le_of_ble_eq_true rfl⟩ ⟨Nat.le_of_ble_eq_true rfl, Nat.le_of_ble_eq_true rfl⟩ d_Md_unregister_28 ?_
      intro rv M1 ad1 H locs hP hM hE
      obtain ⟨e1, e2, e3⟩ := hP
      subst rv; subst M1; subst ad1
      show W _ _ _ _ _ _ _ _ _ _ _ _ _ _ _ (F0 m 31 ls [])
      have heL : (m_finish r a0 (-2)) = F := ((if_neg h4).trans ((if_neg h8))).symm.trans he
      exact m_vret X hr hlk hM d_Md_unregister_31 ⟨Nat.le_of_ble_eq_true rfl, Nat.le_of_ble_eq_true rfl⟩ ⟨fun _ _ _ => rfl, fun _ => Nat.le_refl _⟩ ⟨rfl, congrArg (rs M) heL, rfl⟩
def m_step (r : rR) (a0 : Int32) : Int32 × rR := (if (m_isPath a0) = 0 then ((m_fail r 1).1, (m_fail r 1).2) else (if 0 ≤ (m_firstOf r a0) then (if (r 39 ((m_firstOf r a0).toNatClampNeg)) = 0 then (if (r 42 ((m_firstOf r a0).toNatClampNeg)) = 0 then ((m_firstOf r a0), (ru (m_register (ru r 18 34 0) (m_firstOf r a0)) 39 ((m_firstOf r a0).toNatClampNeg) 1)) else (if (r 42 ((m_firstOf r a0).toNatClampNeg)) = 1 then ((m_firstOf r a0), (ru (m_update (ru r 18 34 0) (m_firstOf r a0)) 39 ((m_firstOf r a0).toNatClampNeg) 1)) else ((m_firstOf r a0), (ru (m_unregister (ru r 18 34 0) (m_firstOf r a0)) 39 ((m_firstOf r a0).toNatClampNeg) 1)))) else ((m_firstOf r a0), (ru (m_installed (ru r 18 34 0) (m_firstOf r a0)) 39 ((m_firstOf r a0).toNatClampNeg) 1))) else ((m_fail r 2).1, (m_fail r 2).2)))
def m_step_ok (r : rR) (a0 : Int32) : Prop := (m_isPath_ok a0) ∧ ((((m_isPath a0) = 0) → (True)) ∧ (¬ ((m_isPath a0) = 0) → ((m_firstOf_ok r a0) ∧ (((0 ≤ (m_firstOf r a0)) → ((ixk (m_firstOf r a0) 60) ∧ ((((r 39 ((m_firstOf r a0).toNatClampNeg)) = 0) → ((((r 42 ((m_firstOf r a0).toNatClampNeg)) = 0) → (m_register_ok (ru r 18 34 0) (m_firstOf r a0))) ∧ (¬ ((r 42 ((m_firstOf r a0).toNatClampNeg)) = 0) → ((((r 42 ((m_firstOf r a0).toNatClampNeg)) = 1) → (m_update_ok (ru r 18 34 0) (m_firstOf r a0))) ∧ (¬ ((r 42 ((m_firstOf r a0).toNatClampNeg)) = 1) → (m_unregister_ok (ru r 18 34 0) (m_firstOf r a0))))))) ∧ (¬ ((r 39 ((m_firstOf r a0).toNatClampNeg)) = 0) → (m_installed_ok (ru r 18 34 0) (m_firstOf r a0)))))) ∧ (¬ (0 ≤ (m_firstOf r a0)) → (True))))))
set_option maxHeartbeats 4000000 in
set_option maxRecDepth 100000 in
theorem k_Md_step (l : Launch) (D : va_G) (dA : Nat → ClassId) (base : Nat) (M : mM) (ad : Nat → Nat → Nat) (hR : wR M) (r : rR) (a0 : Int32) (hk : m_step_ok r a0) : mMet l y_Md_step b_Md_step 3 (some FieldType.int) ({ frames := 4, cells := 0, slots := 0, locals := 90 } : Room) 0 0 D dA base (rs M r) ad [.ref (ad 18 0), .int a0] (fun rv M' ad' => rv = some (.int (m_step r a0).1) ∧ M' = rs M (m_step r a0).2 ∧ ad' = ad) := by
  refine m_start (lvs := [(0, .ref (ad 18 0)), (1, .int a0)]) (by decide) (Nat.le_of_ble_eq_true rfl) rfl ?_
  intro p e s m below meth c ls X hr hlk hin hml hM hl
  generalize he : m_step r a0 = F
  refine lv_iload_n X.1 X.2.1 d_Md_step_0 rfl (lv_at hl 1 rfl) ?_
  obtain ⟨o1, hk⟩ := hk
  refine r_cS (As := [.int a0]) (rest := []) X hml hl.1 hM (k_Md_isPath l D dA base (rs M r) ad a0 o1) c_Md_118 v_Md_isPath rfl (Nat.le_of_ble_eq_true rfl) ⟨rfl, rfl, Nat.le_of_ble_eq_true rfl, Nat.le_of_ble_eq_true rfl⟩ ⟨Nat.le_of_ble_eq_true rfl, Nat.le_of_ble_eq_true rfl⟩ d_Md_step_1 ?_
  intro rv M1 ad1 H locs hP hM hE
  obtain ⟨e1, e2, e3⟩ := hP
  subst rv; subst M1; subst ad1
  show W _ _ _ _ _ _ _ _ _ _ _ _ _ _ _ (F0 m 4 ls [.int (m_isPath a0)])
  refine lv_if_ne (tgt := 13) X.1 X.2.1 d_Md_step_4 (by decide) (fun h2 => ?_) (fun h2 => ?_)
  · skip
    have hk := hk.2 h2
    refine lv_aload_n X.1 X.2.1 d_Md_step_13 rfl (lv_at hl 0 rfl) ?_
    refine lv_iload_n X.1 X.2.1 d_Md_step_14 rfl (lv_at hl 1 rfl) ?_
    obtain ⟨o3, hk⟩ := hk
    refine r_cV (As := [.int a0]) (rest := []) X hml hl.1 hM (k_Md_firstOf l D dA base M ad hR r a0 o3) c_Md_179 v_Md_firstOf kc_Md rfl hR.1 rfl (Nat.le_of_ble_eq_true rfl) ⟨rfl, rfl, Nat.le_of_ble_eq_true rfl, Nat.le_of_ble_eq_true rfl⟩ ⟨Nat.le_of_ble_eq_true rfl, Nat.le_of_ble_eq_true rfl⟩ d_Md_step_15 ?_
    intro rv M1 ad1 H locs hP hM hE
    obtain ⟨e1, e2, e3⟩ := hP
    subst rv; subst M1; subst ad1
    show W _ _ _ _ _ _ _ _ _ _ _ _ _ _ _ (F0 m 18 ls [.int (m_firstOf r a0)])
    refine lv_istore_n (lv' := [(2, .int (m_firstOf r a0)), (0, .ref (ad 18 0)), (1, .int a0)]) X.1 X.2.1 d_Md_step_18 rfl hl (by decide) rfl (fun ls hl => ?_)
    refine lv_iload_n X.1 X.2.1 d_Md_step_19 rfl (lv_at hl 0 rfl) ?_
    refine lv_if_ge (tgt := 29) X.1 X.2.1 d_Md_step_20 (by decide) (fun h4 => ?_) (fun h4 => ?_)
    · skip
      have hk := hk.1 h4
      refine lv_aload_n X.1 X.2.1 d_Md_step_29 rfl (lv_at hl 1 rfl) ?_
      refine lv_iconst (v := 0) X.1 X.2.1 d_Md_step_30 (by decide) ?_
      refine R_puti (k := 18) X hM (by decide) rfl hR.1 p_Md_98 rfl rfl rfl d_Md_step_31 (fun H locs hM => ?_)
      refine lv_aload_n X.1 X.2.1 d_Md_step_34 rfl (lv_at hl 1 rfl) ?_
      refine r_gets (q := 0) X hM rfl hR.1 f_Md_71 rfl (hR.2 20 (by decide)) d_Md_step_35 (fun g5 => ?_)
      refine lv_iload_n X.1 X.2.1 d_Md_step_38 rfl (lv_at hl 0 rfl) ?_
      obtain ⟨o6, hk⟩ := hk
      refine R_zald (k := 39) X hM (by decide) rfl g5 a_m_begun (fun _ => rfl) o6.1 o6.2 d_Md_step_39 ?_
      show W _ _ _ _ _ _ _ _ _ _ _ _ _ _ _ (F0 m 40 ls [.int (r 39 ((m_firstOf r a0).toNatClampNeg))])
      refine lv_if_eq (tgt := 51) X.1 X.2.1 d_Md_step_40 (by decide) (fun h7 => ?_) (fun h7 => ?_)
      · skip
        have hk := hk.1 h7
        refine lv_aload_n X.1 X.2.1 d_Md_step_51 rfl (lv_at hl 1 rfl) ?_
        refine r_gets (q := 0) X hM rfl hR.1 f_Md_80 rfl (hR.2 23 (by decide)) d_Md_step_52 (fun g8 => ?_)
        refine lv_iload_n X.1 X.2.1 d_Md_step_55 rfl (lv_at hl 0 rfl) ?_
        refine R_iald (k := 42) X hM (by decide) rfl g8 a_m_kind (fun _ => rfl) o6.1 o6.2 d_Md_step_56 ?_
        show W _ _ _ _ _ _ _ _ _ _ _ _ _ _ _ (F0 m 57 ls [.int (r 42 ((m_firstOf r a0).toNatClampNeg))])
        refine lv_if_ne (tgt := 68) X.1 X.2.1 d_Md_step_57 (by decide) (fun h9 => ?_) (fun h9 => ?_)
        · skip
          have hk := hk.2 h9
          refine lv_aload_n X.1 X.2.1 d_Md_step_68 rfl (lv_at hl 1 rfl) ?_
          refine r_gets (q := 0) X hM rfl hR.1 f_Md_80 rfl (hR.2 23 (by decide)) d_Md_step_69 (fun g10 => ?_)
          refine lv_iload_n X.1 X.2.1 d_Md_step_72 rfl (lv_at hl 0 rfl) ?_
          refine R_iald (k := 42) X hM (by decide) rfl g10 a_m_kind (fun _ => rfl) o6.1 o6.2 d_Md_step_73 ?_
          show W _ _ _ _ _ _ _ _ _ _ _ _ _ _ _ (F0 m 74 ls [.int (r 42 ((m_firstOf r a0).toNatClampNeg))])
          refine lv_iconst (v := 1) X.1 X.2.1 d_Md_step_74 (by decide) ?_
          refine lv_icmp_ne (tgt := 86) X.1 X.2.1 d_Md_step_75 (by decide) (fun h11 => ?_) (fun h11 => ?_)
          · skip
            have hk := hk.2 h11
            refine lv_aload_n X.1 X.2.1 d_Md_step_86 rfl (lv_at hl 1 rfl) ?_
            refine lv_iload_n X.1 X.2.1 d_Md_step_87 rfl (lv_at hl 0 rfl) ?_
            have o12 := hk
            refine r_cV (As := [.int (m_firstOf r a0)]) (rest := []) X hml hl.1 hM (k_Md_unregister l D dA base M ad hR (ru r 18 34 0) (m_firstOf r a0) o12) c_Md_191 v_Md_unregister kc_Md rfl hR.1 rfl (Nat.le_of_ble_eq_true rfl) ⟨rfl, rfl, Nat.le_of_ble_eq_true rfl, Nat.le_of_ble_eq_true rfl⟩ ⟨Nat.le_of_ble_eq_true rfl, Nat.le_of_ble_eq_true rfl⟩ d_Md_step_88 ?_
            intro rv M1 ad1 H locs hP hM hE
            obtain ⟨e1, e2, e3⟩ := hP
            subst rv; subst M1; subst ad1
            show W _ _ _ _ _ _ _ _ _ _ _ _ _ _ _ (F0 m 91 ls [])
            refine lv_aload_n X.1 X.2.1 d_Md_step_91 rfl (lv_at hl 1 rfl) ?_
            refine r_gets (q := 0) X hM rfl hR.1 f_Md_71 rfl (hR.2 20 (by decide)) d_Md_step_92 (fun g13 => ?_)
            refine lv_iload_n X.1 X.2.1 d_Md_step_95 rfl (lv_at hl 0 rfl) ?_
            refine lv_iconst (v := 1) X.1 X.2.1 d_Md_step_96 (by decide) ?_
            refine R_zast (k := 39) X hM (by decide) rfl g13 a_m_begun (fun _ => rfl) o6.1 o6.2 rfl d_Md_step_97 (fun H locs hM => ?_)
            refine lv_iload_n X.1 X.2.1 d_Md_step_98 rfl (lv_at hl 0 rfl) ?_
            have heL : ((m_firstOf r a0), (ru (m_unregister (ru r 18 34 0) (m_firstOf r a0)) 39 ((m_firstOf r a0).toNatClampNeg) 1)) = F := ((if_neg h2).trans ((if_pos h4).trans ((if_pos h7).trans ((if_neg h9).trans ((if_neg h11)))))).symm.trans he
            exact m_iret X hr hlk hM d_Md_step_99 ⟨Nat.le_of_ble_eq_true rfl, Nat.le_of_ble_eq_true rfl⟩ ⟨fun _ _ _ => rfl, fun _ => Nat.le_refl _⟩ ⟨congrArg (fun z => some (Value.int z.1)) heL, congrArg (fun z => rs M z.2) heL, rfl⟩
          · skip
            have hk := hk.1 h11
            refine lv_aload_n X.1 X.2.1 d_Md_step_78 rfl (lv_at hl 1 rfl) ?_
            refine lv_iload_n X.1 X.2.1 d_Md_step_79 rfl (lv_at hl 0 rfl) ?_
            have o14 := hk
            refine r_cV (As := [.int (m_firstOf r a0)]) (rest := []) X hml hl.1 hM (k_Md_update l D dA base M ad hR (ru r 18 34 0) (m_firstOf r a0) o14) c_Md_188 v_Md_update kc_Md rfl hR.1 rfl (Nat.le_of_ble_eq_true rfl) ⟨rfl, rfl, Nat.le_of_ble_eq_true rfl, Nat.le_of_ble_eq_true rfl⟩ ⟨Nat.le_of_ble_eq_true rfl, Nat.le_of_ble_eq_true rfl⟩ d_Md_step_80 ?_
            intro rv M1 ad1 H locs hP hM hE
            obtain ⟨e1, e2, e3⟩ := hP
            subst rv; subst M1; subst ad1
            show W _ _ _ _ _ _ _ _ _ _ _ _ _ _ _ (F0 m 83 ls [])
            refine lv_goto (tgt := 91) X.1 X.2.1 d_Md_step_83 (by decide) ?_
            refine lv_aload_n X.1 X.2.1 d_Md_step_91 rfl (lv_at hl 1 rfl) ?_
            refine r_gets (q := 0) X hM rfl hR.1 f_Md_71 rfl (hR.2 20 (by decide)) d_Md_step_92 (fun g15 => ?_)
            refine lv_iload_n X.1 X.2.1 d_Md_step_95 rfl (lv_at hl 0 rfl) ?_
            refine lv_iconst (v := 1) X.1 X.2.1 d_Md_step_96 (by decide) ?_
            refine R_zast (k := 39) X hM (by decide) rfl g15 a_m_begun (fun _ => rfl) o6.1 o6.2 rfl d_Md_step_97 (fun H locs hM => ?_)
            refine lv_iload_n X.1 X.2.1 d_Md_step_98 rfl (lv_at hl 0 rfl) ?_
            have heL : ((m_firstOf r a0), (ru (m_update (ru r 18 34 0) (m_firstOf r a0)) 39 ((m_firstOf r a0).toNatClampNeg) 1)) = F := ((if_neg h2).trans ((if_pos h4).trans ((if_pos h7).trans ((if_neg h9).trans ((if_pos h11)))))).symm.trans he
            exact m_iret X hr hlk hM d_Md_step_99 ⟨Nat.le_of_ble_eq_true rfl, Nat.le_of_ble_eq_true rfl⟩ ⟨fun _ _ _ => rfl, fun _ => Nat.le_refl _⟩ ⟨congrArg (fun z => some (Value.int z.1)) heL, congrArg (fun z => rs M z.2) heL, rfl⟩
        · skip
          have hk := hk.1 h9
          refine lv_aload_n X.1 X.2.1 d_Md_step_60 rfl (lv_at hl 1 rfl) ?_
          refine lv_iload_n X.1 X.2.1 d_Md_step_61 rfl (lv_at hl 0 rfl) ?_
          have o16 := hk
          refine r_cV (As := [.int (m_firstOf r a0)]) (rest := []) X hml hl.1 hM (k_Md_register l D dA base M ad hR (ru r 18 34 0) (m_firstOf r a0) o16) c_Md_185 v_Md_register kc_Md rfl hR.1 rfl (Nat.le_of_ble_eq_true rfl) ⟨rfl, rfl, Nat.le_of_ble_eq_true rfl, Nat.le_of_ble_eq_true rfl⟩ ⟨Nat.le_of_ble_eq_true rfl, Nat.le_of_ble_eq_true rfl⟩ d_Md_step_62 ?_
          intro rv M1 ad1 H locs hP hM hE
          obtain ⟨e1, e2, e3⟩ := hP
          subst rv; subst M1; subst ad1
          show W _ _ _ _ _ _ _ _ _ _ _ _ _ _ _ (F0 m 65 ls [])
          refine lv_goto (tgt := 91) X.1 X.2.1 d_Md_step_65 (by decide) ?_
          refine lv_aload_n X.1 X.2.1 d_Md_step_91 rfl (lv_at hl 1 rfl) ?_
          refine r_gets (q := 0) X hM rfl hR.1 f_Md_71 rfl (hR.2 20 (by decide)) d_Md_step_92 (fun g17 => ?_)
          refine lv_iload_n X.1 X.2.1 d_Md_step_95 rfl (lv_at hl 0 rfl) ?_
          refine lv_iconst (v := 1) X.1 X.2.1 d_Md_step_96 (by decide) ?_
          refine R_zast (k := 39) X hM (by decide) rfl g17 a_m_begun (fun _ => rfl) o6.1 o6.2 rfl d_Md_step_97 (fun H locs hM => ?_)
          refine lv_iload_n X.1 X.2.1 d_Md_step_98 rfl (lv_at hl 0 rfl) ?_
          have heL : ((m_firstOf r a0), (ru (m_register (ru r 18 34 0) (m_firstOf r a0)) 39 ((m_firstOf r a0).toNatClampNeg) 1)) = F := ((if_neg h2).trans ((if_pos h4).trans ((if_pos h7).trans ((if_pos h9))))).symm.trans he
          exact m_iret X hr hlk hM d_Md_step_99 ⟨Nat.le_of_ble_eq_true rfl, Nat.le_of_ble_eq_true rfl⟩ ⟨fun _ _ _ => rfl, fun _ => Nat.le_refl _⟩ ⟨congrArg (fun z => some (Value.int z.1)) heL, congrArg (fun z => rs M z.2) heL, rfl⟩
      · skip
        have hk := hk.2 h7
        refine lv_aload_n X.1 X.2.1 d_Md_step_43 rfl (lv_at hl 1 rfl) ?_
        refine lv_iload_n X.1 X.2.1 d_Md_step_44 rfl (lv_at hl 0 rfl) ?_
        have o18 := hk
        refine r_cV (As := [.int (m_firstOf r a0)]) (rest := []) X hml hl.1 hM (k_Md_installed l D dA base M ad hR (ru r 18 34 0) (m_firstOf r a0) o18) c_Md_182 v_Md_installed kc_Md rfl hR.1 rfl (Nat.le_of_ble_eq_true rfl) ⟨rfl, rfl, Nat.le_of_ble_eq_true rfl, Nat.le_of_ble_eq_true rfl⟩ ⟨Nat.le_of_ble_eq_true rfl, Nat.le_of_ble_eq_true rfl⟩ d_Md_step_45 ?_
        intro rv M1 ad1 H locs hP hM hE
        obtain ⟨e1, e2, e3⟩ := hP
        subst rv; subst M1; subst ad1
        show W _ _ _ _ _ _ _ _ _ _ _ _ _ _ _ (F0 m 48 ls [])
        refine lv_goto (tgt := 91) X.1 X.2.1 d_Md_step_48 (by decide) ?_
        refine lv_aload_n X.1 X.2.1 d_Md_step_91 rfl (lv_at hl 1 rfl) ?_
        refine r_gets (q := 0) X hM rfl hR.1 f_Md_71 rfl (hR.2 20 (by decide)) d_Md_step_92 (fun g19 => ?_)
        refine lv_iload_n X.1 X.2.1 d_Md_step_95 rfl (lv_at hl 0 rfl) ?_
        refine lv_iconst (v := 1) X.1 X.2.1 d_Md_step_96 (by decide) ?_
        refine R_zast (k := 39) X hM (by decide) rfl g19 a_m_begun (fun _ => rfl) o6.1 o6.2 rfl d_Md_step_97 (fun H locs hM => ?_)
        refine lv_iload_n X.1 X.2.1 d_Md_step_98 rfl (lv_at hl 0 rfl) ?_
        have heL : ((m_firstOf r a0), (ru (m_installed (ru r 18 34 0) (m_firstOf r a0)) 39 ((m_firstOf r a0).toNatClampNeg) 1)) = F := ((if_neg h2).trans ((if_pos h4).trans ((if_neg h7)))).symm.trans he
        exact m_iret X hr hlk hM d_Md_step_99 ⟨Nat.le_of_ble_eq_true rfl, Nat.le_of_ble_eq_true rfl⟩ ⟨fun _ _ _ => rfl, fun _ => Nat.le_refl _⟩ ⟨congrArg (fun z => some (Value.int z.1)) heL, congrArg (fun z => rs M z.2) heL, rfl⟩
    · skip
      have hk := hk.2 h4
      refine lv_aload_n X.1 X.2.1 d_Md_step_23 rfl (lv_at hl 1 rfl) ?_
      refine lv_iconst (v := 2) X.1 X.2.1 d_Md_step_24 (by decide) ?_
      refine r_cV (As := [.int 2]) (rest := []) X hml hl.1 hM (k_Md_fail l D dA base M ad hR r 2) c_Md_161 v_Md_fail kc_Md rfl hR.1 rfl (Nat.le_of_ble_eq_true rfl) ⟨rfl, rfl, Nat.le_of_ble_eq_true rfl, Nat.le_of_ble_eq_true rfl⟩ ⟨Nat.le_of_ble_eq_true rfl, Nat.le_of_ble_eq_true rfl⟩ d_Md_step_25 ?_
      intro rv M1 ad1 H locs hP hM hE
      obtain ⟨e1, e2, e3⟩ := hP
      subst rv; subst M1; subst ad1
      show W _ _ _ _ _ _ _ _ _ _ _ _ _ _ _ (F0 m 28 ls [.int ((m_fail r 2).1)])
      have heL : ((m_fail r 2).1, (m_fail r 2).2) = F := ((if_neg h2).trans ((if_neg h4))).symm.trans he
      exact m_iret X hr hlk hM d_Md_step_28 ⟨Nat.le_of_ble_eq_true rfl, Nat.le_of_ble_eq_true rfl⟩ ⟨fun _ _ _ => rfl, fun _ => Nat.le_refl _⟩ ⟨congrArg (fun z => some (Value.int z.1)) heL, congrArg (fun z => rs M z.2) heL, rfl⟩
  · skip
    have hk := hk.1 h2
    refine lv_aload_n X.1 X.2.1 d_Md_step_7 rfl (lv_at hl 0 rfl) ?_
    refine lv_iconst (v := 1) X.1 X.2.1 d_Md_step_8 (by decide) ?_
    refine r_cV (As := [.int 1]) (rest := []) X hml hl.1 hM (k_Md_fail l D dA base M ad hR r 1) c_Md_161 v_Md_fail kc_Md rfl hR.1 rfl (Nat.le_of_ble_eq_true rfl) ⟨rfl, rfl, Nat.le_of_ble_eq_true rfl, Nat.le_of_ble_eq_true rfl⟩ ⟨Nat.le_of_ble_eq_true rfl, Nat.le_of_ble_eq_true rfl⟩ d_Md_step_9 ?_
    intro rv M1 ad1 H locs hP hM hE
    obtain ⟨e1, e2, e3⟩ := hP
    subst rv; subst M1; subst ad1
    show W _ _ _ _ _ _ _ _ _ _ _ _ _ _ _ (F0 m 12 ls [.int ((m_fail r 1).1)])
    have heL : ((m_fail r 1).1, (m_fail r 1).2) = F := ((if_pos h2)).symm.trans he
    exact m_iret X hr hlk hM d_Md_step_12 ⟨Nat.le_of_ble_eq_true rfl, Nat.le_of_ble_eq_true rfl⟩ ⟨fun _ _ _ => rfl, fun _ => Nat.le_refl _⟩ ⟨congrArg (fun z => some (Value.int z.1)) heL, congrArg (fun z => rs M z.2) heL, rfl⟩
