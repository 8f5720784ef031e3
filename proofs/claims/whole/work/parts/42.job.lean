theorem jsm_0 {M : mM} {kd x o : Int32} (h : lstR M x = none) : jsm M kd x o = none := by unfold jsm; rw [h]
theorem jsm_n {M : mM} {kd x o : Int32} {q : Nat} (h : lstR M x = some q) (h2 : ¬ (gi M 4 q 4 = 0 ∧ gi M 4 q 1 = kd ∧ gi M 4 q 3 = o)) : jsm M kd x o = none := by unfold jsm; rw [h]; exact if_neg h2
theorem jsm_y {M : mM} {kd x o : Int32} {q : Nat} (h : lstR M x = some q) (h2 : gi M 4 q 4 = 0 ∧ gi M 4 q 1 = kd ∧ gi M 4 q 3 = o) : jsm M kd x o = some q := by unfold jsm; rw [h]; exact if_pos h2
set_option maxHeartbeats 4000000 in
set_option maxRecDepth 100000 in
theorem k_K_job (l : Launch) (hst : l.stackTraces = false) (D : va_G) (dA : Nat → ClassId) (base : Nat) (M : mM) (ad : Nat → Nat → Nat) (hw : wK M) (kd x s0 : Int32) : mMetX l y_K_job b_K_job 7 (some FieldType.int) ({ frames := 7, cells := 3, slots := 18, locals := 140 } : Room) 3 18 D dA base M ad [.ref (ad 0 0), .int kd, .int x, .int s0] (fun rv M' ad' => jbXc M kd x s0 = 0 ∧ rv = some (.int (jbM M kd x s0).1) ∧ M' = (jbM M kd x s0).2) (fun E => (jbXc M kd x s0 = 1 ∧ E = "java/lang/IllegalArgumentException") ∨ (jbXc M kd x s0 = 2 ∧ E = "java/lang/IllegalStateException")) := by
  refine m_startX (lvs := [(0, .ref (ad 0 0)), (1, .int kd), (2, .int x), (3, .int s0)]) (by decide) (Nat.le_of_ble_eq_true rfl) rfl ?_
  intro p e s m below meth c ls X hr hlk hin hml hM hl hno
  have hk0 : 0 < gn M 0 := w_k hw
  refine lv_iload_n X.1 X.2.1 d_K_job_0 rfl (lv_at hl 1 rfl) ?_
  refine lv_if_lt (tgt := 9) X.1 X.2.1 d_K_job_1 (by decide) (fun h1 => ?_) (fun h1 => ?_)
  · skip
    exact r_throw X hst hml hl.1 hM hlk hno t_K_75_96_79 d_K_job_9 d_K_job_12 d_K_job_13 d_K_job_15 d_K_job_18 ⟨Nat.le_of_ble_eq_true rfl, Nat.le_of_ble_eq_true rfl, Nat.le_of_ble_eq_true rfl, Nat.le_of_ble_eq_true rfl⟩ ⟨Nat.le_of_ble_eq_true rfl, Nat.le_of_ble_eq_true rfl⟩ (Or.inl ⟨if_pos (Or.inl (fun z => absurd h1 (Int32.not_lt.mpr z.1))), rfl⟩)
  · skip
    refine lv_iload_n X.1 X.2.1 d_K_job_4 rfl (lv_at hl 1 rfl) ?_
    refine lv_iconst (v := 2) X.1 X.2.1 d_K_job_5 (by decide) ?_
    refine lv_icmp_le (tgt := 19) X.1 X.2.1 d_K_job_6 (by decide) (fun h6 => ?_) (fun h6 => ?_)
    · skip
      refine lv_iload_n X.1 X.2.1 d_K_job_19 rfl (lv_at hl 2 rfl) ?_
      refine r_cSX (As := [.int x]) (rest := []) X hml hl.1 hM (k_K_refuseNoPath l hst D dA base M ad x) c_K_98 cx_K_98 v_K_refuseNoPath rfl (Nat.le_of_ble_eq_true rfl) ⟨rfl, rfl, Nat.le_of_ble_eq_true rfl, Nat.le_of_ble_eq_true rfl⟩ ⟨Nat.le_of_ble_eq_true rfl, Nat.le_of_ble_eq_true rfl⟩ d_K_job_20 (fun E ce q H locs hPx hM hy1 hy2 hy3 => m_out hM hlk hno (Or.inl ⟨if_pos (Or.inr (Or.inl hPx.1)), hPx.2⟩) hy1 hy2 hy3 ⟨Nat.le_of_ble_eq_true rfl, Nat.le_of_ble_eq_true rfl⟩) ?_
      intro rv M1 ad1 H locs hP hM hE
      obtain ⟨hp, e1, e2, e3⟩ := hP
      subst rv; subst M1; subst ad1
      show W _ _ _ _ _ _ _ _ _ _ _ _ _ _ _ (F0 m 23 ls [])
      refine lv_iload_n X.1 X.2.1 d_K_job_23 rfl (lv_at hl 1 rfl) ?_
      refine lv_if_ne (tgt := 44) X.1 X.2.1 d_K_job_24 (by decide) (fun h24 => ?_) (fun h24 => ?_)
      · skip
        have hb : ¬ (¬ (0 ≤ kd ∧ kd ≤ 2) ∨ isP x = false ∨ (kd = 0 ∧ ¬ (0 ≤ s0 ∧ s0 < 4))) := by
          rintro (z | z | z)
          · exact z ⟨Int32.not_lt.mp h1, h6⟩
          · rw [hp] at z; cases z
          · exact h24 z.1
        have eo : own0 kd s0 = 0 := if_neg h24
        refine lv_iload_n X.1 X.2.1 d_K_job_44 rfl (lv_at hl 1 rfl) ?_
        refine lv_if_ne (tgt := 52) X.1 X.2.1 d_K_job_45 (by decide) (fun hz2 => ?_) (fun hz2 => absurd hz2 h24)
        refine lv_iconst (v := 0) X.1 X.2.1 d_K_job_52 (by decide) ?_
        refine lv_istore (lv' := [(4, .int 0), (0, .ref (ad 0 0)), (1, .int kd), (2, .int x), (3, .int s0)]) X.1 X.2.1 d_K_job_53 hl (by decide) rfl (fun ls hl => ?_)
        refine lv_aload_n X.1 X.2.1 d_K_job_55 rfl (lv_at hl 1 rfl) ?_
        refine lv_iload_n X.1 X.2.1 d_K_job_56 rfl (lv_at hl 3 rfl) ?_
        refine r_cV (As := [.int x]) (rest := []) X hml hl.1 hM (k_K_lastOfRow l D dA base M ad hw x) c_K_104 v_K_lastOfRow kc_K rfl hk0 rfl (Nat.le_of_ble_eq_true rfl) ⟨rfl, rfl, Nat.le_of_ble_eq_true rfl, Nat.le_of_ble_eq_true rfl⟩ ⟨Nat.le_of_ble_eq_true rfl, Nat.le_of_ble_eq_true rfl⟩ d_K_job_57 ?_
        intro rv M1 ad1 H locs hP hM hE
        obtain ⟨e1, e2, e3⟩ := hP
        subst rv; subst M1; subst ad1
        show W _ _ _ _ _ _ _ _ _ _ _ _ _ _ _ (F0 m 60 ls [rfv ad 4 (lstR M x)])
        refine r_astore (lv' := [(5, rfv ad 4 (lstR M x)), (4, .int 0), (0, .ref (ad 0 0)), (1, .int kd), (2, .int x), (3, .int s0)]) X.1 X.2.1 d_K_job_60 hl (by decide) rfl (fun ls hl => ?_)
        refine r_aload X.1 X.2.1 d_K_job_62 (lv_at hl 0 rfl) ?_
        refine r_ifnull (tgt := 100) X.1 X.2.1 d_K_job_64 (by decide) (fun h64 => ?_) (fun q h64 => ?_)
        · skip
          rw [h64] at hl
          have hl : lv_has ls 7 [(5, .null), (4, .int 0), (0, .ref (ad 0 0)), (1, .int kd), (2, .int x), (3, .int s0)] := hl
          have hj0 : jsm M kd x (own0 kd s0) = none := by rw [eo]; exact jsm_0 h64
          refine lv_aload_n X.1 X.2.1 d_K_job_100 rfl (lv_at hl 2 rfl) ?_
          refine lv_iload_n X.1 X.2.1 d_K_job_101 rfl (lv_at hl 4 rfl) ?_
          refine r_cV (As := [.int x]) (rest := []) X hml hl.1 hM (k_K_rowLength l D dA base M ad hw x) c_K_120 v_K_rowLength kc_K rfl hk0 rfl (Nat.le_of_ble_eq_true rfl) ⟨rfl, rfl, Nat.le_of_ble_eq_true rfl, Nat.le_of_ble_eq_true rfl⟩ ⟨Nat.le_of_ble_eq_true rfl, Nat.le_of_ble_eq_true rfl⟩ d_K_job_102 ?_
          intro rv M1 ad1 H locs hP hM hE
          obtain ⟨e1, e2, e3⟩ := hP
          subst rv; subst M1; subst ad1
          show W _ _ _ _ _ _ _ _ _ _ _ _ _ _ _ (F0 m 105 ls [.int (nI (lenR M x))])
          refine lv_iconst (v := 4) X.1 X.2.1 d_K_job_105 (by decide) ?_
          refine lv_icmp_ge (tgt := 118) X.1 X.2.1 d_K_job_106 (by decide) (fun h106 => ?_) (fun h106 => ?_)
          · skip
            exact r_throw X hst hml hl.1 hM hlk hno t_K_124_126_128 d_K_job_118 d_K_job_121 d_K_job_122 d_K_job_124 d_K_job_127 ⟨Nat.le_of_ble_eq_true rfl, Nat.le_of_ble_eq_true rfl, Nat.le_of_ble_eq_true rfl, Nat.le_of_ble_eq_true rfl⟩ ⟨Nat.le_of_ble_eq_true rfl, Nat.le_of_ble_eq_true rfl⟩ (Or.inr ⟨by unfold jbXc; rw [if_neg hb, if_neg (by rw [hj0]; exact (fun z => z rfl)), if_neg (fun z => (ltR4 hw x).mp h106 z.1)], rfl⟩)
          · skip
            refine lv_aload_n X.1 X.2.1 d_K_job_109 rfl (lv_at hl 2 rfl) ?_
            refine r_geti X hM rfl hk0 f_K_56 rfl d_K_job_110 ?_
            refine lv_bipush (v := 60) X.1 X.2.1 d_K_job_113 (by decide) ?_
            refine lv_icmp_lt (tgt := 128) X.1 X.2.1 d_K_job_115 (by decide) (fun h115 => ?_) (fun h115 => ?_)
            · skip
              have hX : jbXc M kd x s0 = 0 := by unfold jbXc; rw [if_neg hb, if_neg (by rw [hj0]; exact (fun z => z rfl)), if_pos ⟨Classical.not_not.mp (fun z => h106 ((ltR4 hw x).mpr z)), (lt60 hw).mp h115⟩]
              refine r_new (k := 4) X hM n_K_50 (Nat.le_of_ble_eq_true rfl) (Nat.le_of_ble_eq_true rfl) d_K_job_128 (fun q5 H q5ad hq5M hq5E hq5q => ?_)
              have hM := hq5M
              have hnq5 : gn M 4 < gn (sn M 4) 4 := sn_live _ _
              refine lv_dup X.1 X.2.1 d_K_job_131 rfl ?_
              refine lv_aload_n X.1 X.2.1 d_K_job_132 rfl (lv_at hl 2 rfl) ?_
              refine r_geti X hM (hq5E 0 0 hk0) (sn_up hk0) f_K_56 rfl d_K_job_133 ?_
              refine lv_topi (fun nj e_nj => ?_)
              have e9 : nj = gi M 0 0 10 := by rw [e_nj, gi_sn, if_neg (by omega)]
              clear e_nj
              subst e9
              refine lv_iload_n X.1 X.2.1 d_K_job_136 rfl (lv_at hl 3 rfl) ?_
              refine lv_iload_n X.1 X.2.1 d_K_job_137 rfl (lv_at hl 4 rfl) ?_
              refine lv_iload X.1 X.2.1 d_K_job_138 (lv_at hl 1 rfl) ?_
              have hC9 := (k_Jb_init l D dA base (sn M 4) q5ad (gn M 4) hnq5 (gi M 0 0 10) kd x 0)
              rw [hq5q] at hC9
              refine r_cI (As := [.int (gi M 0 0 10), .int kd, .int x, .int 0]) (rest := [.ref q5]) X hml hl.1 hM hC9 c_K_129 v_Jb_init rfl (Nat.le_of_ble_eq_true rfl) ⟨rfl, rfl, Nat.le_of_ble_eq_true rfl, Nat.le_of_ble_eq_true rfl⟩ ⟨Nat.le_of_ble_eq_true rfl, Nat.le_of_ble_eq_true rfl⟩ d_K_job_140 ?_
              intro rv M1 ad1 H locs hP hM hE
              obtain ⟨e1, e2, e3⟩ := hP
              subst rv; subst M1; subst ad1
              have hr9 : gr (jb0 M kd x 0) 0 0 9 = some 0 := by rw [jb0_gr M kd x 0 (by omega)]; exact w_0_9 hw
              have hx9 : gi (jb0 M kd x 0) 0 0 10 = nI (gn M 4) := by rw [jb0_gi M kd x 0 (by omega)]; exact w_nj hw
              show W _ _ _ _ _ _ _ _ _ _ _ _ _ _ _ (F0 m 143 ls [.ref q5])
              refine lv_astore (lv' := [(6, .ref q5), (5, .null), (4, .int 0), (0, .ref (ad 0 0)), (1, .int kd), (2, .int x), (3, .int s0)]) X.1 X.2.1 d_K_job_143 hl (by decide) rfl (fun ls hl => ?_)
              refine lv_aload_n X.1 X.2.1 d_K_job_145 rfl (lv_at hl 3 rfl) ?_
              refine r_gets (q := 0) X hM (hq5E 0 0 hk0) (sn_up hk0) f_K_52 rfl hr9 d_K_job_146 (fun hv7 => ?_)
              refine lv_aload_n X.1 X.2.1 d_K_job_149 rfl (lv_at hl 3 rfl) ?_
              refine r_geti X hM (hq5E 0 0 hk0) (sn_up hk0) f_K_56 rfl d_K_job_150 ?_
              refine lv_aload X.1 X.2.1 d_K_job_153 (lv_at hl 0 rfl) ?_
              refine r_aast X hM rfl hv7 a_jobs (fun _ => rfl) rfl rfl hq5q hnq5 (j := (gn M 4)) hx9 ((lt60 hw).mp h115) d_K_job_155 (fun H locs hM => ?_)
              refine lv_aload_n X.1 X.2.1 d_K_job_156 rfl (lv_at hl 3 rfl) ?_
              refine lv_dup X.1 X.2.1 d_K_job_157 rfl ?_
              refine r_geti X hM (hq5E 0 0 hk0) (sn_up hk0) f_K_56 rfl d_K_job_158 ?_
              refine lv_iconst (v := 1) X.1 X.2.1 d_K_job_161 (by decide) ?_
              refine lv_iadd X.1 X.2.1 d_K_job_162 ?_
              refine r_puti X hM (hq5E 0 0 hk0) (sn_up hk0) p_K_56 rfl rfl rfl d_K_job_163 (fun H locs hM => ?_)
              refine lv_aload X.1 X.2.1 d_K_job_166 (lv_at hl 0 rfl) ?_
              refine r_geti X hM hq5q hnq5 f_K_117 rfl d_K_job_168 ?_
              have hF : jbM M kd x s0 = (nI (gn M 4), jnM M kd x 0) := by unfold jbM; rw [hj0, eo]
              have hZ : si (sr (jb0 M kd x 0) 13 0 (gn M 4) (some (gn M 4))) 0 0 10 (gi (jb0 M kd x 0) 0 0 10 + 1) = jnM M kd x 0 := by rw [hx9, nI_1]; rfl
              refine vx_ret ?_
              exact m_iret X hr hlk hM d_K_job_171 ⟨Nat.le_of_ble_eq_true rfl, Nat.le_of_ble_eq_true rfl⟩ (mExt_tr (mExt_rf _ _) (mExt_new hq5E)) ⟨hX, by rw [hF]; exact congrArg (fun z => some (Value.int z)) ((congrArg (fun N => gi N 4 (gn M 4) 0) hZ).trans (jnM_new hw kd x 0).1), by rw [hF]; exact hZ⟩
            · skip
              exact r_throw X hst hml hl.1 hM hlk hno t_K_124_126_128 d_K_job_118 d_K_job_121 d_K_job_122 d_K_job_124 d_K_job_127 ⟨Nat.le_of_ble_eq_true rfl, Nat.le_of_ble_eq_true rfl, Nat.le_of_ble_eq_true rfl, Nat.le_of_ble_eq_true rfl⟩ ⟨Nat.le_of_ble_eq_true rfl, Nat.le_of_ble_eq_true rfl⟩ (Or.inr ⟨by unfold jbXc; rw [if_neg hb, if_neg (by rw [hj0]; exact (fun z => z rfl)), if_neg (fun z => h115 ((lt60 hw).mpr z.2))], rfl⟩)
        · skip
          rw [h64] at hl
          have hl : lv_has ls 7 [(5, .ref (ad 4 q)), (4, .int 0), (0, .ref (ad 0 0)), (1, .int kd), (2, .int x), (3, .int s0)] := hl
          refine lv_aload X.1 X.2.1 d_K_job_67 (lv_at hl 0 rfl) ?_
          refine r_geti X hM rfl ((fun q z => lstR_lv z) q h64) f_K_108 rfl d_K_job_69 ?_
          refine lv_if_ne (tgt := 100) X.1 X.2.1 d_K_job_72 (by decide) (fun h72 => ?_) (fun h72 => ?_)
          · skip
            have hj0 : jsm M kd x (own0 kd s0) = none := by rw [eo]; exact jsm_n h64 (fun z => h72 z.1)
            refine lv_aload_n X.1 X.2.1 d_K_job_100 rfl (lv_at hl 2 rfl) ?_
            refine lv_iload_n X.1 X.2.1 d_K_job_101 rfl (lv_at hl 4 rfl) ?_
            refine r_cV (As := [.int x]) (rest := []) X hml hl.1 hM (k_K_rowLength l D dA base M ad hw x) c_K_120 v_K_rowLength kc_K rfl hk0 rfl (Nat.le_of_ble_eq_true rfl) ⟨rfl, rfl, Nat.le_of_ble_eq_true rfl, Nat.le_of_ble_eq_true rfl⟩ ⟨Nat.le_of_ble_eq_true rfl, Nat.le_of_ble_eq_true rfl⟩ d_K_job_102 ?_
            intro rv M1 ad1 H locs hP hM hE
            obtain ⟨e1, e2, e3⟩ := hP
            subst rv; subst M1; subst ad1
            show W _ _ _ _ _ _ _ _ _ _ _ _ _ _ _ (F0 m 105 ls [.int (nI (lenR M x))])
            refine lv_iconst (v := 4) X.1 X.2.1 d_K_job_105 (by decide) ?_
            refine lv_icmp_ge (tgt := 118) X.1 X.2.1 d_K_job_106 (by decide) (fun h106 => ?_) (fun h106 => ?_)
            · skip
              exact r_throw X hst hml hl.1 hM hlk hno t_K_124_126_128 d_K_job_118 d_K_job_121 d_K_job_122 d_K_job_124 d_K_job_127 ⟨Nat.le_of_ble_eq_true rfl, Nat.le_of_ble_eq_true rfl, Nat.le_of_ble_eq_true rfl, Nat.le_of_ble_eq_true rfl⟩ ⟨Nat.le_of_ble_eq_true rfl, Nat.le_of_ble_eq_true rfl⟩ (Or.inr ⟨by unfold jbXc; rw [if_neg hb, if_neg (by rw [hj0]; exact (fun z => z rfl)), if_neg (fun z => (ltR4 hw x).mp h106 z.1)], rfl⟩)
            · skip
              refine lv_aload_n X.1 X.2.1 d_K_job_109 rfl (lv_at hl 2 rfl) ?_
              refine r_geti X hM rfl hk0 f_K_56 rfl d_K_job_110 ?_
              refine lv_bipush (v := 60) X.1 X.2.1 d_K_job_113 (by decide) ?_
              refine lv_icmp_lt (tgt := 128) X.1 X.2.1 d_K_job_115 (by decide) (fun h115 => ?_) (fun h115 => ?_)
              · skip
                have hX : jbXc M kd x s0 = 0 := by unfold jbXc; rw [if_neg hb, if_neg (by rw [hj0]; exact (fun z => z rfl)), if_pos ⟨Classical.not_not.mp (fun z => h106 ((ltR4 hw x).mpr z)), (lt60 hw).mp h115⟩]
                refine r_new (k := 4) X hM n_K_50 (Nat.le_of_ble_eq_true rfl) (Nat.le_of_ble_eq_true rfl) d_K_job_128 (fun q9 H q9ad hq9M hq9E hq9q => ?_)
                have hM := hq9M
                have hnq9 : gn M 4 < gn (sn M 4) 4 := sn_live _ _
                refine lv_dup X.1 X.2.1 d_K_job_131 rfl ?_
                refine lv_aload_n X.1 X.2.1 d_K_job_132 rfl (lv_at hl 2 rfl) ?_
                refine r_geti X hM (hq9E 0 0 hk0) (sn_up hk0) f_K_56 rfl d_K_job_133 ?_
                refine lv_topi (fun nj e_nj => ?_)
                have e9 : nj = gi M 0 0 10 := by rw [e_nj, gi_sn, if_neg (by omega)]
                clear e_nj
                subst e9
                refine lv_iload_n X.1 X.2.1 d_K_job_136 rfl (lv_at hl 3 rfl) ?_
                refine lv_iload_n X.1 X.2.1 d_K_job_137 rfl (lv_at hl 4 rfl) ?_
                refine lv_iload X.1 X.2.1 d_K_job_138 (lv_at hl 1 rfl) ?_
                have hC9 := (k_Jb_init l D dA base (sn M 4) q9ad (gn M 4) hnq9 (gi M 0 0 10) kd x 0)
                rw [hq9q] at hC9
                refine r_cI (As := [.int (gi M 0 0 10), .int kd, .int x, .int 0]) (rest := [.ref q9]) X hml hl.1 hM hC9 c_K_129 v_Jb_init rfl (Nat.le_of_ble_eq_true rfl) ⟨rfl, rfl, Nat.le_of_ble_eq_true rfl, Nat.le_of_ble_eq_true rfl⟩ ⟨Nat.le_of_ble_eq_true rfl, Nat.le_of_ble_eq_true rfl⟩ d_K_job_140 ?_
                intro rv M1 ad1 H locs hP hM hE
                obtain ⟨e1, e2, e3⟩ := hP
                subst rv; subst M1; subst ad1
                have hr9 : gr (jb0 M kd x 0) 0 0 9 = some 0 := by rw [jb0_gr M kd x 0 (by omega)]; exact w_0_9 hw
                have hx9 : gi (jb0 M kd x 0) 0 0 10 = nI (gn M 4) := by rw [jb0_gi M kd x 0 (by omega)]; exact w_nj hw
                show W _ _ _ _ _ _ _ _ _ _ _ _ _ _ _ (F0 m 143 ls [.ref q9])
                refine lv_astore (lv' := [(6, .ref q9), (5, .ref (ad 4 q)), (4, .int 0), (0, .ref (ad 0 0)), (1, .int kd), (2, .int x), (3, .int s0)]) X.1 X.2.1 d_K_job_143 hl (by decide) rfl (fun ls hl => ?_)
                refine lv_aload_n X.1 X.2.1 d_K_job_145 rfl (lv_at hl 3 rfl) ?_
                refine r_gets (q := 0) X hM (hq9E 0 0 hk0) (sn_up hk0) f_K_52 rfl hr9 d_K_job_146 (fun hv11 => ?_)
                refine lv_aload_n X.1 X.2.1 d_K_job_149 rfl (lv_at hl 3 rfl) ?_
                refine r_geti X hM (hq9E 0 0 hk0) (sn_up hk0) f_K_56 rfl d_K_job_150 ?_
                refine lv_aload X.1 X.2.1 d_K_job_153 (lv_at hl 0 rfl) ?_
                refine r_aast X hM rfl hv11 a_jobs (fun _ => rfl) rfl rfl hq9q hnq9 (j := (gn M 4)) hx9 ((lt60 hw).mp h115) d_K_job_155 (fun H locs hM => ?_)
                refine lv_aload_n X.1 X.2.1 d_K_job_156 rfl (lv_at hl 3 rfl) ?_
                refine lv_dup X.1 X.2.1 d_K_job_157 rfl ?_
                refine r_geti X hM (hq9E 0 0 hk0) (sn_up hk0) f_K_56 rfl d_K_job_158 ?_
                refine lv_iconst (v := 1) X.1 X.2.1 d_K_job_161 (by decide) ?_
                refine lv_iadd X.1 X.2.1 d_K_job_162 ?_
                refine r_puti X hM (hq9E 0 0 hk0) (sn_up hk0) p_K_56 rfl rfl rfl d_K_job_163 (fun H locs hM => ?_)
                refine lv_aload X.1 X.2.1 d_K_job_166 (lv_at hl 0 rfl) ?_
                refine r_geti X hM hq9q hnq9 f_K_117 rfl d_K_job_168 ?_
                have hF : jbM M kd x s0 = (nI (gn M 4), jnM M kd x 0) := by unfold jbM; rw [hj0, eo]
                have hZ : si (sr (jb0 M kd x 0) 13 0 (gn M 4) (some (gn M 4))) 0 0 10 (gi (jb0 M kd x 0) 0 0 10 + 1) = jnM M kd x 0 := by rw [hx9, nI_1]; rfl
                refine vx_ret ?_
                exact m_iret X hr hlk hM d_K_job_171 ⟨Nat.le_of_ble_eq_true rfl, Nat.le_of_ble_eq_true rfl⟩ (mExt_tr (mExt_rf _ _) (mExt_new hq9E)) ⟨hX, by rw [hF]; exact congrArg (fun z => some (Value.int z)) ((congrArg (fun N => gi N 4 (gn M 4) 0) hZ).trans (jnM_new hw kd x 0).1), by rw [hF]; exact hZ⟩
              · skip
                exact r_throw X hst hml hl.1 hM hlk hno t_K_124_126_128 d_K_job_118 d_K_job_121 d_K_job_122 d_K_job_124 d_K_job_127 ⟨Nat.le_of_ble_eq_true rfl, Nat.le_of_ble_eq_true rfl, Nat.le_of_ble_eq_true rfl, Nat.le_of_ble_eq_true rfl⟩ ⟨Nat.le_of_ble_eq_true rfl, Nat.le_of_ble_eq_true rfl⟩ (Or.inr ⟨by unfold jbXc; rw [if_neg hb, if_neg (by rw [hj0]; exact (fun z => z rfl)), if_neg (fun z => h115 ((lt60 hw).mpr z.2))], rfl⟩)
          · skip
            refine lv_aload X.1 X.2.1 d_K_job_75 (lv_at hl 0 rfl) ?_
            refine r_geti X hM rfl ((fun q z => lstR_lv z) q h64) f_K_111 rfl d_K_job_77 ?_
            refine lv_iload_n X.1 X.2.1 d_K_job_80 rfl (lv_at hl 3 rfl) ?_
            refine lv_icmp_ne (tgt := 100) X.1 X.2.1 d_K_job_81 (by decide) (fun h81 => ?_) (fun h81 => ?_)
            · skip
              have hj0 : jsm M kd x (own0 kd s0) = none := by rw [eo]; exact jsm_n h64 (fun z => h81 z.2.1)
              refine lv_aload_n X.1 X.2.1 d_K_job_100 rfl (lv_at hl 2 rfl) ?_
              refine lv_iload_n X.1 X.2.1 d_K_job_101 rfl (lv_at hl 4 rfl) ?_
              refine r_cV (As := [.int x]) (rest := []) X hml hl.1 hM (k_K_rowLength l D dA base M ad hw x) c_K_120 v_K_rowLength kc_K rfl hk0 rfl (Nat.le_of_ble_eq_true rfl) ⟨rfl, rfl, Nat.le_of_ble_eq_true rfl, Nat.le_of_ble_eq_true rfl⟩ ⟨Nat.le_of_ble_eq_true rfl, Nat.le_of_ble_eq_true rfl⟩ d_K_job_102 ?_
              intro rv M1 ad1 H locs hP hM hE
              obtain ⟨e1, e2, e3⟩ := hP
              subst rv; subst M1; subst ad1
              show W _ _ _ _ _ _ _ _ _ _ _ _ _ _ _ (F0 m 105 ls [.int (nI (lenR M x))])
              refine lv_iconst (v := 4) X.1 X.2.1 d_K_job_105 (by decide) ?_
              refine lv_icmp_ge (tgt := 118) X.1 X.2.1 d_K_job_106 (by decide) (fun h106 => ?_) (fun h106 => ?_)
              · skip
                exact r_throw X hst hml hl.1 hM hlk hno t_K_124_126_128 d_K_job_118 d_K_job_121 d_K_job_122 d_K_job_124 d_K_job_127 ⟨Nat.le_of_ble_eq_true rfl, Nat.le_of_ble_eq_true rfl, Nat.le_of_ble_eq_true rfl, Nat.le_of_ble_eq_true rfl⟩ ⟨Nat.le_of_ble_eq_true rfl, Nat.le_of_ble_eq_true rfl⟩ (Or.inr ⟨by unfold jbXc; rw [if_neg hb, if_neg (by rw [hj0]; exact (fun z => z rfl)), if_neg (fun z => (ltR4 hw x).mp h106 z.1)], rfl⟩)
              · skip
                refine lv_aload_n X.1 X.2.1 d_K_job_109 rfl (lv_at hl 2 rfl) ?_
                refine r_geti X hM rfl hk0 f_K_56 rfl d_K_job_110 ?_
                refine lv_bipush (v := 60) X.1 X.2.1 d_K_job_113 (by decide) ?_
                refine lv_icmp_lt (tgt := 128) X.1 X.2.1 d_K_job_115 (by decide) (fun h115 => ?_) (fun h115 => ?_)
                · skip
                  have hX : jbXc M kd x s0 = 0 := by unfold jbXc; rw [if_neg hb, if_neg (by rw [hj0]; exact (fun z => z rfl)), if_pos ⟨Classical.not_not.mp (fun z => h106 ((ltR4 hw x).mpr z)), (lt60 hw).mp h115⟩]
                  refine r_new (k := 4) X hM n_K_50 (Nat.le_of_ble_eq_true rfl) (Nat.le_of_ble_eq_true rfl) d_K_job_128 (fun q13 H q13ad hq13M hq13E hq13q => ?_)
                  have hM := hq13M
                  have hnq13 : gn M 4 < gn (sn M 4) 4 := sn_live _ _
                  refine lv_dup X.1 X.2.1 d_K_job_131 rfl ?_
                  refine lv_aload_n X.1 X.2.1 d_K_job_132 rfl (lv_at hl 2 rfl) ?_
                  refine r_geti X hM (hq13E 0 0 hk0) (sn_up hk0) f_K_56 rfl d_K_job_133 ?_
                  refine lv_topi (fun nj e_nj => ?_)
                  have e9 : nj = gi M 0 0 10 := by rw [e_nj, gi_sn, if_neg (by omega)]
                  clear e_nj
                  subst e9
                  refine lv_iload_n X.1 X.2.1 d_K_job_136 rfl (lv_at hl 3 rfl) ?_
                  refine lv_iload_n X.1 X.2.1 d_K_job_137 rfl (lv_at hl 4 rfl) ?_
                  refine lv_iload X.1 X.2.1 d_K_job_138 (lv_at hl 1 rfl) ?_
                  have hC9 := (k_Jb_init l D dA base (sn M 4) q13ad (gn M 4) hnq13 (gi M 0 0 10) kd x 0)
                  rw [hq13q] at hC9
                  refine r_cI (As := [.int (gi M 0 0 10), .int kd, .int x, .int 0]) (rest := [.ref q13]) X hml hl.1 hM hC9 c_K_129 v_Jb_init rfl (Nat.le_of_ble_eq_true rfl) ⟨rfl, rfl, Nat.le_of_ble_eq_true rfl, Nat.le_of_ble_eq_true rfl⟩ ⟨Nat.le_of_ble_eq_true rfl, Nat.le_of_ble_eq_true rfl⟩ d_K_job_140 ?_
                  intro rv M1 ad1 H locs hP hM hE
                  obtain ⟨e1, e2, e3⟩ := hP
                  subst rv; subst M1; subst ad1
                  have hr9 : gr (jb0 M kd x 0) 0 0 9 = some 0 := by rw [jb0_gr M kd x 0 (by omega)]; exact w_0_9 hw
                  have hx9 : gi (jb0 M kd x 0) 0 0 10 = nI (gn M 4) := by rw [jb0_gi M kd x 0 (by omega)]; exact w_nj hw
                  show W _ _ _ _ _ _ _ _ _ _ _ _ _ _ _ (F0 m 143 ls [.ref q13])
                  refine lv_astore (lv' := [(6, .ref q13), (5, .ref (ad 4 q)), (4, .int 0), (0, .ref (ad 0 0)), (1, .int kd), (2, .int x), (3, .int s0)]) X.1 X.2.1 d_K_job_143 hl (by decide) rfl (fun ls hl => ?_)
                  refine lv_aload_n X.1 X.2.1 d_K_job_145 rfl (lv_at hl 3 rfl) ?_
                  refine r_gets (q := 0) X hM (hq13E 0 0 hk0) (sn_up hk0) f_K_52 rfl hr9 d_K_job_146 (fun hv15 => ?_)
                  refine lv_aload_n X.1 X.2.1 d_K_job_149 rfl (lv_at hl 3 rfl) ?_
                  refine r_geti X hM (hq13E 0 0 hk0) (sn_up hk0) f_K_56 rfl d_K_job_150 ?_
                  refine lv_aload X.1 X.2.1 d_K_job_153 (lv_at hl 0 rfl) ?_
                  refine r_aast X hM rfl hv15 a_jobs (fun _ => rfl) rfl rfl hq13q hnq13 (j := (gn M 4)) hx9 ((lt60 hw).mp h115) d_K_job_155 (fun H locs hM => ?_)
                  refine lv_aload_n X.1 X.2.1 d_K_job_156 rfl (lv_at hl 3 rfl) ?_
                  refine lv_dup X.1 X.2.1 d_K_job_157 rfl ?_
                  refine r_geti X hM (hq13E 0 0 hk0) (sn_up hk0) f_K_56 rfl d_K_job_158 ?_
                  refine lv_iconst (v := 1) X.1 X.2.1 d_K_job_161 (by decide) ?_
                  refine lv_iadd X.1 X.2.1 d_K_job_162 ?_
                  refine r_puti X hM (hq13E 0 0 hk0) (sn_up hk0) p_K_56 rfl rfl rfl d_K_job_163 (fun H locs hM => ?_)
                  refine lv_aload X.1 X.2.1 d_K_job_166 (lv_at hl 0 rfl) ?_
                  refine r_geti X hM hq13q hnq13 f_K_117 rfl d_K_job_168 ?_
                  have hF : jbM M kd x s0 = (nI (gn M 4), jnM M kd x 0) := by unfold jbM; rw [hj0, eo]
                  have hZ : si (sr (jb0 M kd x 0) 13 0 (gn M 4) (some (gn M 4))) 0 0 10 (gi (jb0 M kd x 0) 0 0 10 + 1) = jnM M kd x 0 := by rw [hx9, nI_1]; rfl
                  refine vx_ret ?_
                  exact m_iret X hr hlk hM d_K_job_171 ⟨Nat.le_of_ble_eq_true rfl, Nat.le_of_ble_eq_true rfl⟩ (mExt_tr (mExt_rf _ _) (mExt_new hq13E)) ⟨hX, by rw [hF]; exact congrArg (fun z => some (Value.int z)) ((congrArg (fun N => gi N 4 (gn M 4) 0) hZ).trans (jnM_new hw kd x 0).1), by rw [hF]; exact hZ⟩
                · skip
                  exact r_throw X hst hml hl.1 hM hlk hno t_K_124_126_128 d_K_job_118 d_K_job_121 d_K_job_122 d_K_job_124 d_K_job_127 ⟨Nat.le_of_ble_eq_true rfl, Nat.le_of_ble_eq_true rfl, Nat.le_of_ble_eq_true rfl, Nat.le_of_ble_eq_true rfl⟩ ⟨Nat.le_of_ble_eq_true rfl, Nat.le_of_ble_eq_true rfl⟩ (Or.inr ⟨by unfold jbXc; rw [if_neg hb, if_neg (by rw [hj0]; exact (fun z => z rfl)), if_neg (fun z => h115 ((lt60 hw).mpr z.2))], rfl⟩)
            · skip
              refine lv_aload X.1 X.2.1 d_K_job_84 (lv_at hl 0 rfl) ?_
              refine r_geti X hM rfl ((fun q z => lstR_lv z) q h64) f_K_114 rfl d_K_job_86 ?_
              refine lv_iload X.1 X.2.1 d_K_job_89 (lv_at hl 1 rfl) ?_
              refine lv_icmp_ne (tgt := 100) X.1 X.2.1 d_K_job_91 (by decide) (fun h91 => ?_) (fun h91 => ?_)
              · skip
                have hj0 : jsm M kd x (own0 kd s0) = none := by rw [eo]; exact jsm_n h64 (fun z => h91 z.2.2)
                refine lv_aload_n X.1 X.2.1 d_K_job_100 rfl (lv_at hl 2 rfl) ?_
                refine lv_iload_n X.1 X.2.1 d_K_job_101 rfl (lv_at hl 4 rfl) ?_
                refine r_cV (As := [.int x]) (rest := []) X hml hl.1 hM (k_K_rowLength l D dA base M ad hw x) c_K_120 v_K_rowLength kc_K rfl hk0 rfl (Nat.le_of_ble_eq_true rfl) ⟨rfl, rfl, Nat.le_of_ble_eq_true rfl, Nat.le_of_ble_eq_true rfl⟩ ⟨Nat.le_of_ble_eq_true rfl, Nat.le_of_ble_eq_true rfl⟩ d_K_job_102 ?_
                intro rv M1 ad1 H locs hP hM hE
                obtain ⟨e1, e2, e3⟩ := hP
                subst rv; subst M1; subst ad1
                show W _ _ _ _ _ _ _ _ _ _ _ _ _ _ _ (F0 m 105 ls [.int (nI (lenR M x))])
                refine lv_iconst (v := 4) X.1 X.2.1 d_K_job_105 (by decide) ?_
                refine lv_icmp_ge (tgt := 118) X.1 X.2.1 d_K_job_106 (by decide) (fun h106 => ?_) (fun h106 => ?_)
                · skip
                  exact r_throw X hst hml hl.1 hM hlk hno t_K_124_126_128 d_K_job_118 d_K_job_121 d_K_job_122 d_K_job_124 d_K_job_127 ⟨Nat.le_of_ble_eq_true rfl, Nat.le_of_ble_eq_true rfl, Nat.le_of_ble_eq_true rfl, Nat.le_of_ble_eq_true rfl⟩ ⟨Nat.le_of_ble_eq_true rfl, Nat.le_of_ble_eq_true rfl⟩ (Or.inr ⟨by unfold jbXc; rw [if_neg hb, if_neg (by rw [hj0]; exact (fun z => z rfl)), if_neg (fun z => (ltR4 hw x).mp h106 z.1)], rfl⟩)
                · skip
                  refine lv_aload_n X.1 X.2.1 d_K_job_109 rfl (lv_at hl 2 rfl) ?_
                  refine r_geti X hM rfl hk0 f_K_56 rfl d_K_job_110 ?_
                  refine lv_bipush (v := 60) X.1 X.2.1 d_K_job_113 (by decide) ?_
                  refine lv_icmp_lt (tgt := 128) X.1 X.2.1 d_K_job_115 (by decide) (fun h115 => ?_) (fun h115 => ?_)
                  · skip
                    have hX : jbXc M kd x s0 = 0 := by unfold jbXc; rw [if_neg hb, if_neg (by rw [hj0]; exact (fun z => z rfl)), if_pos ⟨Classical.not_not.mp (fun z => h106 ((ltR4 hw x).mpr z)), (lt60 hw).mp h115⟩]
                    refine r_new (k := 4) X hM n_K_50 (Nat.le_of_ble_eq_true rfl) (Nat.le_of_ble_eq_true rfl) d_K_job_128 (fun q17 H q17ad hq17M hq17E hq17q => ?_)
                    have hM := hq17M
                    have hnq17 : gn M 4 < gn (sn M 4) 4 := sn_live _ _
                    refine lv_dup X.1 X.2.1 d_K_job_131 rfl ?_
                    refine lv_aload_n X.1 X.2.1 d_K_job_132 rfl (lv_at hl 2 rfl) ?_
                    refine r_geti X hM (hq17E 0 0 hk0) (sn_up hk0) f_K_56 rfl d_K_job_133 ?_
                    refine lv_topi (fun nj e_nj => ?_)
                    have e9 : nj = gi M 0 0 10 := by rw [e_nj, gi_sn, if_neg (by omega)]
                    clear e_nj
                    subst e9
                    refine lv_iload_n X.1 X.2.1 d_K_job_136 rfl (lv_at hl 3 rfl) ?_
                    refine lv_iload_n X.1 X.2.1 d_K_job_137 rfl (lv_at hl 4 rfl) ?_
                    refine lv_iload X.1 X.2.1 d_K_job_138 (lv_at hl 1 rfl) ?_
                    have hC9 := (k_Jb_init l D dA base (sn M 4) q17ad (gn M 4) hnq17 (gi M 0 0 10) kd x 0)
                    rw [hq17q] at hC9
                    refine r_cI (As := [.int (gi M 0 0 10), .int kd, .int x, .int 0]) (rest := [.ref q17]) X hml hl.1 hM hC9 c_K_129 v_Jb_init rfl (Nat.le_of_ble_eq_true rfl) ⟨rfl, rfl, Nat.le_of_ble_eq_true rfl, Nat.le_of_ble_eq_true rfl⟩ ⟨Nat.le_of_ble_eq_true rfl, Nat.le_of_ble_eq_true rfl⟩ d_K_job_140 ?_
                    intro rv M1 ad1 H locs hP hM hE
                    obtain ⟨e1, e2, e3⟩ := hP
                    subst rv; subst M1; subst ad1
                    have hr9 : gr (jb0 M kd x 0) 0 0 9 = some 0 := by rw [jb0_gr M kd x 0 (by omega)]; exact w_0_9 hw
                    have hx9 : gi (jb0 M kd x 0) 0 0 10 = nI (gn M 4) := by rw [jb0_gi M kd x 0 (by omega)]; exact w_nj hw
                    show W _ _ _ _ _ _ _ _ _ _ _ _ _ _ _ (F0 m 143 ls [.ref q17])
                    refine lv_astore (lv' := [(6, .ref q17), (5, .ref (ad 4 q)), (4, .int 0), (0, .ref (ad 0 0)), (1, .int kd), (2, .int x), (3, .int s0)]) X.1 X.2.1 d_K_job_143 hl (by decide) rfl (fun ls hl => ?_)
                    refine lv_aload_n X.1 X.2.1 d_K_job_145 rfl (lv_at hl 3 rfl) ?_
                    refine r_gets (q := 0) X hM (hq17E 0 0 hk0) (sn_up hk0) f_K_52 rfl hr9 d_K_job_146 (fun hv19 => ?_)
                    refine lv_aload_n X.1 X.2.1 d_K_job_149 rfl (lv_at hl 3 rfl) ?_
                    refine r_geti X hM (hq17E 0 0 hk0) (sn_up hk0) f_K_56 rfl d_K_job_150 ?_
                    refine lv_aload X.1 X.2.1 d_K_job_153 (lv_at hl 0 rfl) ?_
                    refine r_aast X hM rfl hv19 a_jobs (fun _ => rfl) rfl rfl hq17q hnq17 (j := (gn M 4)) hx9 ((lt60 hw).mp h115) d_K_job_155 (fun H locs hM => ?_)
                    refine lv_aload_n X.1 X.2.1 d_K_job_156 rfl (lv_at hl 3 rfl) ?_
                    refine lv_dup X.1 X.2.1 d_K_job_157 rfl ?_
                    refine r_geti X hM (hq17E 0 0 hk0) (sn_up hk0) f_K_56 rfl d_K_job_158 ?_
                    refine lv_iconst (v := 1) X.1 X.2.1 d_K_job_161 (by decide) ?_
                    refine lv_iadd X.1 X.2.1 d_K_job_162 ?_
                    refine r_puti X hM (hq17E 0 0 hk0) (sn_up hk0) p_K_56 rfl rfl rfl d_K_job_163 (fun H locs hM => ?_)
                    refine lv_aload X.1 X.2.1 d_K_job_166 (lv_at hl 0 rfl) ?_
                    refine r_geti X hM hq17q hnq17 f_K_117 rfl d_K_job_168 ?_
                    have hF : jbM M kd x s0 = (nI (gn M 4), jnM M kd x 0) := by unfold jbM; rw [hj0, eo]
                    have hZ : si (sr (jb0 M kd x 0) 13 0 (gn M 4) (some (gn M 4))) 0 0 10 (gi (jb0 M kd x 0) 0 0 10 + 1) = jnM M kd x 0 := by rw [hx9, nI_1]; rfl
                    refine vx_ret ?_
                    exact m_iret X hr hlk hM d_K_job_171 ⟨Nat.le_of_ble_eq_true rfl, Nat.le_of_ble_eq_true rfl⟩ (mExt_tr (mExt_rf _ _) (mExt_new hq17E)) ⟨hX, by rw [hF]; exact congrArg (fun z => some (Value.int z)) ((congrArg (fun N => gi N 4 (gn M 4) 0) hZ).trans (jnM_new hw kd x 0).1), by rw [hF]; exact hZ⟩
                  · skip
                    exact r_throw X hst hml hl.1 hM hlk hno t_K_124_126_128 d_K_job_118 d_K_job_121 d_K_job_122 d_K_job_124 d_K_job_127 ⟨Nat.le_of_ble_eq_true rfl, Nat.le_of_ble_eq_true rfl, Nat.le_of_ble_eq_true rfl, Nat.le_of_ble_eq_true rfl⟩ ⟨Nat.le_of_ble_eq_true rfl, Nat.le_of_ble_eq_true rfl⟩ (Or.inr ⟨by unfold jbXc; rw [if_neg hb, if_neg (by rw [hj0]; exact (fun z => z rfl)), if_neg (fun z => h115 ((lt60 hw).mpr z.2))], rfl⟩)
              · skip
                refine lv_aload X.1 X.2.1 d_K_job_94 (lv_at hl 0 rfl) ?_
                refine r_geti X hM rfl ((fun q z => lstR_lv z) q h64) f_K_117 rfl d_K_job_96 ?_
                have hj0 : jsm M kd x (own0 kd s0) = some q := by rw [eo]; exact jsm_y h64 ⟨h72, h81, h91⟩
                have hF : jbM M kd x s0 = (nI q, M) := by unfold jbM; rw [hj0]
                refine vx_ret ?_
                exact m_iret X hr hlk hM d_K_job_99 ⟨Nat.le_of_ble_eq_true rfl, Nat.le_of_ble_eq_true rfl⟩ (mExt_rf _ _) ⟨by unfold jbXc; rw [if_neg hb, if_pos (by rw [hj0]; exact (fun z => nomatch z))], by rw [hF, w_jn hw (lstR_lv h64)], by rw [hF]⟩
      · skip
        refine lv_iload_n X.1 X.2.1 d_K_job_27 rfl (lv_at hl 3 rfl) ?_
        refine r_cS (As := [.int s0]) (rest := []) X hml hl.1 hM (k_K_isScript l D dA base M ad s0) c_K_68 v_K_isScript rfl (Nat.le_of_ble_eq_true rfl) ⟨rfl, rfl, Nat.le_of_ble_eq_true rfl, Nat.le_of_ble_eq_true rfl⟩ ⟨Nat.le_of_ble_eq_true rfl, Nat.le_of_ble_eq_true rfl⟩ d_K_job_28 ?_
        intro rv M1 ad1 H locs hP hM hE
        obtain ⟨e1, e2, e3⟩ := hP
        subst rv; subst M1; subst ad1
        show W _ _ _ _ _ _ _ _ _ _ _ _ _ _ _ (F0 m 31 ls [.int (if 0 ≤ s0 ∧ s0 < 4 then 1 else 0)])
        refine lv_if_ne (tgt := 44) X.1 X.2.1 d_K_job_31 (by decide) (fun h31 => ?_) (fun h31 => ?_)
        · skip
          have hb : ¬ (¬ (0 ≤ kd ∧ kd ≤ 2) ∨ isP x = false ∨ (kd = 0 ∧ ¬ (0 ≤ s0 ∧ s0 < 4))) := by
            rintro (z | z | z)
            · exact z ⟨Int32.not_lt.mp h1, h6⟩
            · rw [hp] at z; cases z
            · exact z.2 (bn0 h31)
          have eo : own0 kd s0 = s0 := if_pos h24
          refine lv_iload_n X.1 X.2.1 d_K_job_44 rfl (lv_at hl 1 rfl) ?_
          refine lv_if_ne (tgt := 52) X.1 X.2.1 d_K_job_45 (by decide) (fun hz21 => absurd h24 hz21) (fun hz21 => ?_)
          refine lv_iload_n X.1 X.2.1 d_K_job_48 rfl (lv_at hl 3 rfl) ?_
          refine lv_goto (tgt := 53) X.1 X.2.1 d_K_job_49 (by decide) ?_
          refine lv_istore (lv' := [(4, .int s0), (0, .ref (ad 0 0)), (1, .int kd), (2, .int x), (3, .int s0)]) X.1 X.2.1 d_K_job_53 hl (by decide) rfl (fun ls hl => ?_)
          refine lv_aload_n X.1 X.2.1 d_K_job_55 rfl (lv_at hl 1 rfl) ?_
          refine lv_iload_n X.1 X.2.1 d_K_job_56 rfl (lv_at hl 3 rfl) ?_
          refine r_cV (As := [.int x]) (rest := []) X hml hl.1 hM (k_K_lastOfRow l D dA base M ad hw x) c_K_104 v_K_lastOfRow kc_K rfl hk0 rfl (Nat.le_of_ble_eq_true rfl) ⟨rfl, rfl, Nat.le_of_ble_eq_true rfl, Nat.le_of_ble_eq_true rfl⟩ ⟨Nat.le_of_ble_eq_true rfl, Nat.le_of_ble_eq_true rfl⟩ d_K_job_57 ?_
          intro rv M1 ad1 H locs hP hM hE
          obtain ⟨e1, e2, e3⟩ := hP
          subst rv; subst M1; subst ad1
          show W _ _ _ _ _ _ _ _ _ _ _ _ _ _ _ (F0 m 60 ls [rfv ad 4 (lstR M x)])
          refine r_astore (lv' := [(5, rfv ad 4 (lstR M x)), (4, .int s0), (0, .ref (ad 0 0)), (1, .int kd), (2, .int x), (3, .int s0)]) X.1 X.2.1 d_K_job_60 hl (by decide) rfl (fun ls hl => ?_)
          refine r_aload X.1 X.2.1 d_K_job_62 (lv_at hl 0 rfl) ?_
          refine r_ifnull (tgt := 100) X.1 X.2.1 d_K_job_64 (by decide) (fun h64 => ?_) (fun q h64 => ?_)
          · skip
            rw [h64] at hl
            have hl : lv_has ls 7 [(5, .null), (4, .int s0), (0, .ref (ad 0 0)), (1, .int kd), (2, .int x), (3, .int s0)] := hl
            have hj0 : jsm M kd x (own0 kd s0) = none := by rw [eo]; exact jsm_0 h64
            refine lv_aload_n X.1 X.2.1 d_K_job_100 rfl (lv_at hl 2 rfl) ?_
            refine lv_iload_n X.1 X.2.1 d_K_job_101 rfl (lv_at hl 4 rfl) ?_
            refine r_cV (As := [.int x]) (rest := []) X hml hl.1 hM (k_K_rowLength l D dA base M ad hw x) c_K_120 v_K_rowLength kc_K rfl hk0 rfl (Nat.le_of_ble_eq_true rfl) ⟨rfl, rfl, Nat.le_of_ble_eq_true rfl, Nat.le_of_ble_eq_true rfl⟩ ⟨Nat.le_of_ble_eq_true rfl, Nat.le_of_ble_eq_true rfl⟩ d_K_job_102 ?_
            intro rv M1 ad1 H locs hP hM hE
            obtain ⟨e1, e2, e3⟩ := hP
            subst rv; subst M1; subst ad1
            show W _ _ _ _ _ _ _ _ _ _ _ _ _ _ _ (F0 m 105 ls [.int (nI (lenR M x))])
            refine lv_iconst (v := 4) X.1 X.2.1 d_K_job_105 (by decide) ?_
            refine lv_icmp_ge (tgt := 118) X.1 X.2.1 d_K_job_106 (by decide) (fun h106 => ?_) (fun h106 => ?_)
            · skip
              exact r_throw X hst hml hl.1 hM hlk hno t_K_124_126_128 d_K_job_118 d_K_job_121 d_K_job_122 d_K_job_124 d_K_job_127 ⟨Nat.le_of_ble_eq_true rfl, Nat.le_of_ble_eq_true rfl, Nat.le_of_ble_eq_true rfl, Nat.le_of_ble_eq_true rfl⟩ ⟨Nat.le_of_ble_eq_true rfl, Nat.le_of_ble_eq_true rfl⟩ (Or.inr ⟨by unfold jbXc; rw [if_neg hb, if_neg (by rw [hj0]; exact (fun z => z rfl)), if_neg (fun z => (ltR4 hw x).mp h106 z.1)], rfl⟩)
            · skip
              refine lv_aload_n X.1 X.2.1 d_K_job_109 rfl (lv_at hl 2 rfl) ?_
              refine r_geti X hM rfl hk0 f_K_56 rfl d_K_job_110 ?_
              refine lv_bipush (v := 60) X.1 X.2.1 d_K_job_113 (by decide) ?_
              refine lv_icmp_lt (tgt := 128) X.1 X.2.1 d_K_job_115 (by decide) (fun h115 => ?_) (fun h115 => ?_)
              · skip
                have hX : jbXc M kd x s0 = 0 := by unfold jbXc; rw [if_neg hb, if_neg (by rw [hj0]; exact (fun z => z rfl)), if_pos ⟨Classical.not_not.mp (fun z => h106 ((ltR4 hw x).mpr z)), (lt60 hw).mp h115⟩]
                refine r_new (k := 4) X hM n_K_50 (Nat.le_of_ble_eq_true rfl) (Nat.le_of_ble_eq_true rfl) d_K_job_128 (fun q24 H q24ad hq24M hq24E hq24q => ?_)
                have hM := hq24M
                have hnq24 : gn M 4 < gn (sn M 4) 4 := sn_live _ _
                refine lv_dup X.1 X.2.1 d_K_job_131 rfl ?_
                refine lv_aload_n X.1 X.2.1 d_K_job_132 rfl (lv_at hl 2 rfl) ?_
                refine r_geti X hM (hq24E 0 0 hk0) (sn_up hk0) f_K_56 rfl d_K_job_133 ?_
                refine lv_topi (fun nj e_nj => ?_)
                have e9 : nj = gi M 0 0 10 := by rw [e_nj, gi_sn, if_neg (by omega)]
                clear e_nj
                subst e9
                refine lv_iload_n X.1 X.2.1 d_K_job_136 rfl (lv_at hl 3 rfl) ?_
                refine lv_iload_n X.1 X.2.1 d_K_job_137 rfl (lv_at hl 4 rfl) ?_
                refine lv_iload X.1 X.2.1 d_K_job_138 (lv_at hl 1 rfl) ?_
                have hC9 := (k_Jb_init l D dA base (sn M 4) q24ad (gn M 4) hnq24 (gi M 0 0 10) kd x s0)
                rw [hq24q] at hC9
                refine r_cI (As := [.int (gi M 0 0 10), .int kd, .int x, .int s0]) (rest := [.ref q24]) X hml hl.1 hM hC9 c_K_129 v_Jb_init rfl (Nat.le_of_ble_eq_true rfl) ⟨rfl, rfl, Nat.le_of_ble_eq_true rfl, Nat.le_of_ble_eq_true rfl⟩ ⟨Nat.le_of_ble_eq_true rfl, Nat.le_of_ble_eq_true rfl⟩ d_K_job_140 ?_
                intro rv M1 ad1 H locs hP hM hE
                obtain ⟨e1, e2, e3⟩ := hP
                subst rv; subst M1; subst ad1
                have hr9 : gr (jb0 M kd x s0) 0 0 9 = some 0 := by rw [jb0_gr M kd x s0 (by omega)]; exact w_0_9 hw
                have hx9 : gi (jb0 M kd x s0) 0 0 10 = nI (gn M 4) := by rw [jb0_gi M kd x s0 (by omega)]; exact w_nj hw
                show W _ _ _ _ _ _ _ _ _ _ _ _ _ _ _ (F0 m 143 ls [.ref q24])
                refine lv_astore (lv' := [(6, .ref q24), (5, .null), (4, .int s0), (0, .ref (ad 0 0)), (1, .int kd), (2, .int x), (3, .int s0)]) X.1 X.2.1 d_K_job_143 hl (by decide) rfl (fun ls hl => ?_)
                refine lv_aload_n X.1 X.2.1 d_K_job_145 rfl (lv_at hl 3 rfl) ?_
                refine r_gets (q := 0) X hM (hq24E 0 0 hk0) (sn_up hk0) f_K_52 rfl hr9 d_K_job_146 (fun hv26 => ?_)
                refine lv_aload_n X.1 X.2.1 d_K_job_149 rfl (lv_at hl 3 rfl) ?_
                refine r_geti X hM (hq24E 0 0 hk0) (sn_up hk0) f_K_56 rfl d_K_job_150 ?_
                refine lv_aload X.1 X.2.1 d_K_job_153 (lv_at hl 0 rfl) ?_
                refine r_aast X hM rfl hv26 a_jobs (fun _ => rfl) rfl rfl hq24q hnq24 (j := (gn M 4)) hx9 ((lt60 hw).mp h115) d_K_job_155 (fun H locs hM => ?_)
                refine lv_aload_n X.1 X.2.1 d_K_job_156 rfl (lv_at hl 3 rfl) ?_
                refine lv_dup X.1 X.2.1 d_K_job_157 rfl ?_
                refine r_geti X hM (hq24E 0 0 hk0) (sn_up hk0) f_K_56 rfl d_K_job_158 ?_
                refine lv_iconst (v := 1) X.1 X.2.1 d_K_job_161 (by decide) ?_
                refine lv_iadd X.1 X.2.1 d_K_job_162 ?_
                refine r_puti X hM (hq24E 0 0 hk0) (sn_up hk0) p_K_56 rfl rfl rfl d_K_job_163 (fun H locs hM => ?_)
                refine lv_aload X.1 X.2.1 d_K_job_166 (lv_at hl 0 rfl) ?_
                refine r_geti X hM hq24q hnq24 f_K_117 rfl d_K_job_168 ?_
                have hF : jbM M kd x s0 = (nI (gn M 4), jnM M kd x s0) := by unfold jbM; rw [hj0, eo]
                have hZ : si (sr (jb0 M kd x s0) 13 0 (gn M 4) (some (gn M 4))) 0 0 10 (gi (jb0 M kd x s0) 0 0 10 + 1) = jnM M kd x s0 := by rw [hx9, nI_1]; rfl
                refine vx_ret ?_
                exact m_iret X hr hlk hM d_K_job_171 ⟨Nat.le_of_ble_eq_true rfl, Nat.le_of_ble_eq_true rfl⟩ (mExt_tr (mExt_rf _ _) (mExt_new hq24E)) ⟨hX, by rw [hF]; exact congrArg (fun z => some (Value.int z)) ((congrArg (fun N => gi N 4 (gn M 4) 0) hZ).trans (jnM_new hw kd x s0).1), by rw [hF]; exact hZ⟩
              · skip
                exact r_throw X hst hml hl.1 hM hlk hno t_K_124_126_128 d_K_job_118 d_K_job_121 d_K_job_122 d_K_job_124 d_K_job_127 ⟨Nat.le_of_ble_eq_true rfl, Nat.le_of_ble_eq_true rfl, Nat.le_of_ble_eq_true rfl, Nat.le_of_ble_eq_true rfl⟩ ⟨Nat.le_of_ble_eq_true rfl, Nat.le_of_ble_eq_true rfl⟩ (Or.inr ⟨by unfold jbXc; rw [if_neg hb, if_neg (by rw [hj0]; exact (fun z => z rfl)), if_neg (fun z => h115 ((lt60 hw).mpr z.2))], rfl⟩)
          · skip
            rw [h64] at hl
            have hl : lv_has ls 7 [(5, .ref (ad 4 q)), (4, .int s0), (0, .ref (ad 0 0)), (1, .int kd), (2, .int x), (3, .int s0)] := hl
            refine lv_aload X.1 X.2.1 d_K_job_67 (lv_at hl 0 rfl) ?_
            refine r_geti X hM rfl ((fun q z => lstR_lv z) q h64) f_K_108 rfl d_K_job_69 ?_
            refine lv_if_ne (tgt := 100) X.1 X.2.1 d_K_job_72 (by decide) (fun h72 => ?_) (fun h72 => ?_)
            · skip
              have hj0 : jsm M kd x (own0 kd s0) = none := by rw [eo]; exact jsm_n h64 (fun z => h72 z.1)
              refine lv_aload_n X.1 X.2.1 d_K_job_100 rfl (lv_at hl 2 rfl) ?_
              refine lv_iload_n X.1 X.2.1 d_K_job_101 rfl (lv_at hl 4 rfl) ?_
              refine r_cV (As := [.int x]) (rest := []) X hml hl.1 hM (k_K_rowLength l D dA base M ad hw x) c_K_120 v_K_rowLength kc_K rfl hk0 rfl (Nat.le_of_ble_eq_true rfl) ⟨rfl, rfl, Nat.le_of_ble_eq_true rfl, Nat.le_of_ble_eq_true rfl⟩ ⟨Nat.le_of_ble_eq_true rfl, Nat.le_of_ble_eq_true rfl⟩ d_K_job_102 ?_
              intro rv M1 ad1 H locs hP hM hE
              obtain ⟨e1, e2, e3⟩ := hP
              subst rv; subst M1; subst ad1
              show W _ _ _ _ _ _ _ _ _ _ _ _ _ _ _ (F0 m 105 ls [.int (nI (lenR M x))])
              refine lv_iconst (v := 4) X.1 X.2.1 d_K_job_105 (by decide) ?_
              refine lv_icmp_ge (tgt := 118) X.1 X.2.1 d_K_job_106 (by decide) (fun h106 => ?_) (fun h106 => ?_)
              · skip
                exact r_throw X hst hml hl.1 hM hlk hno t_K_124_126_128 d_K_job_118 d_K_job_121 d_K_job_122 d_K_job_124 d_K_job_127 ⟨Nat.le_of_ble_eq_true rfl, Nat.le_of_ble_eq_true rfl, Nat.le_of_ble_eq_true rfl, Nat.le_of_ble_eq_true rfl⟩ ⟨Nat.le_of_ble_eq_true rfl, Nat.le_of_ble_eq_true rfl⟩ (Or.inr ⟨by unfold jbXc; rw [if_neg hb, if_neg (by rw [hj0]; exact (fun z => z rfl)), if_neg (fun z => (ltR4 hw x).mp h106 z.1)], rfl⟩)
              · skip
                refine lv_aload_n X.1 X.2.1 d_K_job_109 rfl (lv_at hl 2 rfl) ?_
                refine r_geti X hM rfl hk0 f_K_56 rfl d_K_job_110 ?_
                refine lv_bipush (v := 60) X.1 X.2.1 d_K_job_113 (by decide) ?_
                refine lv_icmp_lt (tgt := 128) X.1 X.2.1 d_K_job_115 (by decide) (fun h115 => ?_) (fun h115 => ?_)
                · skip
                  have hX : jbXc M kd x s0 = 0 := by unfold jbXc; rw [if_neg hb, if_neg (by rw [hj0]; exact (fun z => z rfl)), if_pos ⟨Classical.not_not.mp (fun z => h106 ((ltR4 hw x).mpr z)), (lt60 hw).mp h115⟩]
                  refine r_new (k := 4) X hM n_K_50 (Nat.le_of_ble_eq_true rfl) (Nat.le_of_ble_eq_true rfl) d_K_job_128 (fun q28 H q28ad hq28M hq28E hq28q => ?_)
                  have hM := hq28M
                  have hnq28 : gn M 4 < gn (sn M 4) 4 := sn_live _ _
                  refine lv_dup X.1 X.2.1 d_K_job_131 rfl ?_
                  refine lv_aload_n X.1 X.2.1 d_K_job_132 rfl (lv_at hl 2 rfl) ?_
                  refine r_geti X hM (hq28E 0 0 hk0) (sn_up hk0) f_K_56 rfl d_K_job_133 ?_
                  refine lv_topi (fun nj e_nj => ?_)
                  have e9 : nj = gi M 0 0 10 := by rw [e_nj, gi_sn, if_neg (by omega)]
                  clear e_nj
                  subst e9
                  refine lv_iload_n X.1 X.2.1 d_K_job_136 rfl (lv_at hl 3 rfl) ?_
                  refine lv_iload_n X.1 X.2.1 d_K_job_137 rfl (lv_at hl 4 rfl) ?_
                  refine lv_iload X.1 X.2.1 d_K_job_138 (lv_at hl 1 rfl) ?_
                  have hC9 := (k_Jb_init l D dA base (sn M 4) q28ad (gn M 4) hnq28 (gi M 0 0 10) kd x s0)
                  rw [hq28q] at hC9
                  refine r_cI (As := [.int (gi M 0 0 10), .int kd, .int x, .int s0]) (rest := [.ref q28]) X hml hl.1 hM hC9 c_K_129 v_Jb_init rfl (Nat.le_of_ble_eq_true rfl) ⟨rfl, rfl, Nat.le_of_ble_eq_true rfl, Nat.le_of_ble_eq_true rfl⟩ ⟨Nat.le_of_ble_eq_true rfl, Nat.le_of_ble_eq_true rfl⟩ d_K_job_140 ?_
                  intro rv M1 ad1 H locs hP hM hE
                  obtain ⟨e1, e2, e3⟩ := hP
                  subst rv; subst M1; subst ad1
                  have hr9 : gr (jb0 M kd x s0) 0 0 9 = some 0 := by rw [jb0_gr M kd x s0 (by omega)]; exact w_0_9 hw
                  have hx9 : gi (jb0 M kd x s0) 0 0 10 = nI (gn M 4) := by rw [jb0_gi M kd x s0 (by omega)]; exact w_nj hw
                  show W _ _ _ _ _ _ _ _ _ _ _ _ _ _ _ (F0 m 143 ls [.ref q28])
                  refine lv_astore (lv' := [(6, .ref q28), (5, .ref (ad 4 q)), (4, .int s0), (0, .ref (ad 0 0)), (1, .int kd), (2, .int x), (3, .int s0)]) X.1 X.2.1 d_K_job_143 hl (by decide) rfl (fun ls hl => ?_)
                  refine lv_aload_n X.1 X.2.1 d_K_job_145 rfl (lv_at hl 3 rfl) ?_
                  refine r_gets (q := 0) X hM (hq28E 0 0 hk0) (sn_up hk0) f_K_52 rfl hr9 d_K_job_146 (fun hv30 => ?_)
                  refine lv_aload_n X.1 X.2.1 d_K_job_149 rfl (lv_at hl 3 rfl) ?_
                  refine r_geti X hM (hq28E 0 0 hk0) (sn_up hk0) f_K_56 rfl d_K_job_150 ?_
                  refine lv_aload X.1 X.2.1 d_K_job_153 (lv_at hl 0 rfl) ?_
                  refine r_aast X hM rfl hv30 a_jobs (fun _ => rfl) rfl rfl hq28q hnq28 (j := (gn M 4)) hx9 ((lt60 hw).mp h115) d_K_job_155 (fun H locs hM => ?_)
                  refine lv_aload_n X.1 X.2.1 d_K_job_156 rfl (lv_at hl 3 rfl) ?_
                  refine lv_dup X.1 X.2.1 d_K_job_157 rfl ?_
                  refine r_geti X hM (hq28E 0 0 hk0) (sn_up hk0) f_K_56 rfl d_K_job_158 ?_
                  refine lv_iconst (v := 1) X.1 X.2.1 d_K_job_161 (by decide) ?_
                  refine lv_iadd X.1 X.2.1 d_K_job_162 ?_
                  refine r_puti X hM (hq28E 0 0 hk0) (sn_up hk0) p_K_56 rfl rfl rfl d_K_job_163 (fun H locs hM => ?_)
                  refine lv_aload X.1 X.2.1 d_K_job_166 (lv_at hl 0 rfl) ?_
                  refine r_geti X hM hq28q hnq28 f_K_117 rfl d_K_job_168 ?_
                  have hF : jbM M kd x s0 = (nI (gn M 4), jnM M kd x s0) := by unfold jbM; rw [hj0, eo]
                  have hZ : si (sr (jb0 M kd x s0) 13 0 (gn M 4) (some (gn M 4))) 0 0 10 (gi (jb0 M kd x s0) 0 0 10 + 1) = jnM M kd x s0 := by rw [hx9, nI_1]; rfl
                  refine vx_ret ?_
                  exact m_iret X hr hlk hM d_K_job_171 ⟨Nat.le_of_ble_eq_true rfl, Nat.le_of_ble_eq_true rfl⟩ (mExt_tr (mExt_rf _ _) (mExt_new hq28E)) ⟨hX, by rw [hF]; exact congrArg (fun z => some (Value.int z)) ((congrArg (fun N => gi N 4 (gn M 4) 0) hZ).trans (jnM_new hw kd x s0).1), by rw [hF]; exact hZ⟩
                · skip
                  exact r_throw X hst hml hl.1 hM hlk hno t_K_124_126_128 d_K_job_118 d_K_job_121 d_K_job_122 d_K_job_124 d_K_job_127 ⟨Nat.le_of_ble_eq_true rfl, Nat.le_of_ble_eq_true rfl, Nat.le_of_ble_eq_true rfl, Nat.le_of_ble_eq_true rfl⟩ ⟨Nat.le_of_ble_eq_true rfl, Nat.le_of_ble_eq_true rfl⟩ (Or.inr ⟨by unfold jbXc; rw [if_neg hb, if_neg (by rw [hj0]; exact (fun z => z rfl)), if_neg (fun z => h115 ((lt60 hw).mpr z.2))], rfl⟩)
            · skip
              refine lv_aload X.1 X.2.1 d_K_job_75 (lv_at hl 0 rfl) ?_
              refine r_geti X hM rfl ((fun q z => lstR_lv z) q h64) f_K_111 rfl d_K_job_77 ?_
              refine lv_iload_n X.1 X.2.1 d_K_job_80 rfl (lv_at hl 3 rfl) ?_
              refine lv_icmp_ne (tgt := 100) X.1 X.2.1 d_K_job_81 (by decide) (fun h81 => ?_) (fun h81 => ?_)
              · skip
                have hj0 : jsm M kd x (own0 kd s0) = none := by rw [eo]; exact jsm_n h64 (fun z => h81 z.2.1)
                refine lv_aload_n X.1 X.2.1 d_K_job_100 rfl (lv_at hl 2 rfl) ?_
                refine lv_iload_n X.1 X.2.1 d_K_job_101 rfl (lv_at hl 4 rfl) ?_
                refine r_cV (As := [.int x]) (rest := []) X hml hl.1 hM (k_K_rowLength l D dA base M ad hw x) c_K_120 v_K_rowLength kc_K rfl hk0 rfl (Nat.le_of_ble_eq_true rfl) ⟨rfl, rfl, Nat.le_of_ble_eq_true rfl, Nat.le_of_ble_eq_true rfl⟩ ⟨Nat.le_of_ble_eq_true rfl, Nat.le_of_ble_eq_true rfl⟩ d_K_job_102 ?_
                intro rv M1 ad1 H locs hP hM hE
                obtain ⟨e1, e2, e3⟩ := hP
                subst rv; subst M1; subst ad1
                show W _ _ _ _ _ _ _ _ _ _ _ _ _ _ _ (F0 m 105 ls [.int (nI (lenR M x))])
                refine lv_iconst (v := 4) X.1 X.2.1 d_K_job_105 (by decide) ?_
                refine lv_icmp_ge (tgt := 118) X.1 X.2.1 d_K_job_106 (by decide) (fun h106 => ?_) (fun h106 => ?_)
                · skip
                  exact r_throw X hst hml hl.1 hM hlk hno t_K_124_126_128 d_K_job_118 d_K_job_121 d_K_job_122 d_K_job_124 d_K_job_127 ⟨Nat.le_of_ble_eq_true rfl, Nat.le_of_ble_eq_true rfl, Nat.le_of_ble_eq_true rfl, Nat.le_of_ble_eq_true rfl⟩ ⟨Nat.le_of_ble_eq_true rfl, Nat.le_of_ble_eq_true rfl⟩ (Or.inr ⟨by unfold jbXc; rw [if_neg hb, if_neg (by rw [hj0]; exact (fun z => z rfl)), if_neg (fun z => (ltR4 hw x).mp h106 z.1)], rfl⟩)
                · skip
                  refine lv_aload_n X.1 X.2.1 d_K_job_109 rfl (lv_at hl 2 rfl) ?_
                  refine r_geti X hM rfl hk0 f_K_56 rfl d_K_job_110 ?_
                  refine lv_bipush (v := 60) X.1 X.2.1 d_K_job_113 (by decide) ?_
                  refine lv_icmp_lt (tgt := 128) X.1 X.2.1 d_K_job_115 (by decide) (fun h115 => ?_) (fun h115 => ?_)
                  · skip
                    have hX : jbXc M kd x s0 = 0 := by unfold jbXc; rw [if_neg hb, if_neg (by rw [hj0]; exact (fun z => z rfl)), if_pos ⟨Classical.not_not.mp (fun z => h106 ((ltR4 hw x).mpr z)), (lt60 hw).mp h115⟩]
                    refine r_new (k := 4) X hM n_K_50 (Nat.le_of_ble_eq_true rfl) (Nat.le_of_ble_eq_true rfl) d_K_job_128 (fun q32 H q32ad hq32M hq32E hq32q => ?_)
                    have hM := hq32M
                    have hnq32 : gn M 4 < gn (sn M 4) 4 := sn_live _ _
                    refine lv_dup X.1 X.2.1 d_K_job_131 rfl ?_
                    refine lv_aload_n X.1 X.2.1 d_K_job_132 rfl (lv_at hl 2 rfl) ?_
                    refine r_geti X hM (hq32E 0 0 hk0) (sn_up hk0) f_K_56 rfl d_K_job_133 ?_
                    refine lv_topi (fun nj e_nj => ?_)
                    have e9 : nj = gi M 0 0 10 := by rw [e_nj, gi_sn, if_neg (by omega)]
                    clear e_nj
                    subst e9
                    refine lv_iload_n X.1 X.2.1 d_K_job_136 rfl (lv_at hl 3 rfl) ?_
                    refine lv_iload_n X.1 X.2.1 d_K_job_137 rfl (lv_at hl 4 rfl) ?_
                    refine lv_iload X.1 X.2.1 d_K_job_138 (lv_at hl 1 rfl) ?_
                    have hC9 := (k_Jb_init l D dA base (sn M 4) q32ad (gn M 4) hnq32 (gi M 0 0 10) kd x s0)
                    rw [hq32q] at hC9
                    refine r_cI (As := [.int (gi M 0 0 10), .int kd, .int x, .int s0]) (rest := [.ref q32]) X hml hl.1 hM hC9 c_K_129 v_Jb_init rfl (Nat.le_of_ble_eq_true rfl) ⟨rfl, rfl, Nat.le_of_ble_eq_true rfl, Nat.le_of_ble_eq_true rfl⟩ ⟨Nat.le_of_ble_eq_true rfl, Nat.le_of_ble_eq_true rfl⟩ d_K_job_140 ?_
                    intro rv M1 ad1 H locs hP hM hE
                    obtain ⟨e1, e2, e3⟩ := hP
                    subst rv; subst M1; subst ad1
                    have hr9 : gr (jb0 M kd x s0) 0 0 9 = some 0 := by rw [jb0_gr M kd x s0 (by omega)]; exact w_0_9 hw
                    have hx9 : gi (jb0 M kd x s0) 0 0 10 = nI (gn M 4) := by rw [jb0_gi M kd x s0 (by omega)]; exact w_nj hw
                    show W _ _ _ _ _ _ _ _ _ _ _ _ _ _ _ (F0 m 143 ls [.ref q32])
                    refine lv_astore (lv' := [(6, .ref q32), (5, .ref (ad 4 q)), (4, .int s0), (0, .ref (ad 0 0)), (1, .int kd), (2, .int x), (3, .int s0)]) X.1 X.2.1 d_K_job_143 hl (by decide) rfl (fun ls hl => ?_)
                    refine lv_aload_n X.1 X.2.1 d_K_job_145 rfl (lv_at hl 3 rfl) ?_
                    refine r_gets (q := 0) X hM (hq32E 0 0 hk0) (sn_up hk0) f_K_52 rfl hr9 d_K_job_146 (fun hv34 => ?_)
                    refine lv_aload_n X.1 X.2.1 d_K_job_149 rfl (lv_at hl 3 rfl) ?_
                    refine r_geti X hM (hq32E 0 0 hk0) (sn_up hk0) f_K_56 rfl d_K_job_150 ?_
                    refine lv_aload X.1 X.2.1 d_K_job_153 (lv_at hl 0 rfl) ?_
                    refine r_aast X hM rfl hv34 a_jobs (fun _ => rfl) rfl rfl hq32q hnq32 (j := (gn M 4)) hx9 ((lt60 hw).mp h115) d_K_job_155 (fun H locs hM => ?_)
                    refine lv_aload_n X.1 X.2.1 d_K_job_156 rfl (lv_at hl 3 rfl) ?_
                    refine lv_dup X.1 X.2.1 d_K_job_157 rfl ?_
                    refine r_geti X hM (hq32E 0 0 hk0) (sn_up hk0) f_K_56 rfl d_K_job_158 ?_
                    refine lv_iconst (v := 1) X.1 X.2.1 d_K_job_161 (by decide) ?_
                    refine lv_iadd X.1 X.2.1 d_K_job_162 ?_
                    refine r_puti X hM (hq32E 0 0 hk0) (sn_up hk0) p_K_56 rfl rfl rfl d_K_job_163 (fun H locs hM => ?_)
                    refine lv_aload X.1 X.2.1 d_K_job_166 (lv_at hl 0 rfl) ?_
                    refine r_geti X hM hq32q hnq32 f_K_117 rfl d_K_job_168 ?_
                    have hF : jbM M kd x s0 = (nI (gn M 4), jnM M kd x s0) := by unfold jbM; rw [hj0, eo]
                    have hZ : si (sr (jb0 M kd x s0) 13 0 (gn M 4) (some (gn M 4))) 0 0 10 (gi (jb0 M kd x s0) 0 0 10 + 1) = jnM M kd x s0 := by rw [hx9, nI_1]; rfl
                    refine vx_ret ?_
                    exact m_iret X hr hlk hM d_K_job_171 ⟨Nat.le_of_ble_eq_true rfl, Nat.le_of_ble_eq_true rfl⟩ (mExt_tr (mExt_rf _ _) (mExt_new hq32E)) ⟨hX, by rw [hF]; exact congrArg (fun z => some (Value.int z)) ((congrArg (fun N => gi N 4 (gn M 4) 0) hZ).trans (jnM_new hw kd x s0).1), by rw [hF]; exact hZ⟩
                  · skip
                    exact r_throw X hst hml hl.1 hM hlk hno t_K_124_126_128 d_K_job_118 d_K_job_121 d_K_job_122 d_K_job_124 d_K_job_127 ⟨Nat.le_of_ble_eq_true rfl, Nat.le_of_ble_eq_true rfl, Nat.le_of_ble_eq_true rfl, Nat.le_of_ble_eq_true rfl⟩ ⟨Nat.le_of_ble_eq_true rfl, Nat.le_of_ble_eq_true rfl⟩ (Or.inr ⟨by unfold jbXc; rw [if_neg hb, if_neg (by rw [hj0]; exact (fun z => z rfl)), if_neg (fun z => h115 ((lt60 hw).mpr z.2))], rfl⟩)
              · skip
                refine lv_aload X.1 X.2.1 d_K_job_84 (lv_at hl 0 rfl) ?_
                refine r_geti X hM rfl ((fun q z => lstR_lv z) q h64) f_K_114 rfl d_K_job_86 ?_
                refine lv_iload X.1 X.2.1 d_K_job_89 (lv_at hl 1 rfl) ?_
                refine lv_icmp_ne (tgt := 100) X.1 X.2.1 d_K_job_91 (by decide) (fun h91 => ?_) (fun h91 => ?_)
                · skip
                  have hj0 : jsm M kd x (own0 kd s0) = none := by rw [eo]; exact jsm_n h64 (fun z => h91 z.2.2)
                  refine lv_aload_n X.1 X.2.1 d_K_job_100 rfl (lv_at hl 2 rfl) ?_
                  refine lv_iload_n X.1 X.2.1 d_K_job_101 rfl (lv_at hl 4 rfl) ?_
                  refine r_cV (As := [.int x]) (rest := []) X hml hl.1 hM (k_K_rowLength l D dA base M ad hw x) c_K_120 v_K_rowLength kc_K rfl hk0 rfl (Nat.le_of_ble_eq_true rfl) ⟨rfl, rfl, Nat.le_of_ble_eq_true rfl, Nat.le_of_ble_eq_true rfl⟩ ⟨Nat.le_of_ble_eq_true rfl, Nat.le_of_ble_eq_true rfl⟩ d_K_job_102 ?_
                  intro rv M1 ad1 H locs hP hM hE
                  obtain ⟨e1, e2, e3⟩ := hP
                  subst rv; subst M1; subst ad1
                  show W _ _ _ _ _ _ _ _ _ _ _ _ _ _ _ (F0 m 105 ls [.int (nI (lenR M x))])
                  refine lv_iconst (v := 4) X.1 X.2.1 d_K_job_105 (by decide) ?_
                  refine lv_icmp_ge (tgt := 118) X.1 X.2.1 d_K_job_106 (by decide) (fun h106 => ?_) (fun h106 => ?_)
                  · skip
                    exact r_throw X hst hml hl.1 hM hlk hno t_K_124_126_128 d_K_job_118 d_K_job_121 d_K_job_122 d_K_job_124 d_K_job_127 ⟨Nat.le_of_ble_eq_true rfl, Nat.le_of_ble_eq_true rfl, Nat.le_of_ble_eq_true rfl, Nat.le_of_ble_eq_true rfl⟩ ⟨Nat.le_of_ble_eq_true rfl, Nat.le_of_ble_eq_true rfl⟩ (Or.inr ⟨by unfold jbXc; rw [if_neg hb, if_neg (by rw [hj0]; exact (fun z => z rfl)), if_neg (fun z => (ltR4 hw x).mp h106 z.1)], rfl⟩)
                  · skip
                    refine lv_aload_n X.1 X.2.1 d_K_job_109 rfl (lv_at hl 2 rfl) ?_
                    refine r_geti X hM rfl hk0 f_K_56 rfl d_K_job_110 ?_
                    refine lv_bipush (v := 60) X.1 X.2.1 d_K_job_113 (by decide) ?_
                    refine lv_icmp_lt (tgt := 128) X.1 X.2.1 d_K_job_115 (by decide) (fun h115 => ?_) (fun h115 => ?_)
                    · skip
                      have hX : jbXc M kd x s0 = 0 := by unfold jbXc; rw [if_neg hb, if_neg (by rw [hj0]; exact (fun z => z rfl)), if_pos ⟨Classical.not_not.mp (fun z => h106 ((ltR4 hw x).mpr z)), (lt60 hw).mp h115⟩]
                      refine r_new (k := 4) X hM n_K_50 (Nat.le_of_ble_eq_true rfl) (Nat.le_of_ble_eq_true rfl) d_K_job_128 (fun q36 H q36ad hq36M hq36E hq36q => ?_)
                      have hM := hq36M
                      have hnq36 : gn M 4 < gn (sn M 4) 4 := sn_live _ _
                      refine lv_dup X.1 X.2.1 d_K_job_131 rfl ?_
                      refine lv_aload_n X.1 X.2.1 d_K_job_132 rfl (lv_at hl 2 rfl) ?_
                      refine r_geti X hM (hq36E 0 0 hk0) (sn_up hk0) f_K_56 rfl d_K_job_133 ?_
                      refine lv_topi (fun nj e_nj => ?_)
                      have e9 : nj = gi M 0 0 10 := by rw [e_nj, gi_sn, if_neg (by omega)]
                      clear e_nj
                      subst e9
                      refine lv_iload_n X.1 X.2.1 d_K_job_136 rfl (lv_at hl 3 rfl) ?_
                      refine lv_iload_n X.1 X.2.1 d_K_job_137 rfl (lv_at hl 4 rfl) ?_
                      refine lv_iload X.1 X.2.1 d_K_job_138 (lv_at hl 1 rfl) ?_
                      have hC9 := (k_Jb_init l D dA base (sn M 4) q36ad (gn M 4) hnq36 (gi M 0 0 10) kd x s0)
                      rw [hq36q] at hC9
                      refine r_cI (As := [.int (gi M 0 0 10), .int kd, .int x, .int s0]) (rest := [.ref q36]) X hml hl.1 hM hC9 c_K_129 v_Jb_init rfl (Nat.le_of_ble_eq_true rfl) ⟨rfl, rfl, Nat.le_of_ble_eq_true rfl, Nat.le_of_ble_eq_true rfl⟩ ⟨Nat.le_of_ble_eq_true rfl, Nat.le_of_ble_eq_true rfl⟩ d_K_job_140 ?_
                      intro rv M1 ad1 H locs hP hM hE
                      obtain ⟨e1, e2, e3⟩ := hP
                      subst rv; subst M1; subst ad1
                      have hr9 : gr (jb0 M kd x s0) 0 0 9 = some 0 := by rw [jb0_gr M kd x s0 (by omega)]; exact w_0_9 hw
                      have hx9 : gi (jb0 M kd x s0) 0 0 10 = nI (gn M 4) := by rw [jb0_gi M kd x s0 (by omega)]; exact w_nj hw
                      show W _ _ _ _ _ _ _ _ _ _ _ _ _ _ _ (F0 m 143 ls [.ref q36])
                      refine lv_astore (lv' := [(6, .ref q36), (5, .ref (ad 4 q)), (4, .int s0), (0, .ref (ad 0 0)), (1, .int kd), (2, .int x), (3, .int s0)]) X.1 X.2.1 d_K_job_143 hl (by decide) rfl (fun ls hl => ?_)
                      refine lv_aload_n X.1 X.2.1 d_K_job_145 rfl (lv_at hl 3 rfl) ?_
                      refine r_gets (q := 0) X hM (hq36E 0 0 hk0) (sn_up hk0) f_K_52 rfl hr9 d_K_job_146 (fun hv38 => ?_)
                      refine lv_aload_n X.1 X.2.1 d_K_job_149 rfl (lv_at hl 3 rfl) ?_
                      refine r_geti X hM (hq36E 0 0 hk0) (sn_up hk0) f_K_56 rfl d_K_job_150 ?_
                      refine lv_aload X.1 X.2.1 d_K_job_153 (lv_at hl 0 rfl) ?_
                      refine r_aast X hM rfl hv38 a_jobs (fun _ => rfl) rfl rfl hq36q hnq36 (j := (gn M 4)) hx9 ((lt60 hw).mp h115) d_K_job_155 (fun H locs hM => ?_)
                      refine lv_aload_n X.1 X.2.1 d_K_job_156 rfl (lv_at hl 3 rfl) ?_
                      refine lv_dup X.1 X.2.1 d_K_job_157 rfl ?_
                      refine r_geti X hM (hq36E 0 0 hk0) (sn_up hk0) f_K_56 rfl d_K_job_158 ?_
                      refine lv_iconst (v := 1) X.1 X.2.1 d_K_job_161 (by decide) ?_
                      refine lv_iadd X.1 X.2.1 d_K_job_162 ?_
                      refine r_puti X hM (hq36E 0 0 hk0) (sn_up hk0) p_K_56 rfl rfl rfl d_K_job_163 (fun H locs hM => ?_)
                      refine lv_aload X.1 X.2.1 d_K_job_166 (lv_at hl 0 rfl) ?_
                      refine r_geti X hM hq36q hnq36 f_K_117 rfl d_K_job_168 ?_
                      have hF : jbM M kd x s0 = (nI (gn M 4), jnM M kd x s0) := by unfold jbM; rw [hj0, eo]
                      have hZ : si (sr (jb0 M kd x s0) 13 0 (gn M 4) (some (gn M 4))) 0 0 10 (gi (jb0 M kd x s0) 0 0 10 + 1) = jnM M kd x s0 := by rw [hx9, nI_1]; rfl
                      refine vx_ret ?_
                      exact m_iret X hr hlk hM d_K_job_171 ⟨Nat.le_of_ble_eq_true rfl, Nat.le_of_ble_eq_true rfl⟩ (mExt_tr (mExt_rf _ _) (mExt_new hq36E)) ⟨hX, by rw [hF]; exact congrArg (fun z => some (Value.int z)) ((congrArg (fun N => gi N 4 (gn M 4) 0) hZ).trans (jnM_new hw kd x s0).1), by rw [hF]; exact hZ⟩
                    · skip
                      exact r_throw X hst hml hl.1 hM hlk hno t_K_124_126_128 d_K_job_118 d_K_job_121 d_K_job_122 d_K_job_124 d_K_job_127 ⟨Nat.le_of_ble_eq_true rfl, Nat.le_of_ble_eq_true rfl, Nat.le_of_ble_eq_true rfl, Nat.le_of_ble_eq_true rfl⟩ ⟨Nat.le_of_ble_eq_true rfl, Nat.le_of_ble_eq_true rfl⟩ (Or.inr ⟨by unfold jbXc; rw [if_neg hb, if_neg (by rw [hj0]; exact (fun z => z rfl)), if_neg (fun z => h115 ((lt60 hw).mpr z.2))], rfl⟩)
                · skip
                  refine lv_aload X.1 X.2.1 d_K_job_94 (lv_at hl 0 rfl) ?_
                  refine r_geti X hM rfl ((fun q z => lstR_lv z) q h64) f_K_117 rfl d_K_job_96 ?_
                  have hj0 : jsm M kd x (own0 kd s0) = some q := by rw [eo]; exact jsm_y h64 ⟨h72, h81, h91⟩
                  have hF : jbM M kd x s0 = (nI q, M) := by unfold jbM; rw [hj0]
                  refine vx_ret ?_
                  exact m_iret X hr hlk hM d_K_job_99 ⟨Nat.le_of_ble_eq_true rfl, Nat.le_of_ble_eq_true rfl⟩ (mExt_rf _ _) ⟨by unfold jbXc; rw [if_neg hb, if_pos (by rw [hj0]; exact (fun z => nomatch z))], by rw [hF, w_jn hw (lstR_lv h64)], by rw [hF]⟩
        · skip
          exact r_throw X hst hml hl.1 hM hlk hno t_K_75_102_79 d_K_job_34 d_K_job_37 d_K_job_38 d_K_job_40 d_K_job_43 ⟨Nat.le_of_ble_eq_true rfl, Nat.le_of_ble_eq_true rfl, Nat.le_of_ble_eq_true rfl, Nat.le_of_ble_eq_true rfl⟩ ⟨Nat.le_of_ble_eq_true rfl, Nat.le_of_ble_eq_true rfl⟩ (Or.inl ⟨if_pos (Or.inr (Or.inr ⟨h24, be0 h31⟩)), rfl⟩)
    · skip
      exact r_throw X hst hml hl.1 hM hlk hno t_K_75_96_79 d_K_job_9 d_K_job_12 d_K_job_13 d_K_job_15 d_K_job_18 ⟨Nat.le_of_ble_eq_true rfl, Nat.le_of_ble_eq_true rfl, Nat.le_of_ble_eq_true rfl, Nat.le_of_ble_eq_true rfl⟩ ⟨Nat.le_of_ble_eq_true rfl, Nat.le_of_ble_eq_true rfl⟩ (Or.inl ⟨if_pos (Or.inl (fun z => h6 z.2)), rfl⟩)
