set_option maxHeartbeats 4000000 in
set_option maxRecDepth 100000 in
theorem k_K_addRegistration (l : Launch) (D : va_G) (dA : Nat → ClassId) (base : Nat) (M : mM) (ad : Nat → Nat → Nat) (hw : wK M) (x : Int32) (h5 : nRg M < 5) : mMet l y_K_addRegistration b_K_addRegistration 3 (some (FieldType.object "ScopeKeeper$Registration")) ({ frames := 2, cells := 1, slots := 6, locals := 60 } : Room) 1 6 D dA base M ad [.ref (ad 0 0), .int x] (fun rv M' ad' => rv = some (.ref (ad' 5 (gn M 5))) ∧ M' = arM M x) := by
  refine m_start (lvs := [(0, .ref (ad 0 0)), (1, .int x)]) (by decide) (Nat.le_of_ble_eq_true rfl) rfl ?_
  intro p e s m below meth c ls X hr hlk hin hml hM hl
  have hk0 : 0 < gn M 0 := w_k hw
  refine r_new (k := 5) X hM n_K_32 (Nat.le_of_ble_eq_true rfl) (Nat.le_of_ble_eq_true rfl) d_K_addRegistration_0 (fun q1 H q1ad hq1M hq1E hq1q => ?_)
  have hM := hq1M
  have hnq1 : gn M 5 < gn (sn M 5) 5 := sn_live _ _
  refine lv_dup X.1 X.2.1 d_K_addRegistration_3 rfl ?_
  refine lv_iload_n X.1 X.2.1 d_K_addRegistration_4 rfl (lv_at hl 1 rfl) ?_
  have hC9 := (k_Rg_init l D dA base (sn M 5) q1ad (gn M 5) hnq1 x)
  rw [hq1q] at hC9
  refine r_cI (As := [.int x]) (rest := [.ref q1]) X hml hl.1 hM hC9 c_K_357 v_Rg_init rfl (Nat.le_of_ble_eq_true rfl) ⟨rfl, rfl, Nat.le_of_ble_eq_true rfl, Nat.le_of_ble_eq_true rfl⟩ ⟨Nat.le_of_ble_eq_true rfl, Nat.le_of_ble_eq_true rfl⟩ d_K_addRegistration_5 ?_
  intro rv M1 ad1 H locs hP hM hE
  obtain ⟨e1, e2, e3⟩ := hP
  subst rv; subst M1; subst ad1
  have hr5 : gr (rgN M x) 0 0 5 = some 0 := by rw [rgN_gr M x (by omega)]; exact w_0_5 hw
  have hx6 : gi (rgN M x) 0 0 6 = nI (nRg M) := by rw [rgN_gi M x (by omega)]; exact w_nr hw
  show W _ _ _ _ _ _ _ _ _ _ _ _ _ _ _ (F0 m 8 ls [.ref q1])
  refine lv_astore_n (lv' := [(2, .ref q1), (0, .ref (ad 0 0)), (1, .int x)]) X.1 X.2.1 d_K_addRegistration_8 rfl hl (by decide) rfl (fun ls hl => ?_)
  refine lv_aload_n X.1 X.2.1 d_K_addRegistration_9 rfl (lv_at hl 1 rfl) ?_
  refine r_gets (q := 0) X hM (hq1E 0 0 hk0) (sn_up hk0) f_K_34 rfl hr5 d_K_addRegistration_10 (fun hv3 => ?_)
  refine lv_aload_n X.1 X.2.1 d_K_addRegistration_13 rfl (lv_at hl 1 rfl) ?_
  refine r_geti X hM (hq1E 0 0 hk0) (sn_up hk0) f_K_38 rfl d_K_addRegistration_14 ?_
  refine lv_aload_n X.1 X.2.1 d_K_addRegistration_17 rfl (lv_at hl 0 rfl) ?_
  refine r_aast X hM rfl hv3 a_regs (fun _ => rfl) rfl rfl hq1q hnq1 (j := (nRg M)) hx6 h5 d_K_addRegistration_18 (fun H locs hM => ?_)
  refine lv_aload_n X.1 X.2.1 d_K_addRegistration_19 rfl (lv_at hl 1 rfl) ?_
  refine lv_dup X.1 X.2.1 d_K_addRegistration_20 rfl ?_
  refine r_geti X hM (hq1E 0 0 hk0) (sn_up hk0) f_K_38 rfl d_K_addRegistration_21 ?_
  refine lv_iconst (v := 1) X.1 X.2.1 d_K_addRegistration_24 (by decide) ?_
  refine lv_iadd X.1 X.2.1 d_K_addRegistration_25 ?_
  refine r_puti X hM (hq1E 0 0 hk0) (sn_up hk0) p_K_38 rfl rfl rfl d_K_addRegistration_26 (fun H locs hM => ?_)
  refine lv_aload_n X.1 X.2.1 d_K_addRegistration_29 rfl (lv_at hl 0 rfl) ?_
  exact m_aret X hr hlk hM (by first | rfl | exact rfv_isRef _ _ _) d_K_addRegistration_30 ⟨Nat.le_of_ble_eq_true rfl, Nat.le_of_ble_eq_true rfl⟩ (mExt_tr (mExt_rf _ _) (mExt_new hq1E)) ⟨by rw [hq1q], by unfold arM; show si _ _ _ _ (gi (rgN M x) 0 0 6 + 1) = _; rw [hx6, nI_1]; rfl⟩
set_option maxHeartbeats 4000000 in
set_option maxRecDepth 100000 in
theorem k_K_beginInstall (l : Launch) (D : va_G) (dA : Nat → ClassId) (base : Nat) (M : mM) (ad : Nat → Nat → Nat) (hw : wK M) (ht : wT M) (ho : wO M) (g k : Nat) (hg : g < gn M 5) (hk : k < 4) (hs : gi M 5 g 1 = nI k) (h40 : gn M 7 < 40) : mMet l y_K_beginInstall b_K_beginInstall 3 none ({ frames := 4, cells := 4, slots := 20, locals := 120 } : Room) 4 20 D dA base M ad [.ref (ad 0 0), .ref (ad 5 g)] (fun rv M' ad' => rv = none ∧ M' = biM M g k) := by
  refine m_start (lvs := [(0, .ref (ad 0 0)), (1, .ref (ad 5 g))]) (by decide) (Nat.le_of_ble_eq_true rfl) rfl ?_
  intro p e s m below meth c ls X hr hlk hin hml hM hl
  have hk0 : 0 < gn M 0 := w_k hw
  refine r_new (k := 7) X hM n_K_23 (Nat.le_of_ble_eq_true rfl) (Nat.le_of_ble_eq_true rfl) d_K_beginInstall_0 (fun q1 H q1ad hq1M hq1E hq1q => ?_)
  have hM := hq1M
  have hnq1 : gn M 7 < gn (sn M 7) 7 := sn_live _ _
  refine lv_dup X.1 X.2.1 d_K_beginInstall_3 rfl ?_
  refine lv_aload_n X.1 X.2.1 d_K_beginInstall_4 rfl (lv_at hl 0 rfl) ?_
  refine r_geti X hM (hq1E 0 0 hk0) (sn_up hk0) f_K_29 rfl d_K_beginInstall_5 ?_
  refine lv_iconst (v := 1) X.1 X.2.1 d_K_beginInstall_8 (by decide) ?_
  refine lv_iadd X.1 X.2.1 d_K_beginInstall_9 ?_
  refine lv_topi (fun nw e_nw => ?_)
  have e9 : nw = gi M 0 0 4 + 1 := by rw [e_nw, gi_sn, if_neg (by omega)]
  clear e_nw
  subst e9
  refine lv_aload_n X.1 X.2.1 d_K_beginInstall_10 rfl (lv_at hl 0 rfl) ?_
  refine r_gets (q := 0) X hM (hq1E 0 0 hk0) (sn_up hk0) f_K_11 rfl (show gr (sn M 7) 0 0 0 = some 0 by rw [gr_sn, if_neg (by omega)]; exact w_0_0 hw) d_K_beginInstall_11 (fun hv2 => ?_)
  refine lv_aload_n X.1 X.2.1 d_K_beginInstall_14 rfl (lv_at hl 1 rfl) ?_
  refine r_geti X hM (hq1E 5 g hg) (sn_up hg) f_K_235 rfl d_K_beginInstall_15 ?_
  refine r_aalds (q := k) X hM rfl hv2 a_scripts (fun _ => rfl) (j := k) (show gi (sn M 7) 5 g 1 = nI k by rw [gi_sn, if_neg (by omega)]; exact hs) hk (show gr (sn M 7) 8 0 k = some k by rw [gr_sn, if_neg (by omega)]; exact w_sc hw hk) d_K_beginInstall_18 (fun hv3 => ?_)
  have hC9 := (k_Wk_init l D dA base (sn M 7) q1ad (gn M 7) k (gi M 0 0 4 + 1) hnq1 hv3)
  rw [hq1q] at hC9
  refine r_cI (As := [.int (gi M 0 0 4 + 1), .ref (q1ad 1 k)]) (rest := [.ref q1]) X hml hl.1 hM hC9 c_K_336 v_Wk_init rfl (Nat.le_of_ble_eq_true rfl) ⟨rfl, rfl, Nat.le_of_ble_eq_true rfl, Nat.le_of_ble_eq_true rfl⟩ ⟨Nat.le_of_ble_eq_true rfl, Nat.le_of_ble_eq_true rfl⟩ d_K_beginInstall_19 ?_
  intro rv M1 ad_5 H locs hP hM hE_6
  obtain ⟨e1, e2⟩ := hP
  subst rv; subst M1
  have hr9 : gr (wkN M k) 0 0 3 = some 0 := by rw [wkN_gr M k (by omega)]; exact w_0_3 hw
  have hx4 : gi (wkN M k) 0 0 4 = nI (gn M 7) := by rw [wkN_gi M k (by omega)]; exact w_nw hw
  show W _ _ _ _ _ _ _ _ _ _ _ _ _ _ _ (F0 m 22 ls [.ref q1])
  refine lv_astore_n (lv' := [(2, .ref q1), (0, .ref (ad 0 0)), (1, .ref (ad 5 g))]) X.1 X.2.1 d_K_beginInstall_22 rfl hl (by decide) rfl (fun ls hl => ?_)
  refine lv_aload_n X.1 X.2.1 d_K_beginInstall_23 rfl (lv_at hl 1 rfl) ?_
  refine r_gets (q := 0) X hM ((hE_6.1 0 0 (sn_up hk0)).trans (hq1E 0 0 hk0)) (Nat.lt_of_lt_of_le (sn_up hk0) (hE_6.2 _)) f_K_25 rfl hr9 d_K_beginInstall_24 (fun hv7 => ?_)
  refine lv_aload_n X.1 X.2.1 d_K_beginInstall_27 rfl (lv_at hl 1 rfl) ?_
  refine r_geti X hM ((hE_6.1 0 0 (sn_up hk0)).trans (hq1E 0 0 hk0)) (Nat.lt_of_lt_of_le (sn_up hk0) (hE_6.2 _)) f_K_29 rfl d_K_beginInstall_28 ?_
  refine lv_aload_n X.1 X.2.1 d_K_beginInstall_31 rfl (lv_at hl 0 rfl) ?_
  refine r_aast X hM rfl hv7 a_workers (fun _ => rfl) rfl rfl ((hE_6.1 7 (gn M 7) hnq1).trans hq1q) (Nat.lt_of_lt_of_le hnq1 (hE_6.2 _)) (j := (gn M 7)) hx4 h40 d_K_beginInstall_32 (fun H locs hM => ?_)
  refine lv_aload_n X.1 X.2.1 d_K_beginInstall_33 rfl (lv_at hl 1 rfl) ?_
  refine lv_dup X.1 X.2.1 d_K_beginInstall_34 rfl ?_
  refine r_geti X hM ((hE_6.1 0 0 (sn_up hk0)).trans (hq1E 0 0 hk0)) (Nat.lt_of_lt_of_le (sn_up hk0) (hE_6.2 _)) f_K_29 rfl d_K_beginInstall_35 ?_
  refine lv_iconst (v := 1) X.1 X.2.1 d_K_beginInstall_38 (by decide) ?_
  refine lv_iadd X.1 X.2.1 d_K_beginInstall_39 ?_
  refine r_puti X hM ((hE_6.1 0 0 (sn_up hk0)).trans (hq1E 0 0 hk0)) (Nat.lt_of_lt_of_le (sn_up hk0) (hE_6.2 _)) p_K_29 rfl rfl rfl d_K_beginInstall_40 (fun H locs hM => ?_)
  refine lv_aload_n X.1 X.2.1 d_K_beginInstall_43 rfl (lv_at hl 2 rfl) ?_
  refine lv_aload_n X.1 X.2.1 d_K_beginInstall_44 rfl (lv_at hl 0 rfl) ?_
  refine r_putr X hM ((hE_6.1 5 g (sn_up hg)).trans (hq1E 5 g hg)) (Nat.lt_of_lt_of_le (sn_up hg) (hE_6.2 _)) p_K_199 rfl (x := (some (gn M 7))) (fun z hz => by cases hz; exact (Nat.lt_of_lt_of_le hnq1 (hE_6.2 _))) (congrArg Value.ref ((hE_6.1 7 (gn M 7) hnq1).trans hq1q)) rfl rfl d_K_beginInstall_45 (fun H locs hM => ?_)
  have hB : mSt D dA base (bi0 M g k) ad_5 s.heap H locs := by unfold bi0; have hM : mSt D dA base (sr (si (sr (wkN M k) 9 0 (gn M 7) (some (gn M 7))) 0 0 4 (gi (wkN M k) 0 0 4 + 1)) 5 g 2 (some (gn M 7))) ad_5 s.heap H locs := hM; rw [hx4, nI_1] at hM; exact hM
  clear hM
  have hM := hB
  have hwB := bi0_w hw ho g k h40
  refine lv_aload_n X.1 X.2.1 d_K_beginInstall_48 rfl (lv_at hl 1 rfl) ?_
  refine lv_aload_n X.1 X.2.1 d_K_beginInstall_49 rfl (lv_at hl 0 rfl) ?_
  refine lv_iconst (v := 1) X.1 X.2.1 d_K_beginInstall_50 (by decide) ?_
  have hC9 := (k_K_bring_s l D dA base (bi0 M g k) ad_5 hwB (bi0_wT ht g k) (gn M 7) (Nat.lt_of_lt_of_le hnq1 (hE_6.2 _)) 1)
  rw [((hE_6.1 0 0 (sn_up hk0)).trans (hq1E 0 0 hk0)), ((hE_6.1 7 (gn M 7) hnq1).trans hq1q)] at hC9
  refine r_cV (As := [.ref q1, .int 1]) (rest := []) X hml hl.1 hM hC9 c_K_339 v_K_bring kc_K ((hE_6.1 0 0 (sn_up hk0)).trans (hq1E 0 0 hk0)) (Nat.lt_of_lt_of_le (sn_up hk0) (hE_6.2 _)) rfl (Nat.le_of_ble_eq_true rfl) ⟨rfl, rfl, Nat.le_of_ble_eq_true rfl, Nat.le_of_ble_eq_true rfl⟩ ⟨Nat.le_of_ble_eq_true rfl, Nat.le_of_ble_eq_true rfl⟩ d_K_beginInstall_51 ?_
  intro rv M1 ad1 H locs hP hM hE
  obtain ⟨e1, e2, e3⟩ := hP
  subst rv; subst M1; subst ad1
  show W _ _ _ _ _ _ _ _ _ _ _ _ _ _ _ (F0 m 54 ls [])
  exact m_vret X hr hlk hM d_K_beginInstall_54 ⟨Nat.le_of_ble_eq_true rfl, Nat.le_of_ble_eq_true rfl⟩ (mExt_tr (mExt_tr (mExt_tr (mExt_rf _ _) (mExt_new hq1E)) hE_6) (kp_ext (brM_kp (bi0 M g k) (some (gn M 7)) 1) _)) ⟨rfl, rfl⟩
