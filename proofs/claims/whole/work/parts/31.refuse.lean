def caI (M : mM) (g : Nat) : mM := si (sr (sn (sr (sn M 15) 6 g 0 (some (gn M 15))) 16) 6 g 1 (some (gn (sr (sn M 15) 6 g 0 (some (gn M 15))) 16))) 6 g 2 0
set_option maxHeartbeats 4000000 in
set_option maxRecDepth 100000 in
theorem k_Ca_init (l : Launch) (D : va_G) (dA : Nat → ClassId) (base : Nat) (M : mM) (ad : Nat → Nat → Nat) (g : Nat) (hg : g < gn M 6) : mMet l y_Ca_init b_Ca_init 1 none ({ frames := 1, cells := 2, slots := 8, locals := 12 } : Room) 2 8 D dA base M ad [.ref (ad 6 g)] (fun rv M' ad' => rv = none ∧ M' = caI M g) := by
  refine m_start (lvs := [(0, .ref (ad 6 g))]) (by decide) (Nat.le_of_ble_eq_true rfl) rfl ?_
  intro p e s m below meth c ls X hr hlk hin hml hM hl
  refine lv_aload_n X.1 X.2.1 d_Ca_init_0 rfl (lv_at hl 0 rfl) ?_
  refine W.objInit X.1 X.2.1 X.2.2.1 (X.2.2.2.1 _ oi_Ca) (X.2.2.2.1 _ oi_inst) (X.2.2.2.1 _ oi_code) rfl (by rw [hml]; exact hl.1) rfl d_Ca_init_1 (Nat.le_of_ble_eq_true rfl) (Nat.le_of_ble_eq_true rfl) ?_
  refine W.eq (g2 := F0 m 4 ls []) rfl ?_
  refine lv_aload_n X.1 X.2.1 d_Ca_init_4 rfl (lv_at hl 0 rfl) ?_
  refine lv_iconst (v := 4) X.1 X.2.1 d_Ca_init_5 (by decide) ?_
  refine r_newi (k := 15) X hM a_paths (fun _ => rfl) gw_int rfl (by decide) (Nat.le_of_ble_eq_true rfl) (Nat.le_of_ble_eq_true rfl) d_Ca_init_6 (fun q1 H q1ad hq1M hq1E hq1q => ?_)
  have hM := hq1M
  have hnq1 : gn M 15 < gn (sn M 15) 15 := sn_live _ _
  refine r_putfr X hin hM (hq1E 6 g hg) (sn_up hg) p_Ca_9 rfl (x := (some (gn M 15))) (fun z hz => by cases hz; exact hnq1) (congrArg Value.ref hq1q) rfl rfl d_Ca_init_8 (fun H locs hM => ?_)
  refine lv_aload_n X.1 X.2.1 d_Ca_init_11 rfl (lv_at hl 0 rfl) ?_
  refine lv_iconst (v := 4) X.1 X.2.1 d_Ca_init_12 (by decide) ?_
  refine r_newi (k := 16) X hM a_values (fun _ => rfl) gw_int rfl (by decide) (Nat.le_of_ble_eq_true rfl) (Nat.le_of_ble_eq_true rfl) d_Ca_init_13 (fun q2 H q2ad hq2M hq2E hq2q => ?_)
  have hM := hq2M
  have hnq2 : gn (sr (sn M 15) 6 g 0 (some (gn M 15))) 16 < gn (sn (sr (sn M 15) 6 g 0 (some (gn M 15))) 16) 16 := sn_live _ _
  refine r_putfr X hin hM ((hq2E 6 g (sn_up hg)).trans (hq1E 6 g hg)) (sn_up (sn_up hg)) p_Ca_15 rfl (x := (some (gn (sr (sn M 15) 6 g 0 (some (gn M 15))) 16))) (fun z hz => by cases hz; exact hnq2) (congrArg Value.ref hq2q) rfl rfl d_Ca_init_15 (fun H locs hM => ?_)
  refine lv_aload_n X.1 X.2.1 d_Ca_init_18 rfl (lv_at hl 0 rfl) ?_
  refine lv_iconst (v := 0) X.1 X.2.1 d_Ca_init_19 (by decide) ?_
  refine r_puti X hM ((hq2E 6 g (sn_up hg)).trans (hq1E 6 g hg)) (sn_up (sn_up hg)) p_Ca_18 rfl rfl rfl d_Ca_init_20 (fun H locs hM => ?_)
  exact m_vret X hr hlk hM d_Ca_init_23 ⟨Nat.le_of_ble_eq_true rfl, Nat.le_of_ble_eq_true rfl⟩ (mExt_tr (mExt_tr (mExt_rf _ _) (mExt_new hq1E)) (mExt_new hq2E)) ⟨rfl, rfl⟩
def wkI (M : mM) (g : Nat) (n : Int32) (k : Nat) : mM := si (si (si (si (si (si (sr (caI (sn M 6) (gn M 6)) 7 g 4 (some (gn M 6))) 7 g 5 1) 7 g 6 0) 7 g 0 n) 7 g 1 (gi (si (si (si (sr (caI (sn M 6) (gn M 6)) 7 g 4 (some (gn M 6))) 7 g 5 1) 7 g 6 0) 7 g 0 n) 1 k 0)) 7 g 2 (gi (si (si (si (si (sr (caI (sn M 6) (gn M 6)) 7 g 4 (some (gn M 6))) 7 g 5 1) 7 g 6 0) 7 g 0 n) 7 g 1 (gi (si (si (si (sr (caI (sn M 6) (gn M 6)) 7 g 4 (some (gn M 6))) 7 g 5 1) 7 g 6 0) 7 g 0 n) 1 k 0)) 1 k 2)) 7 g 3 (gi (si (si (si (si (si (sr (caI (sn M 6) (gn M 6)) 7 g 4 (some (gn M 6))) 7 g 5 1) 7 g 6 0) 7 g 0 n) 7 g 1 (gi (si (si (si (sr (caI (sn M 6) (gn M 6)) 7 g 4 (some (gn M 6))) 7 g 5 1) 7 g 6 0) 7 g 0 n) 1 k 0)) 7 g 2 (gi (si (si (si (si (sr (caI (sn M 6) (gn M 6)) 7 g 4 (some (gn M 6))) 7 g 5 1) 7 g 6 0) 7 g 0 n) 7 g 1 (gi (si (si (si (sr (caI (sn M 6) (gn M 6)) 7 g 4 (some (gn M 6))) 7 g 5 1) 7 g 6 0) 7 g 0 n) 1 k 0)) 1 k 2)) 1 k 3)
set_option maxHeartbeats 4000000 in
set_option maxRecDepth 100000 in
theorem k_Wk_init (l : Launch) (D : va_G) (dA : Nat → ClassId) (base : Nat) (M : mM) (ad : Nat → Nat → Nat) (g k : Nat) (n : Int32) (hg : g < gn M 7) (hk : k < gn M 1) : mMet l y_Wk_init b_Wk_init 3 none ({ frames := 2, cells := 3, slots := 11, locals := 40 } : Room) 3 11 D dA base M ad [.ref (ad 7 g), .int n, .ref (ad 1 k)] (fun rv M' ad' => rv = none ∧ M' = wkI M g n k) := by
  refine m_start (lvs := [(0, .ref (ad 7 g)), (1, .int n), (2, .ref (ad 1 k))]) (by decide) (Nat.le_of_ble_eq_true rfl) rfl ?_
  intro p e s m below meth c ls X hr hlk hin hml hM hl
  refine lv_aload_n X.1 X.2.1 d_Wk_init_0 rfl (lv_at hl 0 rfl) ?_
  refine W.objInit X.1 X.2.1 X.2.2.1 (X.2.2.2.1 _ oi_Wk) (X.2.2.2.1 _ oi_inst) (X.2.2.2.1 _ oi_code) rfl (by rw [hml]; exact hl.1) rfl d_Wk_init_1 (Nat.le_of_ble_eq_true rfl) (Nat.le_of_ble_eq_true rfl) ?_
  refine W.eq (g2 := F0 m 4 ls []) rfl ?_
  refine lv_aload_n X.1 X.2.1 d_Wk_init_4 rfl (lv_at hl 0 rfl) ?_
  refine r_new (k := 6) X hM n_Wk_9 (Nat.le_of_ble_eq_true rfl) (Nat.le_of_ble_eq_true rfl) d_Wk_init_5 (fun q1 H q1ad hq1M hq1E hq1q => ?_)
  have hM := hq1M
  have hnq1 : gn M 6 < gn (sn M 6) 6 := sn_live _ _
  refine lv_dup X.1 X.2.1 d_Wk_init_8 rfl ?_
  have hC9 := (k_Ca_init l D dA base (sn M 6) q1ad (gn M 6) (sn_live _ _))
  rw [hq1q] at hC9
  refine r_cI (As := []) (rest := [.ref q1, .ref (ad 7 g)]) X hml hl.1 hM hC9 c_Wk_11 v_Ca_init rfl (Nat.le_of_ble_eq_true rfl) ⟨rfl, rfl, Nat.le_of_ble_eq_true rfl, Nat.le_of_ble_eq_true rfl⟩ ⟨Nat.le_of_ble_eq_true rfl, Nat.le_of_ble_eq_true rfl⟩ d_Wk_init_9 ?_
  intro rv M1 ad_3 H locs hP hM hE_4
  obtain ⟨e1, e2⟩ := hP
  subst rv; subst M1
  show W _ _ _ _ _ _ _ _ _ _ _ _ _ _ _ (F0 m 12 ls [.ref q1, .ref (ad 7 g)])
  refine r_putfr X hin hM ((hE_4.1 7 g (sn_up hg)).trans (hq1E 7 g hg)) (Nat.lt_of_lt_of_le (sn_up hg) (hE_4.2 _)) p_Wk_12 rfl (x := (some (gn M 6))) (fun z hz => by cases hz; exact (Nat.lt_of_lt_of_le hnq1 (hE_4.2 _))) (congrArg Value.ref ((hE_4.1 6 (gn M 6) hnq1).trans hq1q)) rfl rfl d_Wk_init_12 (fun H locs hM => ?_)
  refine lv_aload_n X.1 X.2.1 d_Wk_init_15 rfl (lv_at hl 0 rfl) ?_
  refine lv_iconst (v := 1) X.1 X.2.1 d_Wk_init_16 (by decide) ?_
  refine r_puti X hM ((hE_4.1 7 g (sn_up hg)).trans (hq1E 7 g hg)) (Nat.lt_of_lt_of_le (sn_up hg) (hE_4.2 _)) p_Wk_18 rfl rfl rfl d_Wk_init_17 (fun H locs hM => ?_)
  refine lv_aload_n X.1 X.2.1 d_Wk_init_20 rfl (lv_at hl 0 rfl) ?_
  refine lv_iconst (v := 0) X.1 X.2.1 d_Wk_init_21 (by decide) ?_
  refine r_puti X hM ((hE_4.1 7 g (sn_up hg)).trans (hq1E 7 g hg)) (Nat.lt_of_lt_of_le (sn_up hg) (hE_4.2 _)) p_Wk_22 rfl rfl (by decide) d_Wk_init_22 (fun H locs hM => ?_)
  refine lv_aload_n X.1 X.2.1 d_Wk_init_25 rfl (lv_at hl 0 rfl) ?_
  refine lv_iload_n X.1 X.2.1 d_Wk_init_26 rfl (lv_at hl 1 rfl) ?_
  refine r_putfi X hin hM ((hE_4.1 7 g (sn_up hg)).trans (hq1E 7 g hg)) (Nat.lt_of_lt_of_le (sn_up hg) (hE_4.2 _)) p_Wk_26 rfl rfl rfl d_Wk_init_27 (fun H locs hM => ?_)
  refine lv_aload_n X.1 X.2.1 d_Wk_init_30 rfl (lv_at hl 0 rfl) ?_
  refine lv_aload_n X.1 X.2.1 d_Wk_init_31 rfl (lv_at hl 2 rfl) ?_
  refine r_geti X hM ((hE_4.1 1 k (sn_up hk)).trans (hq1E 1 k hk)) (Nat.lt_of_lt_of_le (sn_up hk) (hE_4.2 _)) f_Wk_29 rfl d_Wk_init_32 ?_
  refine r_putfi X hin hM ((hE_4.1 7 g (sn_up hg)).trans (hq1E 7 g hg)) (Nat.lt_of_lt_of_le (sn_up hg) (hE_4.2 _)) p_Wk_34 rfl rfl rfl d_Wk_init_35 (fun H locs hM => ?_)
  refine lv_aload_n X.1 X.2.1 d_Wk_init_38 rfl (lv_at hl 0 rfl) ?_
  refine lv_aload_n X.1 X.2.1 d_Wk_init_39 rfl (lv_at hl 2 rfl) ?_
  refine r_geti X hM ((hE_4.1 1 k (sn_up hk)).trans (hq1E 1 k hk)) (Nat.lt_of_lt_of_le (sn_up hk) (hE_4.2 _)) f_Wk_35 rfl d_Wk_init_40 ?_
  refine r_putfi X hin hM ((hE_4.1 7 g (sn_up hg)).trans (hq1E 7 g hg)) (Nat.lt_of_lt_of_le (sn_up hg) (hE_4.2 _)) p_Wk_38 rfl rfl rfl d_Wk_init_43 (fun H locs hM => ?_)
  refine lv_aload_n X.1 X.2.1 d_Wk_init_46 rfl (lv_at hl 0 rfl) ?_
  refine lv_aload_n X.1 X.2.1 d_Wk_init_47 rfl (lv_at hl 2 rfl) ?_
  refine r_geti X hM ((hE_4.1 1 k (sn_up hk)).trans (hq1E 1 k hk)) (Nat.lt_of_lt_of_le (sn_up hk) (hE_4.2 _)) f_Wk_39 rfl d_Wk_init_48 ?_
  refine r_putfi X hin hM ((hE_4.1 7 g (sn_up hg)).trans (hq1E 7 g hg)) (Nat.lt_of_lt_of_le (sn_up hg) (hE_4.2 _)) p_Wk_42 rfl rfl rfl d_Wk_init_51 (fun H locs hM => ?_)
  exact m_vret X hr hlk hM d_Wk_init_54 ⟨Nat.le_of_ble_eq_true rfl, Nat.le_of_ble_eq_true rfl⟩ (mExt_tr (mExt_tr (mExt_rf _ _) (mExt_new hq1E)) hE_4) ⟨rfl, rfl⟩
set_option maxHeartbeats 4000000 in
set_option maxRecDepth 100000 in
theorem k_K_refuseNoPath (l : Launch) (hst : l.stackTraces = false) (D : va_G) (dA : Nat → ClassId) (base : Nat) (M : mM) (ad : Nat → Nat → Nat) (x : Int32) : mMetX l y_K_refuseNoPath b_K_refuseNoPath 1 none ({ frames := 6, cells := 1, slots := 6, locals := 100 } : Room) 1 6 D dA base M ad [.int x] (fun rv M' ad' => isP x = true ∧ rv = none ∧ M' = M ∧ ad' = ad) (fun E => isP x = false ∧ E = "java/lang/IllegalArgumentException") := by
  refine m_startX (lvs := [(0, .int x)]) (by decide) (Nat.le_of_ble_eq_true rfl) rfl ?_
  intro p e s m below meth c ls X hr hlk hin hml hM hl hno
  refine lv_iload_n X.1 X.2.1 d_K_refuseNoPath_0 rfl (lv_at hl 0 rfl) ?_
  refine r_cS (As := [.int x]) (rest := []) X hml hl.1 hM (k_K_isPath l D dA base M ad x) c_K_72 v_K_isPath rfl (Nat.le_of_ble_eq_true rfl) ⟨rfl, rfl, Nat.le_of_ble_eq_true rfl, Nat.le_of_ble_eq_true rfl⟩ ⟨Nat.le_of_ble_eq_true rfl, Nat.le_of_ble_eq_true rfl⟩ d_K_refuseNoPath_1 ?_
  intro rv M1 ad1 H locs hP hM hE
  obtain ⟨e1, e2, e3⟩ := hP
  subst rv; subst M1; subst ad1
  show W _ _ _ _ _ _ _ _ _ _ _ _ _ _ _ (F0 m 4 ls [.int (if isP x = true then 1 else 0)])
  refine lv_if_ne (tgt := 18) X.1 X.2.1 d_K_refuseNoPath_4 (by decide) (fun h4 => ?_) (fun h4 => ?_)
  · skip
    refine vx_ret ?_
    exact m_vret X hr hlk hM d_K_refuseNoPath_18 ⟨Nat.le_of_ble_eq_true rfl, Nat.le_of_ble_eq_true rfl⟩ (mExt_rf _ _) ⟨bn0 h4, rfl, rfl, rfl⟩
  · skip
    exact r_throwW X hst hml hl.1 hM hlk hno t_K_75_287_79 d_K_refuseNoPath_7 d_K_refuseNoPath_10 d_K_refuseNoPath_11 d_K_refuseNoPath_14 d_K_refuseNoPath_17 ⟨Nat.le_of_ble_eq_true rfl, Nat.le_of_ble_eq_true rfl, Nat.le_of_ble_eq_true rfl, Nat.le_of_ble_eq_true rfl⟩ ⟨Nat.le_of_ble_eq_true rfl, Nat.le_of_ble_eq_true rfl⟩ ⟨Bool.eq_false_iff.mpr (be0 h4), rfl⟩
abbrev cOk (M : mM) (x : Int32) : Prop := 0 ≤ x ∧ x < 8 ∧ gi M 2 x.toNatClampNeg 0 ≠ 0
set_option maxHeartbeats 4000000 in
set_option maxRecDepth 100000 in
theorem k_K_refuseNoClient (l : Launch) (hst : l.stackTraces = false) (D : va_G) (dA : Nat → ClassId) (base : Nat) (M : mM) (ad : Nat → Nat → Nat) (hw : wK M) (x : Int32) : mMetX l y_K_refuseNoClient b_K_refuseNoClient 2 none ({ frames := 6, cells := 1, slots := 6, locals := 100 } : Room) 1 6 D dA base M ad [.ref (ad 0 0), .int x] (fun rv M' ad' => cOk M x ∧ rv = none ∧ M' = M ∧ ad' = ad) (fun E => ¬ cOk M x ∧ E = "java/util/NoSuchElementException") := by
  refine m_startX (lvs := [(0, .ref (ad 0 0)), (1, .int x)]) (by decide) (Nat.le_of_ble_eq_true rfl) rfl ?_
  intro p e s m below meth c ls X hr hlk hin hml hM hl hno
  refine lv_iload_n X.1 X.2.1 d_K_refuseNoClient_0 rfl (lv_at hl 1 rfl) ?_
  refine lv_if_lt (tgt := 22) X.1 X.2.1 d_K_refuseNoClient_1 (by decide) (fun h1 => ?_) (fun h1 => ?_)
  · skip
    exact r_throwNW X hst hml hl.1 hM hlk hno t_K_135_289_139 d_K_refuseNoClient_22 d_K_refuseNoClient_25 d_K_refuseNoClient_26 d_K_refuseNoClient_29 d_K_refuseNoClient_32 ⟨Nat.le_of_ble_eq_true rfl, Nat.le_of_ble_eq_true rfl, Nat.le_of_ble_eq_true rfl, Nat.le_of_ble_eq_true rfl⟩ ⟨Nat.le_of_ble_eq_true rfl, Nat.le_of_ble_eq_true rfl⟩ ⟨fun z => absurd h1 (Int32.not_lt.mpr z.1), rfl⟩
  · skip
    refine lv_iload_n X.1 X.2.1 d_K_refuseNoClient_4 rfl (lv_at hl 1 rfl) ?_
    refine lv_bipush (v := 8) X.1 X.2.1 d_K_refuseNoClient_5 (by decide) ?_
    refine lv_icmp_ge (tgt := 22) X.1 X.2.1 d_K_refuseNoClient_7 (by decide) (fun h7 => ?_) (fun h7 => ?_)
    · skip
      exact r_throwNW X hst hml hl.1 hM hlk hno t_K_135_289_139 d_K_refuseNoClient_22 d_K_refuseNoClient_25 d_K_refuseNoClient_26 d_K_refuseNoClient_29 d_K_refuseNoClient_32 ⟨Nat.le_of_ble_eq_true rfl, Nat.le_of_ble_eq_true rfl, Nat.le_of_ble_eq_true rfl, Nat.le_of_ble_eq_true rfl⟩ ⟨Nat.le_of_ble_eq_true rfl, Nat.le_of_ble_eq_true rfl⟩ ⟨fun z => absurd h7 (Int32.not_le.mpr z.2.1), rfl⟩
    · skip
      obtain ⟨j, hj, hxj⟩ : ∃ j, j < 8 ∧ x = nI j := by
        rcases pk_ix x (n := 8) (by decide) with h9 | h9 | ⟨j, h9, h7⟩
        · exact absurd h9 h1
        · exact absurd h9 h7
        · exact ⟨j, h9, h7⟩
      have hcl : x.toNatClampNeg = j := by rw [hxj]; exact nI_clamp (by omega)
      refine lv_aload_n X.1 X.2.1 d_K_refuseNoClient_10 rfl (lv_at hl 0 rfl) ?_
      refine r_gets (q := 0) X hM rfl (w_k hw) f_K_43 rfl (w_0_7 hw) d_K_refuseNoClient_11 (fun hv1 => ?_)
      refine lv_iload_n X.1 X.2.1 d_K_refuseNoClient_14 rfl (lv_at hl 1 rfl) ?_
      refine r_aalds (q := j) X hM rfl hv1 a_clients (fun _ => rfl) (j := j) hxj hj (w_cl hw hj) d_K_refuseNoClient_15 (fun hv2 => ?_)
      refine r_geti X hM rfl hv2 f_K_163 rfl d_K_refuseNoClient_16 ?_
      refine lv_if_ne (tgt := 33) X.1 X.2.1 d_K_refuseNoClient_19 (by decide) (fun h19 => ?_) (fun h19 => ?_)
      · skip
        refine vx_ret ?_
        exact m_vret X hr hlk hM d_K_refuseNoClient_33 ⟨Nat.le_of_ble_eq_true rfl, Nat.le_of_ble_eq_true rfl⟩ (mExt_rf _ _) ⟨⟨Int32.not_lt.mp h1, Int32.not_le.mp h7, by rw [hcl]; exact h19⟩, rfl, rfl, rfl⟩
      · skip
        exact r_throwNW X hst hml hl.1 hM hlk hno t_K_135_289_139 d_K_refuseNoClient_22 d_K_refuseNoClient_25 d_K_refuseNoClient_26 d_K_refuseNoClient_29 d_K_refuseNoClient_32 ⟨Nat.le_of_ble_eq_true rfl, Nat.le_of_ble_eq_true rfl, Nat.le_of_ble_eq_true rfl, Nat.le_of_ble_eq_true rfl⟩ ⟨Nat.le_of_ble_eq_true rfl, Nat.le_of_ble_eq_true rfl⟩ ⟨fun z => z.2.2 (by rw [hcl]; exact h19), rfl⟩
theorem rgOf_lv {D : va_G} {dA : Nat → ClassId} {base : Nat} {M : mM} {ad : Nat → Nat → Nat} {H0 H : Heap} {locs : List Loc} (hM : mSt D dA base M ad H0 H locs) (hw : wK M) {x : Int32} : ∀ q, rgOf M x = some q → q < gn M 5 := by
  intro q h
  unfold rgOf at h
  cases hf : ff (fun i => decide (gi M 5 (rgx M i) 0 = x)) (nRg M) 0 with
  | none => rw [hf] at h; cases h
  | some i =>
    rw [hf] at h
    cases h
    have := ff_lt hf
    exact live_regs hM hw (by omega)
set_option maxHeartbeats 4000000 in
set_option maxRecDepth 100000 in
theorem k_K_needRegistration (l : Launch) (hst : l.stackTraces = false) (D : va_G) (dA : Nat → ClassId) (base : Nat) (M : mM) (ad : Nat → Nat → Nat) (hw : wK M) (x : Int32) : mMetX l y_K_needRegistration b_K_needRegistration 3 (some (FieldType.object "ScopeKeeper$Registration")) ({ frames := 7, cells := 2, slots := 12, locals := 130 } : Room) 2 12 D dA base M ad [.ref (ad 0 0), .int x] (fun rv M' ad' => ∃ g, isP x = true ∧ rgOf M x = some g ∧ rv = some (.ref (ad 5 g)) ∧ M' = M ∧ ad' = ad) (fun E => (isP x = false ∧ E = "java/lang/IllegalArgumentException") ∨ (isP x = true ∧ rgOf M x = none ∧ E = "java/util/NoSuchElementException")) := by
  refine m_startX (lvs := [(0, .ref (ad 0 0)), (1, .int x)]) (by decide) (Nat.le_of_ble_eq_true rfl) rfl ?_
  intro p e s m below meth c ls X hr hlk hin hml hM hl hno
  refine lv_iload_n X.1 X.2.1 d_K_needRegistration_0 rfl (lv_at hl 1 rfl) ?_
  refine r_cSX (As := [.int x]) (rest := []) X hml hl.1 hM (k_K_refuseNoPath l hst D dA base M ad x) c_K_98 cx_K_98 v_K_refuseNoPath rfl (Nat.le_of_ble_eq_true rfl) ⟨rfl, rfl, Nat.le_of_ble_eq_true rfl, Nat.le_of_ble_eq_true rfl⟩ ⟨Nat.le_of_ble_eq_true rfl, Nat.le_of_ble_eq_true rfl⟩ d_K_needRegistration_1 (fun E ce q H locs hPx hM hy1 hy2 hy3 => m_out hM hlk hno (Or.inl hPx) hy1 hy2 hy3 ⟨Nat.le_of_ble_eq_true rfl, Nat.le_of_ble_eq_true rfl⟩) ?_
  intro rv M1 ad1 H locs hP hM hE
  obtain ⟨hp, e1, e2, e3⟩ := hP
  subst rv; subst M1; subst ad1
  show W _ _ _ _ _ _ _ _ _ _ _ _ _ _ _ (F0 m 4 ls [])
  refine lv_aload_n X.1 X.2.1 d_K_needRegistration_4 rfl (lv_at hl 0 rfl) ?_
  refine lv_iload_n X.1 X.2.1 d_K_needRegistration_5 rfl (lv_at hl 1 rfl) ?_
  refine r_cV (As := [.int x]) (rest := []) X hml hl.1 hM (k_K_registrationOf l D dA base M ad hw x) c_K_291 v_K_registrationOf kc_K rfl (w_k hw) rfl (Nat.le_of_ble_eq_true rfl) ⟨rfl, rfl, Nat.le_of_ble_eq_true rfl, Nat.le_of_ble_eq_true rfl⟩ ⟨Nat.le_of_ble_eq_true rfl, Nat.le_of_ble_eq_true rfl⟩ d_K_needRegistration_6 ?_
  intro rv M1 ad1 H locs hP hM hE
  obtain ⟨e1, e2, e3⟩ := hP
  subst rv; subst M1; subst ad1
  show W _ _ _ _ _ _ _ _ _ _ _ _ _ _ _ (F0 m 9 ls [rfv ad 5 (rgOf M x)])
  refine r_astore_n (lv' := [(2, rfv ad 5 (rgOf M x)), (0, .ref (ad 0 0)), (1, .int x)]) X.1 X.2.1 d_K_needRegistration_9 rfl hl (by decide) rfl (fun ls hl => ?_)
  refine r_aload_n X.1 X.2.1 d_K_needRegistration_10 rfl (lv_at hl 0 rfl) ?_
  refine r_ifnonnull (tgt := 25) X.1 X.2.1 d_K_needRegistration_11 (by decide) (fun g h11 => ?_) (fun h11 => ?_)
  · skip
    rw [h11] at hl
    have hl : lv_has ls 3 [(2, .ref (ad 5 g)), (0, .ref (ad 0 0)), (1, .int x)] := hl
    refine lv_aload_n X.1 X.2.1 d_K_needRegistration_25 rfl (lv_at hl 0 rfl) ?_
    refine vx_ret ?_
    exact m_aret X hr hlk hM (by first | rfl | exact rfv_isRef _ _ _) d_K_needRegistration_26 ⟨Nat.le_of_ble_eq_true rfl, Nat.le_of_ble_eq_true rfl⟩ (mExt_rf _ _) ⟨g, hp, h11, rfl, rfl, rfl⟩
  · skip
    rw [h11] at hl
    have hl : lv_has ls 3 [(2, .null), (0, .ref (ad 0 0)), (1, .int x)] := hl
    exact r_throwNW X hst hml hl.1 hM hlk hno t_K_135_294_139 d_K_needRegistration_14 d_K_needRegistration_17 d_K_needRegistration_18 d_K_needRegistration_21 d_K_needRegistration_24 ⟨Nat.le_of_ble_eq_true rfl, Nat.le_of_ble_eq_true rfl, Nat.le_of_ble_eq_true rfl, Nat.le_of_ble_eq_true rfl⟩ ⟨Nat.le_of_ble_eq_true rfl, Nat.le_of_ble_eq_true rfl⟩ (Or.inr ⟨hp, h11, rfl⟩)
set_option maxHeartbeats 4000000 in
set_option maxRecDepth 100000 in
theorem k_K_networkAnswer (l : Launch) (hst : l.stackTraces = false) (D : va_G) (dA : Nat → ClassId) (base : Nat) (M : mM) (ad : Nat → Nat → Nat) (hw : wK M) (x : Int32) : mMetX l y_K_networkAnswer b_K_networkAnswer 2 (some FieldType.int) ({ frames := 6, cells := 1, slots := 6, locals := 100 } : Room) 1 6 D dA base M ad [.ref (ad 0 0), .int x] (fun rv M' ad' => gi M 0 0 1 ≠ 0 ∧ rv = some (.int (gi M 0 0 2 + x)) ∧ M' = M ∧ ad' = ad) (fun E => gi M 0 0 1 = 0 ∧ E = "java/lang/UnsupportedOperationException") := by
  refine m_startX (lvs := [(0, .ref (ad 0 0)), (1, .int x)]) (by decide) (Nat.le_of_ble_eq_true rfl) rfl ?_
  intro p e s m below meth c ls X hr hlk hin hml hM hl hno
  refine lv_aload_n X.1 X.2.1 d_K_networkAnswer_0 rfl (lv_at hl 0 rfl) ?_
  refine r_geti X hM rfl (w_k hw) f_K_15 rfl d_K_networkAnswer_1 ?_
  refine lv_if_ne (tgt := 18) X.1 X.2.1 d_K_networkAnswer_4 (by decide) (fun h4 => ?_) (fun h4 => ?_)
  · skip
    refine lv_aload_n X.1 X.2.1 d_K_networkAnswer_18 rfl (lv_at hl 0 rfl) ?_
    refine r_geti X hM rfl (w_k hw) f_K_19 rfl d_K_networkAnswer_19 ?_
    refine lv_iload_n X.1 X.2.1 d_K_networkAnswer_22 rfl (lv_at hl 1 rfl) ?_
    refine lv_iadd X.1 X.2.1 d_K_networkAnswer_23 ?_
    refine vx_ret ?_
    exact m_iret X hr hlk hM d_K_networkAnswer_24 ⟨Nat.le_of_ble_eq_true rfl, Nat.le_of_ble_eq_true rfl⟩ (mExt_rf _ _) ⟨h4, rfl, rfl, rfl⟩
  · skip
    exact r_throwW X hst hml hl.1 hM hlk hno t_K_296_298_300 d_K_networkAnswer_7 d_K_networkAnswer_10 d_K_networkAnswer_11 d_K_networkAnswer_14 d_K_networkAnswer_17 ⟨Nat.le_of_ble_eq_true rfl, Nat.le_of_ble_eq_true rfl, Nat.le_of_ble_eq_true rfl, Nat.le_of_ble_eq_true rfl⟩ ⟨Nat.le_of_ble_eq_true rfl, Nat.le_of_ble_eq_true rfl⟩ ⟨h4, rfl⟩
set_option maxHeartbeats 4000000 in
set_option maxRecDepth 100000 in
theorem k_K_network (l : Launch) (D : va_G) (dA : Nat → ClassId) (base : Nat) (M : mM) (ad : Nat → Nat → Nat) (hw : wK M) (u x : Int32) (hu : u = 0 ∨ u = 1) (hv : gi M 0 0 1 = 0 ∨ gi M 0 0 1 = 1) : mMet l y_K_network b_K_network 4 (some FieldType.boolean) ({ frames := 0, cells := 0, slots := 0, locals := 0 } : Room) 0 0 D dA base M ad [.ref (ad 0 0), .int u, .int x] (fun rv M' ad' => rv = some (.int (gi M 0 0 1)) ∧ M' = si (si M 0 0 1 u) 0 0 2 x ∧ ad' = ad) := by
  refine m_start (lvs := [(0, .ref (ad 0 0)), (1, .int u), (2, .int x)]) (by decide) (Nat.le_of_ble_eq_true rfl) rfl ?_
  intro p e s m below meth c ls X hr hlk hin hml hM hl
  refine lv_aload_n X.1 X.2.1 d_K_network_0 rfl (lv_at hl 0 rfl) ?_
  refine r_geti X hM rfl (w_k hw) f_K_15 rfl d_K_network_1 ?_
  refine lv_istore_n (lv' := [(3, .int (gi M 0 0 1)), (0, .ref (ad 0 0)), (1, .int u), (2, .int x)]) X.1 X.2.1 d_K_network_4 rfl hl (by decide) rfl (fun ls hl => ?_)
  refine lv_aload_n X.1 X.2.1 d_K_network_5 rfl (lv_at hl 1 rfl) ?_
  refine lv_iload_n X.1 X.2.1 d_K_network_6 rfl (lv_at hl 2 rfl) ?_
  refine r_puti X hM rfl (w_k hw) p_K_15 rfl (by rcases hu with rfl | rfl <;> rfl) (by rcases hu with rfl | rfl <;> rfl) d_K_network_7 (fun H locs hM => ?_)
  refine lv_aload_n X.1 X.2.1 d_K_network_10 rfl (lv_at hl 1 rfl) ?_
  refine lv_iload_n X.1 X.2.1 d_K_network_11 rfl (lv_at hl 3 rfl) ?_
  refine r_puti X hM rfl (w_k hw) p_K_19 rfl rfl rfl d_K_network_12 (fun H locs hM => ?_)
  refine lv_iload_n X.1 X.2.1 d_K_network_15 rfl (lv_at hl 0 rfl) ?_
  exact m_zret X hr hlk hM (show narrow .boolean (.int (gi M 0 0 1)) = .int (gi M 0 0 1) by rcases hv with h | h <;> rw [h] <;> rfl) d_K_network_16 ⟨Nat.le_of_ble_eq_true rfl, Nat.le_of_ble_eq_true rfl⟩ ⟨fun _ _ _ => rfl, fun _ => Nat.le_refl _⟩ ⟨rfl, rfl, rfl⟩
