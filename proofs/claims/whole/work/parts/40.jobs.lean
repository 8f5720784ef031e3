theorem si51_w {M : mM} (hw : wK M) (g : Nat) (x : Int32) : wK (si M 5 g 1 x) := hw
theorem si51_wT {M : mM} (ht : wT M) (g : Nat) (x : Int32) : wT (si M 5 g 1 x) := kt_w (M := M) rfl ht
theorem si51_o {M : mM} (ho : wO M) (g : Nat) {k : Nat} (hk : k < 4) : wO (si M 5 g 1 (nI k)) := by
  refine ⟨ho.1, fun i hi => ?_, ho.2.2.1, ho.2.2.2.1, ho.2.2.2.2⟩
  rw [gi_si]
  by_cases h : i = g
  · rw [if_pos ⟨rfl, h, rfl⟩]; exact ⟨k, hk, rfl⟩
  · rw [if_neg (by omega)]; exact ho.2.1 i hi
def buM (M : mM) (x : Int32) : Int32 × mM := match rgOf M x with
  | none => (-2, M)
  | some g => if gi M 5 g 5 = 0 then (if gi M 0 0 1 = 0 then (-4, M) else if gn M 7 < 40 then (if upD M g = true then (2, M) else (0, biM M g (gi M 5 g 1).toNatClampNeg)) else (-5, M)) else (-2, M)
theorem buM_all {M : mM} (hw : wK M) (ht : wT M) (ho : wO M) (x : Int32) : wK (buM M x).2 ∧ wT (buM M x).2 ∧ wO (buM M x).2 ∧ gn (buM M x).2 4 = gn M 4 := by
  have h0 : wK M ∧ wT M ∧ wO M ∧ gn M 4 = gn M 4 := ⟨hw, ht, ho, rfl⟩
  unfold buM
  split
  · exact h0
  · split
    · split
      · exact h0
      · split
        · rename_i h40
          split
          · exact h0
          · exact ⟨biM_w hw ho _ _ h40, biM_wT ht _ _, biM_o ho _ _, ((brM_kp _ _ _).1 4).trans (by rw [bi0_gn]; rfl)⟩
        · exact h0
    · exact h0
def rr0 (A : mM) (g : Nat) : mM := si A 5 g 5 0
theorem rr0_kp (A : mM) (g : Nat) : kp A (rr0 A g) := kp_si _ _ _ _ _ (by omega)
theorem rr0_g (A : mM) (g : Nat) : gi (rr0 A g) 5 g 1 = gi A 5 g 1 := by
  unfold rr0; rw [gi_si, if_neg (by omega)]
def rr1 (A : mM) (g : Nat) (s : Int32) : mM := si (rr0 A g) 5 g 1 s
def rr2 (A : mM) (g : Nat) (s : Int32) : Int32 × mM := if gi A 5 g 1 = s ∧ upD (rr0 A g) g = true then (2, rr0 A g) else (0, biM (rr1 A g s) g s.toNatClampNeg)
def rrM (M : mM) (j : Nat) : Int32 × mM := if bgs (gi M 1 (gi M 4 j 3).toNatClampNeg 1) (gi M 4 j 2) = true then (if gi M 0 0 1 = 0 then (-4, M) else match rgOf M (gi M 4 j 2) with
    | none => if nRg M < 5 ∧ gn M 7 < 40 then rr2 (arM M (gi M 4 j 2)) (gn M 5) (gi M 4 j 3) else (-5, M)
    | some g => if gn M 7 < 40 then rr2 M g (gi M 4 j 3) else (-5, M)) else (-1, M)
theorem rr2_all {A : mM} (hw : wK A) (ht : wT A) (ho : wO A) (g : Nat) {k : Nat} (hk : k < 4) (h40 : gn A 7 < 40) : wK (rr2 A g (nI k)).2 ∧ wT (rr2 A g (nI k)).2 ∧ wO (rr2 A g (nI k)).2 ∧ gn (rr2 A g (nI k)).2 4 = gn A 4 := by
  have hw0 := kp_w (rr0_kp A g) hw
  have ht0 : wT (rr0 A g) := kt_w (M := A) rfl ht
  have ho0 := kq_o (kp_q (rr0_kp A g)) ho
  unfold rr2
  split
  · exact ⟨hw0, ht0, ho0, rfl⟩
  · exact ⟨biM_w (si51_w hw0 g _) (si51_o ho0 g hk) _ _ h40, biM_wT (si51_wT ht0 g _) _ _, biM_o (si51_o ho0 g hk) _ _, ((brM_kp _ _ _).1 4).trans (by rw [bi0_gn]; rfl)⟩
theorem rrM_all {M : mM} (hw : wK M) (ht : wT M) (ho : wO M) {j : Nat} (hj : j < gn M 4) : wK (rrM M j).2 ∧ wT (rrM M j).2 ∧ wO (rrM M j).2 ∧ gn (rrM M j).2 4 = gn M 4 := by
  have h0 : wK M ∧ wT M ∧ wO M ∧ gn M 4 = gn M 4 := ⟨hw, ht, ho, rfl⟩
  obtain ⟨k, hk, hs⟩ := ho.2.2.1 j hj
  unfold rrM
  rw [hs]
  split
  · split
    · exact h0
    · split
      · split
        · rename_i h
          exact rr2_all (arM_w hw _ h.1) (arM_wT ht _) (arM_o ho _) _ hk h.2
        · exact h0
      · split
        · rename_i h
          exact rr2_all hw ht ho _ hk h
        · exact h0
  · exact h0
def bjM (M : mM) (j : Nat) : Int32 × mM := if gi M 4 j 1 = 0 then rrM M j else if gi M 4 j 1 = 1 then buM M (gi M 4 j 2) else unM M (gi M 4 j 2)
theorem bjM_all {M : mM} (hw : wK M) (ht : wT M) (ho : wO M) {j : Nat} (hj : j < gn M 4) : wK (bjM M j).2 ∧ wT (bjM M j).2 ∧ wO (bjM M j).2 ∧ gn (bjM M j).2 4 = gn M 4 := by
  unfold bjM
  split
  · exact rrM_all hw ht ho hj
  · split
    · exact buM_all hw ht ho _
    · exact ⟨unM_w hw _, unM_wT ht _, kq_o (unM_kq M _) ho, unM_gn M _ 4⟩
theorem lt40 {M : mM} (hw : wK M) : gi M 0 0 4 < 40 ↔ gn M 7 < 40 := by
  have h := w_nwl hw
  rw [w_nw hw]
  exact ⟨fun z => (nI_ltI (by omega) (by decide)).mp z, fun z => nI_lt z (by decide)⟩
theorem lt5 {M : mM} (hw : wK M) : gi M 0 0 6 < 5 ↔ nRg M < 5 := by
  have h := w_nrl hw
  rw [w_nr hw]
  exact ⟨fun z => (nI_ltI (by omega) (by decide)).mp z, fun z => nI_lt z (by decide)⟩
set_option maxHeartbeats 4000000 in
set_option maxRecDepth 100000 in
theorem k_K_beginUpdate (l : Launch) (D : va_G) (dA : Nat → ClassId) (base : Nat) (M : mM) (ad : Nat → Nat → Nat) (hw : wK M) (ht : wT M) (ho : wO M) (x : Int32) : mMet l y_K_beginUpdate b_K_beginUpdate 3 (some FieldType.int) ({ frames := 5, cells := 4, slots := 20, locals := 160 } : Room) 4 20 D dA base M ad [.ref (ad 0 0), .int x] (fun rv M' ad' => rv = some (.int (buM M x).1) ∧ M' = (buM M x).2) := by
  refine m_start (lvs := [(0, .ref (ad 0 0)), (1, .int x)]) (by decide) (Nat.le_of_ble_eq_true rfl) rfl ?_
  intro p e s m below meth c ls X hr hlk hin hml hM hl
  have hk0 : 0 < gn M 0 := w_k hw
  refine lv_aload_n X.1 X.2.1 d_K_beginUpdate_0 rfl (lv_at hl 0 rfl) ?_
  refine lv_iload_n X.1 X.2.1 d_K_beginUpdate_1 rfl (lv_at hl 1 rfl) ?_
  refine r_cV (As := [.int x]) (rest := []) X hml hl.1 hM (k_K_registrationOf l D dA base M ad hw x) c_K_291 v_K_registrationOf kc_K rfl hk0 rfl (Nat.le_of_ble_eq_true rfl) ⟨rfl, rfl, Nat.le_of_ble_eq_true rfl, Nat.le_of_ble_eq_true rfl⟩ ⟨Nat.le_of_ble_eq_true rfl, Nat.le_of_ble_eq_true rfl⟩ d_K_beginUpdate_2 ?_
  intro rv M1 ad1 H locs hP hM hE
  obtain ⟨e1, e2, e3⟩ := hP
  subst rv; subst M1; subst ad1
  have hrl := rgOf_lv hM hw (x := x)
  show W _ _ _ _ _ _ _ _ _ _ _ _ _ _ _ (F0 m 5 ls [rfv ad 5 (rgOf M x)])
  refine r_astore_n (lv' := [(2, rfv ad 5 (rgOf M x)), (0, .ref (ad 0 0)), (1, .int x)]) X.1 X.2.1 d_K_beginUpdate_5 rfl hl (by decide) rfl (fun ls hl => ?_)
  refine r_aload_n X.1 X.2.1 d_K_beginUpdate_6 rfl (lv_at hl 0 rfl) ?_
  refine r_ifnull (tgt := 17) X.1 X.2.1 d_K_beginUpdate_7 (by decide) (fun h7 => ?_) (fun g h7 => ?_)
  · skip
    rw [h7] at hl
    have hl : lv_has ls 3 [(2, .null), (0, .ref (ad 0 0)), (1, .int x)] := hl
    refine lv_bipush (v := (-2)) X.1 X.2.1 d_K_beginUpdate_17 (by decide) ?_
    have hF : buM M x = (-2, M) := by unfold buM; rw [h7]
    exact m_iret X hr hlk hM d_K_beginUpdate_19 ⟨Nat.le_of_ble_eq_true rfl, Nat.le_of_ble_eq_true rfl⟩ (mExt_rf _ _) ⟨by rw [hF], by rw [hF]⟩
  · skip
    rw [h7] at hl
    have hl : lv_has ls 3 [(2, .ref (ad 5 g)), (0, .ref (ad 0 0)), (1, .int x)] := hl
    refine lv_aload_n X.1 X.2.1 d_K_beginUpdate_10 rfl (lv_at hl 0 rfl) ?_
    refine r_geti X hM rfl (hrl g h7) f_K_236 rfl d_K_beginUpdate_11 ?_
    refine lv_if_eq (tgt := 20) X.1 X.2.1 d_K_beginUpdate_14 (by decide) (fun h14 => ?_) (fun h14 => ?_)
    · skip
      refine lv_aload_n X.1 X.2.1 d_K_beginUpdate_20 rfl (lv_at hl 1 rfl) ?_
      refine r_geti X hM rfl hk0 f_K_15 rfl d_K_beginUpdate_21 ?_
      refine lv_if_ne (tgt := 30) X.1 X.2.1 d_K_beginUpdate_24 (by decide) (fun h24 => ?_) (fun h24 => ?_)
      · skip
        obtain ⟨k, hk, hs⟩ := ho.2.1 g (hrl g h7)
        refine lv_aload_n X.1 X.2.1 d_K_beginUpdate_30 rfl (lv_at hl 1 rfl) ?_
        refine r_geti X hM rfl hk0 f_K_29 rfl d_K_beginUpdate_31 ?_
        refine lv_bipush (v := 40) X.1 X.2.1 d_K_beginUpdate_34 (by decide) ?_
        refine lv_icmp_lt (tgt := 42) X.1 X.2.1 d_K_beginUpdate_36 (by decide) (fun h36 => ?_) (fun h36 => ?_)
        · skip
          refine lv_aload_n X.1 X.2.1 d_K_beginUpdate_42 rfl (lv_at hl 1 rfl) ?_
          refine lv_aload_n X.1 X.2.1 d_K_beginUpdate_43 rfl (lv_at hl 0 rfl) ?_
          refine r_cV (As := [.ref (ad 5 g)]) (rest := []) X hml hl.1 hM (k_K_isUpToDate l D dA base M ad hw g k (hrl g h7) hs hk) c_K_322 v_K_isUpToDate kc_K rfl hk0 rfl (Nat.le_of_ble_eq_true rfl) ⟨rfl, rfl, Nat.le_of_ble_eq_true rfl, Nat.le_of_ble_eq_true rfl⟩ ⟨Nat.le_of_ble_eq_true rfl, Nat.le_of_ble_eq_true rfl⟩ d_K_beginUpdate_44 ?_
          intro rv M1 ad1 H locs hP hM hE
          obtain ⟨e1, e2, e3⟩ := hP
          subst rv; subst M1; subst ad1
          show W _ _ _ _ _ _ _ _ _ _ _ _ _ _ _ (F0 m 47 ls [.int (if upD M g = true then 1 else 0)])
          refine lv_if_eq (tgt := 52) X.1 X.2.1 d_K_beginUpdate_47 (by decide) (fun h47 => ?_) (fun h47 => ?_)
          · skip
            refine lv_aload_n X.1 X.2.1 d_K_beginUpdate_52 rfl (lv_at hl 1 rfl) ?_
            refine lv_aload_n X.1 X.2.1 d_K_beginUpdate_53 rfl (lv_at hl 0 rfl) ?_
            refine r_cV (As := [.ref (ad 5 g)]) (rest := []) X hml hl.1 hM (k_K_beginInstall l D dA base M ad hw ht ho g k (hrl g h7) hk hs ((lt40 hw).mp h36)) c_K_326 v_K_beginInstall kc_K rfl hk0 rfl (Nat.le_of_ble_eq_true rfl) ⟨rfl, rfl, Nat.le_of_ble_eq_true rfl, Nat.le_of_ble_eq_true rfl⟩ ⟨Nat.le_of_ble_eq_true rfl, Nat.le_of_ble_eq_true rfl⟩ d_K_beginUpdate_54 ?_
            intro rv M1 ad_4 H locs hP hM hE_5
            obtain ⟨e1, e2⟩ := hP
            subst rv; subst M1
            show W _ _ _ _ _ _ _ _ _ _ _ _ _ _ _ (F0 m 57 ls [])
            refine lv_iconst (v := 0) X.1 X.2.1 d_K_beginUpdate_57 (by decide) ?_
            have hF : buM M x = (0, biM M g k) := by unfold buM; rw [h7]; show (if gi M 5 g 5 = 0 then _ else _) = _; rw [if_pos h14, if_neg h24, if_pos ((lt40 hw).mp h36), if_neg (be0 h47), hs, nI_clamp (by omega)]
            exact m_iret X hr hlk hM d_K_beginUpdate_58 ⟨Nat.le_of_ble_eq_true rfl, Nat.le_of_ble_eq_true rfl⟩ (mExt_tr (mExt_rf _ _) hE_5) ⟨by rw [hF], by rw [hF]⟩
          · skip
            refine lv_iconst (v := 2) X.1 X.2.1 d_K_beginUpdate_50 (by decide) ?_
            have hF : buM M x = (2, M) := by unfold buM; rw [h7]; show (if gi M 5 g 5 = 0 then _ else _) = _; rw [if_pos h14, if_neg h24, if_pos ((lt40 hw).mp h36), if_pos (bn0 h47)]
            exact m_iret X hr hlk hM d_K_beginUpdate_51 ⟨Nat.le_of_ble_eq_true rfl, Nat.le_of_ble_eq_true rfl⟩ (mExt_rf _ _) ⟨by rw [hF], by rw [hF]⟩
        · skip
          refine lv_bipush (v := (-5)) X.1 X.2.1 d_K_beginUpdate_39 (by decide) ?_
          have hF : buM M x = (-5, M) := by unfold buM; rw [h7]; show (if gi M 5 g 5 = 0 then _ else _) = _; rw [if_pos h14, if_neg h24, if_neg (fun z => h36 ((lt40 hw).mpr z))]
          exact m_iret X hr hlk hM d_K_beginUpdate_41 ⟨Nat.le_of_ble_eq_true rfl, Nat.le_of_ble_eq_true rfl⟩ (mExt_rf _ _) ⟨by rw [hF], by rw [hF]⟩
      · skip
        refine lv_bipush (v := (-4)) X.1 X.2.1 d_K_beginUpdate_27 (by decide) ?_
        have hF : buM M x = (-4, M) := by unfold buM; rw [h7]; show (if gi M 5 g 5 = 0 then _ else _) = _; rw [if_pos h14, if_pos h24]
        exact m_iret X hr hlk hM d_K_beginUpdate_29 ⟨Nat.le_of_ble_eq_true rfl, Nat.le_of_ble_eq_true rfl⟩ (mExt_rf _ _) ⟨by rw [hF], by rw [hF]⟩
    · skip
      refine lv_bipush (v := (-2)) X.1 X.2.1 d_K_beginUpdate_17 (by decide) ?_
      have hF : buM M x = (-2, M) := by unfold buM; rw [h7]; exact if_neg h14
      exact m_iret X hr hlk hM d_K_beginUpdate_19 ⟨Nat.le_of_ble_eq_true rfl, Nat.le_of_ble_eq_true rfl⟩ (mExt_rf _ _) ⟨by rw [hF], by rw [hF]⟩
set_option maxHeartbeats 4000000 in
set_option maxRecDepth 100000 in
theorem k_K_beginRegister (l : Launch) (D : va_G) (dA : Nat → ClassId) (base : Nat) (M : mM) (ad : Nat → Nat → Nat) (hw : wK M) (ht : wT M) (ho : wO M) (j : Nat) (hj : j < gn M 4) : mMet l y_K_beginRegister b_K_beginRegister 4 (some FieldType.int) ({ frames := 5, cells := 5, slots := 26, locals := 160 } : Room) 5 26 D dA base M ad [.ref (ad 0 0), .ref (ad 4 j)] (fun rv M' ad' => rv = some (.int (rrM M j).1) ∧ M' = (rrM M j).2) := by
  refine m_start (lvs := [(0, .ref (ad 0 0)), (1, .ref (ad 4 j))]) (by decide) (Nat.le_of_ble_eq_true rfl) rfl ?_
  intro p e s m below meth c ls X hr hlk hin hml hM hl
  have hk0 : 0 < gn M 0 := w_k hw
  obtain ⟨k, hk, hs⟩ := ho.2.2.1 j hj
  refine lv_aload_n X.1 X.2.1 d_K_beginRegister_0 rfl (lv_at hl 0 rfl) ?_
  refine r_gets (q := 0) X hM rfl hk0 f_K_11 rfl (w_0_0 hw) d_K_beginRegister_1 (fun hv1 => ?_)
  refine lv_aload_n X.1 X.2.1 d_K_beginRegister_4 rfl (lv_at hl 1 rfl) ?_
  refine r_geti X hM rfl hj f_K_114 rfl d_K_beginRegister_5 ?_
  refine r_aalds (q := k) X hM rfl hv1 a_scripts (fun _ => rfl) (j := k) hs hk (w_sc hw hk) d_K_beginRegister_8 (fun hv2 => ?_)
  refine r_geti X hM rfl hv2 f_K_87 rfl d_K_beginRegister_9 ?_
  refine lv_aload_n X.1 X.2.1 d_K_beginRegister_12 rfl (lv_at hl 1 rfl) ?_
  refine r_geti X hM rfl hj f_K_301 rfl d_K_beginRegister_13 ?_
  refine r_cS (As := [.int (gi M 1 k 1), .int (gi M 4 j 2)]) (rest := []) X hml hl.1 hM (k_K_begins l D dA base M ad (gi M 1 k 1) (gi M 4 j 2)) c_K_315 v_K_begins rfl (Nat.le_of_ble_eq_true rfl) ⟨rfl, rfl, Nat.le_of_ble_eq_true rfl, Nat.le_of_ble_eq_true rfl⟩ ⟨Nat.le_of_ble_eq_true rfl, Nat.le_of_ble_eq_true rfl⟩ d_K_beginRegister_16 ?_
  intro rv M1 ad1 H locs hP hM hE
  obtain ⟨e1, e2, e3⟩ := hP
  subst rv; subst M1; subst ad1
  show W _ _ _ _ _ _ _ _ _ _ _ _ _ _ _ (F0 m 19 ls [.int (if bgs (gi M 1 k 1) (gi M 4 j 2) = true then 1 else 0)])
  refine lv_if_ne (tgt := 24) X.1 X.2.1 d_K_beginRegister_19 (by decide) (fun h19 => ?_) (fun h19 => ?_)
  · skip
    refine lv_aload_n X.1 X.2.1 d_K_beginRegister_24 rfl (lv_at hl 0 rfl) ?_
    refine r_geti X hM rfl hk0 f_K_15 rfl d_K_beginRegister_25 ?_
    refine lv_if_ne (tgt := 34) X.1 X.2.1 d_K_beginRegister_28 (by decide) (fun h28 => ?_) (fun h28 => ?_)
    · skip
      refine lv_aload_n X.1 X.2.1 d_K_beginRegister_34 rfl (lv_at hl 0 rfl) ?_
      refine lv_aload_n X.1 X.2.1 d_K_beginRegister_35 rfl (lv_at hl 1 rfl) ?_
      refine r_geti X hM rfl hj f_K_301 rfl d_K_beginRegister_36 ?_
      refine r_cV (As := [.int (gi M 4 j 2)]) (rest := []) X hml hl.1 hM (k_K_registrationOf l D dA base M ad hw (gi M 4 j 2)) c_K_291 v_K_registrationOf kc_K rfl hk0 rfl (Nat.le_of_ble_eq_true rfl) ⟨rfl, rfl, Nat.le_of_ble_eq_true rfl, Nat.le_of_ble_eq_true rfl⟩ ⟨Nat.le_of_ble_eq_true rfl, Nat.le_of_ble_eq_true rfl⟩ d_K_beginRegister_39 ?_
      intro rv M1 ad1 H locs hP hM hE
      obtain ⟨e1, e2, e3⟩ := hP
      subst rv; subst M1; subst ad1
      have hrl := rgOf_lv hM hw (x := (gi M 4 j 2))
      show W _ _ _ _ _ _ _ _ _ _ _ _ _ _ _ (F0 m 42 ls [rfv ad 5 (rgOf M (gi M 4 j 2))])
      refine r_astore_n (lv' := [(2, rfv ad 5 (rgOf M (gi M 4 j 2))), (0, .ref (ad 0 0)), (1, .ref (ad 4 j))]) X.1 X.2.1 d_K_beginRegister_42 rfl hl (by decide) rfl (fun ls hl => ?_)
      refine r_aload_n X.1 X.2.1 d_K_beginRegister_43 rfl (lv_at hl 0 rfl) ?_
      refine r_ifnonnull (tgt := 59) X.1 X.2.1 d_K_beginRegister_44 (by decide) (fun g h44 => ?_) (fun h44 => ?_)
      · skip
        rw [h44] at hl
        have hl : lv_has ls 4 [(2, .ref (ad 5 g)), (0, .ref (ad 0 0)), (1, .ref (ad 4 j))] := hl
        refine lv_iconst (v := 0) X.1 X.2.1 d_K_beginRegister_59 (by decide) ?_
        refine lv_istore_n (lv' := [(3, .int 0), (2, .ref (ad 5 g)), (0, .ref (ad 0 0)), (1, .ref (ad 4 j))]) X.1 X.2.1 d_K_beginRegister_60 rfl hl (by decide) rfl (fun ls hl => ?_)
        refine lv_iload_n X.1 X.2.1 d_K_beginRegister_61 rfl (lv_at hl 0 rfl) ?_
        refine lv_if_ne (tgt := 74) X.1 X.2.1 d_K_beginRegister_62 (by decide) (fun hz5 => absurd (by decide) hz5) (fun hz5 => ?_)
        refine lv_aload_n X.1 X.2.1 d_K_beginRegister_65 rfl (lv_at hl 2 rfl) ?_
        refine r_geti X hM rfl hk0 f_K_29 rfl d_K_beginRegister_66 ?_
        refine lv_bipush (v := 40) X.1 X.2.1 d_K_beginRegister_69 (by decide) ?_
        refine lv_icmp_lt (tgt := 77) X.1 X.2.1 d_K_beginRegister_71 (by decide) (fun h71 => ?_) (fun h71 => ?_)
        · skip
          refine lv_aload_n X.1 X.2.1 d_K_beginRegister_77 rfl (lv_at hl 1 rfl) ?_
          refine lv_ifnonnull (tgt := 90) X.1 X.2.1 d_K_beginRegister_78 (by decide) ?_
          have hwA := hw
          have htA := ht
          have hoA := ho
          have hsA := hs
          have h40 := (lt40 hw).mp h71
          have hgA : g < gn (M) 5 := (hrl g h44)
          obtain ⟨k2, hk2, hs2⟩ := hoA.2.1 g hgA
          refine lv_aload_n X.1 X.2.1 d_K_beginRegister_90 rfl (lv_at hl 1 rfl) ?_
          refine lv_iconst (v := 0) X.1 X.2.1 d_K_beginRegister_91 (by decide) ?_
          refine r_puti X hM rfl hgA p_K_236 rfl rfl rfl d_K_beginRegister_92 (fun H locs hM => ?_)
          have hw0 := kp_w (rr0_kp (M) g) hwA
          have ht0 : wT (rr0 (M) g) := kt_w (M := M) rfl htA
          have ho0 := kq_o (kp_q (rr0_kp (M) g)) hoA
          have hs0 : gi (rr0 (M) g) 5 g 1 = nI k2 := by unfold rr0; rw [gi_si, if_neg (by omega)]; exact hs2
          have hs3 : gi (rr0 (M) g) 4 j 3 = nI k := hsA
          refine lv_aload_n X.1 X.2.1 d_K_beginRegister_95 rfl (lv_at hl 1 rfl) ?_
          refine r_geti X hM rfl hgA f_K_235 rfl d_K_beginRegister_96 ?_
          refine lv_aload_n X.1 X.2.1 d_K_beginRegister_99 rfl (lv_at hl 3 rfl) ?_
          refine r_geti X hM rfl hj f_K_114 rfl d_K_beginRegister_100 ?_
          refine lv_icmp_ne (tgt := 116) X.1 X.2.1 d_K_beginRegister_103 (by decide) (fun h103 => ?_) (fun h103 => ?_)
          · skip
            refine lv_aload_n X.1 X.2.1 d_K_beginRegister_116 rfl (lv_at hl 1 rfl) ?_
            refine lv_aload_n X.1 X.2.1 d_K_beginRegister_117 rfl (lv_at hl 3 rfl) ?_
            refine r_geti X hM rfl hj f_K_114 rfl d_K_beginRegister_118 ?_
            refine r_puti X hM rfl hgA p_K_235 rfl rfl rfl d_K_beginRegister_121 (fun H locs hM => ?_)
            have hB : mSt D dA base (rr1 (M) g (nI k)) ad s.heap H locs := by have hM : mSt D dA base (si (rr0 (M) g) 5 g 1 (gi (rr0 (M) g) 4 j 3)) ad s.heap H locs := hM; rw [hs3] at hM; exact hM
            clear hM
            have hM := hB
            have hw1 : wK (rr1 (M) g (nI k)) := si51_w hw0 _ _
            have ht1 : wT (rr1 (M) g (nI k)) := si51_wT ht0 _ _
            have ho1 : wO (rr1 (M) g (nI k)) := si51_o ho0 _ hk
            have hs1 : gi (rr1 (M) g (nI k)) 5 g 1 = nI k := by unfold rr1; rw [gi_si, if_pos ⟨rfl, rfl, rfl⟩]
            refine lv_aload_n X.1 X.2.1 d_K_beginRegister_124 rfl (lv_at hl 2 rfl) ?_
            refine lv_aload_n X.1 X.2.1 d_K_beginRegister_125 rfl (lv_at hl 1 rfl) ?_
            refine r_cV (As := [.ref (ad 5 g)]) (rest := []) X hml hl.1 hM (k_K_beginInstall l D dA base (rr1 (M) g (nI k)) ad hw1 ht1 ho1 g k hgA hk hs1 h40) c_K_326 v_K_beginInstall kc_K rfl hk0 rfl (Nat.le_of_ble_eq_true rfl) ⟨rfl, rfl, Nat.le_of_ble_eq_true rfl, Nat.le_of_ble_eq_true rfl⟩ ⟨Nat.le_of_ble_eq_true rfl, Nat.le_of_ble_eq_true rfl⟩ d_K_beginRegister_126 ?_
            intro rv M1 ad_7 H locs hP hM hE_8
            obtain ⟨e1, e2⟩ := hP
            subst rv; subst M1
            show W _ _ _ _ _ _ _ _ _ _ _ _ _ _ _ (F0 m 129 ls [])
            refine lv_iconst (v := 0) X.1 X.2.1 d_K_beginRegister_129 (by decide) ?_
            have hR : rr2 (M) g (nI k) = (0, biM (rr1 (M) g (nI k)) g k) := by unfold rr2; rw [if_neg (fun z => h103 (((rr0_g _ _).trans z.1).trans hs3.symm)), nI_clamp (by omega)]
            have hF : rrM M j = (0, biM (rr1 (M) g (nI k)) g k) := by unfold rrM; rw [hs, nI_clamp (by omega)]; rw [if_pos (bn0 h19), if_neg h28, h44]; exact (if_pos ((lt40 hw).mp h71)).trans hR
            exact m_iret X hr hlk hM d_K_beginRegister_130 ⟨Nat.le_of_ble_eq_true rfl, Nat.le_of_ble_eq_true rfl⟩ (mExt_tr (mExt_rf _ _) hE_8) ⟨by rw [hF], by rw [hF]⟩
          · skip
            refine lv_aload_n X.1 X.2.1 d_K_beginRegister_106 rfl (lv_at hl 2 rfl) ?_
            refine lv_aload_n X.1 X.2.1 d_K_beginRegister_107 rfl (lv_at hl 1 rfl) ?_
            refine r_cV (As := [.ref (ad 5 g)]) (rest := []) X hml hl.1 hM (k_K_isUpToDate l D dA base (rr0 (M) g) ad hw0 g k2 hgA hs0 hk2) c_K_322 v_K_isUpToDate kc_K rfl hk0 rfl (Nat.le_of_ble_eq_true rfl) ⟨rfl, rfl, Nat.le_of_ble_eq_true rfl, Nat.le_of_ble_eq_true rfl⟩ ⟨Nat.le_of_ble_eq_true rfl, Nat.le_of_ble_eq_true rfl⟩ d_K_beginRegister_108 ?_
            intro rv M1 ad1 H locs hP hM hE
            obtain ⟨e1, e2, e3⟩ := hP
            subst rv; subst M1; subst ad1
            show W _ _ _ _ _ _ _ _ _ _ _ _ _ _ _ (F0 m 111 ls [.int (if upD (rr0 (M) g) g = true then 1 else 0)])
            refine lv_if_eq (tgt := 116) X.1 X.2.1 d_K_beginRegister_111 (by decide) (fun h111 => ?_) (fun h111 => ?_)
            · skip
              refine lv_aload_n X.1 X.2.1 d_K_beginRegister_116 rfl (lv_at hl 1 rfl) ?_
              refine lv_aload_n X.1 X.2.1 d_K_beginRegister_117 rfl (lv_at hl 3 rfl) ?_
              refine r_geti X hM rfl hj f_K_114 rfl d_K_beginRegister_118 ?_
              refine r_puti X hM rfl hgA p_K_235 rfl rfl rfl d_K_beginRegister_121 (fun H locs hM => ?_)
              have hB : mSt D dA base (rr1 (M) g (nI k)) ad s.heap H locs := by have hM : mSt D dA base (si (rr0 (M) g) 5 g 1 (gi (rr0 (M) g) 4 j 3)) ad s.heap H locs := hM; rw [hs3] at hM; exact hM
              clear hM
              have hM := hB
              have hw1 : wK (rr1 (M) g (nI k)) := si51_w hw0 _ _
              have ht1 : wT (rr1 (M) g (nI k)) := si51_wT ht0 _ _
              have ho1 : wO (rr1 (M) g (nI k)) := si51_o ho0 _ hk
              have hs1 : gi (rr1 (M) g (nI k)) 5 g 1 = nI k := by unfold rr1; rw [gi_si, if_pos ⟨rfl, rfl, rfl⟩]
              refine lv_aload_n X.1 X.2.1 d_K_beginRegister_124 rfl (lv_at hl 2 rfl) ?_
              refine lv_aload_n X.1 X.2.1 d_K_beginRegister_125 rfl (lv_at hl 1 rfl) ?_
              refine r_cV (As := [.ref (ad 5 g)]) (rest := []) X hml hl.1 hM (k_K_beginInstall l D dA base (rr1 (M) g (nI k)) ad hw1 ht1 ho1 g k hgA hk hs1 h40) c_K_326 v_K_beginInstall kc_K rfl hk0 rfl (Nat.le_of_ble_eq_true rfl) ⟨rfl, rfl, Nat.le_of_ble_eq_true rfl, Nat.le_of_ble_eq_true rfl⟩ ⟨Nat.le_of_ble_eq_true rfl, Nat.le_of_ble_eq_true rfl⟩ d_K_beginRegister_126 ?_
              intro rv M1 ad_11 H locs hP hM hE_12
              obtain ⟨e1, e2⟩ := hP
              subst rv; subst M1
              show W _ _ _ _ _ _ _ _ _ _ _ _ _ _ _ (F0 m 129 ls [])
              refine lv_iconst (v := 0) X.1 X.2.1 d_K_beginRegister_129 (by decide) ?_
              have hR : rr2 (M) g (nI k) = (0, biM (rr1 (M) g (nI k)) g k) := by unfold rr2; rw [if_neg (fun z => be0 h111 z.2), nI_clamp (by omega)]
              have hF : rrM M j = (0, biM (rr1 (M) g (nI k)) g k) := by unfold rrM; rw [hs, nI_clamp (by omega)]; rw [if_pos (bn0 h19), if_neg h28, h44]; exact (if_pos ((lt40 hw).mp h71)).trans hR
              exact m_iret X hr hlk hM d_K_beginRegister_130 ⟨Nat.le_of_ble_eq_true rfl, Nat.le_of_ble_eq_true rfl⟩ (mExt_tr (mExt_rf _ _) hE_12) ⟨by rw [hF], by rw [hF]⟩
            · skip
              refine lv_iconst (v := 2) X.1 X.2.1 d_K_beginRegister_114 (by decide) ?_
              have hR : rr2 (M) g (nI k) = (2, rr0 (M) g) := if_pos ⟨(rr0_g _ _).symm.trans (h103.trans hs3), bn0 h111⟩
              have hF : rrM M j = (2, rr0 (M) g) := by unfold rrM; rw [hs, nI_clamp (by omega)]; rw [if_pos (bn0 h19), if_neg h28, h44]; exact (if_pos ((lt40 hw).mp h71)).trans hR
              exact m_iret X hr hlk hM d_K_beginRegister_115 ⟨Nat.le_of_ble_eq_true rfl, Nat.le_of_ble_eq_true rfl⟩ (mExt_rf _ _) ⟨by rw [hF], by rw [hF]⟩
        · skip
          refine lv_bipush (v := (-5)) X.1 X.2.1 d_K_beginRegister_74 (by decide) ?_
          have hF : rrM M j = (-5, M) := by unfold rrM; rw [hs, nI_clamp (by omega)]; rw [if_pos (bn0 h19), if_neg h28, h44]; exact if_neg (fun z => h71 ((lt40 hw).mpr z))
          exact m_iret X hr hlk hM d_K_beginRegister_76 ⟨Nat.le_of_ble_eq_true rfl, Nat.le_of_ble_eq_true rfl⟩ (mExt_rf _ _) ⟨by rw [hF], by rw [hF]⟩
      · skip
        rw [h44] at hl
        have hl : lv_has ls 4 [(2, .null), (0, .ref (ad 0 0)), (1, .ref (ad 4 j))] := hl
        refine lv_aload_n X.1 X.2.1 d_K_beginRegister_47 rfl (lv_at hl 1 rfl) ?_
        refine r_geti X hM rfl hk0 f_K_38 rfl d_K_beginRegister_48 ?_
        refine lv_iconst (v := 5) X.1 X.2.1 d_K_beginRegister_51 (by decide) ?_
        refine lv_icmp_lt (tgt := 59) X.1 X.2.1 d_K_beginRegister_52 (by decide) (fun h52 => ?_) (fun h52 => ?_)
        · skip
          refine lv_iconst (v := 0) X.1 X.2.1 d_K_beginRegister_59 (by decide) ?_
          refine lv_istore_n (lv' := [(3, .int 0), (2, .null), (0, .ref (ad 0 0)), (1, .ref (ad 4 j))]) X.1 X.2.1 d_K_beginRegister_60 rfl hl (by decide) rfl (fun ls hl => ?_)
          refine lv_iload_n X.1 X.2.1 d_K_beginRegister_61 rfl (lv_at hl 0 rfl) ?_
          refine lv_if_ne (tgt := 74) X.1 X.2.1 d_K_beginRegister_62 (by decide) (fun hz13 => absurd (by decide) hz13) (fun hz13 => ?_)
          refine lv_aload_n X.1 X.2.1 d_K_beginRegister_65 rfl (lv_at hl 2 rfl) ?_
          refine r_geti X hM rfl hk0 f_K_29 rfl d_K_beginRegister_66 ?_
          refine lv_bipush (v := 40) X.1 X.2.1 d_K_beginRegister_69 (by decide) ?_
          refine lv_icmp_lt (tgt := 77) X.1 X.2.1 d_K_beginRegister_71 (by decide) (fun h71 => ?_) (fun h71 => ?_)
          · skip
            refine lv_aload_nN X.1 X.2.1 d_K_beginRegister_77 rfl (lv_at hl 1 rfl) ?_
            refine lv_ifnonnullN X.1 X.2.1 d_K_beginRegister_78 ?_
            refine lv_aload_n X.1 X.2.1 d_K_beginRegister_81 rfl (lv_at hl 2 rfl) ?_
            refine lv_aload_n X.1 X.2.1 d_K_beginRegister_82 rfl (lv_at hl 3 rfl) ?_
            refine r_geti X hM rfl hj f_K_301 rfl d_K_beginRegister_83 ?_
            refine r_cV (As := [.int (gi M 4 j 2)]) (rest := []) X hml hl.1 hM (k_K_addRegistration l D dA base M ad hw (gi M 4 j 2) ((lt5 hw).mp h52)) c_K_319 v_K_addRegistration kc_K rfl hk0 rfl (Nat.le_of_ble_eq_true rfl) ⟨rfl, rfl, Nat.le_of_ble_eq_true rfl, Nat.le_of_ble_eq_true rfl⟩ ⟨Nat.le_of_ble_eq_true rfl, Nat.le_of_ble_eq_true rfl⟩ d_K_beginRegister_86 ?_
            intro rv M1 ad_15 H locs hP hM hE_16
            obtain ⟨e1, e2⟩ := hP
            subst rv; subst M1
            have hgN : gn M 5 < gn (arM M (gi M 4 j 2)) 5 := by rw [arM_gn, if_pos rfl]; omega
            show W _ _ _ _ _ _ _ _ _ _ _ _ _ _ _ (F0 m 89 ls [.ref (ad_15 5 ((gn M 5)))])
            refine lv_astore_n (lv' := [(2, .ref (ad_15 5 ((gn M 5)))), (3, .int 0), (0, .ref (ad 0 0)), (1, .ref (ad 4 j))]) X.1 X.2.1 d_K_beginRegister_89 rfl hl (by decide) rfl (fun ls hl => ?_)
            have hwA := arM_w hw (gi M 4 j 2) ((lt5 hw).mp h52)
            have htA := arM_wT ht (gi M 4 j 2)
            have hoA := arM_o ho (gi M 4 j 2)
            have hsA : gi (arM M (gi M 4 j 2)) 4 j 3 = nI k := by rw [arM_gi M _ (by omega) (by omega)]; exact hs
            have h40 : gn (arM M (gi M 4 j 2)) 7 < 40 := (lt40 hw).mp h71
            have hgA : (gn M 5) < gn (arM M (gi M 4 j 2)) 5 := hgN
            obtain ⟨k2, hk2, hs2⟩ := hoA.2.1 (gn M 5) hgA
            refine lv_aload_n X.1 X.2.1 d_K_beginRegister_90 rfl (lv_at hl 0 rfl) ?_
            refine lv_iconst (v := 0) X.1 X.2.1 d_K_beginRegister_91 (by decide) ?_
            refine r_puti X hM rfl hgA p_K_236 rfl rfl rfl d_K_beginRegister_92 (fun H locs hM => ?_)
            have hw0 := kp_w (rr0_kp (arM M (gi M 4 j 2)) (gn M 5)) hwA
            have ht0 : wT (rr0 (arM M (gi M 4 j 2)) (gn M 5)) := kt_w (M := arM M (gi M 4 j 2)) rfl htA
            have ho0 := kq_o (kp_q (rr0_kp (arM M (gi M 4 j 2)) (gn M 5))) hoA
            have hs0 : gi (rr0 (arM M (gi M 4 j 2)) (gn M 5)) 5 (gn M 5) 1 = nI k2 := by unfold rr0; rw [gi_si, if_neg (by omega)]; exact hs2
            have hs3 : gi (rr0 (arM M (gi M 4 j 2)) (gn M 5)) 4 j 3 = nI k := hsA
            refine lv_aload_n X.1 X.2.1 d_K_beginRegister_95 rfl (lv_at hl 0 rfl) ?_
            refine r_geti X hM rfl hgA f_K_235 rfl d_K_beginRegister_96 ?_
            refine lv_aload_n X.1 X.2.1 d_K_beginRegister_99 rfl (lv_at hl 3 rfl) ?_
            refine r_geti X hM (hE_16.1 4 j hj) (Nat.lt_of_lt_of_le hj (hE_16.2 _)) f_K_114 rfl d_K_beginRegister_100 ?_
            refine lv_icmp_ne (tgt := 116) X.1 X.2.1 d_K_beginRegister_103 (by decide) (fun h103 => ?_) (fun h103 => ?_)
            · skip
              refine lv_aload_n X.1 X.2.1 d_K_beginRegister_116 rfl (lv_at hl 0 rfl) ?_
              refine lv_aload_n X.1 X.2.1 d_K_beginRegister_117 rfl (lv_at hl 3 rfl) ?_
              refine r_geti X hM (hE_16.1 4 j hj) (Nat.lt_of_lt_of_le hj (hE_16.2 _)) f_K_114 rfl d_K_beginRegister_118 ?_
              refine r_puti X hM rfl hgA p_K_235 rfl rfl rfl d_K_beginRegister_121 (fun H locs hM => ?_)
              have hB : mSt D dA base (rr1 (arM M (gi M 4 j 2)) (gn M 5) (nI k)) ad_15 s.heap H locs := by have hM : mSt D dA base (si (rr0 (arM M (gi M 4 j 2)) (gn M 5)) 5 (gn M 5) 1 (gi (rr0 (arM M (gi M 4 j 2)) (gn M 5)) 4 j 3)) ad_15 s.heap H locs := hM; rw [hs3] at hM; exact hM
              clear hM
              have hM := hB
              have hw1 : wK (rr1 (arM M (gi M 4 j 2)) (gn M 5) (nI k)) := si51_w hw0 _ _
              have ht1 : wT (rr1 (arM M (gi M 4 j 2)) (gn M 5) (nI k)) := si51_wT ht0 _ _
              have ho1 : wO (rr1 (arM M (gi M 4 j 2)) (gn M 5) (nI k)) := si51_o ho0 _ hk
              have hs1 : gi (rr1 (arM M (gi M 4 j 2)) (gn M 5) (nI k)) 5 (gn M 5) 1 = nI k := by unfold rr1; rw [gi_si, if_pos ⟨rfl, rfl, rfl⟩]
              refine lv_aload_n X.1 X.2.1 d_K_beginRegister_124 rfl (lv_at hl 2 rfl) ?_
              refine lv_aload_n X.1 X.2.1 d_K_beginRegister_125 rfl (lv_at hl 0 rfl) ?_
              have hC9 := (k_K_beginInstall l D dA base (rr1 (arM M (gi M 4 j 2)) (gn M 5) (nI k)) ad_15 hw1 ht1 ho1 (gn M 5) k hgA hk hs1 h40)
              rw [(hE_16.1 0 0 hk0)] at hC9
              refine r_cV (As := [.ref (ad_15 5 ((gn M 5)))]) (rest := []) X hml hl.1 hM hC9 c_K_326 v_K_beginInstall kc_K (hE_16.1 0 0 hk0) (Nat.lt_of_lt_of_le hk0 (hE_16.2 _)) rfl (Nat.le_of_ble_eq_true rfl) ⟨rfl, rfl, Nat.le_of_ble_eq_true rfl, Nat.le_of_ble_eq_true rfl⟩ ⟨Nat.le_of_ble_eq_true rfl, Nat.le_of_ble_eq_true rfl⟩ d_K_beginRegister_126 ?_
              intro rv M1 ad_18 H locs hP hM hE_19
              obtain ⟨e1, e2⟩ := hP
              subst rv; subst M1
              show W _ _ _ _ _ _ _ _ _ _ _ _ _ _ _ (F0 m 129 ls [])
              refine lv_iconst (v := 0) X.1 X.2.1 d_K_beginRegister_129 (by decide) ?_
              have hR : rr2 (arM M (gi M 4 j 2)) (gn M 5) (nI k) = (0, biM (rr1 (arM M (gi M 4 j 2)) (gn M 5) (nI k)) (gn M 5) k) := by unfold rr2; rw [if_neg (fun z => h103 (((rr0_g _ _).trans z.1).trans hs3.symm)), nI_clamp (by omega)]
              have hF : rrM M j = (0, biM (rr1 (arM M (gi M 4 j 2)) (gn M 5) (nI k)) (gn M 5) k) := by unfold rrM; rw [hs, nI_clamp (by omega)]; rw [if_pos (bn0 h19), if_neg h28, h44]; exact (if_pos ⟨(lt5 hw).mp h52, (lt40 hw).mp h71⟩).trans hR
              exact m_iret X hr hlk hM d_K_beginRegister_130 ⟨Nat.le_of_ble_eq_true rfl, Nat.le_of_ble_eq_true rfl⟩ (mExt_tr (mExt_tr (mExt_rf _ _) hE_16) hE_19) ⟨by rw [hF], by rw [hF]⟩
            · skip
              refine lv_aload_n X.1 X.2.1 d_K_beginRegister_106 rfl (lv_at hl 2 rfl) ?_
              refine lv_aload_n X.1 X.2.1 d_K_beginRegister_107 rfl (lv_at hl 0 rfl) ?_
              have hC9 := (k_K_isUpToDate l D dA base (rr0 (arM M (gi M 4 j 2)) (gn M 5)) ad_15 hw0 (gn M 5) k2 hgA hs0 hk2)
              rw [(hE_16.1 0 0 hk0)] at hC9
              refine r_cV (As := [.ref (ad_15 5 ((gn M 5)))]) (rest := []) X hml hl.1 hM hC9 c_K_322 v_K_isUpToDate kc_K (hE_16.1 0 0 hk0) (Nat.lt_of_lt_of_le hk0 (hE_16.2 _)) rfl (Nat.le_of_ble_eq_true rfl) ⟨rfl, rfl, Nat.le_of_ble_eq_true rfl, Nat.le_of_ble_eq_true rfl⟩ ⟨Nat.le_of_ble_eq_true rfl, Nat.le_of_ble_eq_true rfl⟩ d_K_beginRegister_108 ?_
              intro rv M1 ad1 H locs hP hM hE
              obtain ⟨e1, e2, e3⟩ := hP
              subst rv; subst M1; subst ad1
              show W _ _ _ _ _ _ _ _ _ _ _ _ _ _ _ (F0 m 111 ls [.int (if upD (rr0 (arM M (gi M 4 j 2)) (gn M 5)) (gn M 5) = true then 1 else 0)])
              refine lv_if_eq (tgt := 116) X.1 X.2.1 d_K_beginRegister_111 (by decide) (fun h111 => ?_) (fun h111 => ?_)
              · skip
                refine lv_aload_n X.1 X.2.1 d_K_beginRegister_116 rfl (lv_at hl 0 rfl) ?_
                refine lv_aload_n X.1 X.2.1 d_K_beginRegister_117 rfl (lv_at hl 3 rfl) ?_
                refine r_geti X hM (hE_16.1 4 j hj) (Nat.lt_of_lt_of_le hj (hE_16.2 _)) f_K_114 rfl d_K_beginRegister_118 ?_
                refine r_puti X hM rfl hgA p_K_235 rfl rfl rfl d_K_beginRegister_121 (fun H locs hM => ?_)
                have hB : mSt D dA base (rr1 (arM M (gi M 4 j 2)) (gn M 5) (nI k)) ad_15 s.heap H locs := by have hM : mSt D dA base (si (rr0 (arM M (gi M 4 j 2)) (gn M 5)) 5 (gn M 5) 1 (gi (rr0 (arM M (gi M 4 j 2)) (gn M 5)) 4 j 3)) ad_15 s.heap H locs := hM; rw [hs3] at hM; exact hM
                clear hM
                have hM := hB
                have hw1 : wK (rr1 (arM M (gi M 4 j 2)) (gn M 5) (nI k)) := si51_w hw0 _ _
                have ht1 : wT (rr1 (arM M (gi M 4 j 2)) (gn M 5) (nI k)) := si51_wT ht0 _ _
                have ho1 : wO (rr1 (arM M (gi M 4 j 2)) (gn M 5) (nI k)) := si51_o ho0 _ hk
                have hs1 : gi (rr1 (arM M (gi M 4 j 2)) (gn M 5) (nI k)) 5 (gn M 5) 1 = nI k := by unfold rr1; rw [gi_si, if_pos ⟨rfl, rfl, rfl⟩]
                refine lv_aload_n X.1 X.2.1 d_K_beginRegister_124 rfl (lv_at hl 2 rfl) ?_
                refine lv_aload_n X.1 X.2.1 d_K_beginRegister_125 rfl (lv_at hl 0 rfl) ?_
                have hC9 := (k_K_beginInstall l D dA base (rr1 (arM M (gi M 4 j 2)) (gn M 5) (nI k)) ad_15 hw1 ht1 ho1 (gn M 5) k hgA hk hs1 h40)
                rw [(hE_16.1 0 0 hk0)] at hC9
                refine r_cV (As := [.ref (ad_15 5 ((gn M 5)))]) (rest := []) X hml hl.1 hM hC9 c_K_326 v_K_beginInstall kc_K (hE_16.1 0 0 hk0) (Nat.lt_of_lt_of_le hk0 (hE_16.2 _)) rfl (Nat.le_of_ble_eq_true rfl) ⟨rfl, rfl, Nat.le_of_ble_eq_true rfl, Nat.le_of_ble_eq_true rfl⟩ ⟨Nat.le_of_ble_eq_true rfl, Nat.le_of_ble_eq_true rfl⟩ d_K_beginRegister_126 ?_
                intro rv M1 ad_22 H locs hP hM hE_23
                obtain ⟨e1, e2⟩ := hP
                subst rv; subst M1
                show W _ _ _ _ _ _ _ _ _ _ _ _ _ _ _ (F0 m 129 ls [])
                refine lv_iconst (v := 0) X.1 X.2.1 d_K_beginRegister_129 (by decide) ?_
                have hR : rr2 (arM M (gi M 4 j 2)) (gn M 5) (nI k) = (0, biM (rr1 (arM M (gi M 4 j 2)) (gn M 5) (nI k)) (gn M 5) k) := by unfold rr2; rw [if_neg (fun z => be0 h111 z.2), nI_clamp (by omega)]
                have hF : rrM M j = (0, biM (rr1 (arM M (gi M 4 j 2)) (gn M 5) (nI k)) (gn M 5) k) := by unfold rrM; rw [hs, nI_clamp (by omega)]; rw [if_pos (bn0 h19), if_neg h28, h44]; exact (if_pos ⟨(lt5 hw).mp h52, (lt40 hw).mp h71⟩).trans hR
                exact m_iret X hr hlk hM d_K_beginRegister_130 ⟨Nat.le_of_ble_eq_true rfl, Nat.le_of_ble_eq_true rfl⟩ (mExt_tr (mExt_tr (mExt_rf _ _) hE_16) hE_23) ⟨by rw [hF], by rw [hF]⟩
              · skip
                refine lv_iconst (v := 2) X.1 X.2.1 d_K_beginRegister_114 (by decide) ?_
                have hR : rr2 (arM M (gi M 4 j 2)) (gn M 5) (nI k) = (2, rr0 (arM M (gi M 4 j 2)) (gn M 5)) := if_pos ⟨(rr0_g _ _).symm.trans (h103.trans hs3), bn0 h111⟩
                have hF : rrM M j = (2, rr0 (arM M (gi M 4 j 2)) (gn M 5)) := by unfold rrM; rw [hs, nI_clamp (by omega)]; rw [if_pos (bn0 h19), if_neg h28, h44]; exact (if_pos ⟨(lt5 hw).mp h52, (lt40 hw).mp h71⟩).trans hR
                exact m_iret X hr hlk hM d_K_beginRegister_115 ⟨Nat.le_of_ble_eq_true rfl, Nat.le_of_ble_eq_true rfl⟩ (mExt_tr (mExt_rf _ _) hE_16) ⟨by rw [hF], by rw [hF]⟩
          · skip
            refine lv_bipush (v := (-5)) X.1 X.2.1 d_K_beginRegister_74 (by decide) ?_
            have hF : rrM M j = (-5, M) := by unfold rrM; rw [hs, nI_clamp (by omega)]; rw [if_pos (bn0 h19), if_neg h28, h44]; exact if_neg (fun z => h71 ((lt40 hw).mpr z.2))
            exact m_iret X hr hlk hM d_K_beginRegister_76 ⟨Nat.le_of_ble_eq_true rfl, Nat.le_of_ble_eq_true rfl⟩ (mExt_rf _ _) ⟨by rw [hF], by rw [hF]⟩
        · skip
          refine lv_iconst (v := 1) X.1 X.2.1 d_K_beginRegister_55 (by decide) ?_
          refine lv_goto (tgt := 60) X.1 X.2.1 d_K_beginRegister_56 (by decide) ?_
          refine lv_istore_n (lv' := [(3, .int 1), (2, .null), (0, .ref (ad 0 0)), (1, .ref (ad 4 j))]) X.1 X.2.1 d_K_beginRegister_60 rfl hl (by decide) rfl (fun ls hl => ?_)
          refine lv_iload_n X.1 X.2.1 d_K_beginRegister_61 rfl (lv_at hl 0 rfl) ?_
          refine lv_if_ne (tgt := 74) X.1 X.2.1 d_K_beginRegister_62 (by decide) (fun hz24 => ?_) (fun hz24 => absurd hz24 (by decide))
          refine lv_bipush (v := (-5)) X.1 X.2.1 d_K_beginRegister_74 (by decide) ?_
          have hF : rrM M j = (-5, M) := by unfold rrM; rw [hs, nI_clamp (by omega)]; rw [if_pos (bn0 h19), if_neg h28, h44]; exact if_neg (fun z => h52 ((lt5 hw).mpr z.1))
          exact m_iret X hr hlk hM d_K_beginRegister_76 ⟨Nat.le_of_ble_eq_true rfl, Nat.le_of_ble_eq_true rfl⟩ (mExt_rf _ _) ⟨by rw [hF], by rw [hF]⟩
    · skip
      refine lv_bipush (v := (-4)) X.1 X.2.1 d_K_beginRegister_31 (by decide) ?_
      have hF : rrM M j = (-4, M) := by unfold rrM; rw [hs, nI_clamp (by omega)]; rw [if_pos (bn0 h19), if_pos h28]
      exact m_iret X hr hlk hM d_K_beginRegister_33 ⟨Nat.le_of_ble_eq_true rfl, Nat.le_of_ble_eq_true rfl⟩ (mExt_rf _ _) ⟨by rw [hF], by rw [hF]⟩
  · skip
    refine lv_iconst (v := (-1)) X.1 X.2.1 d_K_beginRegister_22 (by decide) ?_
    have hF : rrM M j = (-1, M) := by unfold rrM; rw [hs, nI_clamp (by omega)]; exact if_neg (be0 h19)
    exact m_iret X hr hlk hM d_K_beginRegister_23 ⟨Nat.le_of_ble_eq_true rfl, Nat.le_of_ble_eq_true rfl⟩ (mExt_rf _ _) ⟨by rw [hF], by rw [hF]⟩
set_option maxHeartbeats 4000000 in
set_option maxRecDepth 100000 in
theorem k_K_beginJob (l : Launch) (D : va_G) (dA : Nat → ClassId) (base : Nat) (M : mM) (ad : Nat → Nat → Nat) (hw : wK M) (ht : wT M) (ho : wO M) (j : Nat) (hj : j < gn M 4) : mMet l y_K_beginJob b_K_beginJob 2 (some FieldType.int) ({ frames := 6, cells := 5, slots := 26, locals := 200 } : Room) 5 26 D dA base M ad [.ref (ad 0 0), .ref (ad 4 j)] (fun rv M' ad' => rv = some (.int (bjM M j).1) ∧ M' = (bjM M j).2) := by
  refine m_start (lvs := [(0, .ref (ad 0 0)), (1, .ref (ad 4 j))]) (by decide) (Nat.le_of_ble_eq_true rfl) rfl ?_
  intro p e s m below meth c ls X hr hlk hin hml hM hl
  have hk0 : 0 < gn M 0 := w_k hw
  refine lv_aload_n X.1 X.2.1 d_K_beginJob_0 rfl (lv_at hl 1 rfl) ?_
  refine r_geti X hM rfl hj f_K_111 rfl d_K_beginJob_1 ?_
  by_cases hs_0 : gi M 4 j 1 = 0
  · skip
    refine W.eq (g2 := F0 m 4 ls (.int 0 :: [])) (by rw [hs_0]) ?_
    refine lv_lookup (tgt := 32) X.1 X.2.1 d_K_beginJob_4 (by decide) rfl (by decide) ?_
    refine lv_aload_n X.1 X.2.1 d_K_beginJob_32 rfl (lv_at hl 0 rfl) ?_
    refine lv_aload_n X.1 X.2.1 d_K_beginJob_33 rfl (lv_at hl 1 rfl) ?_
    refine r_cV (As := [.ref (ad 4 j)]) (rest := []) X hml hl.1 hM (k_K_beginRegister l D dA base M ad hw ht ho j hj) c_K_306 v_K_beginRegister kc_K rfl hk0 rfl (Nat.le_of_ble_eq_true rfl) ⟨rfl, rfl, Nat.le_of_ble_eq_true rfl, Nat.le_of_ble_eq_true rfl⟩ ⟨Nat.le_of_ble_eq_true rfl, Nat.le_of_ble_eq_true rfl⟩ d_K_beginJob_34 ?_
    intro rv M1 ad_2 H locs hP hM hE_3
    obtain ⟨e1, e2⟩ := hP
    subst rv; subst M1
    show W _ _ _ _ _ _ _ _ _ _ _ _ _ _ _ (F0 m 37 ls [.int ((rrM M j).1)])
    have hF : bjM M j = rrM M j := if_pos hs_0
    exact m_iret X hr hlk hM d_K_beginJob_37 ⟨Nat.le_of_ble_eq_true rfl, Nat.le_of_ble_eq_true rfl⟩ (mExt_tr (mExt_rf _ _) hE_3) ⟨by rw [hF], by rw [hF]⟩
  by_cases hs_1 : gi M 4 j 1 = 1
  · skip
    refine W.eq (g2 := F0 m 4 ls (.int 1 :: [])) (by rw [hs_1]) ?_
    refine lv_lookup (tgt := 38) X.1 X.2.1 d_K_beginJob_4 (by decide) rfl (by decide) ?_
    refine lv_aload_n X.1 X.2.1 d_K_beginJob_38 rfl (lv_at hl 0 rfl) ?_
    refine lv_aload_n X.1 X.2.1 d_K_beginJob_39 rfl (lv_at hl 1 rfl) ?_
    refine r_geti X hM rfl hj f_K_301 rfl d_K_beginJob_40 ?_
    refine r_cV (As := [.int (gi M 4 j 2)]) (rest := []) X hml hl.1 hM (k_K_beginUpdate l D dA base M ad hw ht ho (gi M 4 j 2)) c_K_309 v_K_beginUpdate kc_K rfl hk0 rfl (Nat.le_of_ble_eq_true rfl) ⟨rfl, rfl, Nat.le_of_ble_eq_true rfl, Nat.le_of_ble_eq_true rfl⟩ ⟨Nat.le_of_ble_eq_true rfl, Nat.le_of_ble_eq_true rfl⟩ d_K_beginJob_43 ?_
    intro rv M1 ad_5 H locs hP hM hE_6
    obtain ⟨e1, e2⟩ := hP
    subst rv; subst M1
    show W _ _ _ _ _ _ _ _ _ _ _ _ _ _ _ (F0 m 46 ls [.int ((buM M (gi M 4 j 2)).1)])
    have hF : bjM M j = buM M (gi M 4 j 2) := by unfold bjM; rw [if_neg hs_0, if_pos hs_1]
    exact m_iret X hr hlk hM d_K_beginJob_46 ⟨Nat.le_of_ble_eq_true rfl, Nat.le_of_ble_eq_true rfl⟩ (mExt_tr (mExt_rf _ _) hE_6) ⟨by rw [hF], by rw [hF]⟩
  refine lv_lookup (off := 43) (tgt := 47) X.1 X.2.1 d_K_beginJob_4 (by decide) ((lv_osw (a := 0) hs_0 rfl).trans ((lv_osw (a := 1) hs_1 rfl).trans (rfl))) (by decide) ?_
  refine lv_aload_n X.1 X.2.1 d_K_beginJob_47 rfl (lv_at hl 0 rfl) ?_
  refine lv_aload_n X.1 X.2.1 d_K_beginJob_48 rfl (lv_at hl 1 rfl) ?_
  refine r_geti X hM rfl hj f_K_301 rfl d_K_beginJob_49 ?_
  refine r_cV (As := [.int (gi M 4 j 2)]) (rest := []) X hml hl.1 hM (k_K_unregister l D dA base M ad hw ht (gi M 4 j 2)) c_K_312 v_K_unregister kc_K rfl hk0 rfl (Nat.le_of_ble_eq_true rfl) ⟨rfl, rfl, Nat.le_of_ble_eq_true rfl, Nat.le_of_ble_eq_true rfl⟩ ⟨Nat.le_of_ble_eq_true rfl, Nat.le_of_ble_eq_true rfl⟩ d_K_beginJob_52 ?_
  intro rv M1 ad1 H locs hP hM hE
  obtain ⟨e1, e2, e3⟩ := hP
  subst rv; subst M1; subst ad1
  show W _ _ _ _ _ _ _ _ _ _ _ _ _ _ _ (F0 m 55 ls [.int ((unM M (gi M 4 j 2)).1)])
  have hF : bjM M j = unM M (gi M 4 j 2) := by unfold bjM; rw [if_neg hs_0, if_neg hs_1]
  exact m_iret X hr hlk hM d_K_beginJob_55 ⟨Nat.le_of_ble_eq_true rfl, Nat.le_of_ble_eq_true rfl⟩ (gn_ext (unM_gn M (gi M 4 j 2)) ad) ⟨by rw [hF], by rw [hF]⟩
