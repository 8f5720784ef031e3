theorem drp_sz (M : mM) (c p z : Nat) : gi (drpM M c p z) 6 c 2 = nI (z - 1) := by
  unfold drpM
  rw [gi_si, if_pos ⟨rfl, rfl, rfl⟩]
set_option maxHeartbeats 4000000 in
set_option maxRecDepth 100000 in
theorem k_Ca_keep (l : Launch) (D : va_G) (dA : Nat → ClassId) (base : Nat) (M : mM) (ad : Nat → Nat → Nat) (u z : Nat) (hc : wC M u z) (x y : Int32) : mMet l y_Ca_keep b_Ca_keep 3 none ({ frames := 2, cells := 0, slots := 0, locals := 70 } : Room) 0 0 D dA base M ad [.ref (ad 6 u), .int x, .int y] (fun rv M' ad' => rv = none ∧ M' = kepM M u x y z ∧ ad' = ad) := by
  refine m_start (lvs := [(0, .ref (ad 6 u)), (1, .int x), (2, .int y)]) (by decide) (Nat.le_of_ble_eq_true rfl) rfl ?_
  intro p e s m below meth c ls X hr hlk hin hml hM hl
  refine lv_aload_n X.1 X.2.1 d_Ca_keep_0 rfl (lv_at hl 0 rfl) ?_
  refine lv_iload_n X.1 X.2.1 d_Ca_keep_1 rfl (lv_at hl 1 rfl) ?_
  refine r_cV (As := [.int x]) (rest := []) X hml hl.1 hM (k_Ca_has l D dA base M ad u z hc x) c_Ca_29 v_Ca_has kc_Ca rfl hc.1 rfl (Nat.le_of_ble_eq_true rfl) ⟨rfl, rfl, Nat.le_of_ble_eq_true rfl, Nat.le_of_ble_eq_true rfl⟩ ⟨Nat.le_of_ble_eq_true rfl, Nat.le_of_ble_eq_true rfl⟩ d_Ca_keep_2 ?_
  intro rv M1 ad1 H locs hP hM hE
  obtain ⟨e1, e2, e3⟩ := hP
  subst rv; subst M1; subst ad1
  show W _ _ _ _ _ _ _ _ _ _ _ _ _ _ _ (F0 m 5 ls [.int (if plc M u x z < z then 1 else 0)])
  refine lv_if_eq (tgt := 20) X.1 X.2.1 d_Ca_keep_5 (by decide) (fun h5 => ?_) (fun h5 => ?_)
  · skip
    refine lv_aload_n X.1 X.2.1 d_Ca_keep_20 rfl (lv_at hl 0 rfl) ?_
    refine r_geti X hM rfl hc.1 f_Ca_18 rfl d_Ca_keep_21 ?_
    refine lv_iconst (v := 4) X.1 X.2.1 d_Ca_keep_24 (by decide) ?_
    refine lv_icmp_lt (tgt := 33) X.1 X.2.1 d_Ca_keep_25 (by decide) (fun h25 => ?_) (fun h25 => ?_)
    · skip
      have h8 := hc.2.2.2.2
      have hz3 : z < 4 := by
        have h9 := hc.2.2.2.1
        rcases Nat.lt_or_ge z 4 with h7 | h7
        · exact h7
        · have h6 : z = 4 := by omega
          rw [h9, h6] at h25
          exact absurd h25 (by decide)
      have hsz := hc.2.2.2.1
      refine lv_aload_n X.1 X.2.1 d_Ca_keep_33 rfl (lv_at hl 0 rfl) ?_
      refine r_gets (q := u) X hM rfl hc.1 f_Ca_9 rfl hc.2.1 d_Ca_keep_34 (fun hv2 => ?_)
      refine lv_aload_n X.1 X.2.1 d_Ca_keep_37 rfl (lv_at hl 0 rfl) ?_
      refine r_geti X hM rfl hc.1 f_Ca_18 rfl d_Ca_keep_38 ?_
      refine lv_iload_n X.1 X.2.1 d_Ca_keep_41 rfl (lv_at hl 1 rfl) ?_
      refine r_iast X hM rfl hv2 a_paths (fun _ => rfl) (j := z) hsz (by omega) d_Ca_keep_42 (fun H locs hM => ?_)
      refine lv_aload_n X.1 X.2.1 d_Ca_keep_43 rfl (lv_at hl 0 rfl) ?_
      refine r_gets (q := u) X hM rfl hc.1 f_Ca_15 rfl hc.2.2.1 d_Ca_keep_44 (fun hv3 => ?_)
      refine lv_aload_n X.1 X.2.1 d_Ca_keep_47 rfl (lv_at hl 0 rfl) ?_
      refine r_geti X hM rfl hc.1 f_Ca_18 rfl d_Ca_keep_48 ?_
      refine lv_iload_n X.1 X.2.1 d_Ca_keep_51 rfl (lv_at hl 2 rfl) ?_
      refine r_iast X hM rfl hv3 a_values (fun _ => rfl) (j := z) hsz (by omega) d_Ca_keep_52 (fun H locs hM => ?_)
      refine lv_aload_n X.1 X.2.1 d_Ca_keep_53 rfl (lv_at hl 0 rfl) ?_
      refine lv_dup X.1 X.2.1 d_Ca_keep_54 rfl ?_
      refine r_geti X hM rfl hc.1 f_Ca_18 rfl d_Ca_keep_55 ?_
      refine lv_iconst (v := 1) X.1 X.2.1 d_Ca_keep_58 (by decide) ?_
      refine lv_iadd X.1 X.2.1 d_Ca_keep_59 ?_
      refine r_puti X hM rfl hc.1 p_Ca_18 rfl rfl rfl d_Ca_keep_60 (fun H locs hM => ?_)
      exact m_vret X hr hlk hM d_Ca_keep_63 ⟨Nat.le_of_ble_eq_true rfl, Nat.le_of_ble_eq_true rfl⟩ ⟨fun _ _ _ => rfl, fun _ => Nat.le_refl _⟩ ⟨rfl, by
                unfold kepM; rw [if_neg (be0 h5), if_neg (by omega)]
                show si _ _ _ _ (gi M 6 u 2 + 1) = _
                rw [hsz, nI_1], rfl⟩
    · skip
      have hz4 : z = 4 := by
        have h8 := hc.2.2.2.2
        have h9 := hc.2.2.2.1
        rcases Nat.lt_or_ge z 4 with h7 | h7
        · exact absurd (by rw [h9]; exact nI_lt h7 (by decide)) h25
        · omega
      refine lv_aload_n X.1 X.2.1 d_Ca_keep_28 rfl (lv_at hl 0 rfl) ?_
      refine lv_iconst (v := 0) X.1 X.2.1 d_Ca_keep_29 (by decide) ?_
      refine r_cV (As := [.int 0]) (rest := []) X hml hl.1 hM (k_Ca_drop l D dA base M ad u z hc 0 (by omega)) c_Ca_33 v_Ca_drop kc_Ca rfl hc.1 rfl (Nat.le_of_ble_eq_true rfl) ⟨rfl, rfl, Nat.le_of_ble_eq_true rfl, Nat.le_of_ble_eq_true rfl⟩ ⟨Nat.le_of_ble_eq_true rfl, Nat.le_of_ble_eq_true rfl⟩ d_Ca_keep_30 ?_
      intro rv M1 ad1 H locs hP hM hE
      obtain ⟨e1, e2, e3⟩ := hP
      subst rv; subst M1; subst ad1
      have hsz := drp_sz M u 0 z
      show W _ _ _ _ _ _ _ _ _ _ _ _ _ _ _ (F0 m 33 ls [])
      have h8 := hc.2.2.2.2
      refine lv_aload_n X.1 X.2.1 d_Ca_keep_33 rfl (lv_at hl 0 rfl) ?_
      refine r_gets (q := u) X hM rfl hc.1 f_Ca_9 rfl hc.2.1 d_Ca_keep_34 (fun hv5 => ?_)
      refine lv_aload_n X.1 X.2.1 d_Ca_keep_37 rfl (lv_at hl 0 rfl) ?_
      refine r_geti X hM rfl hc.1 f_Ca_18 rfl d_Ca_keep_38 ?_
      refine lv_iload_n X.1 X.2.1 d_Ca_keep_41 rfl (lv_at hl 1 rfl) ?_
      refine r_iast X hM rfl hv5 a_paths (fun _ => rfl) (j := (z - 1)) hsz (by omega) d_Ca_keep_42 (fun H locs hM => ?_)
      refine lv_aload_n X.1 X.2.1 d_Ca_keep_43 rfl (lv_at hl 0 rfl) ?_
      refine r_gets (q := u) X hM rfl hc.1 f_Ca_15 rfl hc.2.2.1 d_Ca_keep_44 (fun hv6 => ?_)
      refine lv_aload_n X.1 X.2.1 d_Ca_keep_47 rfl (lv_at hl 0 rfl) ?_
      refine r_geti X hM rfl hc.1 f_Ca_18 rfl d_Ca_keep_48 ?_
      refine lv_iload_n X.1 X.2.1 d_Ca_keep_51 rfl (lv_at hl 2 rfl) ?_
      refine r_iast X hM rfl hv6 a_values (fun _ => rfl) (j := (z - 1)) hsz (by omega) d_Ca_keep_52 (fun H locs hM => ?_)
      refine lv_aload_n X.1 X.2.1 d_Ca_keep_53 rfl (lv_at hl 0 rfl) ?_
      refine lv_dup X.1 X.2.1 d_Ca_keep_54 rfl ?_
      refine r_geti X hM rfl hc.1 f_Ca_18 rfl d_Ca_keep_55 ?_
      refine lv_iconst (v := 1) X.1 X.2.1 d_Ca_keep_58 (by decide) ?_
      refine lv_iadd X.1 X.2.1 d_Ca_keep_59 ?_
      refine r_puti X hM rfl hc.1 p_Ca_18 rfl rfl rfl d_Ca_keep_60 (fun H locs hM => ?_)
      exact m_vret X hr hlk hM d_Ca_keep_63 ⟨Nat.le_of_ble_eq_true rfl, Nat.le_of_ble_eq_true rfl⟩ ⟨fun _ _ _ => rfl, fun _ => Nat.le_refl _⟩ ⟨rfl, by
                unfold kepM; rw [if_neg (be0 h5), if_pos hz4]; subst hz4
                show si _ _ _ _ (gi (drpM M u 0 4) 6 u 2 + 1) = _
                rw [hsz]; rfl, rfl⟩
  · skip
    refine lv_aload_n X.1 X.2.1 d_Ca_keep_8 rfl (lv_at hl 0 rfl) ?_
    refine lv_aload_n X.1 X.2.1 d_Ca_keep_9 rfl (lv_at hl 0 rfl) ?_
    refine lv_iload_n X.1 X.2.1 d_Ca_keep_10 rfl (lv_at hl 1 rfl) ?_
    refine r_cV (As := [.int x]) (rest := [.ref (ad 6 u)]) X hml hl.1 hM (k_Ca_placeOf l D dA base M ad u z hc x) c_Ca_22 v_Ca_placeOf kc_Ca rfl hc.1 rfl (Nat.le_of_ble_eq_true rfl) ⟨rfl, rfl, Nat.le_of_ble_eq_true rfl, Nat.le_of_ble_eq_true rfl⟩ ⟨Nat.le_of_ble_eq_true rfl, Nat.le_of_ble_eq_true rfl⟩ d_Ca_keep_11 ?_
    intro rv M1 ad1 H locs hP hM hE
    obtain ⟨e1, e2, e3⟩ := hP
    subst rv; subst M1; subst ad1
    show W _ _ _ _ _ _ _ _ _ _ _ _ _ _ _ (F0 m 14 ls [.int (nI (plc M u x z)), .ref (ad 6 u)])
    refine r_cV (As := [.int (nI (plc M u x z))]) (rest := []) X hml hl.1 hM (k_Ca_drop l D dA base M ad u z hc (plc M u x z) (bn0 h5)) c_Ca_33 v_Ca_drop kc_Ca rfl hc.1 rfl (Nat.le_of_ble_eq_true rfl) ⟨rfl, rfl, Nat.le_of_ble_eq_true rfl, Nat.le_of_ble_eq_true rfl⟩ ⟨Nat.le_of_ble_eq_true rfl, Nat.le_of_ble_eq_true rfl⟩ d_Ca_keep_14 ?_
    intro rv M1 ad1 H locs hP hM hE
    obtain ⟨e1, e2, e3⟩ := hP
    subst rv; subst M1; subst ad1
    have hsz := drp_sz M u (plc M u x z) z
    have hz0 : plc M u x z < z := bn0 h5
    show W _ _ _ _ _ _ _ _ _ _ _ _ _ _ _ (F0 m 17 ls [])
    refine lv_goto (tgt := 33) X.1 X.2.1 d_Ca_keep_17 (by decide) ?_
    have h8 := hc.2.2.2.2
    refine lv_aload_n X.1 X.2.1 d_Ca_keep_33 rfl (lv_at hl 0 rfl) ?_
    refine r_gets (q := u) X hM rfl hc.1 f_Ca_9 rfl hc.2.1 d_Ca_keep_34 (fun hv9 => ?_)
    refine lv_aload_n X.1 X.2.1 d_Ca_keep_37 rfl (lv_at hl 0 rfl) ?_
    refine r_geti X hM rfl hc.1 f_Ca_18 rfl d_Ca_keep_38 ?_
    refine lv_iload_n X.1 X.2.1 d_Ca_keep_41 rfl (lv_at hl 1 rfl) ?_
    refine r_iast X hM rfl hv9 a_paths (fun _ => rfl) (j := (z - 1)) hsz (by omega) d_Ca_keep_42 (fun H locs hM => ?_)
    refine lv_aload_n X.1 X.2.1 d_Ca_keep_43 rfl (lv_at hl 0 rfl) ?_
    refine r_gets (q := u) X hM rfl hc.1 f_Ca_15 rfl hc.2.2.1 d_Ca_keep_44 (fun hv10 => ?_)
    refine lv_aload_n X.1 X.2.1 d_Ca_keep_47 rfl (lv_at hl 0 rfl) ?_
    refine r_geti X hM rfl hc.1 f_Ca_18 rfl d_Ca_keep_48 ?_
    refine lv_iload_n X.1 X.2.1 d_Ca_keep_51 rfl (lv_at hl 2 rfl) ?_
    refine r_iast X hM rfl hv10 a_values (fun _ => rfl) (j := (z - 1)) hsz (by omega) d_Ca_keep_52 (fun H locs hM => ?_)
    refine lv_aload_n X.1 X.2.1 d_Ca_keep_53 rfl (lv_at hl 0 rfl) ?_
    refine lv_dup X.1 X.2.1 d_Ca_keep_54 rfl ?_
    refine r_geti X hM rfl hc.1 f_Ca_18 rfl d_Ca_keep_55 ?_
    refine lv_iconst (v := 1) X.1 X.2.1 d_Ca_keep_58 (by decide) ?_
    refine lv_iadd X.1 X.2.1 d_Ca_keep_59 ?_
    refine r_puti X hM rfl hc.1 p_Ca_18 rfl rfl rfl d_Ca_keep_60 (fun H locs hM => ?_)
    exact m_vret X hr hlk hM d_Ca_keep_63 ⟨Nat.le_of_ble_eq_true rfl, Nat.le_of_ble_eq_true rfl⟩ ⟨fun _ _ _ => rfl, fun _ => Nat.le_refl _⟩ ⟨rfl, by
              unfold kepM; rw [if_pos hz0]; have e9 : nI (z - 1) + 1 = nI z := by (rw [nI_1]; congr 1; omega)
              show si _ _ _ _ (gi (drpM M u (plc M u x z) z) 6 u 2 + 1) = _
              rw [hsz, e9], rfl⟩
