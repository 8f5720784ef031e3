theorem lfc_le (M : mM) : lfc M ≤ 8 := by
  unfold lfc
  cases h : ff (fun i => decide (gi M 2 i 0 = 0)) 8 0 with
  | none => exact Nat.le_refl _
  | some q => have := ff_lt h; show q ≤ 8; omega
theorem rgFor_lv {D : va_G} {dA : Nat → ClassId} {base : Nat} {M : mM} {ad : Nat → Nat → Nat} {H0 H : Heap} {locs : List Loc} (hM : mSt D dA base M ad H0 H locs) (hw : wK M) {x : Int32} : ∀ q, rgFor M x = some q → q < gn M 5 := rfB_lv hM hw (Nat.le_refl _)
def actFor (M : mM) (x : Int32) : Option Nat := match rgFor M x with
  | none => none
  | some g => gr M 5 g 4
def opXc (M : mM) (x : Int32) : Nat := if isP x = false then 1 else if lfc M = 8 then 2 else 0
def opM (M : mM) (x : Int32) : mM := sr (si (si M 2 (lfc M) 0 1) 2 (lfc M) 1 x) 2 (lfc M) 2 (actFor M x)
/-- the size of a worker's cache; the caches in good order -/
def csz (M : mM) (w : Nat) : Nat := (gi M 6 w 2).toNatClampNeg
def wCa (M : mM) : Prop := ∀ w, w < gn M 7 → wC M w (csz M w)
def ftN (M : mM) (x : Int32) : Nat × Int32 × mM := if gi M 0 0 1 = 0 then (3, 0, M) else (0, gi M 0 0 2 + x, M)
def ftK (M : mM) (k : Nat) (x : Int32) : Nat × Int32 × mM := match gr M 2 k 2 with
  | none => ftN M x
  | some w => if gi M 7 w 3 = 0 then ftN M x else if gi M 7 w 3 = 3 then (0, gi M 7 w 1, M)
    else if (gi M 7 w 3 = 1 ∨ gi M 0 0 1 = 0) ∧ plc M w x (csz M w) < csz M w then (0, atC M 16 w (csz M w) (nI (plc M w x (csz M w))), M)
    else if gi M 0 0 1 = 0 then (3, 0, M) else (0, gi M 0 0 2 + x, kepM M w x (gi M 0 0 2 + x) (csz M w))
def ftF (M : mM) (k x : Int32) : Nat × Int32 × mM := if isP x = false then (1, 0, M) else if ¬ cOk M k then (2, 0, M) else ftK M k.toNatClampNeg x
set_option maxHeartbeats 4000000 in
set_option maxRecDepth 100000 in
theorem k_K_open (l : Launch) (hst : l.stackTraces = false) (D : va_G) (dA : Nat → ClassId) (base : Nat) (M : mM) (ad : Nat → Nat → Nat) (hw : wK M) (x : Int32) : mMetX l y_K_open b_K_open 5 (some FieldType.int) ({ frames := 7, cells := 2, slots := 12, locals := 130 } : Room) 2 12 D dA base M ad [.ref (ad 0 0), .int x] (fun rv M' ad' => opXc M x = 0 ∧ rv = some (.int (nI (lfc M))) ∧ M' = opM M x ∧ ad' = ad) (fun E => (opXc M x = 1 ∧ E = "java/lang/IllegalArgumentException") ∨ (opXc M x = 2 ∧ E = "java/lang/IllegalStateException")) := by
  refine m_startX (lvs := [(0, .ref (ad 0 0)), (1, .int x)]) (by decide) (Nat.le_of_ble_eq_true rfl) rfl ?_
  intro p e s m below meth c ls X hr hlk hin hml hM hl hno
  refine lv_iload_n X.1 X.2.1 d_K_open_0 rfl (lv_at hl 1 rfl) ?_
  refine r_cSX (As := [.int x]) (rest := []) X hml hl.1 hM (k_K_refuseNoPath l hst D dA base M ad x) c_K_98 cx_K_98 v_K_refuseNoPath rfl (Nat.le_of_ble_eq_true rfl) ⟨rfl, rfl, Nat.le_of_ble_eq_true rfl, Nat.le_of_ble_eq_true rfl⟩ ⟨Nat.le_of_ble_eq_true rfl, Nat.le_of_ble_eq_true rfl⟩ d_K_open_1 (fun E ce q H locs hPx hM hy1 hy2 hy3 => m_out hM hlk hno (Or.inl ⟨if_pos hPx.1, hPx.2⟩) hy1 hy2 hy3 ⟨Nat.le_of_ble_eq_true rfl, Nat.le_of_ble_eq_true rfl⟩) ?_
  intro rv M1 ad1 H locs hP hM hE
  obtain ⟨hp, e1, e2, e3⟩ := hP
  subst rv; subst M1; subst ad1
  show W _ _ _ _ _ _ _ _ _ _ _ _ _ _ _ (F0 m 4 ls [])
  refine lv_aload_n X.1 X.2.1 d_K_open_4 rfl (lv_at hl 0 rfl) ?_
  refine r_cV (As := []) (rest := []) X hml hl.1 hM (k_K_leastFreeClient l D dA base M ad hw) c_K_153 v_K_leastFreeClient kc_K rfl (w_k hw) rfl (Nat.le_of_ble_eq_true rfl) ⟨rfl, rfl, Nat.le_of_ble_eq_true rfl, Nat.le_of_ble_eq_true rfl⟩ ⟨Nat.le_of_ble_eq_true rfl, Nat.le_of_ble_eq_true rfl⟩ d_K_open_5 ?_
  intro rv M1 ad1 H locs hP hM hE
  obtain ⟨e1, e2, e3⟩ := hP
  subst rv; subst M1; subst ad1
  have hlf := lfc_le M
  show W _ _ _ _ _ _ _ _ _ _ _ _ _ _ _ (F0 m 8 ls [.int (nI (lfc M))])
  refine lv_istore_n (lv' := [(2, .int (nI (lfc M))), (0, .ref (ad 0 0)), (1, .int x)]) X.1 X.2.1 d_K_open_8 rfl hl (by decide) rfl (fun ls hl => ?_)
  refine lv_iload_n X.1 X.2.1 d_K_open_9 rfl (lv_at hl 0 rfl) ?_
  refine lv_bipush (v := 8) X.1 X.2.1 d_K_open_10 (by decide) ?_
  refine lv_icmp_lt (tgt := 25) X.1 X.2.1 d_K_open_12 (by decide) (fun h12 => ?_) (fun h12 => ?_)
  · skip
    have hj8 : lfc M < 8 := (nI_ltI (by omega) (by decide)).mp h12
    refine lv_aload_n X.1 X.2.1 d_K_open_25 rfl (lv_at hl 1 rfl) ?_
    refine lv_iload_n X.1 X.2.1 d_K_open_26 rfl (lv_at hl 2 rfl) ?_
    refine r_cV (As := [.int x]) (rest := []) X hml hl.1 hM (k_K_registrationFor l D dA base M ad hw x) c_K_159 v_K_registrationFor kc_K rfl (w_k hw) rfl (Nat.le_of_ble_eq_true rfl) ⟨rfl, rfl, Nat.le_of_ble_eq_true rfl, Nat.le_of_ble_eq_true rfl⟩ ⟨Nat.le_of_ble_eq_true rfl, Nat.le_of_ble_eq_true rfl⟩ d_K_open_27 ?_
    intro rv M1 ad1 H locs hP hM hE
    obtain ⟨e1, e2, e3⟩ := hP
    subst rv; subst M1; subst ad1
    have hrl := rgFor_lv hM hw (x := x)
    show W _ _ _ _ _ _ _ _ _ _ _ _ _ _ _ (F0 m 30 ls [rfv ad 5 (rgFor M x)])
    refine r_astore_n (lv' := [(3, rfv ad 5 (rgFor M x)), (2, .int (nI (lfc M))), (0, .ref (ad 0 0)), (1, .int x)]) X.1 X.2.1 d_K_open_30 rfl hl (by decide) rfl (fun ls hl => ?_)
    refine lv_aload_n X.1 X.2.1 d_K_open_31 rfl (lv_at hl 2 rfl) ?_
    refine r_gets (q := 0) X hM rfl (w_k hw) f_K_43 rfl (w_0_7 hw) d_K_open_32 (fun hv4 => ?_)
    refine lv_iload_n X.1 X.2.1 d_K_open_35 rfl (lv_at hl 1 rfl) ?_
    refine r_aalds (q := (lfc M)) X hM rfl hv4 a_clients (fun _ => rfl) (j := (lfc M)) rfl hj8 (w_cl hw hj8) d_K_open_36 (fun hv5 => ?_)
    refine lv_astore (lv' := [(4, .ref (ad 2 ((lfc M)))), (3, rfv ad 5 (rgFor M x)), (2, .int (nI (lfc M))), (0, .ref (ad 0 0)), (1, .int x)]) X.1 X.2.1 d_K_open_37 hl (by decide) (by simp only [List.filter_cons, List.filter_nil, rfv_cat]; rfl) (fun ls hl => ?_)
    refine lv_aload X.1 X.2.1 d_K_open_39 (lv_at hl 0 rfl) ?_
    refine lv_iconst (v := 1) X.1 X.2.1 d_K_open_41 (by decide) ?_
    refine r_puti X hM rfl hv5 p_K_163 rfl rfl rfl d_K_open_42 (fun H locs hM => ?_)
    refine lv_aload X.1 X.2.1 d_K_open_45 (lv_at hl 0 rfl) ?_
    refine lv_iload_n X.1 X.2.1 d_K_open_47 rfl (lv_at hl 4 rfl) ?_
    refine r_puti X hM rfl hv5 p_K_166 rfl rfl rfl d_K_open_48 (fun H locs hM => ?_)
    refine lv_aload X.1 X.2.1 d_K_open_51 (lv_at hl 0 rfl) ?_
    refine r_aload_n X.1 X.2.1 d_K_open_53 rfl (lv_at hl 1 rfl) ?_
    refine r_ifnonnull (tgt := 61) X.1 X.2.1 d_K_open_54 (by decide) (fun g h54 => ?_) (fun h54 => ?_)
    · skip
      rw [h54] at hl
      have hl : lv_has ls 5 [(4, .ref (ad 2 ((lfc M)))), (3, .ref (ad 5 g)), (2, .int (nI (lfc M))), (0, .ref (ad 0 0)), (1, .int x)] := hl
      refine lv_aload_n X.1 X.2.1 d_K_open_61 rfl (lv_at hl 1 rfl) ?_
      refine r_getr X hM rfl (hrl g h54) f_K_169 rfl d_K_open_62 (fun hv6 => ?_)
      refine r_putr X hM rfl hv5 p_K_173 rfl (x := (gr (si (si M 2 (lfc M) 0 1) 2 (lfc M) 1 x) 5 g 4)) hv6 rfl (rfv_nar _ _ _ _) (rfv_fit _ _ _ _) d_K_open_65 (fun H locs hM => ?_)
      refine lv_iload_n X.1 X.2.1 d_K_open_68 rfl (lv_at hl 2 rfl) ?_
      refine vx_ret ?_
      exact m_iret X hr hlk hM d_K_open_69 ⟨Nat.le_of_ble_eq_true rfl, Nat.le_of_ble_eq_true rfl⟩ ⟨fun _ _ _ => rfl, fun _ => Nat.le_refl _⟩ ⟨by unfold opXc; rw [if_neg (by rw [hp]; exact (fun z => nomatch z)), if_neg (by omega)], rfl, by unfold opM actFor; rw [h54] <;> rfl, rfl⟩
    · skip
      rw [h54] at hl
      have hl : lv_has ls 5 [(4, .ref (ad 2 ((lfc M)))), (3, .null), (2, .int (nI (lfc M))), (0, .ref (ad 0 0)), (1, .int x)] := hl
      refine lv_null X.1 X.2.1 d_K_open_57 ?_
      refine lv_goto (tgt := 65) X.1 X.2.1 d_K_open_58 (by decide) ?_
      refine r_putr X hM rfl hv5 p_K_173 rfl (x := none) (fun z hz => by cases hz) rfl rfl rfl d_K_open_65 (fun H locs hM => ?_)
      refine lv_iload_n X.1 X.2.1 d_K_open_68 rfl (lv_at hl 2 rfl) ?_
      refine vx_ret ?_
      exact m_iret X hr hlk hM d_K_open_69 ⟨Nat.le_of_ble_eq_true rfl, Nat.le_of_ble_eq_true rfl⟩ ⟨fun _ _ _ => rfl, fun _ => Nat.le_refl _⟩ ⟨by unfold opXc; rw [if_neg (by rw [hp]; exact (fun z => nomatch z)), if_neg (by omega)], rfl, by unfold opM actFor; rw [h54] <;> rfl, rfl⟩
  · skip
    exact r_throw X hst hml hl.1 hM hlk hno t_K_124_157_128 d_K_open_15 d_K_open_18 d_K_open_19 d_K_open_21 d_K_open_24 ⟨Nat.le_of_ble_eq_true rfl, Nat.le_of_ble_eq_true rfl, Nat.le_of_ble_eq_true rfl, Nat.le_of_ble_eq_true rfl⟩ ⟨Nat.le_of_ble_eq_true rfl, Nat.le_of_ble_eq_true rfl⟩ (Or.inr ⟨by unfold opXc; rw [if_neg (by rw [hp]; exact (fun z => nomatch z)), if_pos]; rcases Nat.lt_or_ge (lfc M) 8 with z | z; exact absurd (nI_lt z (by decide)) h12; omega, rfl⟩)
set_option maxHeartbeats 4000000 in
set_option maxRecDepth 100000 in
theorem k_K_fetch (l : Launch) (hst : l.stackTraces = false) (D : va_G) (dA : Nat → ClassId) (base : Nat) (M : mM) (ad : Nat → Nat → Nat) (hw : wK M) (hca : wCa M) (k x : Int32) : mMetX l y_K_fetch b_K_fetch 8 (some FieldType.int) ({ frames := 7, cells := 3, slots := 18, locals := 150 } : Room) 3 18 D dA base M ad [.ref (ad 0 0), .int k, .int x] (fun rv M' ad' => (ftF M k x).1 = 0 ∧ rv = some (.int (ftF M k x).2.1) ∧ M' = (ftF M k x).2.2 ∧ ad' = ad) (fun E => ((ftF M k x).1 = 1 ∧ E = "java/lang/IllegalArgumentException") ∨ ((ftF M k x).1 = 2 ∧ E = "java/util/NoSuchElementException") ∨ ((ftF M k x).1 = 3 ∧ E = "java/lang/UnsupportedOperationException")) := by
  refine m_startX (lvs := [(0, .ref (ad 0 0)), (1, .int k), (2, .int x)]) (by decide) (Nat.le_of_ble_eq_true rfl) rfl ?_
  intro p e s m below meth c ls X hr hlk hin hml hM hl hno
  refine lv_iload_n X.1 X.2.1 d_K_fetch_0 rfl (lv_at hl 2 rfl) ?_
  refine r_cSX (As := [.int x]) (rest := []) X hml hl.1 hM (k_K_refuseNoPath l hst D dA base M ad x) c_K_98 cx_K_98 v_K_refuseNoPath rfl (Nat.le_of_ble_eq_true rfl) ⟨rfl, rfl, Nat.le_of_ble_eq_true rfl, Nat.le_of_ble_eq_true rfl⟩ ⟨Nat.le_of_ble_eq_true rfl, Nat.le_of_ble_eq_true rfl⟩ d_K_fetch_1 (fun E ce q H locs hPx hM hy1 hy2 hy3 => m_out hM hlk hno (Or.inl ⟨by simp [ftF, hPx.1], hPx.2⟩) hy1 hy2 hy3 ⟨Nat.le_of_ble_eq_true rfl, Nat.le_of_ble_eq_true rfl⟩) ?_
  intro rv M1 ad1 H locs hP hM hE
  obtain ⟨hp, e1, e2, e3⟩ := hP
  subst rv; subst M1; subst ad1
  show W _ _ _ _ _ _ _ _ _ _ _ _ _ _ _ (F0 m 4 ls [])
  refine lv_aload_n X.1 X.2.1 d_K_fetch_4 rfl (lv_at hl 0 rfl) ?_
  refine lv_iload_n X.1 X.2.1 d_K_fetch_5 rfl (lv_at hl 1 rfl) ?_
  refine r_cVX (As := [.int k]) (rest := []) X hml hl.1 hM (k_K_refuseNoClient l hst D dA base M ad hw k) c_K_176 cx_K_176 v_K_refuseNoClient kc_K rfl (w_k hw) rfl (Nat.le_of_ble_eq_true rfl) ⟨rfl, rfl, Nat.le_of_ble_eq_true rfl, Nat.le_of_ble_eq_true rfl⟩ ⟨Nat.le_of_ble_eq_true rfl, Nat.le_of_ble_eq_true rfl⟩ d_K_fetch_6 (fun E ce q H locs hPx hM hy1 hy2 hy3 => m_out hM hlk hno (Or.inr (Or.inl ⟨by simp only [ftF, hp, hPx.1, reduceCtorEq, if_false, not_false_eq_true, if_true], hPx.2⟩)) hy1 hy2 hy3 ⟨Nat.le_of_ble_eq_true rfl, Nat.le_of_ble_eq_true rfl⟩) ?_
  intro rv M1 ad1 H locs hP hM hE
  obtain ⟨hck, e1, e2, e3⟩ := hP
  subst rv; subst M1; subst ad1
  show W _ _ _ _ _ _ _ _ _ _ _ _ _ _ _ (F0 m 9 ls [])
  obtain ⟨j, hj, hxj⟩ : ∃ j : Nat, j < 8 ∧ k = nI j := by
    rcases pk_ix k (n := 8) (by omega) with u9 | u9 | ⟨j, u9, u8⟩
    · exact absurd u9 (Int32.not_lt.mpr hck.1)
    · exact absurd u9 (Int32.not_le.mpr hck.2.1)
    · exact ⟨j, u9, u8⟩
  have hcl : k.toNatClampNeg = j := by rw [hxj]; exact nI_clamp (by omega)
  have hc0 : ¬ gi M 2 j 0 = 0 := by rw [← hcl]; exact hck.2.2
  refine lv_aload_n X.1 X.2.1 d_K_fetch_9 rfl (lv_at hl 0 rfl) ?_
  refine r_gets (q := 0) X hM rfl (w_k hw) f_K_43 rfl (w_0_7 hw) d_K_fetch_10 (fun hv3 => ?_)
  refine lv_iload_n X.1 X.2.1 d_K_fetch_13 rfl (lv_at hl 1 rfl) ?_
  refine r_aalds (q := j) X hM rfl hv3 a_clients (fun _ => rfl) (j := j) hxj hj (w_cl hw hj) d_K_fetch_14 (fun hv4 => ?_)
  refine r_getr X hM rfl hv4 f_K_173 rfl d_K_fetch_15 (fun hv5 => ?_)
  refine r_astore_n (lv' := [(3, rfv ad 7 (gr M 2 j 2)), (0, .ref (ad 0 0)), (1, .int k), (2, .int x)]) X.1 X.2.1 d_K_fetch_18 rfl hl (by decide) rfl (fun ls hl => ?_)
  refine r_aload_n X.1 X.2.1 d_K_fetch_19 rfl (lv_at hl 0 rfl) ?_
  refine r_ifnonnull (tgt := 27) X.1 X.2.1 d_K_fetch_20 (by decide) (fun w h20 => ?_) (fun h20 => ?_)
  · skip
    rw [h20] at hl
    have hl : lv_has ls 8 [(3, .ref (ad 7 w)), (0, .ref (ad 0 0)), (1, .int k), (2, .int x)] := hl
    have hwl : w < gn M 7 := (hv5 w h20)
    refine lv_aload_n X.1 X.2.1 d_K_fetch_27 rfl (lv_at hl 0 rfl) ?_
    refine r_geti X hM rfl hwl f_K_212 rfl d_K_fetch_28 ?_
    refine lv_istore (lv' := [(4, .int (gi M 7 w 3)), (3, .ref (ad 7 w)), (0, .ref (ad 0 0)), (1, .int k), (2, .int x)]) X.1 X.2.1 d_K_fetch_31 hl (by decide) rfl (fun ls hl => ?_)
    refine lv_aload_n X.1 X.2.1 d_K_fetch_33 rfl (lv_at hl 1 rfl) ?_
    refine lv_ifnull X.1 X.2.1 d_K_fetch_34 ?_
    refine lv_iload X.1 X.2.1 d_K_fetch_37 (lv_at hl 0 rfl) ?_
    refine lv_if_ne (tgt := 48) X.1 X.2.1 d_K_fetch_39 (by decide) (fun h39 => ?_) (fun h39 => ?_)
    · skip
      refine lv_iload X.1 X.2.1 d_K_fetch_48 (lv_at hl 0 rfl) ?_
      refine lv_iconst (v := 3) X.1 X.2.1 d_K_fetch_50 (by decide) ?_
      refine lv_icmp_ne (tgt := 59) X.1 X.2.1 d_K_fetch_51 (by decide) (fun h51 => ?_) (fun h51 => ?_)
      · skip
        refine lv_aload_n X.1 X.2.1 d_K_fetch_59 rfl (lv_at hl 1 rfl) ?_
        refine r_gets (q := w) X hM rfl hwl f_K_217 rfl (w_7_4 hw hwl) d_K_fetch_60 (fun hv6 => ?_)
        refine lv_astore (lv' := [(5, .ref (ad 6 w)), (4, .int (gi M 7 w 3)), (3, .ref (ad 7 w)), (0, .ref (ad 0 0)), (1, .int k), (2, .int x)]) X.1 X.2.1 d_K_fetch_63 hl (by decide) rfl (fun ls hl => ?_)
        refine lv_iload X.1 X.2.1 d_K_fetch_65 (lv_at hl 1 rfl) ?_
        refine lv_iconst (v := 1) X.1 X.2.1 d_K_fetch_67 (by decide) ?_
        refine lv_icmp_eq (tgt := 78) X.1 X.2.1 d_K_fetch_68 (by decide) (fun h68 => ?_) (fun h68 => ?_)
        · skip
          refine lv_iconst (v := 1) X.1 X.2.1 d_K_fetch_78 (by decide) ?_
          refine lv_goto (tgt := 83) X.1 X.2.1 d_K_fetch_79 (by decide) ?_
          refine lv_istore (lv' := [(6, .int 1), (5, .ref (ad 6 w)), (4, .int (gi M 7 w 3)), (3, .ref (ad 7 w)), (0, .ref (ad 0 0)), (1, .int k), (2, .int x)]) X.1 X.2.1 d_K_fetch_83 hl (by decide) rfl (fun ls hl => ?_)
          refine lv_iload X.1 X.2.1 d_K_fetch_85 (lv_at hl 0 rfl) ?_
          refine lv_if_eq (tgt := 106) X.1 X.2.1 d_K_fetch_87 (by decide) (fun hz7 => absurd hz7 (by decide)) (fun hz7 => ?_)
          refine lv_aload X.1 X.2.1 d_K_fetch_90 (lv_at hl 1 rfl) ?_
          refine lv_iload_n X.1 X.2.1 d_K_fetch_92 rfl (lv_at hl 6 rfl) ?_
          refine r_cV (As := [.int x]) (rest := []) X hml hl.1 hM (k_Ca_has l D dA base M ad w (csz M w) (hca w hwl) x) c_K_221 v_Ca_has kc_Ca rfl hv6 rfl (Nat.le_of_ble_eq_true rfl) ⟨rfl, rfl, Nat.le_of_ble_eq_true rfl, Nat.le_of_ble_eq_true rfl⟩ ⟨Nat.le_of_ble_eq_true rfl, Nat.le_of_ble_eq_true rfl⟩ d_K_fetch_93 ?_
          intro rv M1 ad1 H locs hP hM hE
          obtain ⟨e1, e2, e3⟩ := hP
          subst rv; subst M1; subst ad1
          show W _ _ _ _ _ _ _ _ _ _ _ _ _ _ _ (F0 m 96 ls [.int (if plc M w x (csz M w) < csz M w then 1 else 0)])
          refine lv_if_eq (tgt := 106) X.1 X.2.1 d_K_fetch_96 (by decide) (fun h96 => ?_) (fun h96 => ?_)
          · skip
            have hhas := be0 h96
            refine lv_aload_n X.1 X.2.1 d_K_fetch_106 rfl (lv_at hl 4 rfl) ?_
            refine lv_iload_n X.1 X.2.1 d_K_fetch_107 rfl (lv_at hl 6 rfl) ?_
            refine r_cVX (As := [.int x]) (rest := []) X hml hl.1 hM (k_K_networkAnswer l hst D dA base M ad hw x) c_K_213 cx_K_213 v_K_networkAnswer kc_K rfl (w_k hw) rfl (Nat.le_of_ble_eq_true rfl) ⟨rfl, rfl, Nat.le_of_ble_eq_true rfl, Nat.le_of_ble_eq_true rfl⟩ ⟨Nat.le_of_ble_eq_true rfl, Nat.le_of_ble_eq_true rfl⟩ d_K_fetch_108 (fun E ce q H locs hPx hM hy1 hy2 hy3 => m_out hM hlk hno (Or.inr (Or.inr ⟨by have hup := hPx.1; first | exact absurd hup h75 | exact absurd h75 hup | simp [ftF, ftK, ftN, hp, hck.1, hck.2.1, hc0, hcl, h20, h39, h51, h68, hhas, hup], hPx.2⟩)) hy1 hy2 hy3 ⟨Nat.le_of_ble_eq_true rfl, Nat.le_of_ble_eq_true rfl⟩) ?_
            intro rv M1 ad1 H locs hP hM hE
            obtain ⟨hup, e1, e2, e3⟩ := hP
            subst rv; subst M1; subst ad1
            show W _ _ _ _ _ _ _ _ _ _ _ _ _ _ _ (F0 m 111 ls [.int (gi M 0 0 2 + x)])
            refine lv_istore (lv' := [(7, .int (gi M 0 0 2 + x)), (6, .int 1), (5, .ref (ad 6 w)), (4, .int (gi M 7 w 3)), (3, .ref (ad 7 w)), (0, .ref (ad 0 0)), (1, .int k), (2, .int x)]) X.1 X.2.1 d_K_fetch_111 hl (by decide) rfl (fun ls hl => ?_)
            refine lv_aload X.1 X.2.1 d_K_fetch_113 (lv_at hl 2 rfl) ?_
            refine lv_iload_n X.1 X.2.1 d_K_fetch_115 rfl (lv_at hl 7 rfl) ?_
            refine lv_iload X.1 X.2.1 d_K_fetch_116 (lv_at hl 0 rfl) ?_
            refine r_cV (As := [.int x, .int (gi M 0 0 2 + x)]) (rest := []) X hml hl.1 hM (k_Ca_keep l D dA base M ad w (csz M w) (hca w hwl) x (gi M 0 0 2 + x)) c_K_229 v_Ca_keep kc_Ca rfl hv6 rfl (Nat.le_of_ble_eq_true rfl) ⟨rfl, rfl, Nat.le_of_ble_eq_true rfl, Nat.le_of_ble_eq_true rfl⟩ ⟨Nat.le_of_ble_eq_true rfl, Nat.le_of_ble_eq_true rfl⟩ d_K_fetch_118 ?_
            intro rv M1 ad1 H locs hP hM hE
            have hE9 := hE
            obtain ⟨e1, e2, e3⟩ := hP
            subst rv; subst M1; subst ad1
            show W _ _ _ _ _ _ _ _ _ _ _ _ _ _ _ (F0 m 121 ls [])
            refine lv_iload X.1 X.2.1 d_K_fetch_121 (lv_at hl 0 rfl) ?_
            have hF : ftF M k x = (0, gi M 0 0 2 + x, kepM M w x (gi M 0 0 2 + x) (csz M w)) := by first | exact absurd h75 hup | exact absurd hup h75 | simp [ftF, ftK, ftN, hp, hck.1, hck.2.1, hc0, hcl, h20, h39, h51, h68, hhas, hup]
            refine vx_ret ?_
            exact m_iret X hr hlk hM d_K_fetch_123 ⟨Nat.le_of_ble_eq_true rfl, Nat.le_of_ble_eq_true rfl⟩ (by rw [hF] at *; exact hE9) ⟨by rw [hF], by rw [hF], by rw [hF], rfl⟩
          · skip
            have hhas := bn0 h96
            refine lv_aload X.1 X.2.1 d_K_fetch_99 (lv_at hl 1 rfl) ?_
            refine lv_iload_n X.1 X.2.1 d_K_fetch_101 rfl (lv_at hl 6 rfl) ?_
            refine r_cV (As := [.int x]) (rest := []) X hml hl.1 hM (k_Ca_valueOf l D dA base M ad w (csz M w) (hca w hwl) x) c_K_226 v_Ca_valueOf kc_Ca rfl hv6 rfl (Nat.le_of_ble_eq_true rfl) ⟨rfl, rfl, Nat.le_of_ble_eq_true rfl, Nat.le_of_ble_eq_true rfl⟩ ⟨Nat.le_of_ble_eq_true rfl, Nat.le_of_ble_eq_true rfl⟩ d_K_fetch_102 ?_
            intro rv M1 ad1 H locs hP hM hE
            obtain ⟨e1, e2, e3⟩ := hP
            subst rv; subst M1; subst ad1
            show W _ _ _ _ _ _ _ _ _ _ _ _ _ _ _ (F0 m 105 ls [.int (atC M 16 w (csz M w) (nI (plc M w x (csz M w))))])
            have hF : ftF M k x = (0, atC M 16 w (csz M w) (nI (plc M w x (csz M w))), M) := by first | exact absurd h75 hup | exact absurd hup h75 | simp [ftF, ftK, ftN, hp, hck.1, hck.2.1, hc0, hcl, h20, h39, h51, h68, hhas]
            refine vx_ret ?_
            exact m_iret X hr hlk hM d_K_fetch_105 ⟨Nat.le_of_ble_eq_true rfl, Nat.le_of_ble_eq_true rfl⟩ ⟨fun _ _ _ => rfl, fun _ => Nat.le_refl _⟩ ⟨by rw [hF], by rw [hF], by rw [hF], rfl⟩
        · skip
          refine lv_aload_n X.1 X.2.1 d_K_fetch_71 rfl (lv_at hl 3 rfl) ?_
          refine r_geti X hM rfl (w_k hw) f_K_15 rfl d_K_fetch_72 ?_
          refine lv_if_ne (tgt := 82) X.1 X.2.1 d_K_fetch_75 (by decide) (fun h75 => ?_) (fun h75 => ?_)
          · skip
            refine lv_iconst (v := 0) X.1 X.2.1 d_K_fetch_82 (by decide) ?_
            refine lv_istore (lv' := [(6, .int 0), (5, .ref (ad 6 w)), (4, .int (gi M 7 w 3)), (3, .ref (ad 7 w)), (0, .ref (ad 0 0)), (1, .int k), (2, .int x)]) X.1 X.2.1 d_K_fetch_83 hl (by decide) rfl (fun ls hl => ?_)
            refine lv_iload X.1 X.2.1 d_K_fetch_85 (lv_at hl 0 rfl) ?_
            refine lv_if_eq (tgt := 106) X.1 X.2.1 d_K_fetch_87 (by decide) (fun hz12 => ?_) (fun hz12 => absurd (by decide) hz12)
            refine lv_aload_n X.1 X.2.1 d_K_fetch_106 rfl (lv_at hl 4 rfl) ?_
            refine lv_iload_n X.1 X.2.1 d_K_fetch_107 rfl (lv_at hl 6 rfl) ?_
            refine r_cVX (As := [.int x]) (rest := []) X hml hl.1 hM (k_K_networkAnswer l hst D dA base M ad hw x) c_K_213 cx_K_213 v_K_networkAnswer kc_K rfl (w_k hw) rfl (Nat.le_of_ble_eq_true rfl) ⟨rfl, rfl, Nat.le_of_ble_eq_true rfl, Nat.le_of_ble_eq_true rfl⟩ ⟨Nat.le_of_ble_eq_true rfl, Nat.le_of_ble_eq_true rfl⟩ d_K_fetch_108 (fun E ce q H locs hPx hM hy1 hy2 hy3 => m_out hM hlk hno (Or.inr (Or.inr ⟨by have hup := hPx.1; first | exact absurd hup h75 | exact absurd h75 hup | simp [ftF, ftK, ftN, hp, hck.1, hck.2.1, hc0, hcl, h20, h39, h51, h68, h75, hup], hPx.2⟩)) hy1 hy2 hy3 ⟨Nat.le_of_ble_eq_true rfl, Nat.le_of_ble_eq_true rfl⟩) ?_
            intro rv M1 ad1 H locs hP hM hE
            obtain ⟨hup, e1, e2, e3⟩ := hP
            subst rv; subst M1; subst ad1
            show W _ _ _ _ _ _ _ _ _ _ _ _ _ _ _ (F0 m 111 ls [.int (gi M 0 0 2 + x)])
            refine lv_istore (lv' := [(7, .int (gi M 0 0 2 + x)), (6, .int 0), (5, .ref (ad 6 w)), (4, .int (gi M 7 w 3)), (3, .ref (ad 7 w)), (0, .ref (ad 0 0)), (1, .int k), (2, .int x)]) X.1 X.2.1 d_K_fetch_111 hl (by decide) rfl (fun ls hl => ?_)
            refine lv_aload X.1 X.2.1 d_K_fetch_113 (lv_at hl 2 rfl) ?_
            refine lv_iload_n X.1 X.2.1 d_K_fetch_115 rfl (lv_at hl 7 rfl) ?_
            refine lv_iload X.1 X.2.1 d_K_fetch_116 (lv_at hl 0 rfl) ?_
            refine r_cV (As := [.int x, .int (gi M 0 0 2 + x)]) (rest := []) X hml hl.1 hM (k_Ca_keep l D dA base M ad w (csz M w) (hca w hwl) x (gi M 0 0 2 + x)) c_K_229 v_Ca_keep kc_Ca rfl hv6 rfl (Nat.le_of_ble_eq_true rfl) ⟨rfl, rfl, Nat.le_of_ble_eq_true rfl, Nat.le_of_ble_eq_true rfl⟩ ⟨Nat.le_of_ble_eq_true rfl, Nat.le_of_ble_eq_true rfl⟩ d_K_fetch_118 ?_
            intro rv M1 ad1 H locs hP hM hE
            have hE9 := hE
            obtain ⟨e1, e2, e3⟩ := hP
            subst rv; subst M1; subst ad1
            show W _ _ _ _ _ _ _ _ _ _ _ _ _ _ _ (F0 m 121 ls [])
            refine lv_iload X.1 X.2.1 d_K_fetch_121 (lv_at hl 0 rfl) ?_
            have hF : ftF M k x = (0, gi M 0 0 2 + x, kepM M w x (gi M 0 0 2 + x) (csz M w)) := by first | exact absurd h75 hup | exact absurd hup h75 | simp [ftF, ftK, ftN, hp, hck.1, hck.2.1, hc0, hcl, h20, h39, h51, h68, h75, hup]
            refine vx_ret ?_
            exact m_iret X hr hlk hM d_K_fetch_123 ⟨Nat.le_of_ble_eq_true rfl, Nat.le_of_ble_eq_true rfl⟩ (by rw [hF] at *; exact hE9) ⟨by rw [hF], by rw [hF], by rw [hF], rfl⟩
          · skip
            refine lv_iconst (v := 1) X.1 X.2.1 d_K_fetch_78 (by decide) ?_
            refine lv_goto (tgt := 83) X.1 X.2.1 d_K_fetch_79 (by decide) ?_
            refine lv_istore (lv' := [(6, .int 1), (5, .ref (ad 6 w)), (4, .int (gi M 7 w 3)), (3, .ref (ad 7 w)), (0, .ref (ad 0 0)), (1, .int k), (2, .int x)]) X.1 X.2.1 d_K_fetch_83 hl (by decide) rfl (fun ls hl => ?_)
            refine lv_iload X.1 X.2.1 d_K_fetch_85 (lv_at hl 0 rfl) ?_
            refine lv_if_eq (tgt := 106) X.1 X.2.1 d_K_fetch_87 (by decide) (fun hz15 => absurd hz15 (by decide)) (fun hz15 => ?_)
            refine lv_aload X.1 X.2.1 d_K_fetch_90 (lv_at hl 1 rfl) ?_
            refine lv_iload_n X.1 X.2.1 d_K_fetch_92 rfl (lv_at hl 6 rfl) ?_
            refine r_cV (As := [.int x]) (rest := []) X hml hl.1 hM (k_Ca_has l D dA base M ad w (csz M w) (hca w hwl) x) c_K_221 v_Ca_has kc_Ca rfl hv6 rfl (Nat.le_of_ble_eq_true rfl) ⟨rfl, rfl, Nat.le_of_ble_eq_true rfl, Nat.le_of_ble_eq_true rfl⟩ ⟨Nat.le_of_ble_eq_true rfl, Nat.le_of_ble_eq_true rfl⟩ d_K_fetch_93 ?_
            intro rv M1 ad1 H locs hP hM hE
            obtain ⟨e1, e2, e3⟩ := hP
            subst rv; subst M1; subst ad1
            show W _ _ _ _ _ _ _ _ _ _ _ _ _ _ _ (F0 m 96 ls [.int (if plc M w x (csz M w) < csz M w then 1 else 0)])
            refine lv_if_eq (tgt := 106) X.1 X.2.1 d_K_fetch_96 (by decide) (fun h96 => ?_) (fun h96 => ?_)
            · skip
              have hhas := be0 h96
              refine lv_aload_n X.1 X.2.1 d_K_fetch_106 rfl (lv_at hl 4 rfl) ?_
              refine lv_iload_n X.1 X.2.1 d_K_fetch_107 rfl (lv_at hl 6 rfl) ?_
              refine r_cVX (As := [.int x]) (rest := []) X hml hl.1 hM (k_K_networkAnswer l hst D dA base M ad hw x) c_K_213 cx_K_213 v_K_networkAnswer kc_K rfl (w_k hw) rfl (Nat.le_of_ble_eq_true rfl) ⟨rfl, rfl, Nat.le_of_ble_eq_true rfl, Nat.le_of_ble_eq_true rfl⟩ ⟨Nat.le_of_ble_eq_true rfl, Nat.le_of_ble_eq_true rfl⟩ d_K_fetch_108 (fun E ce q H locs hPx hM hy1 hy2 hy3 => m_out hM hlk hno (Or.inr (Or.inr ⟨by have hup := hPx.1; first | exact absurd hup h75 | exact absurd h75 hup | simp [ftF, ftK, ftN, hp, hck.1, hck.2.1, hc0, hcl, h20, h39, h51, h68, h75, hhas, hup], hPx.2⟩)) hy1 hy2 hy3 ⟨Nat.le_of_ble_eq_true rfl, Nat.le_of_ble_eq_true rfl⟩) ?_
              intro rv M1 ad1 H locs hP hM hE
              obtain ⟨hup, e1, e2, e3⟩ := hP
              subst rv; subst M1; subst ad1
              show W _ _ _ _ _ _ _ _ _ _ _ _ _ _ _ (F0 m 111 ls [.int (gi M 0 0 2 + x)])
              refine lv_istore (lv' := [(7, .int (gi M 0 0 2 + x)), (6, .int 1), (5, .ref (ad 6 w)), (4, .int (gi M 7 w 3)), (3, .ref (ad 7 w)), (0, .ref (ad 0 0)), (1, .int k), (2, .int x)]) X.1 X.2.1 d_K_fetch_111 hl (by decide) rfl (fun ls hl => ?_)
              refine lv_aload X.1 X.2.1 d_K_fetch_113 (lv_at hl 2 rfl) ?_
              refine lv_iload_n X.1 X.2.1 d_K_fetch_115 rfl (lv_at hl 7 rfl) ?_
              refine lv_iload X.1 X.2.1 d_K_fetch_116 (lv_at hl 0 rfl) ?_
              refine r_cV (As := [.int x, .int (gi M 0 0 2 + x)]) (rest := []) X hml hl.1 hM (k_Ca_keep l D dA base M ad w (csz M w) (hca w hwl) x (gi M 0 0 2 + x)) c_K_229 v_Ca_keep kc_Ca rfl hv6 rfl (Nat.le_of_ble_eq_true rfl) ⟨rfl, rfl, Nat.le_of_ble_eq_true rfl, Nat.le_of_ble_eq_true rfl⟩ ⟨Nat.le_of_ble_eq_true rfl, Nat.le_of_ble_eq_true rfl⟩ d_K_fetch_118 ?_
              intro rv M1 ad1 H locs hP hM hE
              have hE9 := hE
              obtain ⟨e1, e2, e3⟩ := hP
              subst rv; subst M1; subst ad1
              show W _ _ _ _ _ _ _ _ _ _ _ _ _ _ _ (F0 m 121 ls [])
              refine lv_iload X.1 X.2.1 d_K_fetch_121 (lv_at hl 0 rfl) ?_
              have hF : ftF M k x = (0, gi M 0 0 2 + x, kepM M w x (gi M 0 0 2 + x) (csz M w)) := by first | exact absurd h75 hup | exact absurd hup h75 | simp [ftF, ftK, ftN, hp, hck.1, hck.2.1, hc0, hcl, h20, h39, h51, h68, h75, hhas, hup]
              refine vx_ret ?_
              exact m_iret X hr hlk hM d_K_fetch_123 ⟨Nat.le_of_ble_eq_true rfl, Nat.le_of_ble_eq_true rfl⟩ (by rw [hF] at *; exact hE9) ⟨by rw [hF], by rw [hF], by rw [hF], rfl⟩
            · skip
              have hhas := bn0 h96
              refine lv_aload X.1 X.2.1 d_K_fetch_99 (lv_at hl 1 rfl) ?_
              refine lv_iload_n X.1 X.2.1 d_K_fetch_101 rfl (lv_at hl 6 rfl) ?_
              refine r_cV (As := [.int x]) (rest := []) X hml hl.1 hM (k_Ca_valueOf l D dA base M ad w (csz M w) (hca w hwl) x) c_K_226 v_Ca_valueOf kc_Ca rfl hv6 rfl (Nat.le_of_ble_eq_true rfl) ⟨rfl, rfl, Nat.le_of_ble_eq_true rfl, Nat.le_of_ble_eq_true rfl⟩ ⟨Nat.le_of_ble_eq_true rfl, Nat.le_of_ble_eq_true rfl⟩ d_K_fetch_102 ?_
              intro rv M1 ad1 H locs hP hM hE
              obtain ⟨e1, e2, e3⟩ := hP
              subst rv; subst M1; subst ad1
              show W _ _ _ _ _ _ _ _ _ _ _ _ _ _ _ (F0 m 105 ls [.int (atC M 16 w (csz M w) (nI (plc M w x (csz M w))))])
              have hF : ftF M k x = (0, atC M 16 w (csz M w) (nI (plc M w x (csz M w))), M) := by first | exact absurd h75 hup | exact absurd hup h75 | simp [ftF, ftK, ftN, hp, hck.1, hck.2.1, hc0, hcl, h20, h39, h51, h68, h75, hhas]
              refine vx_ret ?_
              exact m_iret X hr hlk hM d_K_fetch_105 ⟨Nat.le_of_ble_eq_true rfl, Nat.le_of_ble_eq_true rfl⟩ ⟨fun _ _ _ => rfl, fun _ => Nat.le_refl _⟩ ⟨by rw [hF], by rw [hF], by rw [hF], rfl⟩
      · skip
        refine lv_aload_n X.1 X.2.1 d_K_fetch_54 rfl (lv_at hl 1 rfl) ?_
        refine r_geti X hM rfl hwl f_K_216 rfl d_K_fetch_55 ?_
        have hF : ftF M k x = (0, gi M 7 w 1, M) := by first | exact absurd h75 hup | exact absurd hup h75 | simp [ftF, ftK, ftN, hp, hck.1, hck.2.1, hc0, hcl, h20, h39, h51]
        refine vx_ret ?_
        exact m_iret X hr hlk hM d_K_fetch_58 ⟨Nat.le_of_ble_eq_true rfl, Nat.le_of_ble_eq_true rfl⟩ ⟨fun _ _ _ => rfl, fun _ => Nat.le_refl _⟩ ⟨by rw [hF], by rw [hF], by rw [hF], rfl⟩
    · skip
      refine lv_aload_n X.1 X.2.1 d_K_fetch_42 rfl (lv_at hl 2 rfl) ?_
      refine lv_iload_n X.1 X.2.1 d_K_fetch_43 rfl (lv_at hl 4 rfl) ?_
      refine r_cVX (As := [.int x]) (rest := []) X hml hl.1 hM (k_K_networkAnswer l hst D dA base M ad hw x) c_K_213 cx_K_213 v_K_networkAnswer kc_K rfl (w_k hw) rfl (Nat.le_of_ble_eq_true rfl) ⟨rfl, rfl, Nat.le_of_ble_eq_true rfl, Nat.le_of_ble_eq_true rfl⟩ ⟨Nat.le_of_ble_eq_true rfl, Nat.le_of_ble_eq_true rfl⟩ d_K_fetch_44 (fun E ce q H locs hPx hM hy1 hy2 hy3 => m_out hM hlk hno (Or.inr (Or.inr ⟨by have hup := hPx.1; first | exact absurd hup h75 | exact absurd h75 hup | simp [ftF, ftK, ftN, hp, hck.1, hck.2.1, hc0, hcl, h20, h39, hup], hPx.2⟩)) hy1 hy2 hy3 ⟨Nat.le_of_ble_eq_true rfl, Nat.le_of_ble_eq_true rfl⟩) ?_
      intro rv M1 ad1 H locs hP hM hE
      obtain ⟨hup, e1, e2, e3⟩ := hP
      subst rv; subst M1; subst ad1
      show W _ _ _ _ _ _ _ _ _ _ _ _ _ _ _ (F0 m 47 ls [.int (gi M 0 0 2 + x)])
      have hF : ftF M k x = (0, gi M 0 0 2 + x, M) := by first | exact absurd h75 hup | exact absurd hup h75 | simp [ftF, ftK, ftN, hp, hck.1, hck.2.1, hc0, hcl, h20, h39, hup]
      refine vx_ret ?_
      exact m_iret X hr hlk hM d_K_fetch_47 ⟨Nat.le_of_ble_eq_true rfl, Nat.le_of_ble_eq_true rfl⟩ ⟨fun _ _ _ => rfl, fun _ => Nat.le_refl _⟩ ⟨by rw [hF], by rw [hF], by rw [hF], rfl⟩
  · skip
    rw [h20] at hl
    have hl : lv_has ls 8 [(3, .null), (0, .ref (ad 0 0)), (1, .int k), (2, .int x)] := hl
    refine lv_iconst (v := 0) X.1 X.2.1 d_K_fetch_23 (by decide) ?_
    refine lv_goto (tgt := 31) X.1 X.2.1 d_K_fetch_24 (by decide) ?_
    refine lv_istore (lv' := [(4, .int 0), (3, .null), (0, .ref (ad 0 0)), (1, .int k), (2, .int x)]) X.1 X.2.1 d_K_fetch_31 hl (by decide) rfl (fun ls hl => ?_)
    refine lv_aload_nN X.1 X.2.1 d_K_fetch_33 rfl (lv_at hl 1 rfl) ?_
    refine lv_ifnullN (tgt := 42) X.1 X.2.1 d_K_fetch_34 (by decide) ?_
    refine lv_aload_n X.1 X.2.1 d_K_fetch_42 rfl (lv_at hl 2 rfl) ?_
    refine lv_iload_n X.1 X.2.1 d_K_fetch_43 rfl (lv_at hl 4 rfl) ?_
    refine r_cVX (As := [.int x]) (rest := []) X hml hl.1 hM (k_K_networkAnswer l hst D dA base M ad hw x) c_K_213 cx_K_213 v_K_networkAnswer kc_K rfl (w_k hw) rfl (Nat.le_of_ble_eq_true rfl) ⟨rfl, rfl, Nat.le_of_ble_eq_true rfl, Nat.le_of_ble_eq_true rfl⟩ ⟨Nat.le_of_ble_eq_true rfl, Nat.le_of_ble_eq_true rfl⟩ d_K_fetch_44 (fun E ce q H locs hPx hM hy1 hy2 hy3 => m_out hM hlk hno (Or.inr (Or.inr ⟨by have hup := hPx.1; first | exact absurd hup h75 | exact absurd h75 hup | simp [ftF, ftK, ftN, hp, hck.1, hck.2.1, hc0, hcl, h20, hup], hPx.2⟩)) hy1 hy2 hy3 ⟨Nat.le_of_ble_eq_true rfl, Nat.le_of_ble_eq_true rfl⟩) ?_
    intro rv M1 ad1 H locs hP hM hE
    obtain ⟨hup, e1, e2, e3⟩ := hP
    subst rv; subst M1; subst ad1
    show W _ _ _ _ _ _ _ _ _ _ _ _ _ _ _ (F0 m 47 ls [.int (gi M 0 0 2 + x)])
    have hF : ftF M k x = (0, gi M 0 0 2 + x, M) := by first | exact absurd h75 hup | exact absurd hup h75 | simp [ftF, ftK, ftN, hp, hck.1, hck.2.1, hc0, hcl, h20, hup]
    refine vx_ret ?_
    exact m_iret X hr hlk hM d_K_fetch_47 ⟨Nat.le_of_ble_eq_true rfl, Nat.le_of_ble_eq_true rfl⟩ ⟨fun _ _ _ => rfl, fun _ => Nat.le_refl _⟩ ⟨by rw [hF], by rw [hF], by rw [hF], rfl⟩
