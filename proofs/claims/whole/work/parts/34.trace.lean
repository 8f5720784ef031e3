/-- what stays but for a few calls: the counts of objects, the network, which scripts registrations and jobs have, the sizes of the caches -/
def kq (M M' : mM) : Prop := (∀ a, gn M' a = gn M a) ∧ (gi M' 0 0 1 = gi M 0 0 1 ∧ gi M' 0 0 2 = gi M 0 0 2) ∧ ∀ i, gi M' 5 i 1 = gi M 5 i 1 ∧ gi M' 4 i 3 = gi M 4 i 3 ∧ gi M' 6 i 2 = gi M 6 i 2
theorem kq_rf (M : mM) : kq M M := ⟨fun _ => rfl, ⟨rfl, rfl⟩, fun _ => ⟨rfl, rfl, rfl⟩⟩
theorem kq_tr {M M1 M2 : mM} (h : kq M M1) (g : kq M1 M2) : kq M M2 := ⟨fun a => (g.1 a).trans (h.1 a), ⟨g.2.1.1.trans h.2.1.1, g.2.1.2.trans h.2.1.2⟩, fun i => ⟨(g.2.2 i).1.trans (h.2.2 i).1, (g.2.2 i).2.1.trans (h.2.2 i).2.1, (g.2.2 i).2.2.trans (h.2.2 i).2.2⟩⟩
/-- the rest of the good order: caches by their workers' numbers, scripts in range, sizes of caches, the network up or not -/
def wO (M : mM) : Prop := (gn M 6 = gn M 7 ∧ gn M 15 = gn M 7 ∧ gn M 16 = gn M 7) ∧ (∀ i, i < gn M 5 → ∃ k, k < 4 ∧ gi M 5 i 1 = nI k) ∧ (∀ i, i < gn M 4 → ∃ k, k < 4 ∧ gi M 4 i 3 = nI k) ∧ (∀ i, i < gn M 7 → ∃ z, z ≤ 4 ∧ gi M 6 i 2 = nI z) ∧ (gi M 0 0 1 = 0 ∨ gi M 0 0 1 = 1)
theorem kq_o {M M' : mM} (h : kq M M') (ho : wO M) : wO M' := by
  refine ⟨⟨by rw [h.1, h.1]; exact ho.1.1, by rw [h.1, h.1]; exact ho.1.2.1, by rw [h.1, h.1]; exact ho.1.2.2⟩, fun i hi => ?_, fun i hi => ?_, fun i hi => ?_, by rw [h.2.1.1]; exact ho.2.2.2.2⟩
  · rw [(h.2.2 i).1]; rw [h.1] at hi; exact ho.2.1 i hi
  · rw [(h.2.2 i).2.1]; rw [h.1] at hi; exact ho.2.2.1 i hi
  · rw [(h.2.2 i).2.2]; rw [h.1] at hi; exact ho.2.2.2.1 i hi
/-- what the good order looks at is left as it is -/
def kp (M M' : mM) : Prop := (∀ a, gn M' a = gn M a) ∧ (∀ k j, (k = 0 ∨ k = 8 ∨ k = 9 ∨ k = 10 ∨ k = 11 ∨ k = 13) → gr M' k 0 j = gr M k 0 j) ∧ gr M' 3 0 0 = gr M 3 0 0 ∧ (gi M' 0 0 4 = gi M 0 0 4 ∧ gi M' 0 0 6 = gi M 0 0 6 ∧ gi M' 0 0 10 = gi M 0 0 10) ∧ (∀ i, gi M' 7 i 0 = gi M 7 i 0 ∧ gr M' 7 i 4 = gr M 7 i 4 ∧ gr M' 6 i 0 = gr M 6 i 0 ∧ gr M' 6 i 1 = gr M 6 i 1 ∧ gi M' 4 i 0 = gi M 4 i 0) ∧ kq M M'
theorem kp_rf (M : mM) : kp M M := ⟨fun _ => rfl, fun _ _ _ => rfl, rfl, ⟨rfl, rfl, rfl⟩, fun _ => ⟨rfl, rfl, rfl, rfl, rfl⟩, kq_rf M⟩
theorem kp_tr {M M1 M2 : mM} (h : kp M M1) (g : kp M1 M2) : kp M M2 :=
  ⟨fun a => (g.1 a).trans (h.1 a), fun k j z => (g.2.1 k j z).trans (h.2.1 k j z), g.2.2.1.trans h.2.2.1, ⟨g.2.2.2.1.1.trans h.2.2.2.1.1, g.2.2.2.1.2.1.trans h.2.2.2.1.2.1, g.2.2.2.1.2.2.trans h.2.2.2.1.2.2⟩, fun i => ⟨(g.2.2.2.2.1 i).1.trans (h.2.2.2.2.1 i).1, (g.2.2.2.2.1 i).2.1.trans (h.2.2.2.2.1 i).2.1, (g.2.2.2.2.1 i).2.2.1.trans (h.2.2.2.2.1 i).2.2.1, (g.2.2.2.2.1 i).2.2.2.1.trans (h.2.2.2.2.1 i).2.2.2.1, (g.2.2.2.2.1 i).2.2.2.2.trans (h.2.2.2.2.1 i).2.2.2.2⟩, kq_tr h.2.2.2.2.2 g.2.2.2.2.2⟩
theorem kp_q {M M' : mM} (h : kp M M') : kq M M' := h.2.2.2.2.2
theorem kp_lv {M M' : mM} (h : kp M M') {a i : Nat} (hi : i < gn M a) : i < gn M' a := by rw [h.1]; exact hi
theorem kp_lq {M M' : mM} (h : kp M M') {a : Nat} {r : Option Nat} (hi : ∀ q, r = some q → q < gn M a) : ∀ q, r = some q → q < gn M' a := fun q hq => kp_lv h (hi q hq)
theorem kp_ext {M M' : mM} (h : kp M M') (ad : Nat → Nat → Nat) : mExt M ad M' ad := ⟨fun _ _ _ => rfl, fun a => Nat.le_of_eq (h.1 a).symm⟩
theorem kp_w {M M' : mM} (h : kp M M') (hw : wK M) : wK M' := by
  have e6 : nRg M' = nRg M := by unfold nRg; rw [h.2.2.2.1.2.1]
  have er : ∀ i, rgx M' i = rgx M i := fun i => by unfold rgx; rw [h.2.1 10 i (by omega)]
  refine ⟨⟨by rw [h.1]; exact w_k hw, ?_, ?_, ?_, ?_, ?_, ?_, ?_, by rw [h.2.2.1]; exact w_3_0 hw⟩, fun i hi => by rw [h.2.1 8 i (by omega)]; exact w_sc hw hi, fun i hi => by rw [h.2.1 11 i (by omega)]; exact w_cl hw hi, ⟨?_, ?_, ?_⟩, ⟨?_, ?_, ?_⟩, ?_, ?_, ?_⟩
  · rw [h.2.1 0 0 (by omega)]; exact w_0_0 hw
  · rw [h.2.1 0 3 (by omega)]; exact w_0_3 hw
  · rw [h.2.1 0 5 (by omega)]; exact w_0_5 hw
  · rw [h.2.1 0 7 (by omega)]; exact w_0_7 hw
  · rw [h.2.1 0 8 (by omega)]; exact w_0_8 hw
  · rw [h.2.1 0 9 (by omega)]; exact w_0_9 hw
  · rw [h.2.1 0 11 (by omega)]; exact w_0_11 hw
  · rw [h.2.2.2.1.1, h.1]; exact w_nw hw
  · rw [h.1]; exact w_nwl hw
  · intro i hi
    rw [h.1] at hi
    rw [h.2.1 9 i (by omega), (h.2.2.2.2.1 i).1, (h.2.2.2.2.1 i).2.1, (h.2.2.2.2.1 i).2.2.1, (h.2.2.2.2.1 i).2.2.2.1]
    exact ⟨w_wk hw hi, w_num hw hi, w_7_4 hw hi, w_6_0 hw hi, w_6_1 hw hi⟩
  · rw [e6, h.2.2.2.1.2.1]; exact w_nr hw
  · rw [e6]; exact w_nrl hw
  · intro i hi
    rw [e6] at hi
    rw [h.2.1 10 i (by omega), er]; exact w_rg hw hi
  · rw [h.2.2.2.1.2.2, h.1]; exact w_nj hw
  · rw [h.1]; exact w_njl hw
  · intro i hi
    rw [h.1] at hi
    rw [h.2.1 13 i (by omega), (h.2.2.2.2.1 i).2.2.2.2]
    exact ⟨w_jb hw hi, w_jn hw hi⟩
theorem kp_si (M : mM) (k i j : Nat) (x : Int32) (h : ¬ ((k = 0 ∧ (j = 1 ∨ j = 2 ∨ j = 4 ∨ j = 6 ∨ j = 10)) ∨ ((k = 7 ∨ k = 4) ∧ j = 0) ∨ (k = 5 ∧ j = 1) ∨ (k = 4 ∧ j = 3) ∨ (k = 6 ∧ j = 2))) : kp M (si M k i j x) := by
  refine ⟨fun _ => rfl, fun _ _ _ => rfl, rfl, ⟨?_, ?_, ?_⟩, fun q => ⟨?_, rfl, rfl, rfl, ?_⟩, fun _ => rfl, ⟨?_, ?_⟩, fun q => ⟨?_, ?_, ?_⟩⟩ <;> rw [gi_si, if_neg (by omega)]
theorem kp_sr (M : mM) (k i j : Nat) (x : Option Nat) (h : ¬ ((k = 0 ∨ k = 8 ∨ k = 9 ∨ k = 10 ∨ k = 11 ∨ k = 13) ∨ (k = 3 ∧ j = 0) ∨ (k = 7 ∧ j = 4) ∨ (k = 6 ∧ (j = 0 ∨ j = 1)))) : kp M (sr M k i j x) := by
  refine ⟨fun _ => rfl, fun a b z => ?_, ?_, ⟨rfl, rfl, rfl⟩, fun q => ⟨rfl, ?_, ?_, ?_, rfl⟩, fun _ => rfl, ⟨rfl, rfl⟩, fun _ => ⟨rfl, rfl, rfl⟩⟩ <;> rw [gr_sr, if_neg (by omega)]
/-- the trace: how many numbers are kept; one more -/
def tsz (M : mM) : Nat := (gi M 3 0 1).toNatClampNeg
def wT (M : mM) : Prop := gi M 3 0 1 = nI (tsz M) ∧ tsz M ≤ 60
def trK (M : mM) (x : Int32) : mM := if tsz M < 60 then si (si M 14 0 (tsz M) x) 3 0 1 (nI (tsz M + 1)) else M
def trA (M : mM) (x : Int32) : mM := si (trK M x) 3 0 2 (gi M 3 0 2 + 1)
theorem trA_gn (M : mM) (x : Int32) (a : Nat) : gn (trA M x) a = gn M a := by show gn (trK M x) a = _; unfold trK; split <;> rfl
theorem trA_gr (M : mM) (x : Int32) (k i j : Nat) : gr (trA M x) k i j = gr M k i j := by show gr (trK M x) k i j = _; unfold trK; split <;> rfl
theorem trA_gi (M : mM) (x : Int32) (k i j : Nat) (h : k ≠ 3) (h2 : k ≠ 14) : gi (trA M x) k i j = gi M k i j := by
  unfold trA
  rw [gi_si, if_neg (by omega)]
  unfold trK
  split
  · rw [gi_si, if_neg (by omega), gi_si, if_neg (by omega)]
  · rfl
theorem trA_kp (M : mM) (x : Int32) : kp M (trA M x) := by
  unfold trA
  refine kp_tr ?_ (kp_si _ _ _ _ _ (by omega))
  unfold trK
  split
  · exact kp_tr (kp_si _ _ _ _ _ (by omega)) (kp_si _ _ _ _ _ (by omega))
  · exact kp_rf _
theorem trA_wT {M : mM} (h : wT M) (x : Int32) : wT (trA M x) := by
  have e0 : gi (trA M x) 3 0 1 = gi (trK M x) 3 0 1 := by unfold trA; rw [gi_si, if_neg (by omega)]
  unfold wT tsz
  rw [e0]
  unfold trK
  split
  · rename_i hz
    have e : tsz (si (si M 14 0 (tsz M) x) 3 0 1 (nI (tsz M + 1))) = tsz M + 1 := nI_clamp (by omega)
    exact ⟨by show _ = nI (tsz (si (si M 14 0 (tsz M) x) 3 0 1 (nI (tsz M + 1)))); rw [e]; rfl, by show tsz (si (si M 14 0 (tsz M) x) 3 0 1 (nI (tsz M + 1))) ≤ 60; rw [e]; omega⟩
  · exact h
/-- the trace's size is left as it is -/
def kt (M M' : mM) : Prop := gi M' 3 0 1 = gi M 3 0 1
theorem kt_w {M M' : mM} (h : kt M M') (hw : wT M) : wT M' := by
  have e : tsz M' = tsz M := by unfold tsz; rw [h]
  exact ⟨by rw [e, h]; exact hw.1, by rw [e]; exact hw.2⟩
/-- a worker comes to a state; a client is controlled -/
def brM (M : mM) (r : Option Nat) (x : Int32) : mM := match r with
  | none => M
  | some w => trA (si M 7 w 5 x) (8 * gi M 7 w 0 + x)
theorem brM_kp (M : mM) (r : Option Nat) (x : Int32) : kp M (brM M r x) := by
  cases r with
  | none => exact kp_rf _
  | some w => exact kp_tr (kp_si _ _ _ _ _ (by omega)) (trA_kp _ _)
theorem brM_wT {M : mM} (h : wT M) (r : Option Nat) (x : Int32) : wT (brM M r x) := by
  cases r with
  | none => exact h
  | some w => exact trA_wT (kt_w (M := M) (M' := si M 7 w 5 x) rfl h) _
def ctM (M : mM) (i : Nat) (r : Option Nat) : mM := trA (sr M 2 i 2 r) (-(64 * nI i + num M r) - 1)
theorem ctM_kp (M : mM) (i : Nat) (r : Option Nat) : kp M (ctM M i r) := kp_tr (kp_sr _ _ _ _ _ (by omega)) (trA_kp _ _)
theorem ctM_wT {M : mM} (h : wT M) (i : Nat) (r : Option Nat) : wT (ctM M i r) := trA_wT (kt_w (M := M) (M' := sr M 2 i 2 r) rfl h) _
set_option maxHeartbeats 4000000 in
set_option maxRecDepth 100000 in
theorem k_Tr_append (l : Launch) (D : va_G) (dA : Nat → ClassId) (base : Nat) (M : mM) (ad : Nat → Nat → Nat) (h3 : 0 < gn M 3) (x : Int32) (hw : wK M) (ht : wT M) : mMet l y_Tr_append b_Tr_append 2 none ({ frames := 0, cells := 0, slots := 0, locals := 0 } : Room) 0 0 D dA base M ad [.ref (ad 3 0), .int x] (fun rv M' ad' => rv = none ∧ M' = trA M x ∧ ad' = ad) := by
  refine m_start (lvs := [(0, .ref (ad 3 0)), (1, .int x)]) (by decide) (Nat.le_of_ble_eq_true rfl) rfl ?_
  intro p e s m below meth c ls X hr hlk hin hml hM hl
  refine lv_aload_n X.1 X.2.1 d_Tr_append_0 rfl (lv_at hl 0 rfl) ?_
  refine r_geti X hM rfl h3 f_Tr_15 rfl d_Tr_append_1 ?_
  refine lv_bipush (v := 60) X.1 X.2.1 d_Tr_append_4 (by decide) ?_
  refine lv_icmp_ge (tgt := 29) X.1 X.2.1 d_Tr_append_6 (by decide) (fun h6 => ?_) (fun h6 => ?_)
  · skip
    refine lv_aload_n X.1 X.2.1 d_Tr_append_29 rfl (lv_at hl 0 rfl) ?_
    refine lv_dup X.1 X.2.1 d_Tr_append_30 rfl ?_
    refine r_geti X hM rfl h3 f_Tr_19 rfl d_Tr_append_31 ?_
    refine lv_iconst (v := 1) X.1 X.2.1 d_Tr_append_34 (by decide) ?_
    refine lv_iadd X.1 X.2.1 d_Tr_append_35 ?_
    refine r_puti X hM rfl h3 p_Tr_19 rfl rfl rfl d_Tr_append_36 (fun H locs hM => ?_)
    exact m_vret X hr hlk hM d_Tr_append_39 ⟨Nat.le_of_ble_eq_true rfl, Nat.le_of_ble_eq_true rfl⟩ ⟨fun _ _ _ => rfl, fun _ => Nat.le_refl _⟩ ⟨rfl, by unfold trA trK; rw [if_neg (fun z => absurd h6 (by rw [ht.1]; exact nI_ge z (by decide)))], rfl⟩
  · skip
    have hz0 : tsz M < 60 := by rcases Nat.lt_or_ge (tsz M) 60 with z | z; exact z; exact absurd (by rw [ht.1]; exact nI_le z (by have := ht.2; omega)) h6
    refine lv_aload_n X.1 X.2.1 d_Tr_append_9 rfl (lv_at hl 0 rfl) ?_
    refine r_gets (q := 0) X hM rfl h3 f_Tr_9 rfl (w_3_0 hw) d_Tr_append_10 (fun hv1 => ?_)
    refine lv_aload_n X.1 X.2.1 d_Tr_append_13 rfl (lv_at hl 0 rfl) ?_
    refine r_geti X hM rfl h3 f_Tr_15 rfl d_Tr_append_14 ?_
    refine lv_iload_n X.1 X.2.1 d_Tr_append_17 rfl (lv_at hl 1 rfl) ?_
    refine r_iast X hM rfl hv1 a_numbers (fun _ => rfl) (j := (tsz M)) ht.1 hz0 d_Tr_append_18 (fun H locs hM => ?_)
    refine lv_aload_n X.1 X.2.1 d_Tr_append_19 rfl (lv_at hl 0 rfl) ?_
    refine lv_dup X.1 X.2.1 d_Tr_append_20 rfl ?_
    refine r_geti X hM rfl h3 f_Tr_15 rfl d_Tr_append_21 ?_
    refine lv_iconst (v := 1) X.1 X.2.1 d_Tr_append_24 (by decide) ?_
    refine lv_iadd X.1 X.2.1 d_Tr_append_25 ?_
    refine r_puti X hM rfl h3 p_Tr_15 rfl rfl rfl d_Tr_append_26 (fun H locs hM => ?_)
    refine lv_aload_n X.1 X.2.1 d_Tr_append_29 rfl (lv_at hl 0 rfl) ?_
    refine lv_dup X.1 X.2.1 d_Tr_append_30 rfl ?_
    refine r_geti X hM rfl h3 f_Tr_19 rfl d_Tr_append_31 ?_
    refine lv_iconst (v := 1) X.1 X.2.1 d_Tr_append_34 (by decide) ?_
    refine lv_iadd X.1 X.2.1 d_Tr_append_35 ?_
    refine r_puti X hM rfl h3 p_Tr_19 rfl rfl rfl d_Tr_append_36 (fun H locs hM => ?_)
    exact m_vret X hr hlk hM d_Tr_append_39 ⟨Nat.le_of_ble_eq_true rfl, Nat.le_of_ble_eq_true rfl⟩ ⟨fun _ _ _ => rfl, fun _ => Nat.le_refl _⟩ ⟨rfl, by unfold trA trK; rw [if_pos hz0]; show si (si _ _ _ _ (gi M 3 0 1 + 1)) 3 0 2 (gi M 3 0 2 + 1) = _; rw [ht.1, nI_1], rfl⟩
set_option maxHeartbeats 4000000 in
set_option maxRecDepth 100000 in
theorem k_Tr_workerComesTo (l : Launch) (D : va_G) (dA : Nat → ClassId) (base : Nat) (M : mM) (ad : Nat → Nat → Nat) (h3 : 0 < gn M 3) (x y : Int32) (hw : wK M) (ht : wT M) : mMet l y_Tr_workerComesTo b_Tr_workerComesTo 3 none ({ frames := 1, cells := 0, slots := 0, locals := 40 } : Room) 0 0 D dA base M ad [.ref (ad 3 0), .int x, .int y] (fun rv M' ad' => rv = none ∧ M' = trA M (8 * x + y) ∧ ad' = ad) := by
  refine m_start (lvs := [(0, .ref (ad 3 0)), (1, .int x), (2, .int y)]) (by decide) (Nat.le_of_ble_eq_true rfl) rfl ?_
  intro p e s m below meth c ls X hr hlk hin hml hM hl
  refine lv_aload_n X.1 X.2.1 d_Tr_workerComesTo_0 rfl (lv_at hl 0 rfl) ?_
  refine lv_bipush (v := 8) X.1 X.2.1 d_Tr_workerComesTo_1 (by decide) ?_
  refine lv_iload_n X.1 X.2.1 d_Tr_workerComesTo_3 rfl (lv_at hl 1 rfl) ?_
  refine lv_imul X.1 X.2.1 d_Tr_workerComesTo_4 ?_
  refine lv_iload_n X.1 X.2.1 d_Tr_workerComesTo_5 rfl (lv_at hl 2 rfl) ?_
  refine lv_iadd X.1 X.2.1 d_Tr_workerComesTo_6 ?_
  refine r_cV (As := [.int (((8) * (x)) + (y))]) (rest := []) X hml hl.1 hM (k_Tr_append l D dA base M ad h3 (8 * x + y) hw ht) c_Tr_22 v_Tr_append kc_Tr rfl h3 rfl (Nat.le_of_ble_eq_true rfl) ⟨rfl, rfl, Nat.le_of_ble_eq_true rfl, Nat.le_of_ble_eq_true rfl⟩ ⟨Nat.le_of_ble_eq_true rfl, Nat.le_of_ble_eq_true rfl⟩ d_Tr_workerComesTo_7 ?_
  intro rv M1 ad1 H locs hP hM hE
  obtain ⟨e1, e2, e3⟩ := hP
  subst rv; subst M1; subst ad1
  show W _ _ _ _ _ _ _ _ _ _ _ _ _ _ _ (F0 m 10 ls [])
  exact m_vret X hr hlk hM d_Tr_workerComesTo_10 ⟨Nat.le_of_ble_eq_true rfl, Nat.le_of_ble_eq_true rfl⟩ (kp_ext (trA_kp _ _) ad) ⟨rfl, rfl, rfl⟩
set_option maxHeartbeats 4000000 in
set_option maxRecDepth 100000 in
theorem k_Tr_clientIsControlled (l : Launch) (D : va_G) (dA : Nat → ClassId) (base : Nat) (M : mM) (ad : Nat → Nat → Nat) (h3 : 0 < gn M 3) (x y : Int32) (hw : wK M) (ht : wT M) : mMet l y_Tr_clientIsControlled b_Tr_clientIsControlled 3 none ({ frames := 1, cells := 0, slots := 0, locals := 40 } : Room) 0 0 D dA base M ad [.ref (ad 3 0), .int x, .int y] (fun rv M' ad' => rv = none ∧ M' = trA M (-(64 * x + y) - 1) ∧ ad' = ad) := by
  refine m_start (lvs := [(0, .ref (ad 3 0)), (1, .int x), (2, .int y)]) (by decide) (Nat.le_of_ble_eq_true rfl) rfl ?_
  intro p e s m below meth c ls X hr hlk hin hml hM hl
  refine lv_aload_n X.1 X.2.1 d_Tr_clientIsControlled_0 rfl (lv_at hl 0 rfl) ?_
  refine lv_bipush (v := 64) X.1 X.2.1 d_Tr_clientIsControlled_1 (by decide) ?_
  refine lv_iload_n X.1 X.2.1 d_Tr_clientIsControlled_3 rfl (lv_at hl 1 rfl) ?_
  refine lv_imul X.1 X.2.1 d_Tr_clientIsControlled_4 ?_
  refine lv_iload_n X.1 X.2.1 d_Tr_clientIsControlled_5 rfl (lv_at hl 2 rfl) ?_
  refine lv_iadd X.1 X.2.1 d_Tr_clientIsControlled_6 ?_
  refine lv_ineg X.1 X.2.1 d_Tr_clientIsControlled_7 ?_
  refine lv_iconst (v := 1) X.1 X.2.1 d_Tr_clientIsControlled_8 (by decide) ?_
  refine lv_isub X.1 X.2.1 d_Tr_clientIsControlled_9 ?_
  refine r_cV (As := [.int ((-(((64) * (x)) + (y))) - (1))]) (rest := []) X hml hl.1 hM (k_Tr_append l D dA base M ad h3 (-(64 * x + y) - 1) hw ht) c_Tr_22 v_Tr_append kc_Tr rfl h3 rfl (Nat.le_of_ble_eq_true rfl) ⟨rfl, rfl, Nat.le_of_ble_eq_true rfl, Nat.le_of_ble_eq_true rfl⟩ ⟨Nat.le_of_ble_eq_true rfl, Nat.le_of_ble_eq_true rfl⟩ d_Tr_clientIsControlled_10 ?_
  intro rv M1 ad1 H locs hP hM hE
  obtain ⟨e1, e2, e3⟩ := hP
  subst rv; subst M1; subst ad1
  show W _ _ _ _ _ _ _ _ _ _ _ _ _ _ _ (F0 m 13 ls [])
  exact m_vret X hr hlk hM d_Tr_clientIsControlled_13 ⟨Nat.le_of_ble_eq_true rfl, Nat.le_of_ble_eq_true rfl⟩ (kp_ext (trA_kp _ _) ad) ⟨rfl, rfl, rfl⟩
set_option maxHeartbeats 4000000 in
set_option maxRecDepth 100000 in
theorem k_Tr_jobEnds (l : Launch) (D : va_G) (dA : Nat → ClassId) (base : Nat) (M : mM) (ad : Nat → Nat → Nat) (h3 : 0 < gn M 3) (x : Int32) (hw : wK M) (ht : wT M) : mMet l y_Tr_jobEnds b_Tr_jobEnds 2 none ({ frames := 1, cells := 0, slots := 0, locals := 40 } : Room) 0 0 D dA base M ad [.ref (ad 3 0), .int x] (fun rv M' ad' => rv = none ∧ M' = trA M (1000 + x) ∧ ad' = ad) := by
  refine m_start (lvs := [(0, .ref (ad 3 0)), (1, .int x)]) (by decide) (Nat.le_of_ble_eq_true rfl) rfl ?_
  intro p e s m below meth c ls X hr hlk hin hml hM hl
  refine lv_aload_n X.1 X.2.1 d_Tr_jobEnds_0 rfl (lv_at hl 0 rfl) ?_
  refine lv_sipush (v := 1000) X.1 X.2.1 d_Tr_jobEnds_1 (by decide) ?_
  refine lv_iload_n X.1 X.2.1 d_Tr_jobEnds_4 rfl (lv_at hl 1 rfl) ?_
  refine lv_iadd X.1 X.2.1 d_Tr_jobEnds_5 ?_
  refine r_cV (As := [.int ((1000) + (x))]) (rest := []) X hml hl.1 hM (k_Tr_append l D dA base M ad h3 (1000 + x) hw ht) c_Tr_22 v_Tr_append kc_Tr rfl h3 rfl (Nat.le_of_ble_eq_true rfl) ⟨rfl, rfl, Nat.le_of_ble_eq_true rfl, Nat.le_of_ble_eq_true rfl⟩ ⟨Nat.le_of_ble_eq_true rfl, Nat.le_of_ble_eq_true rfl⟩ d_Tr_jobEnds_6 ?_
  intro rv M1 ad1 H locs hP hM hE
  obtain ⟨e1, e2, e3⟩ := hP
  subst rv; subst M1; subst ad1
  show W _ _ _ _ _ _ _ _ _ _ _ _ _ _ _ (F0 m 9 ls [])
  exact m_vret X hr hlk hM d_Tr_jobEnds_9 ⟨Nat.le_of_ble_eq_true rfl, Nat.le_of_ble_eq_true rfl⟩ (kp_ext (trA_kp _ _) ad) ⟨rfl, rfl, rfl⟩
set_option maxHeartbeats 4000000 in
set_option maxRecDepth 100000 in
theorem k_K_bring_s (l : Launch) (D : va_G) (dA : Nat → ClassId) (base : Nat) (M : mM) (ad : Nat → Nat → Nat) (hw : wK M) (ht : wT M) (w : Nat) (hw7 : w < gn M 7) (x : Int32) : mMet l y_K_bring b_K_bring 3 none ({ frames := 3, cells := 0, slots := 0, locals := 80 } : Room) 0 0 D dA base M ad [.ref (ad 0 0), .ref (ad 7 w), .int x] (fun rv M' ad' => rv = none ∧ M' = brM M (some w) x ∧ ad' = ad) := by
  refine m_start (lvs := [(0, .ref (ad 0 0)), (1, .ref (ad 7 w)), (2, .int x)]) (by decide) (Nat.le_of_ble_eq_true rfl) rfl ?_
  intro p e s m below meth c ls X hr hlk hin hml hM hl
  refine lv_aload_n X.1 X.2.1 d_K_bring_0 rfl (lv_at hl 1 rfl) ?_
  refine lv_ifnull X.1 X.2.1 d_K_bring_1 ?_
  refine lv_aload_n X.1 X.2.1 d_K_bring_4 rfl (lv_at hl 1 rfl) ?_
  refine lv_iload_n X.1 X.2.1 d_K_bring_5 rfl (lv_at hl 2 rfl) ?_
  refine r_puti X hM rfl hw7 p_K_248 rfl rfl rfl d_K_bring_6 (fun H locs hM => ?_)
  have ht : wT (si M 7 w 5 x) := kt_w (M := M) rfl ht
  have hw : wK (si M 7 w 5 x) := kp_w (kp_si M 7 w 5 x (by omega)) hw
  refine lv_aload_n X.1 X.2.1 d_K_bring_9 rfl (lv_at hl 0 rfl) ?_
  refine r_gets (q := 0) X hM rfl (w_k hw) f_K_62 rfl (w_0_11 hw) d_K_bring_10 (fun hv1 => ?_)
  refine lv_aload_n X.1 X.2.1 d_K_bring_13 rfl (lv_at hl 1 rfl) ?_
  refine r_geti X hM rfl hw7 f_K_211 rfl d_K_bring_14 ?_
  refine lv_iload_n X.1 X.2.1 d_K_bring_17 rfl (lv_at hl 2 rfl) ?_
  refine r_cV (As := [.int (gi (si M 7 w 5 x) 7 w 0), .int x]) (rest := []) X hml hl.1 hM (k_Tr_workerComesTo l D dA base (si M 7 w 5 x) ad hv1 (gi (si M 7 w 5 x) 7 w 0) x hw ht) c_K_351 v_Tr_workerComesTo kc_Tr rfl hv1 rfl (Nat.le_of_ble_eq_true rfl) ⟨rfl, rfl, Nat.le_of_ble_eq_true rfl, Nat.le_of_ble_eq_true rfl⟩ ⟨Nat.le_of_ble_eq_true rfl, Nat.le_of_ble_eq_true rfl⟩ d_K_bring_18 ?_
  intro rv M1 ad1 H locs hP hM hE
  obtain ⟨e1, e2, e3⟩ := hP
  subst rv; subst M1; subst ad1
  have hM : mSt D dA base (brM M (some w) x) ad s.heap H locs := by rw [gi_si, if_neg (by omega)] at hM; exact hM
  show W _ _ _ _ _ _ _ _ _ _ _ _ _ _ _ (F0 m 21 ls [])
  exact m_vret X hr hlk hM d_K_bring_21 ⟨Nat.le_of_ble_eq_true rfl, Nat.le_of_ble_eq_true rfl⟩ (kp_ext (brM_kp M (some w) x) ad) ⟨rfl, rfl, rfl⟩
set_option maxHeartbeats 4000000 in
set_option maxRecDepth 100000 in
theorem k_K_bring_n (l : Launch) (D : va_G) (dA : Nat → ClassId) (base : Nat) (M : mM) (ad : Nat → Nat → Nat) (x : Int32) : mMet l y_K_bring b_K_bring 3 none ({ frames := 3, cells := 0, slots := 0, locals := 80 } : Room) 0 0 D dA base M ad [.ref (ad 0 0), .null, .int x] (fun rv M' ad' => rv = none ∧ M' = brM M none x ∧ ad' = ad) := by
  refine m_start (lvs := [(0, .ref (ad 0 0)), (1, .null), (2, .int x)]) (by decide) (Nat.le_of_ble_eq_true rfl) rfl ?_
  intro p e s m below meth c ls X hr hlk hin hml hM hl
  refine lv_aload_nN X.1 X.2.1 d_K_bring_0 rfl (lv_at hl 1 rfl) ?_
  refine lv_ifnullN (tgt := 21) X.1 X.2.1 d_K_bring_1 (by decide) ?_
  exact m_vret X hr hlk hM d_K_bring_21 ⟨Nat.le_of_ble_eq_true rfl, Nat.le_of_ble_eq_true rfl⟩ (mExt_rf _ _) ⟨rfl, rfl, rfl⟩
theorem k_K_bring (l : Launch) (D : va_G) (dA : Nat → ClassId) (base : Nat) (M : mM) (ad : Nat → Nat → Nat) (hw : wK M) (ht : wT M) (r : Option Nat) (hr0 : ∀ q, r = some q → q < gn M 7) (x : Int32) : mMet l y_K_bring b_K_bring 3 none ({ frames := 3, cells := 0, slots := 0, locals := 80 } : Room) 0 0 D dA base M ad [.ref (ad 0 0), rfv ad 7 r, .int x] (fun rv M' ad' => rv = none ∧ M' = brM M r x ∧ ad' = ad) := by
  cases r with
  | none => exact k_K_bring_n l D dA base M ad x
  | some w => exact k_K_bring_s l D dA base M ad hw ht w (hr0 w rfl) x
set_option maxHeartbeats 4000000 in
set_option maxRecDepth 100000 in
theorem k_K_control (l : Launch) (D : va_G) (dA : Nat → ClassId) (base : Nat) (M : mM) (ad : Nat → Nat → Nat) (hw : wK M) (ht : wT M) (i : Nat) (hi : i < 8) (r : Option Nat) (hr0 : ∀ q, r = some q → q < gn M 7) : mMet l y_K_control b_K_control 3 none ({ frames := 3, cells := 0, slots := 0, locals := 80 } : Room) 0 0 D dA base M ad [.ref (ad 0 0), .int (nI i), rfv ad 7 r] (fun rv M' ad' => rv = none ∧ M' = ctM M i r ∧ ad' = ad) := by
  refine m_start (lvs := [(0, .ref (ad 0 0)), (1, .int (nI i)), (2, rfv ad 7 (r))]) (by decide) (by cases r <;> exact Nat.le_of_ble_eq_true rfl) (by cases r <;> rfl) ?_
  intro p e s m below meth c ls X hr hlk hin hml hM hl
  refine lv_aload_n X.1 X.2.1 d_K_control_0 rfl (lv_at hl 0 rfl) ?_
  refine r_gets (q := 0) X hM rfl (w_k hw) f_K_43 rfl (w_0_7 hw) d_K_control_1 (fun hv1 => ?_)
  refine lv_iload_n X.1 X.2.1 d_K_control_4 rfl (lv_at hl 1 rfl) ?_
  refine r_aalds (q := i) X hM rfl hv1 a_clients (fun _ => rfl) (j := i) rfl hi (w_cl hw hi) d_K_control_5 (fun hv2 => ?_)
  refine r_aload_n X.1 X.2.1 d_K_control_6 rfl (lv_at hl 2 rfl) ?_
  refine r_putr X hM rfl hv2 p_K_173 rfl (x := r) hr0 rfl (rfv_nar _ _ _ _) (rfv_fit _ _ _ _) d_K_control_7 (fun H locs hM => ?_)
  have ht : wT (sr M 2 i 2 r) := kt_w (M := M) rfl ht
  have hw : wK (sr M 2 i 2 r) := kp_w (kp_sr M 2 i 2 r (by omega)) hw
  refine lv_aload_n X.1 X.2.1 d_K_control_10 rfl (lv_at hl 0 rfl) ?_
  refine r_gets (q := 0) X hM rfl (w_k hw) f_K_62 rfl (w_0_11 hw) d_K_control_11 (fun hv3 => ?_)
  refine lv_iload_n X.1 X.2.1 d_K_control_14 rfl (lv_at hl 1 rfl) ?_
  refine r_aload_n X.1 X.2.1 d_K_control_15 rfl (lv_at hl 2 rfl) ?_
  refine r_cS (As := [rfv ad 7 (r)]) (rest := [.int (nI i), .ref (ad 3 0)]) X hml hl.1 hM (k_K_numberOf l D dA base (sr M 2 i 2 r) ad r hr0) c_K_183 v_K_numberOf rfl (Nat.le_of_ble_eq_true rfl) ⟨rfl, rfl, Nat.le_of_ble_eq_true rfl, Nat.le_of_ble_eq_true rfl⟩ ⟨Nat.le_of_ble_eq_true rfl, Nat.le_of_ble_eq_true rfl⟩ d_K_control_16 ?_
  intro rv M1 ad1 H locs hP hM hE
  obtain ⟨e1, e2, e3⟩ := hP
  subst rv; subst M1; subst ad1
  show W _ _ _ _ _ _ _ _ _ _ _ _ _ _ _ (F0 m 19 ls [.int (num M r), .int (nI i), .ref (ad 3 0)])
  refine r_cV (As := [.int (nI i), .int (num M r)]) (rest := []) X hml hl.1 hM (k_Tr_clientIsControlled l D dA base (sr M 2 i 2 r) ad hv3 (nI i) (num M r) hw ht) c_K_354 v_Tr_clientIsControlled kc_Tr rfl hv3 rfl (Nat.le_of_ble_eq_true rfl) ⟨rfl, rfl, Nat.le_of_ble_eq_true rfl, Nat.le_of_ble_eq_true rfl⟩ ⟨Nat.le_of_ble_eq_true rfl, Nat.le_of_ble_eq_true rfl⟩ d_K_control_19 ?_
  intro rv M1 ad1 H locs hP hM hE
  obtain ⟨e1, e2, e3⟩ := hP
  subst rv; subst M1; subst ad1
  show W _ _ _ _ _ _ _ _ _ _ _ _ _ _ _ (F0 m 22 ls [])
  exact m_vret X hr hlk hM d_K_control_22 ⟨Nat.le_of_ble_eq_true rfl, Nat.le_of_ble_eq_true rfl⟩ (kp_ext (ctM_kp M i r) ad) ⟨rfl, rfl, rfl⟩
