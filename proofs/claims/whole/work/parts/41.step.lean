theorem fstR_lv {M : mM} {x : Int32} {j : Nat} (h : fstR M x = some j) : j < gn M 4 := by
  have := ff_lt h
  omega
theorem fl_lt {p : Nat → Bool} : ∀ {n q : Nat}, fl p n = some q → q < n ∧ p q = true := by
  intro n
  induction n with
  | zero => intro q h; cases h
  | succ n ih =>
    intro q h
    by_cases hp : p n = true
    · rw [fl_t hp] at h; cases h; exact ⟨Nat.lt_succ_self _, hp⟩
    · rw [fl_f hp] at h; have := ih h; exact ⟨by omega, this.2⟩
theorem lstR_lv {M : mM} {x : Int32} {j : Nat} (h : lstR M x = some j) : j < gn M 4 := (fl_lt h).1
def stR (M : mM) (x : Int32) (j : Nat) : Int32 × mM := if gi M 4 j 4 = 0 then bjM M j else fiM M x
theorem stR_all {M : mM} (hw : wK M) (ht : wT M) (ho : wO M) (x : Int32) {j : Nat} (hj : j < gn M 4) : wK (stR M x j).2 ∧ wT (stR M x j).2 ∧ wO (stR M x j).2 ∧ gn (stR M x j).2 4 = gn M 4 := by
  unfold stR
  split
  · exact bjM_all hw ht ho hj
  · exact ⟨fiM_w hw x, fiM_wT ht x, kq_o (fiM_kq M x) ho, fiM_gn M x 4⟩
def st1 (R : mM) (j : Nat) : mM := si R 4 j 4 1
def st2 (R : mM) (j : Nat) (y : Int32) : mM := si (st1 R j) 4 j 5 y
theorem st1_kp (R : mM) (j : Nat) : kp R (st1 R j) := kp_si _ _ _ _ _ (by omega)
theorem st2_kp (R : mM) (j : Nat) (y : Int32) : kp R (st2 R j y) := kp_tr (st1_kp R j) (kp_si _ _ _ _ _ (by omega))
def stE (R : mM) (j : Nat) (y : Int32) : mM := if y = 0 then st1 R j else trA (st2 R j y) (1000 + nI j)
theorem stE_kp (R : mM) (j : Nat) (y : Int32) : kp R (stE R j y) := by
  unfold stE
  split
  · exact st1_kp R j
  · exact kp_tr (st2_kp R j y) (trA_kp _ _)
theorem stE_wT {R : mM} (ht : wT R) (j : Nat) (y : Int32) : wT (stE R j y) := by
  unfold stE
  split
  · exact kt_w (M := R) (M' := st1 R j) rfl ht
  · exact trA_wT (kt_w (M := R) (M' := st2 R j y) rfl ht) _
def spM (M : mM) (x : Int32) (j : Nat) : mM := stE (stR M x j).2 j (stR M x j).1
theorem spM_all {M : mM} (hw : wK M) (ht : wT M) (ho : wO M) (x : Int32) {j : Nat} (hj : j < gn M 4) : wK (spM M x j) ∧ wT (spM M x j) ∧ wO (spM M x j) ∧ gn (spM M x j) 4 = gn M 4 := by
  obtain ⟨h1, h2, h3, h4⟩ := stR_all hw ht ho x hj
  exact ⟨kp_w (stE_kp _ _ _) h1, stE_wT h2 _ _, kq_o (kp_q (stE_kp _ _ _)) h3, ((stE_kp _ _ _).1 4).trans h4⟩
def spXc (M : mM) (x : Int32) : Nat := if isP x = false then 1 else if fstR M x = none then 2 else 0
/-- a job's own script -/
def own0 (kd s : Int32) : Int32 := if kd = 0 then s else 0
/-- the job that is there already -/
def jsm (M : mM) (kd x o : Int32) : Option Nat := match lstR M x with
  | none => none
  | some q => if gi M 4 q 4 = 0 ∧ gi M 4 q 1 = kd ∧ gi M 4 q 3 = o then some q else none
def jb0 (M : mM) (kd x o : Int32) : mM := jbI (sn M 4) (gn M 4) (gi M 0 0 10) kd x o
theorem jb0_gn (M : mM) (kd x o : Int32) (a : Nat) : gn (jb0 M kd x o) a = if a = 4 then gn M 4 + 1 else gn M a := rfl
theorem jb0_gi (M : mM) (kd x o : Int32) {k i j : Nat} (h : ¬ (k = 4 ∧ i = gn M 4)) : gi (jb0 M kd x o) k i j = gi M k i j := by
  unfold jb0 jbI
  simp only [gi_si, gi_sn]
  rw [if_neg (by omega), if_neg (by omega), if_neg (by omega), if_neg (by omega), if_neg (by omega), if_neg (by omega), if_neg (by omega)]
theorem jb0_gr (M : mM) (kd x o : Int32) {k i j : Nat} (h : ¬ (k = 4 ∧ i = gn M 4)) : gr (jb0 M kd x o) k i j = gr M k i j := by
  unfold jb0 jbI
  simp only [gr_si, gr_sn]
  rw [if_neg (by omega)]
theorem jb0_new (M : mM) (kd x o : Int32) : gi (jb0 M kd x o) 4 (gn M 4) 0 = gi M 0 0 10 ∧ gi (jb0 M kd x o) 4 (gn M 4) 1 = kd ∧ gi (jb0 M kd x o) 4 (gn M 4) 2 = x ∧ gi (jb0 M kd x o) 4 (gn M 4) 3 = o ∧ gi (jb0 M kd x o) 4 (gn M 4) 4 = 0 ∧ gi (jb0 M kd x o) 4 (gn M 4) 5 = 0 := by
  unfold jb0 jbI
  refine ⟨?_, ?_, ?_, ?_, ?_, ?_⟩ <;> simp [gi_si]
/-- a new job in its place -/
def jnM (M : mM) (kd x o : Int32) : mM := si (sr (jb0 M kd x o) 13 0 (gn M 4) (some (gn M 4))) 0 0 10 (nI (gn M 4 + 1))
theorem jnM_gn (M : mM) (kd x o : Int32) (a : Nat) : gn (jnM M kd x o) a = if a = 4 then gn M 4 + 1 else gn M a := rfl
theorem jnM_gi (M : mM) (kd x o : Int32) {k i j : Nat} (h : ¬ (k = 4 ∧ i = gn M 4)) (h2 : ¬ (k = 0 ∧ j = 10)) : gi (jnM M kd x o) k i j = gi M k i j := by
  unfold jnM
  rw [gi_si, if_neg (by omega), gi_sr]; exact jb0_gi M kd x o h
theorem jnM_gr (M : mM) (kd x o : Int32) {k i j : Nat} (h : ¬ (k = 4 ∧ i = gn M 4)) (h2 : ¬ (k = 13 ∧ j = gn M 4)) : gr (jnM M kd x o) k i j = gr M k i j := by
  unfold jnM
  rw [gr_si, gr_sr, if_neg (by omega)]; exact jb0_gr M kd x o h
theorem jnM_new {M : mM} (hw : wK M) (kd x o : Int32) : gi (jnM M kd x o) 4 (gn M 4) 0 = nI (gn M 4) ∧ gi (jnM M kd x o) 4 (gn M 4) 1 = kd ∧ gi (jnM M kd x o) 4 (gn M 4) 2 = x ∧ gi (jnM M kd x o) 4 (gn M 4) 3 = o ∧ gi (jnM M kd x o) 4 (gn M 4) 4 = 0 ∧ gi (jnM M kd x o) 4 (gn M 4) 5 = 0 ∧ gr (jnM M kd x o) 13 0 (gn M 4) = some (gn M 4) := by
  obtain ⟨h0, h1, h2, h3, h4, h5⟩ := jb0_new M kd x o
  have e : ∀ j, gi (jnM M kd x o) 4 (gn M 4) j = gi (jb0 M kd x o) 4 (gn M 4) j := fun j => by
    unfold jnM
    rw [gi_si, if_neg (by omega), gi_sr]
  refine ⟨by rw [e, h0]; exact w_nj hw, by rw [e, h1], by rw [e, h2], by rw [e, h3], by rw [e, h4], by rw [e, h5], ?_⟩
  unfold jnM
  rw [gr_si, gr_sr, if_pos ⟨rfl, rfl, rfl⟩]
theorem jnM_w {M : mM} (hw : wK M) (kd x o : Int32) (h60 : gn M 4 < 60) : wK (jnM M kd x o) := by
  have en : ∀ a, a ≠ 4 → gn (jnM M kd x o) a = gn M a := fun a ha => by rw [jnM_gn, if_neg ha]
  have e4 : gn (jnM M kd x o) 4 = gn M 4 + 1 := rfl
  have e6 : nRg (jnM M kd x o) = nRg M := by unfold nRg; rw [jnM_gi M kd x o (by omega) (by omega)]
  have er : ∀ i, rgx (jnM M kd x o) i = rgx M i := fun i => by unfold rgx; rw [jnM_gr M kd x o (by omega) (by omega)]
  have g : ∀ {k i j : Nat}, ¬ (k = 4 ∧ i = gn M 4) → ¬ (k = 0 ∧ j = 10) → gi (jnM M kd x o) k i j = gi M k i j := fun h h2 => jnM_gi M kd x o h h2
  have r : ∀ {k i j : Nat}, ¬ (k = 4 ∧ i = gn M 4) → ¬ (k = 13 ∧ j = gn M 4) → gr (jnM M kd x o) k i j = gr M k i j := fun h h2 => jnM_gr M kd x o h h2
  refine ⟨⟨by rw [en 0 (by omega)]; exact w_k hw, ?_, ?_, ?_, ?_, ?_, ?_, ?_, by rw [r (by omega) (by omega)]; exact w_3_0 hw⟩, fun i hi => by rw [r (by omega) (by omega)]; exact w_sc hw hi, fun i hi => by rw [r (by omega) (by omega)]; exact w_cl hw hi, ⟨?_, ?_, ?_⟩, ⟨?_, ?_, ?_⟩, ?_, ?_, ?_⟩
  · rw [r (by omega) (by omega)]; exact w_0_0 hw
  · rw [r (by omega) (by omega)]; exact w_0_3 hw
  · rw [r (by omega) (by omega)]; exact w_0_5 hw
  · rw [r (by omega) (by omega)]; exact w_0_7 hw
  · rw [r (by omega) (by omega)]; exact w_0_8 hw
  · rw [r (by omega) (by omega)]; exact w_0_9 hw
  · rw [r (by omega) (by omega)]; exact w_0_11 hw
  · rw [g (by omega) (by omega), en 7 (by omega)]; exact w_nw hw
  · rw [en 7 (by omega)]; exact w_nwl hw
  · intro i hi
    rw [en 7 (by omega)] at hi
    rw [r (k := 9) (by omega) (by omega), r (k := 7) (by omega) (by omega), r (k := 6) (by omega) (by omega), r (k := 6) (by omega) (by omega), g (k := 7) (by omega) (by omega)]
    exact ⟨w_wk hw hi, w_num hw hi, w_7_4 hw hi, w_6_0 hw hi, w_6_1 hw hi⟩
  · rw [e6, g (by omega) (by omega)]; exact w_nr hw
  · rw [e6]; exact w_nrl hw
  · intro i hi
    rw [e6] at hi
    rw [er, r (by omega) (by omega)]; exact w_rg hw hi
  · rw [e4]; rfl
  · rw [e4]; omega
  · intro i hi
    rw [e4] at hi
    by_cases h : i = gn M 4
    · subst h
      obtain ⟨n0, -, -, -, -, -, n6⟩ := jnM_new hw kd x o
      exact ⟨n6, n0⟩
    · rw [r (k := 13) (by omega) (by omega), g (k := 4) (by omega) (by omega)]
      exact ⟨w_jb hw (by omega), w_jn hw (by omega)⟩
theorem jnM_wT {M : mM} (ht : wT M) (kd x o : Int32) : wT (jnM M kd x o) := kt_w (M := M) (jnM_gi M kd x o (by omega) (by omega)) ht
theorem jnM_o {M : mM} (hw : wK M) (ho : wO M) (kd x : Int32) {k : Nat} (hk : k < 4) : wO (jnM M kd x (nI k)) := by
  refine ⟨ho.1, fun i hi => ?_, fun i hi => ?_, fun i hi => ?_, by rw [jnM_gi M kd x _ (by omega) (by omega)]; exact ho.2.2.2.2⟩
  · rw [jnM_gi M kd x _ (by omega) (by omega)]; exact ho.2.1 i hi
  · by_cases h : i = gn M 4
    · subst h; exact ⟨k, hk, (jnM_new hw kd x (nI k)).2.2.2.1⟩
    · rw [jnM_gn, if_pos rfl] at hi
      rw [jnM_gi M kd x _ (by omega) (by omega)]; exact ho.2.2.1 i (by omega)
  · rw [jnM_gi M kd x _ (by omega) (by omega)]; exact ho.2.2.2.1 i hi
def jbXc (M : mM) (kd x s : Int32) : Nat := if ¬ (0 ≤ kd ∧ kd ≤ 2) ∨ isP x = false ∨ (kd = 0 ∧ ¬ (0 ≤ s ∧ s < 4)) then 1 else if jsm M kd x (own0 kd s) ≠ none then 0 else if lenR M x < 4 ∧ gn M 4 < 60 then 0 else 2
def jbM (M : mM) (kd x s : Int32) : Int32 × mM := match jsm M kd x (own0 kd s) with
  | some q => (nI q, M)
  | none => (nI (gn M 4), jnM M kd x (own0 kd s))
theorem lt60 {M : mM} (hw : wK M) : gi M 0 0 10 < 60 ↔ gn M 4 < 60 := by
  have h := w_njl hw
  rw [w_nj hw]
  exact ⟨fun z => (nI_ltI (by omega) (by decide)).mp z, fun z => nI_lt z (by decide)⟩
theorem ltR4 {M : mM} (hw : wK M) (x : Int32) : 4 ≤ nI (lenR M x) ↔ ¬ lenR M x < 4 := by
  have h := w_njl hw
  have h2 : lenR M x ≤ gn M 4 := cn_le _ _
  exact ⟨fun z u => nI_ge u (by decide) z, fun z => nI_le (Nat.not_lt.mp z) (by omega)⟩
theorem gn_ext9 {M : mM} {x : Int32} {j : Nat} (h : stR M x j = fiM M x) {ad : Nat → Nat → Nat} : mExt M ad (stR M x j).2 ad := gn_ext (fun a => by rw [h]; exact fiM_gn M x a) ad
set_option maxHeartbeats 4000000 in
set_option maxRecDepth 100000 in
theorem k_K_step (l : Launch) (hst : l.stackTraces = false) (D : va_G) (dA : Nat → ClassId) (base : Nat) (M : mM) (ad : Nat → Nat → Nat) (hw : wK M) (ht : wT M) (ho : wO M) (x : Int32) : mMetX l y_K_step b_K_step 4 (some FieldType.int) ({ frames := 8, cells := 6, slots := 32, locals := 260 } : Room) 6 32 D dA base M ad [.ref (ad 0 0), .int x] (fun rv M' ad' => ∃ j, spXc M x = 0 ∧ fstR M x = some j ∧ rv = some (.int (nI j)) ∧ M' = spM M x j) (fun E => (spXc M x = 1 ∧ E = "java/lang/IllegalArgumentException") ∨ (spXc M x = 2 ∧ E = "java/util/NoSuchElementException")) := by
  refine m_startX (lvs := [(0, .ref (ad 0 0)), (1, .int x)]) (by decide) (Nat.le_of_ble_eq_true rfl) rfl ?_
  intro p e s m below meth c ls X hr hlk hin hml hM hl hno
  have hk0 : 0 < gn M 0 := w_k hw
  refine lv_iload_n X.1 X.2.1 d_K_step_0 rfl (lv_at hl 1 rfl) ?_
  refine r_cSX (As := [.int x]) (rest := []) X hml hl.1 hM (k_K_refuseNoPath l hst D dA base M ad x) c_K_98 cx_K_98 v_K_refuseNoPath rfl (Nat.le_of_ble_eq_true rfl) ⟨rfl, rfl, Nat.le_of_ble_eq_true rfl, Nat.le_of_ble_eq_true rfl⟩ ⟨Nat.le_of_ble_eq_true rfl, Nat.le_of_ble_eq_true rfl⟩ d_K_step_1 (fun E ce q H locs hPx hM hy1 hy2 hy3 => m_out hM hlk hno (Or.inl ⟨if_pos hPx.1, hPx.2⟩) hy1 hy2 hy3 ⟨Nat.le_of_ble_eq_true rfl, Nat.le_of_ble_eq_true rfl⟩) ?_
  intro rv M1 ad1 H locs hP hM hE
  obtain ⟨hp, e1, e2, e3⟩ := hP
  subst rv; subst M1; subst ad1
  show W _ _ _ _ _ _ _ _ _ _ _ _ _ _ _ (F0 m 4 ls [])
  refine lv_aload_n X.1 X.2.1 d_K_step_4 rfl (lv_at hl 0 rfl) ?_
  refine lv_iload_n X.1 X.2.1 d_K_step_5 rfl (lv_at hl 1 rfl) ?_
  refine r_cV (As := [.int x]) (rest := []) X hml hl.1 hM (k_K_firstOfRow l D dA base M ad hw x) c_K_132 v_K_firstOfRow kc_K rfl hk0 rfl (Nat.le_of_ble_eq_true rfl) ⟨rfl, rfl, Nat.le_of_ble_eq_true rfl, Nat.le_of_ble_eq_true rfl⟩ ⟨Nat.le_of_ble_eq_true rfl, Nat.le_of_ble_eq_true rfl⟩ d_K_step_6 ?_
  intro rv M1 ad1 H locs hP hM hE
  obtain ⟨e1, e2, e3⟩ := hP
  subst rv; subst M1; subst ad1
  show W _ _ _ _ _ _ _ _ _ _ _ _ _ _ _ (F0 m 9 ls [rfv ad 4 (fstR M x)])
  refine r_astore_n (lv' := [(2, rfv ad 4 (fstR M x)), (0, .ref (ad 0 0)), (1, .int x)]) X.1 X.2.1 d_K_step_9 rfl hl (by decide) rfl (fun ls hl => ?_)
  refine r_aload_n X.1 X.2.1 d_K_step_10 rfl (lv_at hl 0 rfl) ?_
  refine r_ifnonnull (tgt := 24) X.1 X.2.1 d_K_step_11 (by decide) (fun j h11 => ?_) (fun h11 => ?_)
  · skip
    rw [h11] at hl
    have hl : lv_has ls 4 [(2, .ref (ad 4 j)), (0, .ref (ad 0 0)), (1, .int x)] := hl
    have hX : spXc M x = 0 := by unfold spXc; rw [if_neg (by rw [hp]; exact (fun z => nomatch z)), if_neg (by rw [h11]; exact (fun z => nomatch z))]
    refine lv_aload_n X.1 X.2.1 d_K_step_24 rfl (lv_at hl 0 rfl) ?_
    refine r_geti X hM rfl ((fun q z => fstR_lv z) j h11) f_K_108 rfl d_K_step_25 ?_
    refine lv_if_eq (tgt := 39) X.1 X.2.1 d_K_step_28 (by decide) (fun h28 => ?_) (fun h28 => ?_)
    · skip
      refine lv_aload_n X.1 X.2.1 d_K_step_39 rfl (lv_at hl 1 rfl) ?_
      refine lv_aload_n X.1 X.2.1 d_K_step_40 rfl (lv_at hl 0 rfl) ?_
      refine r_cV (As := [.ref (ad 4 j)]) (rest := []) X hml hl.1 hM (k_K_beginJob l D dA base M ad hw ht ho j (fstR_lv h11)) c_K_143 v_K_beginJob kc_K rfl hk0 rfl (Nat.le_of_ble_eq_true rfl) ⟨rfl, rfl, Nat.le_of_ble_eq_true rfl, Nat.le_of_ble_eq_true rfl⟩ ⟨Nat.le_of_ble_eq_true rfl, Nat.le_of_ble_eq_true rfl⟩ d_K_step_41 ?_
      intro rv M1 ad_4 H locs hP hM hE_5
      obtain ⟨e1, e2⟩ := hP
      have hS : stR M x j = bjM M j := if_pos h28
      rw [← hS] at e1 e2
      subst rv; subst M1
      show W _ _ _ _ _ _ _ _ _ _ _ _ _ _ _ (F0 m 44 ls [.int ((stR M x j).1)])
      obtain ⟨hwR, htR, hoR, hnR⟩ := stR_all hw ht ho x (fstR_lv h11)
      have hjR : j < gn (stR M x j).2 4 := by rw [hnR]; exact fstR_lv h11
      have hkR : 0 < gn (stR M x j).2 0 := w_k hwR
      refine lv_istore_n (lv' := [(3, .int ((stR M x j).1)), (2, .ref (ad 4 j)), (0, .ref (ad 0 0)), (1, .int x)]) X.1 X.2.1 d_K_step_44 rfl hl (by decide) rfl (fun ls hl => ?_)
      refine lv_aload_n X.1 X.2.1 d_K_step_45 rfl (lv_at hl 1 rfl) ?_
      refine lv_iconst (v := 1) X.1 X.2.1 d_K_step_46 (by decide) ?_
      refine r_puti X hM (hE_5.1 4 j ((fun q z => fstR_lv z) j h11)) hjR p_K_108 rfl rfl rfl d_K_step_47 (fun H locs hM => ?_)
      refine lv_iload_n X.1 X.2.1 d_K_step_50 rfl (lv_at hl 0 rfl) ?_
      refine lv_if_eq (tgt := 70) X.1 X.2.1 d_K_step_51 (by decide) (fun h51 => ?_) (fun h51 => ?_)
      · skip
        refine lv_aload_n X.1 X.2.1 d_K_step_70 rfl (lv_at hl 1 rfl) ?_
        refine r_geti X hM (hE_5.1 4 j ((fun q z => fstR_lv z) j h11)) hjR f_K_117 rfl d_K_step_71 ?_
        refine vx_ret ?_
        exact m_iret X hr hlk hM d_K_step_74 ⟨Nat.le_of_ble_eq_true rfl, Nat.le_of_ble_eq_true rfl⟩ (mExt_tr (mExt_tr (mExt_rf _ _) hE_5) (kp_ext (st1_kp _ _) _)) ⟨j, hX, h11, congrArg (fun z => some (Value.int z)) (w_jn (kp_w (st1_kp (stR M x j).2 j) hwR) hjR), (if_pos h51).symm⟩
      · skip
        refine lv_aload_n X.1 X.2.1 d_K_step_54 rfl (lv_at hl 1 rfl) ?_
        refine lv_iload_n X.1 X.2.1 d_K_step_55 rfl (lv_at hl 0 rfl) ?_
        refine r_puti X hM (hE_5.1 4 j ((fun q z => fstR_lv z) j h11)) hjR p_K_147 rfl rfl rfl d_K_step_56 (fun H locs hM => ?_)
        have hw2 := kp_w (st2_kp (stR M x j).2 j (stR M x j).1) hwR
        have ht2 : wT (st2 (stR M x j).2 j (stR M x j).1) := kt_w (M := (stR M x j).2) rfl htR
        have hn2 : gi (st2 (stR M x j).2 j (stR M x j).1) 4 j 0 = nI j := w_jn hw2 hjR
        have hM : mSt D dA base (st2 (stR M x j).2 j (stR M x j).1) ad_4 s.heap H locs := hM
        refine lv_aload_n X.1 X.2.1 d_K_step_59 rfl (lv_at hl 2 rfl) ?_
        refine r_gets (q := 0) X hM (hE_5.1 0 0 hk0) hkR f_K_62 rfl (show gr (stR M x j).2 0 0 11 = some 0 from w_0_11 hwR) d_K_step_60 (fun hv6 => ?_)
        refine lv_aload_n X.1 X.2.1 d_K_step_63 rfl (lv_at hl 1 rfl) ?_
        refine r_geti X hM (hE_5.1 4 j ((fun q z => fstR_lv z) j h11)) hjR f_K_117 rfl d_K_step_64 ?_
        refine r_cV (As := [.int (gi (st2 (stR M x j).2 j (stR M x j).1) 4 j 0)]) (rest := []) X hml hl.1 hM (k_Tr_jobEnds l D dA base (st2 (stR M x j).2 j (stR M x j).1) ad_4 hv6 (gi (st2 (stR M x j).2 j (stR M x j).1) 4 j 0) hw2 ht2) c_K_150 v_Tr_jobEnds kc_Tr rfl hv6 rfl (Nat.le_of_ble_eq_true rfl) ⟨rfl, rfl, Nat.le_of_ble_eq_true rfl, Nat.le_of_ble_eq_true rfl⟩ ⟨Nat.le_of_ble_eq_true rfl, Nat.le_of_ble_eq_true rfl⟩ d_K_step_67 ?_
        intro rv M1 ad1 H locs hP hM hE
        obtain ⟨e1, e2, e3⟩ := hP
        subst rv; subst M1; subst ad1
        rw [hn2] at hM
        have hZ : spM M x j = trA (st2 (stR M x j).2 j (stR M x j).1) (1000 + nI j) := if_neg h51
        show W _ _ _ _ _ _ _ _ _ _ _ _ _ _ _ (F0 m 70 ls [])
        refine lv_aload_n X.1 X.2.1 d_K_step_70 rfl (lv_at hl 1 rfl) ?_
        refine r_geti X hM (hE_5.1 4 j ((fun q z => fstR_lv z) j h11)) (kp_lv (trA_kp (st2 (stR M x j).2 j (stR M x j).1) (1000 + nI j)) hjR) f_K_117 rfl d_K_step_71 ?_
        refine vx_ret ?_
        exact m_iret X hr hlk hM d_K_step_74 ⟨Nat.le_of_ble_eq_true rfl, Nat.le_of_ble_eq_true rfl⟩ (mExt_tr (mExt_tr (mExt_rf _ _) hE_5) (kp_ext (kp_tr (st2_kp _ _ _) (trA_kp (st2 (stR M x j).2 j (stR M x j).1) (1000 + nI j))) _)) ⟨j, hX, h11, congrArg (fun z => some (Value.int z)) (w_jn (kp_w (trA_kp _ _) hw2) (kp_lv (trA_kp (st2 (stR M x j).2 j (stR M x j).1) (1000 + nI j)) hjR)), hZ.symm⟩
    · skip
      refine lv_aload_n X.1 X.2.1 d_K_step_31 rfl (lv_at hl 1 rfl) ?_
      refine lv_iload_n X.1 X.2.1 d_K_step_32 rfl (lv_at hl 2 rfl) ?_
      refine r_cV (As := [.int x]) (rest := []) X hml hl.1 hM (k_K_finishInstall l D dA base M ad hw ht x) c_K_140 v_K_finishInstall kc_K rfl hk0 rfl (Nat.le_of_ble_eq_true rfl) ⟨rfl, rfl, Nat.le_of_ble_eq_true rfl, Nat.le_of_ble_eq_true rfl⟩ ⟨Nat.le_of_ble_eq_true rfl, Nat.le_of_ble_eq_true rfl⟩ d_K_step_33 ?_
      intro rv M1 ad1 H locs hP hM hE
      obtain ⟨e1, e2, e3⟩ := hP
      have hS : stR M x j = fiM M x := if_neg h28
      rw [← hS] at e1 e2
      subst rv; subst M1; subst ad1
      show W _ _ _ _ _ _ _ _ _ _ _ _ _ _ _ (F0 m 36 ls [.int ((stR M x j).1)])
      refine lv_goto (tgt := 44) X.1 X.2.1 d_K_step_36 (by decide) ?_
      obtain ⟨hwR, htR, hoR, hnR⟩ := stR_all hw ht ho x (fstR_lv h11)
      have hjR : j < gn (stR M x j).2 4 := by rw [hnR]; exact fstR_lv h11
      have hkR : 0 < gn (stR M x j).2 0 := w_k hwR
      refine lv_istore_n (lv' := [(3, .int ((stR M x j).1)), (2, .ref (ad 4 j)), (0, .ref (ad 0 0)), (1, .int x)]) X.1 X.2.1 d_K_step_44 rfl hl (by decide) rfl (fun ls hl => ?_)
      refine lv_aload_n X.1 X.2.1 d_K_step_45 rfl (lv_at hl 1 rfl) ?_
      refine lv_iconst (v := 1) X.1 X.2.1 d_K_step_46 (by decide) ?_
      refine r_puti X hM rfl hjR p_K_108 rfl rfl rfl d_K_step_47 (fun H locs hM => ?_)
      refine lv_iload_n X.1 X.2.1 d_K_step_50 rfl (lv_at hl 0 rfl) ?_
      refine lv_if_eq (tgt := 70) X.1 X.2.1 d_K_step_51 (by decide) (fun h51 => ?_) (fun h51 => ?_)
      · skip
        refine lv_aload_n X.1 X.2.1 d_K_step_70 rfl (lv_at hl 1 rfl) ?_
        refine r_geti X hM rfl hjR f_K_117 rfl d_K_step_71 ?_
        refine vx_ret ?_
        exact m_iret X hr hlk hM d_K_step_74 ⟨Nat.le_of_ble_eq_true rfl, Nat.le_of_ble_eq_true rfl⟩ (mExt_tr (gn_ext9 hS) (kp_ext (st1_kp _ _) _)) ⟨j, hX, h11, congrArg (fun z => some (Value.int z)) (w_jn (kp_w (st1_kp (stR M x j).2 j) hwR) hjR), (if_pos h51).symm⟩
      · skip
        refine lv_aload_n X.1 X.2.1 d_K_step_54 rfl (lv_at hl 1 rfl) ?_
        refine lv_iload_n X.1 X.2.1 d_K_step_55 rfl (lv_at hl 0 rfl) ?_
        refine r_puti X hM rfl hjR p_K_147 rfl rfl rfl d_K_step_56 (fun H locs hM => ?_)
        have hw2 := kp_w (st2_kp (stR M x j).2 j (stR M x j).1) hwR
        have ht2 : wT (st2 (stR M x j).2 j (stR M x j).1) := kt_w (M := (stR M x j).2) rfl htR
        have hn2 : gi (st2 (stR M x j).2 j (stR M x j).1) 4 j 0 = nI j := w_jn hw2 hjR
        have hM : mSt D dA base (st2 (stR M x j).2 j (stR M x j).1) ad s.heap H locs := hM
        refine lv_aload_n X.1 X.2.1 d_K_step_59 rfl (lv_at hl 2 rfl) ?_
        refine r_gets (q := 0) X hM rfl hkR f_K_62 rfl (show gr (stR M x j).2 0 0 11 = some 0 from w_0_11 hwR) d_K_step_60 (fun hv9 => ?_)
        refine lv_aload_n X.1 X.2.1 d_K_step_63 rfl (lv_at hl 1 rfl) ?_
        refine r_geti X hM rfl hjR f_K_117 rfl d_K_step_64 ?_
        refine r_cV (As := [.int (gi (st2 (stR M x j).2 j (stR M x j).1) 4 j 0)]) (rest := []) X hml hl.1 hM (k_Tr_jobEnds l D dA base (st2 (stR M x j).2 j (stR M x j).1) ad hv9 (gi (st2 (stR M x j).2 j (stR M x j).1) 4 j 0) hw2 ht2) c_K_150 v_Tr_jobEnds kc_Tr rfl hv9 rfl (Nat.le_of_ble_eq_true rfl) ⟨rfl, rfl, Nat.le_of_ble_eq_true rfl, Nat.le_of_ble_eq_true rfl⟩ ⟨Nat.le_of_ble_eq_true rfl, Nat.le_of_ble_eq_true rfl⟩ d_K_step_67 ?_
        intro rv M1 ad1 H locs hP hM hE
        obtain ⟨e1, e2, e3⟩ := hP
        subst rv; subst M1; subst ad1
        rw [hn2] at hM
        have hZ : spM M x j = trA (st2 (stR M x j).2 j (stR M x j).1) (1000 + nI j) := if_neg h51
        show W _ _ _ _ _ _ _ _ _ _ _ _ _ _ _ (F0 m 70 ls [])
        refine lv_aload_n X.1 X.2.1 d_K_step_70 rfl (lv_at hl 1 rfl) ?_
        refine r_geti X hM rfl (kp_lv (trA_kp (st2 (stR M x j).2 j (stR M x j).1) (1000 + nI j)) hjR) f_K_117 rfl d_K_step_71 ?_
        refine vx_ret ?_
        exact m_iret X hr hlk hM d_K_step_74 ⟨Nat.le_of_ble_eq_true rfl, Nat.le_of_ble_eq_true rfl⟩ (mExt_tr (gn_ext9 hS) (kp_ext (kp_tr (st2_kp _ _ _) (trA_kp (st2 (stR M x j).2 j (stR M x j).1) (1000 + nI j))) _)) ⟨j, hX, h11, congrArg (fun z => some (Value.int z)) (w_jn (kp_w (trA_kp _ _) hw2) (kp_lv (trA_kp (st2 (stR M x j).2 j (stR M x j).1) (1000 + nI j)) hjR)), hZ.symm⟩
  · skip
    rw [h11] at hl
    have hl : lv_has ls 4 [(2, .null), (0, .ref (ad 0 0)), (1, .int x)] := hl
    exact r_throwN X hst hml hl.1 hM hlk hno t_K_135_137_139 d_K_step_14 d_K_step_17 d_K_step_18 d_K_step_20 d_K_step_23 ⟨Nat.le_of_ble_eq_true rfl, Nat.le_of_ble_eq_true rfl, Nat.le_of_ble_eq_true rfl, Nat.le_of_ble_eq_true rfl⟩ ⟨Nat.le_of_ble_eq_true rfl, Nat.le_of_ble_eq_true rfl⟩ (Or.inr ⟨by unfold spXc; rw [if_neg (by rw [hp]; exact (fun z => nomatch z)), if_pos h11], rfl⟩)
