theorem w_upC {p : Program} {l : Launch} {e : Env} {R : Room} {s : State} {m : MethodId} {args : Array Value} {below : List Frame} {meth : Method} {c : Code} {Q : State → Prop} (N : Nat) (F : Array Slot → JFrame) (Inv : Nat → Heap → List Loc → Array Slot → Prop) (C S d : Nat)
    (hz : ∀ H L ls ce sl, Inv N H L ls → ce ≤ C + N → sl ≤ S + d * N → W p l e R s m args below meth c H L ce sl Q (F ls)) (hs : ∀ i, i < N → (∀ H L ls ce sl, Inv (i + 1) H L ls → ce ≤ C + (i + 1) → sl ≤ S + d * (i + 1) → W p l e R s m args below meth c H L ce sl Q (F ls)) → ∀ H L ls ce sl, Inv i H L ls → ce ≤ C + i → sl ≤ S + d * i → W p l e R s m args below meth c H L ce sl Q (F ls)) :
    ∀ H L ls ce sl, Inv 0 H L ls → ce ≤ C → sl ≤ S → W p l e R s m args below meth c H L ce sl Q (F ls) := by
  have key : ∀ n i H L ls ce sl, i + n = N → Inv i H L ls → ce ≤ C + i → sl ≤ S + d * i → W p l e R s m args below meth c H L ce sl Q (F ls) := by
    intro n
    induction n with
    | zero =>
      intro i H L ls ce sl h hI
      have : i = N := by omega
      subst this
      exact hz H L ls ce sl hI
    | succ n ih =>
      intro i H L ls ce sl h hI
      exact hs i (by omega) (fun H L ls ce sl h2 => ih (i + 1) H L ls ce sl (by omega) h2) H L ls ce sl hI
  intro H L ls ce sl hI h1 h2
  exact key N 0 H L ls ce sl (by omega) hI h1 (by omega)
/-- the scripts are made, the first i; the clients -/
def scL (A : mM) : Nat → mM
  | 0 => A
  | i + 1 => sr (scI (sn (scL A i) 1) i) 8 0 i (some i)
def ccL (A : mM) : Nat → mM
  | 0 => A
  | i + 1 => sr (clI (sn (ccL A i) 2) i) 11 0 i (some i)
theorem scL_gn (A : mM) (i a : Nat) : gn (scL A i) a = if a = 1 then gn A 1 + i else gn A a := by
  induction i with
  | zero => show gn A a = _; split <;> simp_all
  | succ i ih =>
    show gn (sn (scL A i) 1) a = _
    rw [gn_sn]
    by_cases h : a = 1
    · subst h; rw [if_pos rfl, if_pos rfl, ih, if_pos rfl]; omega
    · rw [if_neg h, if_neg h, ih, if_neg h]
theorem scL_gi (A : mM) (i : Nat) {k u v : Nat} (h : k ≠ 1) : gi (scL A i) k u v = gi A k u v := by
  induction i with
  | zero => rfl
  | succ i ih =>
    show gi (scI (sn (scL A i) 1) i) k u v = _
    unfold scI
    simp only [gi_si, gi_sn]
    rw [if_neg (by omega), if_neg (by omega), if_neg (by omega), if_neg (by omega), if_neg (by omega)]; exact ih
theorem scL_gr (A : mM) (i : Nat) {k u v : Nat} (h : k ≠ 1) (h8 : k ≠ 8) : gr (scL A i) k u v = gr A k u v := by
  induction i with
  | zero => rfl
  | succ i ih =>
    show gr (sr (scI (sn (scL A i) 1) i) 8 0 i (some i)) k u v = _
    rw [gr_sr, if_neg (by omega)]
    show gr (sn (scL A i) 1) k u v = _
    rw [gr_sn, if_neg (by omega)]; exact ih
theorem scL_8 (A : mM) (i : Nat) {j : Nat} (h : j < i) : gr (scL A i) 8 0 j = some j := by
  induction i with
  | zero => omega
  | succ i ih =>
    show gr (sr (scI (sn (scL A i) 1) i) 8 0 i (some i)) 8 0 j = _
    rw [gr_sr]
    by_cases h2 : j = i
    · subst h2; rw [if_pos ⟨rfl, rfl, rfl⟩]
    · rw [if_neg (by omega)]
      show gr (sn (scL A i) 1) 8 0 j = _
      rw [gr_sn, if_neg (by omega)]; exact ih (by omega)
theorem scL_1 {A : mM} (hA : gn A 1 = 0) (i : Nat) {j v : Nat} (h : j < i) (hv : v < 4) : gi (scL A i) 1 j v = 0 := by
  induction i with
  | zero => omega
  | succ i ih =>
    show gi (scI (sn (scL A i) 1) i) 1 j v = _
    unfold scI
    simp only [gi_si, gi_sn]
    by_cases h2 : j = i
    · subst h2
      have : v = 0 ∨ v = 1 ∨ v = 2 ∨ v = 3 := by omega
      rcases this with rfl | rfl | rfl | rfl <;> simp
    · rw [if_neg (by omega), if_neg (by omega), if_neg (by omega), if_neg (by omega), if_neg (by rw [scL_gn, if_pos rfl]; omega)]; exact ih (by omega)
theorem ccL_gn (A : mM) (i a : Nat) : gn (ccL A i) a = if a = 2 then gn A 2 + i else gn A a := by
  induction i with
  | zero => show gn A a = _; split <;> simp_all
  | succ i ih =>
    show gn (sn (ccL A i) 2) a = _
    rw [gn_sn]
    by_cases h : a = 2
    · subst h; rw [if_pos rfl, if_pos rfl, ih, if_pos rfl]; omega
    · rw [if_neg h, if_neg h, ih, if_neg h]
theorem ccL_gi (A : mM) (i : Nat) {k u v : Nat} (h : k ≠ 2) : gi (ccL A i) k u v = gi A k u v := by
  induction i with
  | zero => rfl
  | succ i ih =>
    show gi (clI (sn (ccL A i) 2) i) k u v = _
    unfold clI
    simp only [gi_si, gi_sr, gi_sn]
    rw [if_neg (by omega), if_neg (by omega), if_neg (by omega)]; exact ih
theorem ccL_gr (A : mM) (i : Nat) {k u v : Nat} (h : k ≠ 2) (h8 : k ≠ 11) : gr (ccL A i) k u v = gr A k u v := by
  induction i with
  | zero => rfl
  | succ i ih =>
    show gr (sr (clI (sn (ccL A i) 2) i) 11 0 i (some i)) k u v = _
    rw [gr_sr, if_neg (by omega)]
    unfold clI
    simp only [gr_si, gr_sr, gr_sn]
    rw [if_neg (by omega), if_neg (by omega)]; exact ih
theorem ccL_11 (A : mM) (i : Nat) {j : Nat} (h : j < i) : gr (ccL A i) 11 0 j = some j := by
  induction i with
  | zero => omega
  | succ i ih =>
    show gr (sr (clI (sn (ccL A i) 2) i) 11 0 i (some i)) 11 0 j = _
    rw [gr_sr]
    by_cases h2 : j = i
    · subst h2; rw [if_pos ⟨rfl, rfl, rfl⟩]
    · rw [if_neg (by omega)]
      unfold clI
      simp only [gr_si, gr_sr, gr_sn]
      rw [if_neg (by omega), if_neg (by omega)]; exact ih (by omega)
theorem ccL_2 {A : mM} (hA : gn A 2 = 0) (i : Nat) {j : Nat} (h : j < i) : gi (ccL A i) 2 j 0 = 0 ∧ gi (ccL A i) 2 j 1 = 0 ∧ gr (ccL A i) 2 j 2 = none := by
  induction i with
  | zero => omega
  | succ i ih =>
    show gi (clI (sn (ccL A i) 2) i) 2 j 0 = 0 ∧ gi (clI (sn (ccL A i) 2) i) 2 j 1 = 0 ∧ gr (sr (clI (sn (ccL A i) 2) i) 11 0 i (some i)) 2 j 2 = none
    rw [gr_sr, if_neg (by omega)]
    unfold clI
    simp only [gi_si, gi_sr, gi_sn, gr_si, gr_sr, gr_sn]
    by_cases h2 : j = i
    · subst h2; simp
    · have ih := ih (by omega)
      have hg : gn (ccL A i) 2 = i := by rw [ccL_gn, if_pos rfl, hA]; omega
      simp only [hg, h2, false_and, and_false, if_false]
      exact ih
theorem ao_8 : Cond.arrayOver (.object "ScopeKeeper$Script") ∈ gw := gwm (lt1 27 rfl) rfl
theorem ao_9 : Cond.arrayOver (.object "ScopeKeeper$Worker") ∈ gw := gwm (lt1 29 rfl) rfl
theorem ao_10 : Cond.arrayOver (.object "ScopeKeeper$Registration") ∈ gw := gwm (lt1 31 rfl) rfl
theorem ao_11 : Cond.arrayOver (.object "ScopeKeeper$Client") ∈ gw := gwm (lt1 33 rfl) rfl
theorem ao_13 : Cond.arrayOver (.object "ScopeKeeper$Job") ∈ gw := gwm (lt1 35 rfl) rfl
theorem al_9 : Cond.classLink "ScopeKeeper" 9 "ScopeKeeper$Script" ∈ gw := gwm (lt1 26 rfl) rfl
theorem al_23 : Cond.classLink "ScopeKeeper" 23 "ScopeKeeper$Worker" ∈ gw := gwm (lt1 28 rfl) rfl
theorem al_32 : Cond.classLink "ScopeKeeper" 32 "ScopeKeeper$Registration" ∈ gw := gwm (lt1 30 rfl) rfl
theorem al_41 : Cond.classLink "ScopeKeeper" 41 "ScopeKeeper$Client" ∈ gw := gwm (lt1 32 rfl) rfl
theorem al_50 : Cond.classLink "ScopeKeeper" 50 "ScopeKeeper$Job" ∈ gw := gwm (lt1 34 rfl) rfl
def trI (M : mM) (g : Nat) : mM := si (si (sr (sn M 14) 3 g 0 (some (gn M 14))) 3 g 1 0) 3 g 2 0
set_option maxHeartbeats 4000000 in
set_option maxRecDepth 100000 in
theorem k_Tr_init (l : Launch) (D : va_G) (dA : Nat → ClassId) (base : Nat) (M : mM) (ad : Nat → Nat → Nat) (g : Nat) (hg : g < gn M 3) : mMet l y_Tr_init b_Tr_init 1 none ({ frames := 1, cells := 1, slots := 60, locals := 12 } : Room) 1 60 D dA base M ad [.ref (ad 3 g)] (fun rv M' ad' => rv = none ∧ M' = trI M g) := by
  refine m_start (lvs := [(0, .ref (ad 3 g))]) (by decide) (Nat.le_of_ble_eq_true rfl) rfl ?_
  intro p e s m below meth c ls X hr hlk hin hml hM hl
  refine lv_aload_n X.1 X.2.1 d_Tr_init_0 rfl (lv_at hl 0 rfl) ?_
  refine W.objInit X.1 X.2.1 X.2.2.1 (X.2.2.2.1 _ oi_Tr) (X.2.2.2.1 _ oi_inst) (X.2.2.2.1 _ oi_code) rfl (by rw [hml]; exact hl.1) rfl d_Tr_init_1 (Nat.le_of_ble_eq_true rfl) (Nat.le_of_ble_eq_true rfl) ?_
  refine W.eq (g2 := F0 m 4 ls []) rfl ?_
  refine lv_aload_n X.1 X.2.1 d_Tr_init_4 rfl (lv_at hl 0 rfl) ?_
  refine lv_bipush (v := 60) X.1 X.2.1 d_Tr_init_5 (by decide) ?_
  refine r_newi (k := 14) X hM a_numbers (fun _ => rfl) gw_int rfl (by decide) (Nat.le_of_ble_eq_true rfl) (Nat.le_of_ble_eq_true rfl) d_Tr_init_7 (fun q1 H q1ad hq1M hq1E hq1q => ?_)
  have hM := hq1M
  have hnq1 : gn M 14 < gn (sn M 14) 14 := sn_live _ _
  refine r_putfr X hin hM (hq1E 3 g hg) (sn_up hg) p_Tr_9 rfl (x := (some (gn M 14))) (fun z hz => by cases hz; exact hnq1) (congrArg Value.ref hq1q) rfl rfl d_Tr_init_9 (fun H locs hM => ?_)
  refine lv_aload_n X.1 X.2.1 d_Tr_init_12 rfl (lv_at hl 0 rfl) ?_
  refine lv_iconst (v := 0) X.1 X.2.1 d_Tr_init_13 (by decide) ?_
  refine r_puti X hM (hq1E 3 g hg) (sn_up hg) p_Tr_15 rfl rfl rfl d_Tr_init_14 (fun H locs hM => ?_)
  refine lv_aload_n X.1 X.2.1 d_Tr_init_17 rfl (lv_at hl 0 rfl) ?_
  refine lv_iconst (v := 0) X.1 X.2.1 d_Tr_init_18 (by decide) ?_
  refine r_puti X hM (hq1E 3 g hg) (sn_up hg) p_Tr_19 rfl rfl rfl d_Tr_init_19 (fun H locs hM => ?_)
  exact m_vret X hr hlk hM d_Tr_init_22 ⟨Nat.le_of_ble_eq_true rfl, Nat.le_of_ble_eq_true rfl⟩ (mExt_tr (mExt_rf _ _) (mExt_new hq1E)) ⟨rfl, rfl⟩
def kiA (M : mM) : mM := sr (trI (sn (si (sr (sn (sr (sn (sr (sn (si (sr (sn (si (sr (sn (si (si (sr (sn M 8) 0 0 0 (some 0)) 0 0 1 1) 0 0 2 0) 9) 0 0 3 (some 0)) 0 0 4 0) 10) 0 0 5 (some 0)) 0 0 6 0) 11) 0 0 7 (some 0)) 12) 0 0 8 (some 0)) 13) 0 0 9 (some 0)) 0 0 10 0) 3) 0) 0 0 11 (some 0)
theorem kiA_r {M : mM} (hz : ∀ k, 1 ≤ k → k ≤ 16 → gn M k = 0) : gr (kiA M) 0 0 0 = some 0 ∧ gr (kiA M) 0 0 3 = some 0 ∧ gr (kiA M) 0 0 5 = some 0 ∧ gr (kiA M) 0 0 7 = some 0 ∧ gr (kiA M) 0 0 8 = some 0 ∧ gr (kiA M) 0 0 9 = some 0 ∧ gr (kiA M) 0 0 11 = some 0 ∧ gr (kiA M) 3 0 0 = some 0 := by
  have h14 := hz 14 (by decide) (by decide)
  unfold kiA trI
  refine ⟨?_, ?_, ?_, ?_, ?_, ?_, ?_, ?_⟩ <;> simp [gr_si, gr_sr, gr_sn, gn_si, gn_sr, gn_sn, h14]
theorem kiA_n {M : mM} (h0 : gn M 0 = 1) (hz : ∀ k, 1 ≤ k → k ≤ 16 → gn M k = 0) : gn (kiA M) 0 = 1 ∧ gn (kiA M) 1 = 0 ∧ gn (kiA M) 2 = 0 ∧ gn (kiA M) 4 = 0 ∧ gn (kiA M) 5 = 0 ∧ gn (kiA M) 6 = 0 ∧ gn (kiA M) 7 = 0 ∧ gn (kiA M) 15 = 0 ∧ gn (kiA M) 16 = 0 := by
  unfold kiA trI
  simp only [gn_si, gn_sr, gn_sn]
  refine ⟨by simp [h0], by simp [hz 1 (by decide) (by decide)], by simp [hz 2 (by decide) (by decide)], by simp [hz 4 (by decide) (by decide)], by simp [hz 5 (by decide) (by decide)], by simp [hz 6 (by decide) (by decide)], by simp [hz 7 (by decide) (by decide)], by simp [hz 15 (by decide) (by decide)], by simp [hz 16 (by decide) (by decide)]⟩
theorem kiA_i (M : mM) : gi (kiA M) 0 0 1 = 1 ∧ gi (kiA M) 0 0 2 = 0 ∧ gi (kiA M) 0 0 4 = 0 ∧ gi (kiA M) 0 0 6 = 0 ∧ gi (kiA M) 0 0 10 = 0 ∧ gi (kiA M) 3 0 1 = 0 ∧ gi (kiA M) 3 0 2 = 0 := by
  unfold kiA trI
  refine ⟨?_, ?_, ?_, ?_, ?_, ?_, ?_⟩ <;> simp [gi_si, gi_sr, gi_sn]
/-- a new object's memory -/
def kiM (M : mM) : mM := ccL (scL (kiA M) 4) 8
set_option maxHeartbeats 4000000 in
set_option maxRecDepth 100000 in
theorem k_K_init (l : Launch) (D : va_G) (dA : Nat → ClassId) (base : Nat) (M : mM) (ad : Nat → Nat → Nat) (h0 : gn M 0 = 1) (hz : ∀ k, 1 ≤ k → k ≤ 16 → gn M k = 0) : mMet l y_K_init b_K_init 2 none ({ frames := 3, cells := 24, slots := 260, locals := 60 } : Room) 24 260 D dA base M ad [.ref (ad 0 0)] (fun rv M' ad' => rv = none ∧ M' = kiM M) := by
  refine m_start (lvs := [(0, .ref (ad 0 0))]) (by decide) (Nat.le_of_ble_eq_true rfl) rfl ?_
  intro p e s m below meth c ls X hr hlk hin hml hM hl
  have h00 : 0 < gn M 0 := by rw [h0]; exact Nat.one_pos
  refine lv_aload_n X.1 X.2.1 d_K_init_0 rfl (lv_at hl 0 rfl) ?_
  refine W.objInit X.1 X.2.1 X.2.2.1 (X.2.2.2.1 _ oi_K) (X.2.2.2.1 _ oi_inst) (X.2.2.2.1 _ oi_code) rfl (by rw [hml]; exact hl.1) rfl d_K_init_1 (Nat.le_of_ble_eq_true rfl) (Nat.le_of_ble_eq_true rfl) ?_
  refine W.eq (g2 := F0 m 4 ls []) rfl ?_
  refine lv_aload_n X.1 X.2.1 d_K_init_4 rfl (lv_at hl 0 rfl) ?_
  refine lv_iconst (v := 4) X.1 X.2.1 d_K_init_5 (by decide) ?_
  refine r_newq (k := 8) (u := 1) X hM a_scripts (fun _ => rfl) (ao_8) (al_9) rfl (by decide) (Nat.le_of_ble_eq_true rfl) (Nat.le_of_ble_eq_true rfl) d_K_init_6 (fun q1 H q1ad hq1M hq1E hq1q => ?_)
  have hM := hq1M
  have hnq1 : gn M 8 < gn (sn M 8) 8 := sn_live _ _
  have hmq1 : gn M 8 = 0 := hz 8 (by decide) (by decide)
  rw [hmq1] at hq1q hnq1
  refine r_putfr X hin hM (hq1E 0 0 h00) (sn_up h00) p_K_11 rfl (x := (some 0)) (fun z hz => by cases hz; exact hnq1) (congrArg Value.ref hq1q) rfl rfl d_K_init_9 (fun H locs hM => ?_)
  refine lv_aload_n X.1 X.2.1 d_K_init_12 rfl (lv_at hl 0 rfl) ?_
  refine lv_iconst (v := 1) X.1 X.2.1 d_K_init_13 (by decide) ?_
  refine r_puti X hM (hq1E 0 0 h00) (sn_up h00) p_K_15 rfl rfl (by decide) d_K_init_14 (fun H locs hM => ?_)
  refine lv_aload_n X.1 X.2.1 d_K_init_17 rfl (lv_at hl 0 rfl) ?_
  refine lv_iconst (v := 0) X.1 X.2.1 d_K_init_18 (by decide) ?_
  refine r_puti X hM (hq1E 0 0 h00) (sn_up h00) p_K_19 rfl rfl rfl d_K_init_19 (fun H locs hM => ?_)
  refine lv_aload_n X.1 X.2.1 d_K_init_22 rfl (lv_at hl 0 rfl) ?_
  refine lv_bipush (v := 40) X.1 X.2.1 d_K_init_23 (by decide) ?_
  refine r_newq (k := 9) (u := 7) X hM a_workers (fun _ => rfl) (ao_9) (al_23) rfl (by decide) (Nat.le_of_ble_eq_true rfl) (Nat.le_of_ble_eq_true rfl) d_K_init_25 (fun q2 H q2ad hq2M hq2E hq2q => ?_)
  have hM := hq2M
  have hnq2 : gn (si (si (sr (sn M 8) 0 0 0 (some 0)) 0 0 1 1) 0 0 2 0) 9 < gn (sn (si (si (sr (sn M 8) 0 0 0 (some 0)) 0 0 1 1) 0 0 2 0) 9) 9 := sn_live _ _
  have hmq2 : gn (si (si (sr (sn M 8) 0 0 0 (some 0)) 0 0 1 1) 0 0 2 0) 9 = 0 := hz 9 (by decide) (by decide)
  rw [hmq2] at hq2q hnq2
  refine r_putfr X hin hM ((hq2E 0 0 (sn_up h00)).trans (hq1E 0 0 h00)) (sn_up (sn_up h00)) p_K_25 rfl (x := (some 0)) (fun z hz => by cases hz; exact hnq2) (congrArg Value.ref hq2q) rfl rfl d_K_init_28 (fun H locs hM => ?_)
  refine lv_aload_n X.1 X.2.1 d_K_init_31 rfl (lv_at hl 0 rfl) ?_
  refine lv_iconst (v := 0) X.1 X.2.1 d_K_init_32 (by decide) ?_
  refine r_puti X hM ((hq2E 0 0 (sn_up h00)).trans (hq1E 0 0 h00)) (sn_up (sn_up h00)) p_K_29 rfl rfl rfl d_K_init_33 (fun H locs hM => ?_)
  refine lv_aload_n X.1 X.2.1 d_K_init_36 rfl (lv_at hl 0 rfl) ?_
  refine lv_iconst (v := 5) X.1 X.2.1 d_K_init_37 (by decide) ?_
  refine r_newq (k := 10) (u := 5) X hM a_regs (fun _ => rfl) (ao_10) (al_32) rfl (by decide) (Nat.le_of_ble_eq_true rfl) (Nat.le_of_ble_eq_true rfl) d_K_init_38 (fun q3 H q3ad hq3M hq3E hq3q => ?_)
  have hM := hq3M
  have hnq3 : gn (si (sr (sn (si (si (sr (sn M 8) 0 0 0 (some 0)) 0 0 1 1) 0 0 2 0) 9) 0 0 3 (some 0)) 0 0 4 0) 10 < gn (sn (si (sr (sn (si (si (sr (sn M 8) 0 0 0 (some 0)) 0 0 1 1) 0 0 2 0) 9) 0 0 3 (some 0)) 0 0 4 0) 10) 10 := sn_live _ _
  have hmq3 : gn (si (sr (sn (si (si (sr (sn M 8) 0 0 0 (some 0)) 0 0 1 1) 0 0 2 0) 9) 0 0 3 (some 0)) 0 0 4 0) 10 = 0 := hz 10 (by decide) (by decide)
  rw [hmq3] at hq3q hnq3
  refine r_putfr X hin hM ((hq3E 0 0 (sn_up (sn_up h00))).trans ((hq2E 0 0 (sn_up h00)).trans (hq1E 0 0 h00))) (sn_up (sn_up (sn_up h00))) p_K_34 rfl (x := (some 0)) (fun z hz => by cases hz; exact hnq3) (congrArg Value.ref hq3q) rfl rfl d_K_init_41 (fun H locs hM => ?_)
  refine lv_aload_n X.1 X.2.1 d_K_init_44 rfl (lv_at hl 0 rfl) ?_
  refine lv_iconst (v := 0) X.1 X.2.1 d_K_init_45 (by decide) ?_
  refine r_puti X hM ((hq3E 0 0 (sn_up (sn_up h00))).trans ((hq2E 0 0 (sn_up h00)).trans (hq1E 0 0 h00))) (sn_up (sn_up (sn_up h00))) p_K_38 rfl rfl rfl d_K_init_46 (fun H locs hM => ?_)
  refine lv_aload_n X.1 X.2.1 d_K_init_49 rfl (lv_at hl 0 rfl) ?_
  refine lv_bipush (v := 8) X.1 X.2.1 d_K_init_50 (by decide) ?_
  refine r_newq (k := 11) (u := 2) X hM a_clients (fun _ => rfl) (ao_11) (al_41) rfl (by decide) (Nat.le_of_ble_eq_true rfl) (Nat.le_of_ble_eq_true rfl) d_K_init_52 (fun q4 H q4ad hq4M hq4E hq4q => ?_)
  have hM := hq4M
  have hnq4 : gn (si (sr (sn (si (sr (sn (si (si (sr (sn M 8) 0 0 0 (some 0)) 0 0 1 1) 0 0 2 0) 9) 0 0 3 (some 0)) 0 0 4 0) 10) 0 0 5 (some 0)) 0 0 6 0) 11 < gn (sn (si (sr (sn (si (sr (sn (si (si (sr (sn M 8) 0 0 0 (some 0)) 0 0 1 1) 0 0 2 0) 9) 0 0 3 (some 0)) 0 0 4 0) 10) 0 0 5 (some 0)) 0 0 6 0) 11) 11 := sn_live _ _
  have hmq4 : gn (si (sr (sn (si (sr (sn (si (si (sr (sn M 8) 0 0 0 (some 0)) 0 0 1 1) 0 0 2 0) 9) 0 0 3 (some 0)) 0 0 4 0) 10) 0 0 5 (some 0)) 0 0 6 0) 11 = 0 := hz 11 (by decide) (by decide)
  rw [hmq4] at hq4q hnq4
  refine r_putfr X hin hM ((hq4E 0 0 (sn_up (sn_up (sn_up h00)))).trans ((hq3E 0 0 (sn_up (sn_up h00))).trans ((hq2E 0 0 (sn_up h00)).trans (hq1E 0 0 h00)))) (sn_up (sn_up (sn_up (sn_up h00)))) p_K_43 rfl (x := (some 0)) (fun z hz => by cases hz; exact hnq4) (congrArg Value.ref hq4q) rfl rfl d_K_init_55 (fun H locs hM => ?_)
  refine lv_aload_n X.1 X.2.1 d_K_init_58 rfl (lv_at hl 0 rfl) ?_
  refine lv_bipush (v := 8) X.1 X.2.1 d_K_init_59 (by decide) ?_
  refine r_newq (k := 12) (u := 7) X hM a_from (fun _ => rfl) (ao_9) (al_23) rfl (by decide) (Nat.le_of_ble_eq_true rfl) (Nat.le_of_ble_eq_true rfl) d_K_init_61 (fun q5 H q5ad hq5M hq5E hq5q => ?_)
  have hM := hq5M
  have hnq5 : gn (sr (sn (si (sr (sn (si (sr (sn (si (si (sr (sn M 8) 0 0 0 (some 0)) 0 0 1 1) 0 0 2 0) 9) 0 0 3 (some 0)) 0 0 4 0) 10) 0 0 5 (some 0)) 0 0 6 0) 11) 0 0 7 (some 0)) 12 < gn (sn (sr (sn (si (sr (sn (si (sr (sn (si (si (sr (sn M 8) 0 0 0 (some 0)) 0 0 1 1) 0 0 2 0) 9) 0 0 3 (some 0)) 0 0 4 0) 10) 0 0 5 (some 0)) 0 0 6 0) 11) 0 0 7 (some 0)) 12) 12 := sn_live _ _
  have hmq5 : gn (sr (sn (si (sr (sn (si (sr (sn (si (si (sr (sn M 8) 0 0 0 (some 0)) 0 0 1 1) 0 0 2 0) 9) 0 0 3 (some 0)) 0 0 4 0) 10) 0 0 5 (some 0)) 0 0 6 0) 11) 0 0 7 (some 0)) 12 = 0 := hz 12 (by decide) (by decide)
  rw [hmq5] at hq5q hnq5
  refine r_putfr X hin hM ((hq5E 0 0 (sn_up (sn_up (sn_up (sn_up h00))))).trans ((hq4E 0 0 (sn_up (sn_up (sn_up h00)))).trans ((hq3E 0 0 (sn_up (sn_up h00))).trans ((hq2E 0 0 (sn_up h00)).trans (hq1E 0 0 h00))))) (sn_up (sn_up (sn_up (sn_up (sn_up h00))))) p_K_47 rfl (x := (some 0)) (fun z hz => by cases hz; exact hnq5) (congrArg Value.ref hq5q) rfl rfl d_K_init_64 (fun H locs hM => ?_)
  refine lv_aload_n X.1 X.2.1 d_K_init_67 rfl (lv_at hl 0 rfl) ?_
  refine lv_bipush (v := 60) X.1 X.2.1 d_K_init_68 (by decide) ?_
  refine r_newq (k := 13) (u := 4) X hM a_jobs (fun _ => rfl) (ao_13) (al_50) rfl (by decide) (Nat.le_of_ble_eq_true rfl) (Nat.le_of_ble_eq_true rfl) d_K_init_70 (fun q6 H q6ad hq6M hq6E hq6q => ?_)
  have hM := hq6M
  have hnq6 : gn (sr (sn (sr (sn (si (sr (sn (si (sr (sn (si (si (sr (sn M 8) 0 0 0 (some 0)) 0 0 1 1) 0 0 2 0) 9) 0 0 3 (some 0)) 0 0 4 0) 10) 0 0 5 (some 0)) 0 0 6 0) 11) 0 0 7 (some 0)) 12) 0 0 8 (some 0)) 13 < gn (sn (sr (sn (sr (sn (si (sr (sn (si (sr (sn (si (si (sr (sn M 8) 0 0 0 (some 0)) 0 0 1 1) 0 0 2 0) 9) 0 0 3 (some 0)) 0 0 4 0) 10) 0 0 5 (some 0)) 0 0 6 0) 11) 0 0 7 (some 0)) 12) 0 0 8 (some 0)) 13) 13 := sn_live _ _
  have hmq6 : gn (sr (sn (sr (sn (si (sr (sn (si (sr (sn (si (si (sr (sn M 8) 0 0 0 (some 0)) 0 0 1 1) 0 0 2 0) 9) 0 0 3 (some 0)) 0 0 4 0) 10) 0 0 5 (some 0)) 0 0 6 0) 11) 0 0 7 (some 0)) 12) 0 0 8 (some 0)) 13 = 0 := hz 13 (by decide) (by decide)
  rw [hmq6] at hq6q hnq6
  refine r_putfr X hin hM ((hq6E 0 0 (sn_up (sn_up (sn_up (sn_up (sn_up h00)))))).trans ((hq5E 0 0 (sn_up (sn_up (sn_up (sn_up h00))))).trans ((hq4E 0 0 (sn_up (sn_up (sn_up h00)))).trans ((hq3E 0 0 (sn_up (sn_up h00))).trans ((hq2E 0 0 (sn_up h00)).trans (hq1E 0 0 h00)))))) (sn_up (sn_up (sn_up (sn_up (sn_up (sn_up h00)))))) p_K_52 rfl (x := (some 0)) (fun z hz => by cases hz; exact hnq6) (congrArg Value.ref hq6q) rfl rfl d_K_init_73 (fun H locs hM => ?_)
  refine lv_aload_n X.1 X.2.1 d_K_init_76 rfl (lv_at hl 0 rfl) ?_
  refine lv_iconst (v := 0) X.1 X.2.1 d_K_init_77 (by decide) ?_
  refine r_puti X hM ((hq6E 0 0 (sn_up (sn_up (sn_up (sn_up (sn_up h00)))))).trans ((hq5E 0 0 (sn_up (sn_up (sn_up (sn_up h00))))).trans ((hq4E 0 0 (sn_up (sn_up (sn_up h00)))).trans ((hq3E 0 0 (sn_up (sn_up h00))).trans ((hq2E 0 0 (sn_up h00)).trans (hq1E 0 0 h00)))))) (sn_up (sn_up (sn_up (sn_up (sn_up (sn_up h00)))))) p_K_56 rfl rfl rfl d_K_init_78 (fun H locs hM => ?_)
  refine lv_aload_n X.1 X.2.1 d_K_init_81 rfl (lv_at hl 0 rfl) ?_
  refine r_new (k := 3) X hM n_K_59 (Nat.le_of_ble_eq_true rfl) (Nat.le_of_ble_eq_true rfl) d_K_init_82 (fun q7 H q7ad hq7M hq7E hq7q => ?_)
  have hM := hq7M
  have hnq7 : gn (si (sr (sn (sr (sn (sr (sn (si (sr (sn (si (sr (sn (si (si (sr (sn M 8) 0 0 0 (some 0)) 0 0 1 1) 0 0 2 0) 9) 0 0 3 (some 0)) 0 0 4 0) 10) 0 0 5 (some 0)) 0 0 6 0) 11) 0 0 7 (some 0)) 12) 0 0 8 (some 0)) 13) 0 0 9 (some 0)) 0 0 10 0) 3 < gn (sn (si (sr (sn (sr (sn (sr (sn (si (sr (sn (si (sr (sn (si (si (sr (sn M 8) 0 0 0 (some 0)) 0 0 1 1) 0 0 2 0) 9) 0 0 3 (some 0)) 0 0 4 0) 10) 0 0 5 (some 0)) 0 0 6 0) 11) 0 0 7 (some 0)) 12) 0 0 8 (some 0)) 13) 0 0 9 (some 0)) 0 0 10 0) 3) 3 := sn_live _ _
  have hmq7 : gn (si (sr (sn (sr (sn (sr (sn (si (sr (sn (si (sr (sn (si (si (sr (sn M 8) 0 0 0 (some 0)) 0 0 1 1) 0 0 2 0) 9) 0 0 3 (some 0)) 0 0 4 0) 10) 0 0 5 (some 0)) 0 0 6 0) 11) 0 0 7 (some 0)) 12) 0 0 8 (some 0)) 13) 0 0 9 (some 0)) 0 0 10 0) 3 = 0 := hz 3 (by decide) (by decide)
  rw [hmq7] at hq7q hnq7
  refine lv_dup X.1 X.2.1 d_K_init_85 rfl ?_
  have hC9 := (k_Tr_init l D dA base (sn (si (sr (sn (sr (sn (sr (sn (si (sr (sn (si (sr (sn (si (si (sr (sn M 8) 0 0 0 (some 0)) 0 0 1 1) 0 0 2 0) 9) 0 0 3 (some 0)) 0 0 4 0) 10) 0 0 5 (some 0)) 0 0 6 0) 11) 0 0 7 (some 0)) 12) 0 0 8 (some 0)) 13) 0 0 9 (some 0)) 0 0 10 0) 3) q7ad 0 hnq7)
  rw [hq7q] at hC9
  refine r_cI (As := []) (rest := [.ref q7, .ref (ad 0 0)]) X hml hl.1 hM hC9 c_K_61 v_Tr_init rfl (Nat.le_of_ble_eq_true rfl) ⟨rfl, rfl, Nat.le_of_ble_eq_true rfl, Nat.le_of_ble_eq_true rfl⟩ ⟨Nat.le_of_ble_eq_true rfl, Nat.le_of_ble_eq_true rfl⟩ d_K_init_86 ?_
  intro rv M1 ad_9 H locs hP hM hE_10
  obtain ⟨e1, e2⟩ := hP
  subst rv; subst M1
  show W _ _ _ _ _ _ _ _ _ _ _ _ _ _ _ (F0 m 89 ls [.ref q7, .ref (ad 0 0)])
  refine r_putfr X hin hM ((hE_10.1 0 0 (sn_up (sn_up (sn_up (sn_up (sn_up (sn_up (sn_up h00)))))))).trans ((hq7E 0 0 (sn_up (sn_up (sn_up (sn_up (sn_up (sn_up h00))))))).trans ((hq6E 0 0 (sn_up (sn_up (sn_up (sn_up (sn_up h00)))))).trans ((hq5E 0 0 (sn_up (sn_up (sn_up (sn_up h00))))).trans ((hq4E 0 0 (sn_up (sn_up (sn_up h00)))).trans ((hq3E 0 0 (sn_up (sn_up h00))).trans ((hq2E 0 0 (sn_up h00)).trans (hq1E 0 0 h00)))))))) (Nat.lt_of_lt_of_le (sn_up (sn_up (sn_up (sn_up (sn_up (sn_up (sn_up h00))))))) (hE_10.2 _)) p_K_62 rfl (x := (some 0)) (fun z hz => by cases hz; exact (Nat.lt_of_lt_of_le hnq7 (hE_10.2 _))) (congrArg Value.ref ((hE_10.1 3 0 hnq7).trans hq7q)) rfl rfl d_K_init_89 (fun H locs hM => ?_)
  refine lv_iconst (v := 0) X.1 X.2.1 d_K_init_92 (by decide) ?_
  refine lv_istore_n (lv' := [(1, .int 0), (0, .ref (ad 0 0))]) X.1 X.2.1 d_K_init_93 rfl hl (by decide) rfl (fun ls hl => ?_)
  have hM : mSt D dA base (kiA M) ad_9 s.heap H locs := hM
  refine w_upC 4 (fun ls => F0 m 94 ls []) (fun i H L ls => ∃ ad2, mSt D dA base (scL (kiA M) i) ad2 s.heap H L ∧ mExt M ad (scL (kiA M) i) ad2 ∧ lv_has ls 2 [(1, .int (nI i)), (0, .ref (ad 0 0))]) 9 190 4 ?_ ?_ _ _ ls _ _ ⟨_, hM, (mExt_tr (mExt_tr (mExt_tr (mExt_tr (mExt_tr (mExt_tr (mExt_tr (mExt_tr (mExt_rf _ _) (mExt_new hq1E)) (mExt_new hq2E)) (mExt_new hq3E)) (mExt_new hq4E)) (mExt_new hq5E)) (mExt_new hq6E)) (mExt_new hq7E)) hE_10), lv_sub hl [0, 1] rfl⟩ (Nat.le_of_ble_eq_true rfl) (Nat.le_of_ble_eq_true rfl)
  · rintro H locs ls ce sl ⟨ad2, hM, hE0, hl⟩ hce hsl
    have hth : ad2 0 0 = ad 0 0 := hE0.1 0 0 h00
    have hkI := Nat.lt_of_lt_of_le h00 (hE0.2 0)
    refine lv_iload_n X.1 X.2.1 d_K_init_94 rfl (lv_at hl 0 rfl) ?_
    refine lv_iconst (v := 4) X.1 X.2.1 d_K_init_95 (by decide) ?_
    refine lv_icmp_ge (tgt := 118) X.1 X.2.1 d_K_init_96 (by decide) (fun hz61 => ?_) (fun hz61 => absurd (by decide) hz61)
    refine lv_iconst (v := 0) X.1 X.2.1 d_K_init_118 (by decide) ?_
    refine lv_istore_n (lv' := [(1, .int 0), (0, .ref (ad 0 0))]) X.1 X.2.1 d_K_init_119 rfl hl (by decide) rfl (fun ls hl => ?_)
    refine w_upC 8 (fun ls => F0 m 120 ls []) (fun i H L ls => ∃ ad2, mSt D dA base (ccL (scL (kiA M) 4) i) ad2 s.heap H L ∧ mExt M ad (ccL (scL (kiA M) 4) i) ad2 ∧ lv_has ls 2 [(1, .int (nI i)), (0, .ref (ad 0 0))]) 13 206 3 ?_ ?_ _ _ ls _ _ ⟨_, hM, hE0, lv_sub hl [0, 1] rfl⟩ (by omega) (by omega)
    · rintro H locs ls ce sl ⟨ad2, hM, hE0, hl⟩ hce hsl
      have hth : ad2 0 0 = ad 0 0 := hE0.1 0 0 h00
      have hkI := Nat.lt_of_lt_of_le h00 (hE0.2 0)
      refine lv_iload_n X.1 X.2.1 d_K_init_120 rfl (lv_at hl 0 rfl) ?_
      refine lv_bipush (v := 8) X.1 X.2.1 d_K_init_121 (by decide) ?_
      refine lv_icmp_ge (tgt := 145) X.1 X.2.1 d_K_init_123 (by decide) (fun hz112 => ?_) (fun hz112 => absurd (by decide) hz112)
      exact m_vret X hr hlk hM d_K_init_145 ⟨(by (try dsimp only); omega), (by (try dsimp only); omega)⟩ hE0 ⟨rfl, rfl⟩
    · rintro i hi ih H locs ls ce sl ⟨ad2, hM, hE0, hl⟩ hce hsl
      have hth : ad2 0 0 = ad 0 0 := hE0.1 0 0 h00
      have hkI := Nat.lt_of_lt_of_le h00 (hE0.2 0)
      refine lv_iload_n X.1 X.2.1 d_K_init_120 rfl (lv_at hl 0 rfl) ?_
      refine lv_bipush (v := 8) X.1 X.2.1 d_K_init_121 (by decide) ?_
      refine lv_icmp_ge (tgt := 145) X.1 X.2.1 d_K_init_123 (by decide) (fun hz112 => absurd hz112 (show ¬ (8 : Int32) ≤ nI i from nI_ge hi (by decide))) (fun hz112 => ?_)
      refine lv_aload_n X.1 X.2.1 d_K_init_126 rfl (lv_at hl 1 rfl) ?_
      refine r_gets (q := 0) X hM hth hkI f_K_43 rfl (show gr (ccL (scL (kiA M) 4) i) 0 0 7 = some 0 by rw [ccL_gr _ _ (by decide) (by decide), scL_gr _ _ (by decide) (by decide)]; exact (kiA_r hz).2.2.2.1) d_K_init_127 (fun hv113 => ?_)
      refine lv_iload_n X.1 X.2.1 d_K_init_130 rfl (lv_at hl 0 rfl) ?_
      refine r_new (k := 2) X hM n_K_41 (by (try dsimp only); omega) (by (try dsimp only); omega) d_K_init_131 (fun q114 H q114ad hq114M hq114E hq114q => ?_)
      have hM := hq114M
      have hnq114 : gn (ccL (scL (kiA M) 4) i) 2 < gn (sn (ccL (scL (kiA M) 4) i) 2) 2 := sn_live _ _
      have hmq114 : gn (ccL (scL (kiA M) 4) i) 2 = i := (by rw [ccL_gn, if_pos rfl, scL_gn, if_neg (by decide), (kiA_n h0 hz).2.2.1]; omega)
      rw [hmq114] at hq114q hnq114
      refine lv_dup X.1 X.2.1 d_K_init_134 rfl ?_
      have hC9 := (k_Cl_init l D dA base (sn (ccL (scL (kiA M) 4) i) 2) q114ad i hnq114)
      rw [hq114q] at hC9
      refine r_cI (As := []) (rest := [.ref q114, .int (nI i), .ref (ad2 11 0)]) X hml hl.1 hM hC9 c_K_67 v_Cl_init rfl (Nat.le_of_ble_eq_true rfl) ⟨rfl, rfl, Nat.le_of_ble_eq_true rfl, Nat.le_of_ble_eq_true rfl⟩ ⟨(by (try dsimp only); omega), (by (try dsimp only); omega)⟩ d_K_init_135 ?_
      intro rv M1 ad1 H locs hP hM hE
      obtain ⟨e1, e2, e3⟩ := hP
      subst rv; subst M1; subst ad1
      show W _ _ _ _ _ _ _ _ _ _ _ _ _ _ _ (F0 m 138 ls [.ref q114, .int (nI i), .ref (ad2 11 0)])
      refine r_aast X hM (hq114E 11 0 hv113) (sn_up hv113) a_clients (fun _ => rfl) rfl rfl hq114q hnq114 (j := i) rfl (by omega) d_K_init_138 (fun H locs hM => ?_)
      obtain ⟨xi, e_xi⟩ : ∃ z : Int32, z = (nI i) + 1 := ⟨_, rfl⟩
      refine lv_iinc (v := xi) (lv' := [(1, .int xi), (0, .ref (ad 0 0))]) X.1 X.2.1 d_K_init_139 hl (k := 0) rfl (by rw [e_xi]; rfl) (by decide) rfl (fun ls hl => ?_)
      refine lv_goto (tgt := 120) X.1 X.2.1 d_K_init_142 (by decide) ?_
      have e9 := e_xi.trans (nI_1 i)
      subst e9
      exact ih _ _ ls _ _ ⟨_, hM, (mExt_tr hE0 (mExt_tr (mExt_rf _ _) (mExt_new hq114E))), lv_sub hl [0, 1] rfl⟩ (by omega) (by omega)
  · rintro i hi ih H locs ls ce sl ⟨ad2, hM, hE0, hl⟩ hce hsl
    have hth : ad2 0 0 = ad 0 0 := hE0.1 0 0 h00
    have hkI := Nat.lt_of_lt_of_le h00 (hE0.2 0)
    refine lv_iload_n X.1 X.2.1 d_K_init_94 rfl (lv_at hl 0 rfl) ?_
    refine lv_iconst (v := 4) X.1 X.2.1 d_K_init_95 (by decide) ?_
    refine lv_icmp_ge (tgt := 118) X.1 X.2.1 d_K_init_96 (by decide) (fun hz61 => absurd hz61 (show ¬ (4 : Int32) ≤ nI i from nI_ge hi (by decide))) (fun hz61 => ?_)
    refine lv_aload_n X.1 X.2.1 d_K_init_99 rfl (lv_at hl 1 rfl) ?_
    refine r_gets (q := 0) X hM hth hkI f_K_11 rfl (show gr (scL (kiA M) i) 0 0 0 = some 0 from by by_cases h9 : i = i; rw [scL_gr _ _ (by decide) (by decide)]; exact (kiA_r hz).1; exact absurd rfl h9) d_K_init_100 (fun hv62 => ?_)
    refine lv_iload_n X.1 X.2.1 d_K_init_103 rfl (lv_at hl 0 rfl) ?_
    refine r_new (k := 1) X hM n_K_9 (by (try dsimp only); omega) (by (try dsimp only); omega) d_K_init_104 (fun q63 H q63ad hq63M hq63E hq63q => ?_)
    have hM := hq63M
    have hnq63 : gn (scL (kiA M) i) 1 < gn (sn (scL (kiA M) i) 1) 1 := sn_live _ _
    have hmq63 : gn (scL (kiA M) i) 1 = i := (by rw [scL_gn, if_pos rfl, (kiA_n h0 hz).2.1]; omega)
    rw [hmq63] at hq63q hnq63
    refine lv_dup X.1 X.2.1 d_K_init_107 rfl ?_
    have hC9 := (k_Sc_init l D dA base (sn (scL (kiA M) i) 1) q63ad i hnq63)
    rw [hq63q] at hC9
    refine r_cI (As := []) (rest := [.ref q63, .int (nI i), .ref (ad2 8 0)]) X hml hl.1 hM hC9 c_K_66 v_Sc_init rfl (Nat.le_of_ble_eq_true rfl) ⟨rfl, rfl, Nat.le_of_ble_eq_true rfl, Nat.le_of_ble_eq_true rfl⟩ ⟨(by (try dsimp only); omega), (by (try dsimp only); omega)⟩ d_K_init_108 ?_
    intro rv M1 ad1 H locs hP hM hE
    obtain ⟨e1, e2, e3⟩ := hP
    subst rv; subst M1; subst ad1
    show W _ _ _ _ _ _ _ _ _ _ _ _ _ _ _ (F0 m 111 ls [.ref q63, .int (nI i), .ref (ad2 8 0)])
    refine r_aast X hM (hq63E 8 0 hv62) (sn_up hv62) a_scripts (fun _ => rfl) rfl rfl hq63q hnq63 (j := i) rfl (by omega) d_K_init_111 (fun H locs hM => ?_)
    obtain ⟨xi, e_xi⟩ : ∃ z : Int32, z = (nI i) + 1 := ⟨_, rfl⟩
    refine lv_iinc (v := xi) (lv' := [(1, .int xi), (0, .ref (ad 0 0))]) X.1 X.2.1 d_K_init_112 hl (k := 0) rfl (by rw [e_xi]; rfl) (by decide) rfl (fun ls hl => ?_)
    refine lv_goto (tgt := 94) X.1 X.2.1 d_K_init_115 (by decide) ?_
    have e9 := e_xi.trans (nI_1 i)
    subst e9
    exact ih _ _ ls _ _ ⟨_, hM, (mExt_tr hE0 (mExt_tr (mExt_rf _ _) (mExt_new hq63E))), lv_sub hl [0, 1] rfl⟩ (by omega) (by omega)
