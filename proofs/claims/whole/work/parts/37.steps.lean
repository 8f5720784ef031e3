theorem num_eq {M M' : mM} (hw : wK M) (hw' : wK M') (hn : gn M' 7 = gn M 7) {r : Option Nat} (hr0 : ∀ q, r = some q → q < gn M 7) : num M' r = num M r := by
  cases r with
  | none => rfl
  | some q =>
    have h := hr0 q rfl
    exact (w_num hw' (by rw [hn]; exact h)).trans (w_num hw h).symm
def cl0 (M : mM) (j : Nat) : mM := sr (si M 2 j 0 0) 2 j 2 none
theorem cl0_kp (M : mM) (j : Nat) : kp M (cl0 M j) := kp_tr (kp_si _ _ _ _ _ (by omega)) (kp_sr _ _ _ _ _ (by omega))
theorem cl0_wT {M : mM} (ht : wT M) (j : Nat) : wT (cl0 M j) := kt_w (M := M) rfl ht
def clM (M : mM) (j : Nat) : mM := stM (cl0 M j) (gr M 2 j 2)
theorem clM_w {M : mM} (hw : wK M) (j : Nat) : wK (clM M j) := stM_w (kp_w (cl0_kp M j) hw) _
theorem clM_wT {M : mM} (ht : wT M) (j : Nat) : wT (clM M j) := stM_wT (cl0_wT ht j) _
theorem clM_kq (M : mM) (j : Nat) : kq M (clM M j) := kq_tr (kp_q (cl0_kp M j)) (stM_kq _ _)
theorem clM_gn (M : mM) (j a : Nat) : gn (clM M j) a = gn M a := stM_gn _ _ _
/-- who skips -/
def skW (M : mM) (g : Nat) : Option Nat := match gr M 5 g 3 with
  | some n => some n
  | none => gr M 5 g 2
def skM (M : mM) (g w : Nat) : mM := taM (si M 7 w 6 1) g
theorem skM_kp (M : mM) (g w : Nat) : kp M (skM M g w) := kp_tr (kp_si _ _ _ _ _ (by omega)) (taM_kp _ _)
theorem skM_wT {M : mM} (ht : wT M) (g w : Nat) : wT (skM M g w) := taM_wT (kt_w (M := M) (M' := si M 7 w 6 1) rfl ht) _
/-- what skip or claim throw -/
def ndXc (M : mM) (x : Int32) (f : Nat → Option Nat) : Nat := if isP x = false then 1 else match rgOf M x with
  | none => 2
  | some g => if f g = none then 3 else 0
theorem ndXc_1 {M : mM} {x : Int32} {f : Nat → Option Nat} (h : isP x = false) : ndXc M x f = 1 := if_pos h
theorem ndXc_2 {M : mM} {x : Int32} {f : Nat → Option Nat} (h : isP x = true) (h2 : rgOf M x = none) : ndXc M x f = 2 := by
  unfold ndXc; rw [if_neg (by rw [h]; exact (fun z => nomatch z)), h2]
theorem ndXc_3 {M : mM} {x : Int32} {f : Nat → Option Nat} {g : Nat} (h : isP x = true) (h2 : rgOf M x = some g) (h3 : f g = none) : ndXc M x f = 3 := by
  unfold ndXc; rw [if_neg (by rw [h]; exact (fun z => nomatch z)), h2]; exact if_pos h3
theorem ndXc_0 {M : mM} {x : Int32} {f : Nat → Option Nat} {g : Nat} (h : isP x = true) (h2 : rgOf M x = some g) (h3 : f g ≠ none) : ndXc M x f = 0 := by
  unfold ndXc; rw [if_neg (by rw [h]; exact (fun z => nomatch z)), h2]; exact if_neg h3
def unM (M : mM) (x : Int32) : Int32 × mM := match rgOf M x with
  | none => (-2, M)
  | some g => if gi M 5 g 5 = 0 then (1, tcM (si M 5 g 5 1) g) else (-2, M)
def fi0 (M : mM) (g : Nat) : mM := sr M 5 g 2 none
theorem fi0_kp (M : mM) (g : Nat) : kp M (fi0 M g) := kp_sr _ _ _ _ _ (by omega)
theorem fi0_wT {M : mM} (ht : wT M) (g : Nat) : wT (fi0 M g) := kt_w (M := M) rfl ht
def fiA (M : mM) (g w : Nat) : mM := brM (fi0 M g) (some w) 4
def fiF (A : mM) (g : Nat) : mM := if nwst A g = none then rmM A g else A
theorem fiF_w {A : mM} (hw : wK A) (g : Nat) : wK (fiF A g) := by
  unfold fiF
  split
  · exact rmM_w hw g
  · exact hw
theorem fiF_wT {A : mM} (ht : wT A) (g : Nat) : wT (fiF A g) := by
  unfold fiF
  split
  · exact rmM_wT ht g
  · exact ht
theorem fiF_gn (A : mM) (g a : Nat) : gn (fiF A g) a = gn A a := by
  unfold fiF
  split
  · exact rmM_gn _ _ _
  · rfl
def fi1 (S : mM) (g w : Nat) : mM := sr (brM S (gr S 5 g 3) 4) 5 g 3 (some w)
theorem fi1_kp (S : mM) (g w : Nat) : kp S (fi1 S g w) := kp_tr (brM_kp _ _ _) (kp_sr _ _ _ _ _ (by omega))
theorem fi1_wT {S : mM} (ht : wT S) (g w : Nat) : wT (fi1 S g w) := kt_w (M := brM S (gr S 5 g 3) 4) rfl (brM_wT ht _ _)
def fi2 (S : mM) (g w : Nat) : mM := brM (fi1 S g w) (some w) 2
theorem fi2_kp (S : mM) (g w : Nat) : kp S (fi2 S g w) := kp_tr (fi1_kp _ _ _) (brM_kp _ _ _)
theorem fi2_wT {S : mM} (ht : wT S) (g w : Nat) : wT (fi2 S g w) := brM_wT (fi1_wT ht _ _) _ _
def fiG (M : mM) (g w : Nat) : Int32 × mM := if gi M 7 w 2 = 1 then (-3, fiF (fiA M g w) g) else (1, taM (fi2 (fi0 M g) g w) g)
def fiM (M : mM) (x : Int32) : Int32 × mM := match rgOf M x with
  | none => (-2, M)
  | some g => match gr M 5 g 2 with
    | none => (-2, M)
    | some w => fiG M g w
theorem unM_w {M : mM} (hw : wK M) (x : Int32) : wK (unM M x).2 := by
  unfold unM
  split
  · exact hw
  · split
    · exact tcM_w (kp_w (kp_si _ _ _ _ _ (by omega)) hw) _
    · exact hw
theorem unM_wT {M : mM} (ht : wT M) (x : Int32) : wT (unM M x).2 := by
  unfold unM
  split
  · exact ht
  · split
    · rename_i g _ _
      exact tcM_wT (kt_w (M := M) (M' := si M 5 g 5 1) rfl ht) _
    · exact ht
theorem unM_kq (M : mM) (x : Int32) : kq M (unM M x).2 := by
  unfold unM
  split
  · exact kq_rf _
  · split
    · exact kq_tr (kp_q (kp_si _ _ _ _ _ (by omega))) (tcM_kq _ _)
    · exact kq_rf _
theorem unM_gn (M : mM) (x : Int32) (a : Nat) : gn (unM M x).2 a = gn M a := by
  unfold unM
  split
  · rfl
  · split
    · exact tcM_gn _ _ _
    · rfl
theorem fiM_w {M : mM} (hw : wK M) (x : Int32) : wK (fiM M x).2 := by
  unfold fiM fiG
  split
  · exact hw
  · split
    · exact hw
    · split
      · exact fiF_w (kp_w (kp_tr (fi0_kp _ _) (brM_kp _ _ _)) hw) _
      · exact kp_w (kp_tr (kp_tr (fi0_kp _ _) (fi2_kp _ _ _)) (taM_kp _ _)) hw
theorem fiM_wT {M : mM} (ht : wT M) (x : Int32) : wT (fiM M x).2 := by
  unfold fiM fiG
  split
  · exact ht
  · split
    · exact ht
    · split
      · exact fiF_wT (brM_wT (fi0_wT ht _) _ _) _
      · exact taM_wT (fi2_wT (fi0_wT ht _) _ _) _
theorem fiF_kq (A : mM) (g : Nat) : kq A (fiF A g) := by
  unfold fiF
  split
  · exact rmM_kq _ _
  · exact kq_rf _
theorem fiM_kq (M : mM) (x : Int32) : kq M (fiM M x).2 := by
  unfold fiM fiG
  split
  · exact kq_rf _
  · split
    · exact kq_rf _
    · split
      · exact kq_tr (kp_q (kp_tr (fi0_kp _ _) (brM_kp _ _ _))) (fiF_kq _ _)
      · exact kp_q (kp_tr (kp_tr (fi0_kp _ _) (fi2_kp _ _ _)) (taM_kp _ _))
theorem fiM_gn (M : mM) (x : Int32) (a : Nat) : gn (fiM M x).2 a = gn M a := by
  unfold fiM fiG
  split
  · rfl
  · split
    · rfl
    · split
      · exact (fiF_gn _ _ _).trans ((brM_kp _ _ _).1 a)
      · exact (kp_tr (fi2_kp _ _ _) (taM_kp _ _)).1 a
set_option maxHeartbeats 4000000 in
set_option maxRecDepth 100000 in
theorem k_K_close (l : Launch) (hst : l.stackTraces = false) (D : va_G) (dA : Nat → ClassId) (base : Nat) (M : mM) (ad : Nat → Nat → Nat) (hw : wK M) (ht : wT M) (k : Int32) : mMetX l y_K_close b_K_close 4 (some FieldType.int) ({ frames := 7, cells := 2, slots := 12, locals := 220 } : Room) 2 12 D dA base M ad [.ref (ad 0 0), .int k] (fun rv M' ad' => cOk M k ∧ rv = some (.int (num M (gr M 2 k.toNatClampNeg 2))) ∧ M' = clM M k.toNatClampNeg ∧ ad' = ad) (fun E => ¬ cOk M k ∧ E = "java/util/NoSuchElementException") := by
  refine m_startX (lvs := [(0, .ref (ad 0 0)), (1, .int k)]) (by decide) (Nat.le_of_ble_eq_true rfl) rfl ?_
  intro p e s m below meth c ls X hr hlk hin hml hM hl hno
  have hk0 : 0 < gn M 0 := w_k hw
  refine lv_aload_n X.1 X.2.1 d_K_close_0 rfl (lv_at hl 0 rfl) ?_
  refine lv_iload_n X.1 X.2.1 d_K_close_1 rfl (lv_at hl 1 rfl) ?_
  refine r_cVX (As := [.int k]) (rest := []) X hml hl.1 hM (k_K_refuseNoClient l hst D dA base M ad hw k) c_K_176 cx_K_176 v_K_refuseNoClient kc_K rfl hk0 rfl (Nat.le_of_ble_eq_true rfl) ⟨rfl, rfl, Nat.le_of_ble_eq_true rfl, Nat.le_of_ble_eq_true rfl⟩ ⟨Nat.le_of_ble_eq_true rfl, Nat.le_of_ble_eq_true rfl⟩ d_K_close_2 (fun E ce q H locs hPx hM hy1 hy2 hy3 => m_out hM hlk hno hPx hy1 hy2 hy3 ⟨Nat.le_of_ble_eq_true rfl, Nat.le_of_ble_eq_true rfl⟩) ?_
  intro rv M1 ad1 H locs hP hM hE
  obtain ⟨hck, e1, e2, e3⟩ := hP
  subst rv; subst M1; subst ad1
  show W _ _ _ _ _ _ _ _ _ _ _ _ _ _ _ (F0 m 5 ls [])
  obtain ⟨j, hj, hxj⟩ : ∃ j : Nat, j < 8 ∧ k = nI j := by
    rcases pk_ix k (n := 8) (by omega) with u9 | u9 | ⟨j, u9, u8⟩
    · exact absurd u9 (Int32.not_lt.mpr hck.1)
    · exact absurd u9 (Int32.not_le.mpr hck.2.1)
    · exact ⟨j, u9, u8⟩
  have hcl : k.toNatClampNeg = j := by rw [hxj]; exact nI_clamp (by omega)
  refine lv_aload_n X.1 X.2.1 d_K_close_5 rfl (lv_at hl 0 rfl) ?_
  refine r_gets (q := 0) X hM rfl hk0 f_K_43 rfl (w_0_7 hw) d_K_close_6 (fun hv2 => ?_)
  refine lv_iload_n X.1 X.2.1 d_K_close_9 rfl (lv_at hl 1 rfl) ?_
  refine r_aalds (q := j) X hM rfl hv2 a_clients (fun _ => rfl) (j := j) hxj hj (w_cl hw hj) d_K_close_10 (fun hv3 => ?_)
  refine lv_astore_n (lv' := [(2, .ref (ad 2 j)), (0, .ref (ad 0 0)), (1, .int k)]) X.1 X.2.1 d_K_close_11 rfl hl (by decide) rfl (fun ls hl => ?_)
  refine lv_aload_n X.1 X.2.1 d_K_close_12 rfl (lv_at hl 0 rfl) ?_
  refine r_getr X hM rfl hv3 f_K_173 rfl d_K_close_13 (fun hv4 => ?_)
  refine r_astore_n (lv' := [(3, rfv ad 7 (gr M 2 j 2)), (2, .ref (ad 2 j)), (0, .ref (ad 0 0)), (1, .int k)]) X.1 X.2.1 d_K_close_16 rfl hl (by decide) rfl (fun ls hl => ?_)
  have hcv := hv4
  refine lv_aload_n X.1 X.2.1 d_K_close_17 rfl (lv_at hl 1 rfl) ?_
  refine lv_iconst (v := 0) X.1 X.2.1 d_K_close_18 (by decide) ?_
  refine r_puti X hM rfl hv3 p_K_163 rfl rfl rfl d_K_close_19 (fun H locs hM => ?_)
  refine lv_aload_n X.1 X.2.1 d_K_close_22 rfl (lv_at hl 1 rfl) ?_
  refine lv_null X.1 X.2.1 d_K_close_23 ?_
  refine r_putr X hM rfl hv3 p_K_173 rfl (x := none) (fun z hz => by cases hz) rfl rfl rfl d_K_close_24 (fun H locs hM => ?_)
  have hw1 := kp_w (cl0_kp M j) hw
  refine lv_aload_n X.1 X.2.1 d_K_close_27 rfl (lv_at hl 2 rfl) ?_
  refine r_aload_n X.1 X.2.1 d_K_close_28 rfl (lv_at hl 0 rfl) ?_
  refine r_cV (As := [rfv ad 7 (gr M 2 j 2)]) (rest := []) X hml hl.1 hM (k_K_settleAfterLoss l D dA base (cl0 M j) ad hw1 (cl0_wT ht j) (gr M 2 j 2) hv4) c_K_179 v_K_settleAfterLoss kc_K rfl hk0 rfl (Nat.le_of_ble_eq_true rfl) ⟨rfl, rfl, Nat.le_of_ble_eq_true rfl, Nat.le_of_ble_eq_true rfl⟩ ⟨Nat.le_of_ble_eq_true rfl, Nat.le_of_ble_eq_true rfl⟩ d_K_close_29 ?_
  intro rv M1 ad1 H locs hP hM hE
  obtain ⟨e1, e2, e3⟩ := hP
  subst rv; subst M1; subst ad1
  have hw2 := clM_w hw j
  show W _ _ _ _ _ _ _ _ _ _ _ _ _ _ _ (F0 m 32 ls [])
  refine r_aload_n X.1 X.2.1 d_K_close_32 rfl (lv_at hl 0 rfl) ?_
  refine r_cS (As := [rfv ad 7 (gr M 2 j 2)]) (rest := []) X hml hl.1 hM (k_K_numberOf l D dA base (clM M j) ad (gr M 2 j 2) (fun q z => by rw [clM_gn]; exact hcv q z)) c_K_183 v_K_numberOf rfl (Nat.le_of_ble_eq_true rfl) ⟨rfl, rfl, Nat.le_of_ble_eq_true rfl, Nat.le_of_ble_eq_true rfl⟩ ⟨Nat.le_of_ble_eq_true rfl, Nat.le_of_ble_eq_true rfl⟩ d_K_close_33 ?_
  intro rv M1 ad1 H locs hP hM hE
  obtain ⟨e1, e2, e3⟩ := hP
  subst rv; subst M1; subst ad1
  show W _ _ _ _ _ _ _ _ _ _ _ _ _ _ _ (F0 m 36 ls [.int (num (clM M j) (gr M 2 j 2))])
  refine vx_ret ?_
  exact m_iret X hr hlk hM d_K_close_36 ⟨Nat.le_of_ble_eq_true rfl, Nat.le_of_ble_eq_true rfl⟩ (gn_ext (clM_gn M j) ad) ⟨hck, by rw [num_eq hw hw2 (clM_gn M j 7) hcv, hcl], by rw [hcl], rfl⟩
set_option maxHeartbeats 4000000 in
set_option maxRecDepth 100000 in
theorem k_K_skip (l : Launch) (hst : l.stackTraces = false) (D : va_G) (dA : Nat → ClassId) (base : Nat) (M : mM) (ad : Nat → Nat → Nat) (hw : wK M) (ht : wT M) (x : Int32) : mMetX l y_K_skip b_K_skip 4 (some FieldType.int) ({ frames := 8, cells := 3, slots := 18, locals := 220 } : Room) 3 18 D dA base M ad [.ref (ad 0 0), .int x] (fun rv M' ad' => ∃ g w, ndXc M x (skW M) = 0 ∧ rgOf M x = some g ∧ skW M g = some w ∧ rv = some (.int (gi M 7 w 0)) ∧ M' = skM M g w ∧ ad' = ad) (fun E => (ndXc M x (skW M) = 1 ∧ E = "java/lang/IllegalArgumentException") ∨ (ndXc M x (skW M) = 2 ∧ E = "java/util/NoSuchElementException") ∨ (ndXc M x (skW M) = 3 ∧ E = "java/lang/IllegalStateException")) := by
  refine m_startX (lvs := [(0, .ref (ad 0 0)), (1, .int x)]) (by decide) (Nat.le_of_ble_eq_true rfl) rfl ?_
  intro p e s m below meth c ls X hr hlk hin hml hM hl hno
  have hk0 : 0 < gn M 0 := w_k hw
  refine lv_aload_n X.1 X.2.1 d_K_skip_0 rfl (lv_at hl 0 rfl) ?_
  refine lv_iload_n X.1 X.2.1 d_K_skip_1 rfl (lv_at hl 1 rfl) ?_
  refine r_cVX (As := [.int x]) (rest := []) X hml hl.1 hM (k_K_needRegistration l hst D dA base M ad hw x) c_K_187 cx_K_187 v_K_needRegistration kc_K rfl hk0 rfl (Nat.le_of_ble_eq_true rfl) ⟨rfl, rfl, Nat.le_of_ble_eq_true rfl, Nat.le_of_ble_eq_true rfl⟩ ⟨Nat.le_of_ble_eq_true rfl, Nat.le_of_ble_eq_true rfl⟩ d_K_skip_2 (fun E ce q H locs hPx hM hy1 hy2 hy3 => m_out hM hlk hno (by rcases hPx with ⟨z1, z2⟩ | ⟨z1, z2, z3⟩; exact Or.inl ⟨ndXc_1 z1, z2⟩; exact Or.inr (Or.inl ⟨ndXc_2 z1 z2, z3⟩)) hy1 hy2 hy3 ⟨Nat.le_of_ble_eq_true rfl, Nat.le_of_ble_eq_true rfl⟩) ?_
  intro rv M1 ad1 H locs hP hM hE
  obtain ⟨g, hp, hg, e1, e2, e3⟩ := hP
  subst rv; subst M1; subst ad1
  have hgl := rgOf_lv hM hw _ hg
  show W _ _ _ _ _ _ _ _ _ _ _ _ _ _ _ (F0 m 5 ls [.ref (ad 5 g)])
  refine lv_astore_n (lv' := [(2, .ref (ad 5 g)), (0, .ref (ad 0 0)), (1, .int x)]) X.1 X.2.1 d_K_skip_5 rfl hl (by decide) rfl (fun ls hl => ?_)
  refine lv_aload_n X.1 X.2.1 d_K_skip_6 rfl (lv_at hl 0 rfl) ?_
  refine r_getr X hM rfl hgl f_K_196 rfl d_K_skip_7 (fun hv2 => ?_)
  refine r_ifnull (tgt := 20) X.1 X.2.1 d_K_skip_10 (by decide) (fun h10 => ?_) (fun w h10 => ?_)
  · skip
    refine lv_aload_n X.1 X.2.1 d_K_skip_20 rfl (lv_at hl 0 rfl) ?_
    refine r_getr X hM rfl hgl f_K_199 rfl d_K_skip_21 (fun hv3 => ?_)
    refine r_astore_n (lv' := [(3, rfv ad 7 (gr M 5 g 2)), (2, .ref (ad 5 g)), (0, .ref (ad 0 0)), (1, .int x)]) X.1 X.2.1 d_K_skip_24 rfl hl (by decide) rfl (fun ls hl => ?_)
    refine r_aload_n X.1 X.2.1 d_K_skip_25 rfl (lv_at hl 0 rfl) ?_
    refine r_ifnonnull (tgt := 39) X.1 X.2.1 d_K_skip_26 (by decide) (fun w h26 => ?_) (fun h26 => ?_)
    · skip
      rw [h26] at hl
      have hl : lv_has ls 4 [(3, .ref (ad 7 w)), (2, .ref (ad 5 g)), (0, .ref (ad 0 0)), (1, .int x)] := hl
      have hsk : skW M g = some w := by unfold skW; rw [h10]; exact h26
      refine lv_aload_n X.1 X.2.1 d_K_skip_39 rfl (lv_at hl 0 rfl) ?_
      refine lv_iconst (v := 1) X.1 X.2.1 d_K_skip_40 (by decide) ?_
      refine r_puti X hM rfl (hv3 w h26) p_K_204 rfl rfl rfl d_K_skip_41 (fun H locs hM => ?_)
      refine lv_aload_n X.1 X.2.1 d_K_skip_44 rfl (lv_at hl 2 rfl) ?_
      refine lv_aload_n X.1 X.2.1 d_K_skip_45 rfl (lv_at hl 1 rfl) ?_
      refine r_cV (As := [.ref (ad 5 g)]) (rest := []) X hml hl.1 hM (k_K_tryActivation l D dA base (si M 7 w 6 1) ad (kp_w (kp_si M 7 w 6 1 (by omega)) hw) (kt_w (M := M) (M' := si M 7 w 6 1) rfl ht) g hgl) c_K_207 v_K_tryActivation kc_K rfl hk0 rfl (Nat.le_of_ble_eq_true rfl) ⟨rfl, rfl, Nat.le_of_ble_eq_true rfl, Nat.le_of_ble_eq_true rfl⟩ ⟨Nat.le_of_ble_eq_true rfl, Nat.le_of_ble_eq_true rfl⟩ d_K_skip_46 ?_
      intro rv M1 ad1 H locs hP hM hE
      obtain ⟨e1, e2, e3⟩ := hP
      subst rv; subst M1; subst ad1
      show W _ _ _ _ _ _ _ _ _ _ _ _ _ _ _ (F0 m 49 ls [])
      refine lv_aload_n X.1 X.2.1 d_K_skip_49 rfl (lv_at hl 0 rfl) ?_
      refine r_geti X hM rfl (kp_lv (taM_kp (si M 7 w 6 1) g) (hv3 w h26)) f_K_211 rfl d_K_skip_50 ?_
      refine vx_ret ?_
      exact m_iret X hr hlk hM d_K_skip_53 ⟨Nat.le_of_ble_eq_true rfl, Nat.le_of_ble_eq_true rfl⟩ (kp_ext (skM_kp M g w) ad) ⟨g, w, ndXc_0 hp hg (by rw [hsk]; exact (fun z => nomatch z)), hg, hsk, congrArg (fun z => some (Value.int z)) ((skM_kp M g w).2.2.2.2.1 w).1, rfl, rfl⟩
    · skip
      rw [h26] at hl
      have hl : lv_has ls 4 [(3, .null), (2, .ref (ad 5 g)), (0, .ref (ad 0 0)), (1, .int x)] := hl
      exact r_throw X hst hml hl.1 hM hlk hno t_K_124_202_128 d_K_skip_29 d_K_skip_32 d_K_skip_33 d_K_skip_35 d_K_skip_38 ⟨Nat.le_of_ble_eq_true rfl, Nat.le_of_ble_eq_true rfl, Nat.le_of_ble_eq_true rfl, Nat.le_of_ble_eq_true rfl⟩ ⟨Nat.le_of_ble_eq_true rfl, Nat.le_of_ble_eq_true rfl⟩ (Or.inr (Or.inr ⟨ndXc_3 hp hg (by unfold skW; rw [h10]; exact h26), rfl⟩))
  · skip
    refine lv_aload_n X.1 X.2.1 d_K_skip_13 rfl (lv_at hl 0 rfl) ?_
    refine r_gets (q := w) X hM rfl hgl f_K_196 rfl h10 d_K_skip_14 (fun hv5 => ?_)
    refine lv_goto (tgt := 24) X.1 X.2.1 d_K_skip_17 (by decide) ?_
    refine lv_astore_n (lv' := [(3, .ref (ad 7 w)), (2, .ref (ad 5 g)), (0, .ref (ad 0 0)), (1, .int x)]) X.1 X.2.1 d_K_skip_24 rfl hl (by decide) rfl (fun ls hl => ?_)
    refine lv_aload_n X.1 X.2.1 d_K_skip_25 rfl (lv_at hl 0 rfl) ?_
    refine lv_ifnonnull (tgt := 39) X.1 X.2.1 d_K_skip_26 (by decide) ?_
    have hsk : skW M g = some w := by unfold skW; rw [h10]
    refine lv_aload_n X.1 X.2.1 d_K_skip_39 rfl (lv_at hl 0 rfl) ?_
    refine lv_iconst (v := 1) X.1 X.2.1 d_K_skip_40 (by decide) ?_
    refine r_puti X hM rfl hv5 p_K_204 rfl rfl rfl d_K_skip_41 (fun H locs hM => ?_)
    refine lv_aload_n X.1 X.2.1 d_K_skip_44 rfl (lv_at hl 2 rfl) ?_
    refine lv_aload_n X.1 X.2.1 d_K_skip_45 rfl (lv_at hl 1 rfl) ?_
    refine r_cV (As := [.ref (ad 5 g)]) (rest := []) X hml hl.1 hM (k_K_tryActivation l D dA base (si M 7 w 6 1) ad (kp_w (kp_si M 7 w 6 1 (by omega)) hw) (kt_w (M := M) (M' := si M 7 w 6 1) rfl ht) g hgl) c_K_207 v_K_tryActivation kc_K rfl hk0 rfl (Nat.le_of_ble_eq_true rfl) ⟨rfl, rfl, Nat.le_of_ble_eq_true rfl, Nat.le_of_ble_eq_true rfl⟩ ⟨Nat.le_of_ble_eq_true rfl, Nat.le_of_ble_eq_true rfl⟩ d_K_skip_46 ?_
    intro rv M1 ad1 H locs hP hM hE
    obtain ⟨e1, e2, e3⟩ := hP
    subst rv; subst M1; subst ad1
    show W _ _ _ _ _ _ _ _ _ _ _ _ _ _ _ (F0 m 49 ls [])
    refine lv_aload_n X.1 X.2.1 d_K_skip_49 rfl (lv_at hl 0 rfl) ?_
    refine r_geti X hM rfl (kp_lv (taM_kp (si M 7 w 6 1) g) hv5) f_K_211 rfl d_K_skip_50 ?_
    refine vx_ret ?_
    exact m_iret X hr hlk hM d_K_skip_53 ⟨Nat.le_of_ble_eq_true rfl, Nat.le_of_ble_eq_true rfl⟩ (kp_ext (skM_kp M g w) ad) ⟨g, w, ndXc_0 hp hg (by rw [hsk]; exact (fun z => nomatch z)), hg, hsk, congrArg (fun z => some (Value.int z)) ((skM_kp M g w).2.2.2.2.1 w).1, rfl, rfl⟩
set_option maxHeartbeats 4000000 in
set_option maxRecDepth 100000 in
theorem k_K_unregister (l : Launch) (D : va_G) (dA : Nat → ClassId) (base : Nat) (M : mM) (ad : Nat → Nat → Nat) (hw : wK M) (ht : wT M) (x : Int32) : mMet l y_K_unregister b_K_unregister 3 (some FieldType.int) ({ frames := 5, cells := 0, slots := 0, locals := 160 } : Room) 0 0 D dA base M ad [.ref (ad 0 0), .int x] (fun rv M' ad' => rv = some (.int (unM M x).1) ∧ M' = (unM M x).2 ∧ ad' = ad) := by
  refine m_start (lvs := [(0, .ref (ad 0 0)), (1, .int x)]) (by decide) (Nat.le_of_ble_eq_true rfl) rfl ?_
  intro p e s m below meth c ls X hr hlk hin hml hM hl
  have hk0 : 0 < gn M 0 := w_k hw
  refine lv_aload_n X.1 X.2.1 d_K_unregister_0 rfl (lv_at hl 0 rfl) ?_
  refine lv_iload_n X.1 X.2.1 d_K_unregister_1 rfl (lv_at hl 1 rfl) ?_
  refine r_cV (As := [.int x]) (rest := []) X hml hl.1 hM (k_K_registrationOf l D dA base M ad hw x) c_K_291 v_K_registrationOf kc_K rfl hk0 rfl (Nat.le_of_ble_eq_true rfl) ⟨rfl, rfl, Nat.le_of_ble_eq_true rfl, Nat.le_of_ble_eq_true rfl⟩ ⟨Nat.le_of_ble_eq_true rfl, Nat.le_of_ble_eq_true rfl⟩ d_K_unregister_2 ?_
  intro rv M1 ad1 H locs hP hM hE
  obtain ⟨e1, e2, e3⟩ := hP
  subst rv; subst M1; subst ad1
  have hrl := rgOf_lv hM hw (x := x)
  show W _ _ _ _ _ _ _ _ _ _ _ _ _ _ _ (F0 m 5 ls [rfv ad 5 (rgOf M x)])
  refine r_astore_n (lv' := [(2, rfv ad 5 (rgOf M x)), (0, .ref (ad 0 0)), (1, .int x)]) X.1 X.2.1 d_K_unregister_5 rfl hl (by decide) rfl (fun ls hl => ?_)
  refine r_aload_n X.1 X.2.1 d_K_unregister_6 rfl (lv_at hl 0 rfl) ?_
  refine r_ifnull (tgt := 17) X.1 X.2.1 d_K_unregister_7 (by decide) (fun h7 => ?_) (fun g h7 => ?_)
  · skip
    rw [h7] at hl
    have hl : lv_has ls 3 [(2, .null), (0, .ref (ad 0 0)), (1, .int x)] := hl
    refine lv_bipush (v := (-2)) X.1 X.2.1 d_K_unregister_17 (by decide) ?_
    have hF : unM M x = (-2, M) := by unfold unM; rw [h7]
    exact m_iret X hr hlk hM d_K_unregister_19 ⟨Nat.le_of_ble_eq_true rfl, Nat.le_of_ble_eq_true rfl⟩ (mExt_rf _ _) ⟨by rw [hF], by rw [hF], rfl⟩
  · skip
    rw [h7] at hl
    have hl : lv_has ls 3 [(2, .ref (ad 5 g)), (0, .ref (ad 0 0)), (1, .int x)] := hl
    refine lv_aload_n X.1 X.2.1 d_K_unregister_10 rfl (lv_at hl 0 rfl) ?_
    refine r_geti X hM rfl (hrl g h7) f_K_236 rfl d_K_unregister_11 ?_
    refine lv_if_eq (tgt := 20) X.1 X.2.1 d_K_unregister_14 (by decide) (fun h14 => ?_) (fun h14 => ?_)
    · skip
      refine lv_aload_n X.1 X.2.1 d_K_unregister_20 rfl (lv_at hl 0 rfl) ?_
      refine lv_iconst (v := 1) X.1 X.2.1 d_K_unregister_21 (by decide) ?_
      refine r_puti X hM rfl (hrl g h7) p_K_236 rfl rfl rfl d_K_unregister_22 (fun H locs hM => ?_)
      refine lv_aload_n X.1 X.2.1 d_K_unregister_25 rfl (lv_at hl 1 rfl) ?_
      refine lv_aload_n X.1 X.2.1 d_K_unregister_26 rfl (lv_at hl 0 rfl) ?_
      refine r_cV (As := [.ref (ad 5 g)]) (rest := []) X hml hl.1 hM (k_K_tryClearing l D dA base (si M 5 g 5 1) ad (kp_w (kp_si M 5 g 5 1 (by omega)) hw) (kt_w (M := M) (M' := si M 5 g 5 1) rfl ht) g (hrl g h7)) c_K_329 v_K_tryClearing kc_K rfl hk0 rfl (Nat.le_of_ble_eq_true rfl) ⟨rfl, rfl, Nat.le_of_ble_eq_true rfl, Nat.le_of_ble_eq_true rfl⟩ ⟨Nat.le_of_ble_eq_true rfl, Nat.le_of_ble_eq_true rfl⟩ d_K_unregister_27 ?_
      intro rv M1 ad1 H locs hP hM hE
      obtain ⟨e1, e2, e3⟩ := hP
      subst rv; subst M1; subst ad1
      show W _ _ _ _ _ _ _ _ _ _ _ _ _ _ _ (F0 m 30 ls [.int (if clr (si M 5 g 5 1) g = true then 1 else 0)])
      refine lv_pop X.1 X.2.1 d_K_unregister_30 rfl ?_
      refine lv_iconst (v := 1) X.1 X.2.1 d_K_unregister_31 (by decide) ?_
      have hF : unM M x = (1, tcM (si M 5 g 5 1) g) := by unfold unM; rw [h7]; exact if_pos h14
      exact m_iret X hr hlk hM d_K_unregister_32 ⟨Nat.le_of_ble_eq_true rfl, Nat.le_of_ble_eq_true rfl⟩ (gn_ext (tcM_gn (si M 5 g 5 1) g) ad) ⟨by rw [hF], by rw [hF], rfl⟩
    · skip
      refine lv_bipush (v := (-2)) X.1 X.2.1 d_K_unregister_17 (by decide) ?_
      have hF : unM M x = (-2, M) := by unfold unM; rw [h7]; exact if_neg h14
      exact m_iret X hr hlk hM d_K_unregister_19 ⟨Nat.le_of_ble_eq_true rfl, Nat.le_of_ble_eq_true rfl⟩ (mExt_rf _ _) ⟨by rw [hF], by rw [hF], rfl⟩
set_option maxHeartbeats 4000000 in
set_option maxRecDepth 100000 in
theorem k_K_finishInstall (l : Launch) (D : va_G) (dA : Nat → ClassId) (base : Nat) (M : mM) (ad : Nat → Nat → Nat) (hw : wK M) (ht : wT M) (x : Int32) : mMet l y_K_finishInstall b_K_finishInstall 4 (some FieldType.int) ({ frames := 5, cells := 0, slots := 0, locals := 160 } : Room) 0 0 D dA base M ad [.ref (ad 0 0), .int x] (fun rv M' ad' => rv = some (.int (fiM M x).1) ∧ M' = (fiM M x).2 ∧ ad' = ad) := by
  refine m_start (lvs := [(0, .ref (ad 0 0)), (1, .int x)]) (by decide) (Nat.le_of_ble_eq_true rfl) rfl ?_
  intro p e s m below meth c ls X hr hlk hin hml hM hl
  have hk0 : 0 < gn M 0 := w_k hw
  refine lv_aload_n X.1 X.2.1 d_K_finishInstall_0 rfl (lv_at hl 0 rfl) ?_
  refine lv_iload_n X.1 X.2.1 d_K_finishInstall_1 rfl (lv_at hl 1 rfl) ?_
  refine r_cV (As := [.int x]) (rest := []) X hml hl.1 hM (k_K_registrationOf l D dA base M ad hw x) c_K_291 v_K_registrationOf kc_K rfl hk0 rfl (Nat.le_of_ble_eq_true rfl) ⟨rfl, rfl, Nat.le_of_ble_eq_true rfl, Nat.le_of_ble_eq_true rfl⟩ ⟨Nat.le_of_ble_eq_true rfl, Nat.le_of_ble_eq_true rfl⟩ d_K_finishInstall_2 ?_
  intro rv M1 ad1 H locs hP hM hE
  obtain ⟨e1, e2, e3⟩ := hP
  subst rv; subst M1; subst ad1
  have hrl := rgOf_lv hM hw (x := x)
  show W _ _ _ _ _ _ _ _ _ _ _ _ _ _ _ (F0 m 5 ls [rfv ad 5 (rgOf M x)])
  refine r_astore_n (lv' := [(2, rfv ad 5 (rgOf M x)), (0, .ref (ad 0 0)), (1, .int x)]) X.1 X.2.1 d_K_finishInstall_5 rfl hl (by decide) rfl (fun ls hl => ?_)
  refine r_aload_n X.1 X.2.1 d_K_finishInstall_6 rfl (lv_at hl 0 rfl) ?_
  refine r_ifnull (tgt := 17) X.1 X.2.1 d_K_finishInstall_7 (by decide) (fun h7 => ?_) (fun g h7 => ?_)
  · skip
    rw [h7] at hl
    have hl : lv_has ls 4 [(2, .null), (0, .ref (ad 0 0)), (1, .int x)] := hl
    refine lv_bipush (v := (-2)) X.1 X.2.1 d_K_finishInstall_17 (by decide) ?_
    have hF : fiM M x = (-2, M) := by unfold fiM; rw [h7]
    exact m_iret X hr hlk hM d_K_finishInstall_19 ⟨Nat.le_of_ble_eq_true rfl, Nat.le_of_ble_eq_true rfl⟩ (mExt_rf _ _) ⟨by rw [hF], by rw [hF], rfl⟩
  · skip
    rw [h7] at hl
    have hl : lv_has ls 4 [(2, .ref (ad 5 g)), (0, .ref (ad 0 0)), (1, .int x)] := hl
    refine lv_aload_n X.1 X.2.1 d_K_finishInstall_10 rfl (lv_at hl 0 rfl) ?_
    refine r_getr X hM rfl (hrl g h7) f_K_199 rfl d_K_finishInstall_11 (fun hv2 => ?_)
    refine r_ifnonnull (tgt := 20) X.1 X.2.1 d_K_finishInstall_14 (by decide) (fun w h14 => ?_) (fun h14 => ?_)
    · skip
      refine lv_aload_n X.1 X.2.1 d_K_finishInstall_20 rfl (lv_at hl 0 rfl) ?_
      refine r_gets (q := w) X hM rfl (hrl g h7) f_K_199 rfl h14 d_K_finishInstall_21 (fun hv3 => ?_)
      refine lv_astore_n (lv' := [(3, .ref (ad 7 w)), (2, .ref (ad 5 g)), (0, .ref (ad 0 0)), (1, .int x)]) X.1 X.2.1 d_K_finishInstall_24 rfl hl (by decide) rfl (fun ls hl => ?_)
      refine lv_aload_n X.1 X.2.1 d_K_finishInstall_25 rfl (lv_at hl 1 rfl) ?_
      refine lv_null X.1 X.2.1 d_K_finishInstall_26 ?_
      refine r_putr X hM rfl (hrl g h7) p_K_199 rfl (x := none) (fun z hz => by cases hz) rfl rfl rfl d_K_finishInstall_27 (fun H locs hM => ?_)
      have hw0 := kp_w (fi0_kp M g) hw
      have ht0 := fi0_wT ht g
      refine lv_aload_n X.1 X.2.1 d_K_finishInstall_30 rfl (lv_at hl 0 rfl) ?_
      refine r_geti X hM rfl hv3 f_K_343 rfl d_K_finishInstall_31 ?_
      refine lv_iconst (v := 1) X.1 X.2.1 d_K_finishInstall_34 (by decide) ?_
      refine lv_icmp_ne (tgt := 59) X.1 X.2.1 d_K_finishInstall_35 (by decide) (fun h35 => ?_) (fun h35 => ?_)
      · skip
        refine lv_aload_n X.1 X.2.1 d_K_finishInstall_59 rfl (lv_at hl 2 rfl) ?_
        refine lv_aload_n X.1 X.2.1 d_K_finishInstall_60 rfl (lv_at hl 1 rfl) ?_
        refine r_getr X hM rfl (hrl g h7) f_K_196 rfl d_K_finishInstall_61 (fun hv4 => ?_)
        refine lv_iconst (v := 4) X.1 X.2.1 d_K_finishInstall_64 (by decide) ?_
        refine r_cV (As := [rfv ad 7 (gr (fi0 M g) 5 g 3), .int 4]) (rest := []) X hml hl.1 hM (k_K_bring l D dA base (fi0 M g) ad hw0 ht0 (gr (fi0 M g) 5 g 3) hv4 4) c_K_339 v_K_bring kc_K rfl hk0 rfl (Nat.le_of_ble_eq_true rfl) ⟨rfl, rfl, Nat.le_of_ble_eq_true rfl, Nat.le_of_ble_eq_true rfl⟩ ⟨Nat.le_of_ble_eq_true rfl, Nat.le_of_ble_eq_true rfl⟩ d_K_finishInstall_65 ?_
        intro rv M1 ad1 H locs hP hM hE
        obtain ⟨e1, e2, e3⟩ := hP
        subst rv; subst M1; subst ad1
        have hkB := brM_kp (fi0 M g) (gr (fi0 M g) 5 g 3) 4
        show W _ _ _ _ _ _ _ _ _ _ _ _ _ _ _ (F0 m 68 ls [])
        refine lv_aload_n X.1 X.2.1 d_K_finishInstall_68 rfl (lv_at hl 1 rfl) ?_
        refine lv_aload_n X.1 X.2.1 d_K_finishInstall_69 rfl (lv_at hl 0 rfl) ?_
        refine r_putr X hM rfl (kp_lv hkB (hrl g h7)) p_K_196 rfl (x := (some w)) (fun z hz => by cases hz; exact (kp_lv hkB hv3)) rfl rfl rfl d_K_finishInstall_70 (fun H locs hM => ?_)
        have hw1 := kp_w (fi1_kp (fi0 M g) g w) hw0
        have ht1 := fi1_wT ht0 g w
        refine lv_aload_n X.1 X.2.1 d_K_finishInstall_73 rfl (lv_at hl 2 rfl) ?_
        refine lv_aload_n X.1 X.2.1 d_K_finishInstall_74 rfl (lv_at hl 0 rfl) ?_
        refine lv_iconst (v := 2) X.1 X.2.1 d_K_finishInstall_75 (by decide) ?_
        refine r_cV (As := [.ref (ad 7 w), .int 2]) (rest := []) X hml hl.1 hM (k_K_bring_s l D dA base (fi1 (fi0 M g) g w) ad hw1 ht1 w (kp_lv hkB hv3) 2) c_K_339 v_K_bring kc_K rfl (kp_lv hkB hk0) rfl (Nat.le_of_ble_eq_true rfl) ⟨rfl, rfl, Nat.le_of_ble_eq_true rfl, Nat.le_of_ble_eq_true rfl⟩ ⟨Nat.le_of_ble_eq_true rfl, Nat.le_of_ble_eq_true rfl⟩ d_K_finishInstall_76 ?_
        intro rv M1 ad1 H locs hP hM hE
        obtain ⟨e1, e2, e3⟩ := hP
        subst rv; subst M1; subst ad1
        have hkC := brM_kp (fi1 (fi0 M g) g w) (some w) 2
        have hw2 := kp_w hkC hw1
        have ht2 := brM_wT ht1 (some w) 2
        show W _ _ _ _ _ _ _ _ _ _ _ _ _ _ _ (F0 m 79 ls [])
        refine lv_aload_n X.1 X.2.1 d_K_finishInstall_79 rfl (lv_at hl 2 rfl) ?_
        refine lv_aload_n X.1 X.2.1 d_K_finishInstall_80 rfl (lv_at hl 1 rfl) ?_
        refine r_cV (As := [.ref (ad 5 g)]) (rest := []) X hml hl.1 hM (k_K_tryActivation l D dA base (fi2 (fi0 M g) g w) ad hw2 ht2 g (kp_lv hkC (kp_lv hkB (hrl g h7)))) c_K_207 v_K_tryActivation kc_K rfl (kp_lv hkC (kp_lv hkB hk0)) rfl (Nat.le_of_ble_eq_true rfl) ⟨rfl, rfl, Nat.le_of_ble_eq_true rfl, Nat.le_of_ble_eq_true rfl⟩ ⟨Nat.le_of_ble_eq_true rfl, Nat.le_of_ble_eq_true rfl⟩ d_K_finishInstall_81 ?_
        intro rv M1 ad1 H locs hP hM hE
        obtain ⟨e1, e2, e3⟩ := hP
        subst rv; subst M1; subst ad1
        show W _ _ _ _ _ _ _ _ _ _ _ _ _ _ _ (F0 m 84 ls [])
        refine lv_iconst (v := 1) X.1 X.2.1 d_K_finishInstall_84 (by decide) ?_
        have hF : fiM M x = (1, taM (fi2 (fi0 M g) g w) g) := by unfold fiM; rw [h7]; show (match gr M 5 g 2 with | none => _ | some w => _) = _; rw [h14]; show fiG M g w = _; unfold fiG; rw [if_neg (show ¬ gi M 7 w 2 = 1 from h35)]
        exact m_iret X hr hlk hM d_K_finishInstall_85 ⟨Nat.le_of_ble_eq_true rfl, Nat.le_of_ble_eq_true rfl⟩ (kp_ext (kp_tr (kp_tr (fi0_kp M g) (fi2_kp _ _ _)) (taM_kp _ _)) ad) ⟨by rw [hF], by rw [hF], rfl⟩
      · skip
        refine lv_aload_n X.1 X.2.1 d_K_finishInstall_38 rfl (lv_at hl 2 rfl) ?_
        refine lv_aload_n X.1 X.2.1 d_K_finishInstall_39 rfl (lv_at hl 0 rfl) ?_
        refine lv_iconst (v := 4) X.1 X.2.1 d_K_finishInstall_40 (by decide) ?_
        refine r_cV (As := [.ref (ad 7 w), .int 4]) (rest := []) X hml hl.1 hM (k_K_bring_s l D dA base (fi0 M g) ad hw0 ht0 w hv3 4) c_K_339 v_K_bring kc_K rfl hk0 rfl (Nat.le_of_ble_eq_true rfl) ⟨rfl, rfl, Nat.le_of_ble_eq_true rfl, Nat.le_of_ble_eq_true rfl⟩ ⟨Nat.le_of_ble_eq_true rfl, Nat.le_of_ble_eq_true rfl⟩ d_K_finishInstall_41 ?_
        intro rv M1 ad1 H locs hP hM hE
        obtain ⟨e1, e2, e3⟩ := hP
        subst rv; subst M1; subst ad1
        have hkA := brM_kp (fi0 M g) (some w) 4
        have hwA := kp_w hkA hw0
        show W _ _ _ _ _ _ _ _ _ _ _ _ _ _ _ (F0 m 44 ls [])
        refine lv_aload_n X.1 X.2.1 d_K_finishInstall_44 rfl (lv_at hl 1 rfl) ?_
        refine r_cV (As := []) (rest := []) X hml hl.1 hM (k_Rg_newest l D dA base (fiA M g w) ad g (kp_lv hkA (hrl g h7))) c_K_332 v_Rg_newest kc_Rg rfl (kp_lv hkA (hrl g h7)) rfl (Nat.le_of_ble_eq_true rfl) ⟨rfl, rfl, Nat.le_of_ble_eq_true rfl, Nat.le_of_ble_eq_true rfl⟩ ⟨Nat.le_of_ble_eq_true rfl, Nat.le_of_ble_eq_true rfl⟩ d_K_finishInstall_45 ?_
        intro rv M1 ad1 H locs hP hM hE
        obtain ⟨e1, e2, e3⟩ := hP
        subst rv; subst M1; subst ad1
        show W _ _ _ _ _ _ _ _ _ _ _ _ _ _ _ (F0 m 48 ls [rfv ad 7 (nwst (fiA M g w) g)])
        refine r_ifnonnull (tgt := 56) X.1 X.2.1 d_K_finishInstall_48 (by decide) (fun w10 h48 => ?_) (fun h48 => ?_)
        · skip
          refine lv_bipush (v := (-3)) X.1 X.2.1 d_K_finishInstall_56 (by decide) ?_
          have hF : fiM M x = (-3, fiA M g w) := by unfold fiM; rw [h7]; show (match gr M 5 g 2 with | none => _ | some w => _) = _; rw [h14]; show fiG M g w = _; unfold fiG; rw [if_pos (show gi M 7 w 2 = 1 from h35)]; unfold fiF; rw [if_neg (by rw [h48]; exact (fun z => nomatch z))]
          exact m_iret X hr hlk hM d_K_finishInstall_58 ⟨Nat.le_of_ble_eq_true rfl, Nat.le_of_ble_eq_true rfl⟩ (gn_ext (fun a => ((brM_kp (fi0 M g) (some w) 4).1 a)) ad) ⟨by rw [hF], by rw [hF], rfl⟩
        · skip
          refine lv_aload_n X.1 X.2.1 d_K_finishInstall_51 rfl (lv_at hl 2 rfl) ?_
          refine lv_aload_n X.1 X.2.1 d_K_finishInstall_52 rfl (lv_at hl 1 rfl) ?_
          refine r_cV (As := [.ref (ad 5 g)]) (rest := []) X hml hl.1 hM (k_K_removeRegistration l D dA base (fiA M g w) ad hwA g (kp_lv hkA (hrl g h7))) c_K_344 v_K_removeRegistration kc_K rfl (kp_lv hkA hk0) rfl (Nat.le_of_ble_eq_true rfl) ⟨rfl, rfl, Nat.le_of_ble_eq_true rfl, Nat.le_of_ble_eq_true rfl⟩ ⟨Nat.le_of_ble_eq_true rfl, Nat.le_of_ble_eq_true rfl⟩ d_K_finishInstall_53 ?_
          intro rv M1 ad1 H locs hP hM hE
          obtain ⟨e1, e2, e3⟩ := hP
          subst rv; subst M1; subst ad1
          show W _ _ _ _ _ _ _ _ _ _ _ _ _ _ _ (F0 m 56 ls [])
          refine lv_bipush (v := (-3)) X.1 X.2.1 d_K_finishInstall_56 (by decide) ?_
          have hF : fiM M x = (-3, rmM (fiA M g w) g) := by unfold fiM; rw [h7]; show (match gr M 5 g 2 with | none => _ | some w => _) = _; rw [h14]; show fiG M g w = _; unfold fiG; rw [if_pos (show gi M 7 w 2 = 1 from h35)]; unfold fiF; rw [if_pos h48]
          exact m_iret X hr hlk hM d_K_finishInstall_58 ⟨Nat.le_of_ble_eq_true rfl, Nat.le_of_ble_eq_true rfl⟩ (gn_ext (fun a => (rmM_gn _ _ a).trans ((brM_kp (fi0 M g) (some w) 4).1 a)) ad) ⟨by rw [hF], by rw [hF], rfl⟩
    · skip
      refine lv_bipush (v := (-2)) X.1 X.2.1 d_K_finishInstall_17 (by decide) ?_
      have hF : fiM M x = (-2, M) := by unfold fiM; rw [h7]; show (match gr M 5 g 2 with | none => _ | some w => _) = _; rw [h14]
      exact m_iret X hr hlk hM d_K_finishInstall_19 ⟨Nat.le_of_ble_eq_true rfl, Nat.le_of_ble_eq_true rfl⟩ (mExt_rf _ _) ⟨by rw [hF], by rw [hF], rfl⟩
