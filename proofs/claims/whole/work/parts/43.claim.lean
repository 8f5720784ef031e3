/-- is client i claimed for g, whose active worker is a -/
def cmQ (A : mM) (g a i : Nat) : Bool := decide (gi A 2 i 0 ≠ 0 ∧ gr A 2 i 2 ≠ some a ∧ rgFor A (gi A 2 i 1) = some g)
def cm1 (A : mM) (a i n : Nat) : mM := ctM (sr A 12 0 n (gr A 2 i 2)) i (some a)
/-- the first i clients looked at; how many have changed -/
def clL (M : mM) (g a : Nat) : Nat → mM × Nat
  | 0 => (M, 0)
  | i + 1 => if cmQ (clL M g a i).1 g a i = true then (cm1 (clL M g a i).1 a i (clL M g a i).2, (clL M g a i).2 + 1) else clL M g a i
theorem clL_t {M : mM} {g a i : Nat} (h : cmQ (clL M g a i).1 g a i = true) : clL M g a (i + 1) = (cm1 (clL M g a i).1 a i (clL M g a i).2, (clL M g a i).2 + 1) := if_pos h
theorem clL_f {M : mM} {g a i : Nat} (h : ¬ cmQ (clL M g a i).1 g a i = true) : clL M g a (i + 1) = clL M g a i := if_neg h
theorem cm0_kp (A : mM) (i n : Nat) : kp A (sr A 12 0 n (gr A 2 i 2)) := kp_sr _ _ _ _ _ (by omega)
theorem cm1_kp (A : mM) (a i n : Nat) : kp A (cm1 A a i n) := kp_tr (cm0_kp A i n) (ctM_kp _ _ _)
theorem cm1_gr (A : mM) (a i n : Nat) {k u v : Nat} (h : k ≠ 2) (h2 : k ≠ 12) : gr (cm1 A a i n) k u v = gr A k u v := by
  unfold cm1 ctM
  rw [trA_gr, gr_sr, if_neg (by omega), gr_sr, if_neg (by omega)]
theorem clL_all (M : mM) (g a i : Nat) : kp M (clL M g a i).1 ∧ (clL M g a i).2 ≤ i ∧ (∀ k u v, k ≠ 2 → k ≠ 12 → gr (clL M g a i).1 k u v = gr M k u v) := by
  induction i with
  | zero => exact ⟨kp_rf _, Nat.le_refl _, fun _ _ _ _ _ => rfl⟩
  | succ i ih =>
    obtain ⟨h1, h2, h3⟩ := ih
    by_cases h : cmQ (clL M g a i).1 g a i = true
    · rw [clL_t h]
      exact ⟨kp_tr h1 (cm1_kp _ _ _ _), Nat.succ_le_succ h2, fun k u v z1 z2 => (cm1_gr _ _ _ _ z1 z2).trans (h3 k u v z1 z2)⟩
    · rw [clL_f h]
      exact ⟨h1, by omega, h3⟩
theorem cm1_wT {A : mM} (ht : wT A) (a i n : Nat) : wT (cm1 A a i n) := ctM_wT (kt_w (M := A) (M' := sr A 12 0 n (gr A 2 i 2)) rfl ht) _ _
theorem clL_wT {M : mM} (ht : wT M) (g a i : Nat) : wT (clL M g a i).1 := by
  induction i with
  | zero => exact ht
  | succ i ih =>
    by_cases h : cmQ (clL M g a i).1 g a i = true
    · rw [clL_t h]
      exact cm1_wT ih _ _ _
    · rw [clL_f h]; exact ih
/-- those that lost clients settle, one after another -/
def cs2 (A : mM) : Nat → mM
  | 0 => A
  | i + 1 => stM (cs2 A i) (gr (cs2 A i) 12 0 i)
theorem cs2_all {A : mM} (hw : wK A) (ht : wT A) (i : Nat) : wK (cs2 A i) ∧ wT (cs2 A i) ∧ kq A (cs2 A i) := by
  induction i with
  | zero => exact ⟨hw, ht, kq_rf _⟩
  | succ i ih => exact ⟨stM_w ih.1 _, stM_wT ih.2.1 _, kq_tr ih.2.2 (stM_kq _ _)⟩
def cmM (M : mM) (g a : Nat) : mM := cs2 (clL M g a 8).1 (clL M g a 8).2
theorem cmM_all {M : mM} (hw : wK M) (ht : wT M) (g a : Nat) : wK (cmM M g a) ∧ wT (cmM M g a) ∧ kq M (cmM M g a) := by
  obtain ⟨h1, h2, h3⟩ := cs2_all (kp_w (clL_all M g a 8).1 hw) (clL_wT ht g a 8) (clL M g a 8).2
  exact ⟨h1, h2, kq_tr (kp_q (clL_all M g a 8).1) h3⟩
set_option maxHeartbeats 4000000 in
set_option maxRecDepth 100000 in
theorem k_K_claim (l : Launch) (hst : l.stackTraces = false) (D : va_G) (dA : Nat → ClassId) (base : Nat) (M : mM) (ad : Nat → Nat → Nat) (hw : wK M) (ht : wT M) (x : Int32) : mMetX l y_K_claim b_K_claim 6 (some FieldType.int) ({ frames := 8, cells := 3, slots := 18, locals := 260 } : Room) 3 18 D dA base M ad [.ref (ad 0 0), .int x] (fun rv M' ad' => ∃ g a, ndXc M x (fun g => gr M 5 g 4) = 0 ∧ rgOf M x = some g ∧ gr M 5 g 4 = some a ∧ rv = some (.int (nI (clL M g a 8).2)) ∧ M' = cmM M g a ∧ ad' = ad) (fun E => (ndXc M x (fun g => gr M 5 g 4) = 1 ∧ E = "java/lang/IllegalArgumentException") ∨ (ndXc M x (fun g => gr M 5 g 4) = 2 ∧ E = "java/util/NoSuchElementException") ∨ (ndXc M x (fun g => gr M 5 g 4) = 3 ∧ E = "java/lang/IllegalStateException")) := by
  refine m_startX (lvs := [(0, .ref (ad 0 0)), (1, .int x)]) (by decide) (Nat.le_of_ble_eq_true rfl) rfl ?_
  intro p e s m below meth c ls X hr hlk hin hml hM hl hno
  have hk0 : 0 < gn M 0 := w_k hw
  refine lv_aload_n X.1 X.2.1 d_K_claim_0 rfl (lv_at hl 0 rfl) ?_
  refine lv_iload_n X.1 X.2.1 d_K_claim_1 rfl (lv_at hl 1 rfl) ?_
  refine r_cVX (As := [.int x]) (rest := []) X hml hl.1 hM (k_K_needRegistration l hst D dA base M ad hw x) c_K_187 cx_K_187 v_K_needRegistration kc_K rfl hk0 rfl (Nat.le_of_ble_eq_true rfl) ⟨rfl, rfl, Nat.le_of_ble_eq_true rfl, Nat.le_of_ble_eq_true rfl⟩ ⟨Nat.le_of_ble_eq_true rfl, Nat.le_of_ble_eq_true rfl⟩ d_K_claim_2 (fun E ce q H locs hPx hM hy1 hy2 hy3 => m_out hM hlk hno (by rcases hPx with ⟨z1, z2⟩ | ⟨z1, z2, z3⟩; exact Or.inl ⟨ndXc_1 z1, z2⟩; exact Or.inr (Or.inl ⟨ndXc_2 z1 z2, z3⟩)) hy1 hy2 hy3 ⟨Nat.le_of_ble_eq_true rfl, Nat.le_of_ble_eq_true rfl⟩) ?_
  intro rv M1 ad1 H locs hP hM hE
  obtain ⟨g, hp, hg, e1, e2, e3⟩ := hP
  subst rv; subst M1; subst ad1
  have hgl := rgOf_lv hM hw _ hg
  show W _ _ _ _ _ _ _ _ _ _ _ _ _ _ _ (F0 m 5 ls [.ref (ad 5 g)])
  refine lv_astore_n (lv' := [(2, .ref (ad 5 g)), (0, .ref (ad 0 0)), (1, .int x)]) X.1 X.2.1 d_K_claim_5 rfl hl (by decide) rfl (fun ls hl => ?_)
  refine lv_aload_n X.1 X.2.1 d_K_claim_6 rfl (lv_at hl 0 rfl) ?_
  refine r_getr X hM rfl hgl f_K_169 rfl d_K_claim_7 (fun hv2 => ?_)
  refine r_ifnonnull (tgt := 23) X.1 X.2.1 d_K_claim_10 (by decide) (fun a h10 => ?_) (fun h10 => ?_)
  · skip
    refine lv_iconst (v := 0) X.1 X.2.1 d_K_claim_23 (by decide) ?_
    refine lv_istore_n (lv' := [(3, .int 0), (2, .ref (ad 5 g)), (0, .ref (ad 0 0)), (1, .int x)]) X.1 X.2.1 d_K_claim_24 rfl hl (by decide) rfl (fun ls hl => ?_)
    refine lv_iconst (v := 0) X.1 X.2.1 d_K_claim_25 (by decide) ?_
    refine lv_istore (lv' := [(4, .int 0), (3, .int 0), (2, .ref (ad 5 g)), (0, .ref (ad 0 0)), (1, .int x)]) X.1 X.2.1 d_K_claim_26 hl (by decide) rfl (fun ls hl => ?_)
    have hga : gr M 5 g 4 = some a := h10
    have hal : a < gn M 7 := hM.live (k := 5) (j := 4) hgl rfl h10
    refine w_upW 8 (fun ls => F0 m 28 ls []) (fun i H L ls => mSt D dA base ((clL M g a i).1) ad s.heap H L ∧ lv_has ls 6 [(3, .int (nI (clL M g a i).2)), (4, .int (nI i)), (2, .ref (ad 5 g)), (0, .ref (ad 0 0)), (1, .int x)] ∧ True) ?_ ?_ 0 _ _ ls (by omega) ⟨hM, lv_sub hl [1, 0, 2, 3, 4] rfl, trivial⟩
    · rintro H locs ls ⟨hM, hl, hI⟩
      obtain ⟨hkI0, hnI0, hgrI⟩ := clL_all M g a 8
      have hw := kp_w hkI0 hw
      have ht := clL_wT ht g a 8
      have hgI := kp_lv hkI0 hgl
      have hkI := kp_lv hkI0 hk0
      have haI := kp_lv hkI0 hal
      have hact : gr (clL M g a 8).1 5 g 4 = some a := (hgrI 5 g 4 (by decide) (by decide)).trans hga
      refine lv_iload X.1 X.2.1 d_K_claim_28 (lv_at hl 1 rfl) ?_
      refine lv_bipush (v := 8) X.1 X.2.1 d_K_claim_30 (by decide) ?_
      refine lv_icmp_ge (tgt := 107) X.1 X.2.1 d_K_claim_32 (by decide) (fun hz53 => ?_) (fun hz53 => absurd (by decide) hz53)
      refine lv_iconst (v := 0) X.1 X.2.1 d_K_claim_107 (by decide) ?_
      refine lv_istore (lv' := [(4, .int 0), (3, .int (nI (clL M g a 8).2)), (2, .ref (ad 5 g)), (0, .ref (ad 0 0)), (1, .int x)]) X.1 X.2.1 d_K_claim_108 hl (by decide) rfl (fun ls hl => ?_)
      refine w_upW (clL M g a 8).2 (fun ls => F0 m 110 ls []) (fun i H L ls => mSt D dA base (cs2 (clL M g a 8).1 i) ad s.heap H L ∧ lv_has ls 6 [(4, .int (nI i)), (3, .int (nI (clL M g a 8).2)), (2, .ref (ad 5 g)), (0, .ref (ad 0 0)), (1, .int x)] ∧ True) ?_ ?_ 0 _ _ ls (by omega) ⟨hM, lv_sub hl [0, 1, 2, 3, 4] rfl, trivial⟩
      · rintro H locs ls ⟨hM, hl, hI⟩
        obtain ⟨hwJ, htJ, hqJ⟩ := cs2_all hw ht (clL M g a 8).2
        have hkJ : 0 < gn (cs2 (clL M g a 8).1 (clL M g a 8).2) 0 := w_k hwJ
        have hgJ : g < gn (cs2 (clL M g a 8).1 (clL M g a 8).2) 5 := by rw [hqJ.1]; exact hgI
        have hw := hwJ
        refine lv_iload X.1 X.2.1 d_K_claim_110 (lv_at hl 0 rfl) ?_
        refine lv_iload_n X.1 X.2.1 d_K_claim_112 rfl (lv_at hl 1 rfl) ?_
        refine lv_icmp_ge (tgt := 133) X.1 X.2.1 d_K_claim_113 (by decide) (fun hz104 => ?_) (fun hz104 => absurd (Int32.le_refl _) hz104)
        refine lv_iload_n X.1 X.2.1 d_K_claim_133 rfl (lv_at hl 1 rfl) ?_
        refine vx_ret ?_
        exact m_iret X hr hlk hM d_K_claim_134 ⟨Nat.le_of_ble_eq_true rfl, Nat.le_of_ble_eq_true rfl⟩ (gn_ext (fun z => (hqJ.1 z).trans (hkI0.1 z)) ad) ⟨g, a, ndXc_0 hp hg (by rw [hga]; exact (fun z => nomatch z)), hg, hga, rfl, rfl, rfl⟩
      · rintro i hi ih H locs ls ⟨hM, hl, hI⟩
        obtain ⟨hwJ, htJ, hqJ⟩ := cs2_all hw ht i
        have hkJ : 0 < gn (cs2 (clL M g a 8).1 i) 0 := w_k hwJ
        have hgJ : g < gn (cs2 (clL M g a 8).1 i) 5 := by rw [hqJ.1]; exact hgI
        have hw := hwJ
        refine lv_iload X.1 X.2.1 d_K_claim_110 (lv_at hl 0 rfl) ?_
        refine lv_iload_n X.1 X.2.1 d_K_claim_112 rfl (lv_at hl 1 rfl) ?_
        refine lv_icmp_ge (tgt := 133) X.1 X.2.1 d_K_claim_113 (by decide) (fun hz104 => absurd hz104 (show ¬ nI (clL M g a 8).2 ≤ nI i from nI_ge hi (by omega))) (fun hz104 => ?_)
        refine lv_aload_n X.1 X.2.1 d_K_claim_116 rfl (lv_at hl 3 rfl) ?_
        refine lv_aload_n X.1 X.2.1 d_K_claim_117 rfl (lv_at hl 3 rfl) ?_
        refine r_gets (q := 0) X hM rfl hkJ f_K_47 rfl (w_0_8 hw) d_K_claim_118 (fun hv105 => ?_)
        refine lv_iload X.1 X.2.1 d_K_claim_121 (lv_at hl 0 rfl) ?_
        refine r_aald X hM rfl hv105 a_from (fun _ => rfl) (j := i) rfl (by omega) d_K_claim_123 (fun hv106 => ?_)
        refine r_cV (As := [rfv ad 7 (gr (cs2 (clL M g a 8).1 i) 12 0 i)]) (rest := []) X hml hl.1 hM (k_K_settleAfterLoss l D dA base (cs2 (clL M g a 8).1 i) ad hw htJ (gr (cs2 (clL M g a 8).1 i) 12 0 i) hv106) c_K_179 v_K_settleAfterLoss kc_K rfl hkJ rfl (Nat.le_of_ble_eq_true rfl) ⟨rfl, rfl, Nat.le_of_ble_eq_true rfl, Nat.le_of_ble_eq_true rfl⟩ ⟨Nat.le_of_ble_eq_true rfl, Nat.le_of_ble_eq_true rfl⟩ d_K_claim_124 ?_
        intro rv M1 ad1 H locs hP hM hE
        obtain ⟨e1, e2, e3⟩ := hP
        subst rv; subst M1; subst ad1
        show W _ _ _ _ _ _ _ _ _ _ _ _ _ _ _ (F0 m 127 ls [])
        obtain ⟨xi, e_xi⟩ : ∃ z : Int32, z = (nI i) + 1 := ⟨_, rfl⟩
        refine lv_iinc (v := xi) (lv' := [(4, .int xi), (3, .int (nI (clL M g a 8).2)), (2, .ref (ad 5 g)), (0, .ref (ad 0 0)), (1, .int x)]) X.1 X.2.1 d_K_claim_127 hl (k := 0) rfl (by rw [e_xi]; rfl) (by decide) rfl (fun ls hl => ?_)
        refine lv_goto (tgt := 110) X.1 X.2.1 d_K_claim_130 (by decide) ?_
        have e9 := e_xi.trans (nI_1 i)
        subst e9
        exact ih _ _ ls ⟨hM, lv_sub hl [0, 1, 2, 3, 4] rfl, trivial⟩
    · rintro i hi ih H locs ls ⟨hM, hl, hI⟩
      obtain ⟨hkI0, hnI0, hgrI⟩ := clL_all M g a i
      have hw := kp_w hkI0 hw
      have ht := clL_wT ht g a i
      have hgI := kp_lv hkI0 hgl
      have hkI := kp_lv hkI0 hk0
      have haI := kp_lv hkI0 hal
      have hact : gr (clL M g a i).1 5 g 4 = some a := (hgrI 5 g 4 (by decide) (by decide)).trans hga
      refine lv_iload X.1 X.2.1 d_K_claim_28 (lv_at hl 1 rfl) ?_
      refine lv_bipush (v := 8) X.1 X.2.1 d_K_claim_30 (by decide) ?_
      refine lv_icmp_ge (tgt := 107) X.1 X.2.1 d_K_claim_32 (by decide) (fun hz53 => absurd hz53 (show ¬ (8 : Int32) ≤ nI i from nI_ge hi (by decide))) (fun hz53 => ?_)
      refine lv_aload_n X.1 X.2.1 d_K_claim_35 rfl (lv_at hl 3 rfl) ?_
      refine r_gets (q := 0) X hM rfl hkI f_K_43 rfl (w_0_7 hw) d_K_claim_36 (fun hv54 => ?_)
      refine lv_iload X.1 X.2.1 d_K_claim_39 (lv_at hl 1 rfl) ?_
      refine r_aalds (q := i) X hM rfl hv54 a_clients (fun _ => rfl) (j := i) rfl (by omega) (w_cl hw hi) d_K_claim_41 (fun hv55 => ?_)
      refine lv_astore (lv' := [(5, .ref (ad 2 i)), (3, .int (nI (clL M g a i).2)), (4, .int (nI i)), (2, .ref (ad 5 g)), (0, .ref (ad 0 0)), (1, .int x)]) X.1 X.2.1 d_K_claim_42 hl (by decide) rfl (fun ls hl => ?_)
      refine lv_aload X.1 X.2.1 d_K_claim_44 (lv_at hl 0 rfl) ?_
      refine r_geti X hM rfl hv55 f_K_163 rfl d_K_claim_46 ?_
      refine lv_if_eq (tgt := 101) X.1 X.2.1 d_K_claim_49 (by decide) (fun h49 => ?_) (fun h49 => ?_)
      · skip
        obtain ⟨xi, e_xi⟩ : ∃ z : Int32, z = (nI i) + 1 := ⟨_, rfl⟩
        refine lv_iinc (v := xi) (lv' := [(4, .int xi), (5, .ref (ad 2 i)), (3, .int (nI (clL M g a i).2)), (2, .ref (ad 5 g)), (0, .ref (ad 0 0)), (1, .int x)]) X.1 X.2.1 d_K_claim_101 hl (k := 2) rfl (by rw [e_xi]; rfl) (by decide) rfl (fun ls hl => ?_)
        refine lv_goto (tgt := 28) X.1 X.2.1 d_K_claim_104 (by decide) ?_
        have e9 := e_xi.trans (nI_1 i)
        subst e9
        have hq : ¬ cmQ (clL M g a i).1 g a i = true := fun z => (of_decide_eq_true z).1 h49
        exact ih _ _ ls ⟨by rw [clL_f hq]; exact hM, by rw [clL_f hq]; exact lv_sub hl [2, 0, 3, 4, 5] rfl, trivial⟩
      · skip
        refine lv_aload X.1 X.2.1 d_K_claim_52 (lv_at hl 0 rfl) ?_
        refine r_getr X hM rfl hv55 f_K_173 rfl d_K_claim_54 (fun hv56 => ?_)
        refine lv_aload_n X.1 X.2.1 d_K_claim_57 rfl (lv_at hl 3 rfl) ?_
        refine r_gets (q := a) X hM rfl hgI f_K_169 rfl hact d_K_claim_58 (fun hv57 => ?_)
        show W _ _ _ _ _ _ _ _ _ _ _ _ _ _ _ (F0 m 61 ls (rfv ad 7 (some a) :: rfv ad 7 (gr ((clL M g a i).1) 2 i 2) :: []))
        refine r_acmp_eq (tgt := 101) X.1 X.2.1 hM (k := 7) hv56 (fun z hz => by cases hz; exact hv57) d_K_claim_61 (by decide) (fun h61 => ?_) (fun h61 => ?_)
        · skip
          obtain ⟨xi, e_xi⟩ : ∃ z : Int32, z = (nI i) + 1 := ⟨_, rfl⟩
          refine lv_iinc (v := xi) (lv' := [(4, .int xi), (5, .ref (ad 2 i)), (3, .int (nI (clL M g a i).2)), (2, .ref (ad 5 g)), (0, .ref (ad 0 0)), (1, .int x)]) X.1 X.2.1 d_K_claim_101 hl (k := 2) rfl (by rw [e_xi]; rfl) (by decide) rfl (fun ls hl => ?_)
          refine lv_goto (tgt := 28) X.1 X.2.1 d_K_claim_104 (by decide) ?_
          have e9 := e_xi.trans (nI_1 i)
          subst e9
          have hq : ¬ cmQ (clL M g a i).1 g a i = true := fun z => (of_decide_eq_true z).2.1 h61
          exact ih _ _ ls ⟨by rw [clL_f hq]; exact hM, by rw [clL_f hq]; exact lv_sub hl [2, 0, 3, 4, 5] rfl, trivial⟩
        · skip
          refine lv_aload_n X.1 X.2.1 d_K_claim_64 rfl (lv_at hl 4 rfl) ?_
          refine lv_aload X.1 X.2.1 d_K_claim_65 (lv_at hl 0 rfl) ?_
          refine r_geti X hM rfl hv55 f_K_166 rfl d_K_claim_67 ?_
          refine r_cV (As := [.int (gi ((clL M g a i).1) 2 i 1)]) (rest := []) X hml hl.1 hM (k_K_registrationFor l D dA base (clL M g a i).1 ad hw (gi (clL M g a i).1 2 i 1)) c_K_159 v_K_registrationFor kc_K rfl hkI rfl (Nat.le_of_ble_eq_true rfl) ⟨rfl, rfl, Nat.le_of_ble_eq_true rfl, Nat.le_of_ble_eq_true rfl⟩ ⟨Nat.le_of_ble_eq_true rfl, Nat.le_of_ble_eq_true rfl⟩ d_K_claim_70 ?_
          intro rv M1 ad1 H locs hP hM hE
          obtain ⟨e1, e2, e3⟩ := hP
          subst rv; subst M1; subst ad1
          have hrl := rgFor_lv hM hw (x := gi (clL M g a i).1 2 i 1)
          show W _ _ _ _ _ _ _ _ _ _ _ _ _ _ _ (F0 m 73 ls [rfv ad 5 (rgFor (clL M g a i).1 (gi (clL M g a i).1 2 i 1))])
          refine lv_aload_n X.1 X.2.1 d_K_claim_73 rfl (lv_at hl 3 rfl) ?_
          show W _ _ _ _ _ _ _ _ _ _ _ _ _ _ _ (F0 m 74 ls (rfv ad 5 (some g) :: rfv ad 5 (rgFor (clL M g a i).1 (gi (clL M g a i).1 2 i 1)) :: []))
          refine r_acmp_ne (tgt := 101) X.1 X.2.1 hM (k := 5) hrl (fun z hz => by cases hz; exact hgI) d_K_claim_74 (by decide) (fun h74 => ?_) (fun h74 => ?_)
          · skip
            obtain ⟨xi, e_xi⟩ : ∃ z : Int32, z = (nI i) + 1 := ⟨_, rfl⟩
            refine lv_iinc (v := xi) (lv' := [(4, .int xi), (5, .ref (ad 2 i)), (3, .int (nI (clL M g a i).2)), (2, .ref (ad 5 g)), (0, .ref (ad 0 0)), (1, .int x)]) X.1 X.2.1 d_K_claim_101 hl (k := 2) rfl (by rw [e_xi]; rfl) (by decide) rfl (fun ls hl => ?_)
            refine lv_goto (tgt := 28) X.1 X.2.1 d_K_claim_104 (by decide) ?_
            have e9 := e_xi.trans (nI_1 i)
            subst e9
            have hq : ¬ cmQ (clL M g a i).1 g a i = true := fun z => h74 (of_decide_eq_true z).2.2
            exact ih _ _ ls ⟨by rw [clL_f hq]; exact hM, by rw [clL_f hq]; exact lv_sub hl [2, 0, 3, 4, 5] rfl, trivial⟩
          · skip
            refine lv_aload_n X.1 X.2.1 d_K_claim_77 rfl (lv_at hl 4 rfl) ?_
            refine r_gets (q := 0) X hM rfl hkI f_K_47 rfl (w_0_8 hw) d_K_claim_78 (fun hv59 => ?_)
            refine lv_iload_n X.1 X.2.1 d_K_claim_81 rfl (lv_at hl 1 rfl) ?_
            refine lv_aload X.1 X.2.1 d_K_claim_82 (lv_at hl 0 rfl) ?_
            refine r_getr X hM rfl hv55 f_K_173 rfl d_K_claim_84 (fun hv60 => ?_)
            refine r_aastq X hM rfl hv59 a_from (fun _ => rfl) rfl rfl hv60 (j := (clL M g a i).2) rfl (by omega) d_K_claim_87 (fun H locs hM => ?_)
            obtain ⟨xn, e_xn⟩ : ∃ z : Int32, z = (nI (clL M g a i).2) + 1 := ⟨_, rfl⟩
            refine lv_iinc (v := xn) (lv' := [(3, .int xn), (5, .ref (ad 2 i)), (4, .int (nI i)), (2, .ref (ad 5 g)), (0, .ref (ad 0 0)), (1, .int x)]) X.1 X.2.1 d_K_claim_88 hl (k := 1) rfl (by rw [e_xn]; rfl) (by decide) rfl (fun ls hl => ?_)
            refine lv_aload_n X.1 X.2.1 d_K_claim_91 rfl (lv_at hl 4 rfl) ?_
            refine lv_iload X.1 X.2.1 d_K_claim_92 (lv_at hl 2 rfl) ?_
            refine lv_aload_n X.1 X.2.1 d_K_claim_94 rfl (lv_at hl 3 rfl) ?_
            refine r_gets (q := a) X hM rfl hgI f_K_169 rfl (show gr (sr (clL M g a i).1 12 0 (clL M g a i).2 (gr (clL M g a i).1 2 i 2)) 5 g 4 = some a by rw [gr_sr, if_neg (by omega)]; exact hact) d_K_claim_95 (fun hv61 => ?_)
            refine r_cV (As := [.int (nI i), .ref (ad 7 a)]) (rest := []) X hml hl.1 hM (k_K_control l D dA base (sr (clL M g a i).1 12 0 (clL M g a i).2 (gr (clL M g a i).1 2 i 2)) ad (kp_w (cm0_kp (clL M g a i).1 i (clL M g a i).2) hw) (kt_w (M := (clL M g a i).1) rfl ht) i hi (some a) (fun q z => by cases z; exact haI)) c_K_192 v_K_control kc_K rfl hkI rfl (Nat.le_of_ble_eq_true rfl) ⟨rfl, rfl, Nat.le_of_ble_eq_true rfl, Nat.le_of_ble_eq_true rfl⟩ ⟨Nat.le_of_ble_eq_true rfl, Nat.le_of_ble_eq_true rfl⟩ d_K_claim_98 ?_
            intro rv M1 ad1 H locs hP hM hE
            obtain ⟨e1, e2, e3⟩ := hP
            subst rv; subst M1; subst ad1
            show W _ _ _ _ _ _ _ _ _ _ _ _ _ _ _ (F0 m 101 ls [])
            obtain ⟨xi, e_xi⟩ : ∃ z : Int32, z = (nI i) + 1 := ⟨_, rfl⟩
            refine lv_iinc (v := xi) (lv' := [(4, .int xi), (3, .int xn), (5, .ref (ad 2 i)), (2, .ref (ad 5 g)), (0, .ref (ad 0 0)), (1, .int x)]) X.1 X.2.1 d_K_claim_101 hl (k := 2) rfl (by rw [e_xi]; rfl) (by decide) rfl (fun ls hl => ?_)
            refine lv_goto (tgt := 28) X.1 X.2.1 d_K_claim_104 (by decide) ?_
            have e9 := e_xi.trans (nI_1 i)
            subst e9
            have e8 := e_xn.trans (nI_1 _)
            subst e8
            have hq : cmQ (clL M g a i).1 g a i = true := decide_eq_true ⟨h49, h61, h74⟩
            exact ih _ _ ls ⟨by rw [clL_t hq]; exact hM, by rw [clL_t hq]; exact lv_sub hl [1, 0, 3, 4, 5] rfl, trivial⟩
  · skip
    exact r_throw X hst hml hl.1 hM hlk hno t_K_124_190_128 d_K_claim_13 d_K_claim_16 d_K_claim_17 d_K_claim_19 d_K_claim_22 ⟨Nat.le_of_ble_eq_true rfl, Nat.le_of_ble_eq_true rfl, Nat.le_of_ble_eq_true rfl, Nat.le_of_ble_eq_true rfl⟩ ⟨Nat.le_of_ble_eq_true rfl, Nat.le_of_ble_eq_true rfl⟩ (Or.inr (Or.inr ⟨ndXc_3 hp hg h10, rfl⟩))
