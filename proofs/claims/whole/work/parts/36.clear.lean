/-- the registrations without g, the first i looked at; how many are kept -/
def rmL (M : mM) (g : Nat) : Nat → mM × Nat
  | 0 => (M, 0)
  | i + 1 => if gr (rmL M g i).1 10 0 i = some g then rmL M g i else (sr (rmL M g i).1 10 0 (rmL M g i).2 (gr (rmL M g i).1 10 0 i), (rmL M g i).2 + 1)
theorem rmL_t {M : mM} {g i : Nat} (h : gr (rmL M g i).1 10 0 i = some g) : rmL M g (i + 1) = rmL M g i := if_pos h
theorem rmL_f {M : mM} {g i : Nat} (h : ¬ gr (rmL M g i).1 10 0 i = some g) : rmL M g (i + 1) = (sr (rmL M g i).1 10 0 (rmL M g i).2 (gr (rmL M g i).1 10 0 i), (rmL M g i).2 + 1) := if_neg h
theorem rmL_all (M : mM) (g i : Nat) : (rmL M g i).2 ≤ i ∧ (∀ j, i ≤ j → gr (rmL M g i).1 10 0 j = gr M 10 0 j) ∧ (∀ k a b, k ≠ 10 → gr (rmL M g i).1 k a b = gr M k a b) ∧ (∀ k a b, gi (rmL M g i).1 k a b = gi M k a b) ∧ (∀ a, gn (rmL M g i).1 a = gn M a) ∧ (∀ k a b, gl (rmL M g i).1 k a b = gl M k a b) := by
  induction i with
  | zero => exact ⟨Nat.le_refl _, fun _ _ => rfl, fun _ _ _ _ => rfl, fun _ _ _ => rfl, fun _ => rfl, fun _ _ _ => rfl⟩
  | succ i ih =>
    obtain ⟨h1, h2, h3, h4, h5, h6⟩ := ih
    by_cases h : gr (rmL M g i).1 10 0 i = some g
    · rw [rmL_t h]
      exact ⟨by omega, fun j hj => h2 j (by omega), h3, h4, h5, h6⟩
    · rw [rmL_f h]
      refine ⟨Nat.succ_le_succ h1, fun j hj => ?_, fun k a b hk => ?_, h4, h5, h6⟩
      · show gr (sr _ _ _ _ _) _ _ _ = _
        rw [gr_sr, if_neg (by omega)]; exact h2 j (by omega)
      · show gr (sr _ _ _ _ _) _ _ _ = _
        rw [gr_sr, if_neg (by omega)]; exact h3 k a b hk
theorem rmL_some {M : mM} (hw : wK M) (g : Nat) : ∀ i, i ≤ nRg M → ∀ j, j < (rmL M g i).2 → ∃ q, gr (rmL M g i).1 10 0 j = some q := by
  intro i
  induction i with
  | zero => intro _ j hj; exact absurd hj (Nat.not_lt_zero _)
  | succ i ih =>
    intro hi j hj
    by_cases h : gr (rmL M g i).1 10 0 i = some g
    · rw [rmL_t h] at hj ⊢; exact ih (by omega) j hj
    · rw [rmL_f h] at hj ⊢
      show ∃ q, gr (sr _ _ _ _ _) _ _ _ = some q
      have hj : j < (rmL M g i).2 + 1 := hj
      rw [gr_sr]
      by_cases hj2 : j = (rmL M g i).2
      · rw [if_pos ⟨rfl, rfl, hj2⟩]
        exact ⟨_, ((rmL_all M g i).2.1 i (Nat.le_refl _)).trans (w_rg hw (by omega))⟩
      · rw [if_neg (by omega)]; exact ih (by omega) j (by omega)
def rmM (M : mM) (g : Nat) : mM := si (rmL M g (nRg M)).1 0 0 6 (nI (rmL M g (nRg M)).2)
theorem rmM_w {M : mM} (hw : wK M) (g : Nat) : wK (rmM M g) := by
  obtain ⟨h1, h2, h3, h4, h5, h6⟩ := rmL_all M g (nRg M)
  have h8 := rmL_some hw g (nRg M) (Nat.le_refl _)
  have hN := w_nrl hw
  have e6 : nRg (rmM M g) = (rmL M g (nRg M)).2 := nI_clamp (by omega)
  have eg : ∀ k a b, k ≠ 0 → gi (rmM M g) k a b = gi M k a b := fun k a b hk => by
    show gi (si _ _ _ _ _) _ _ _ = _
    rw [gi_si, if_neg (by omega)]; exact h4 k a b
  have ej : ∀ b, b ≠ 6 → gi (rmM M g) 0 0 b = gi M 0 0 b := fun b hb => by
    show gi (si _ _ _ _ _) _ _ _ = _
    rw [gi_si, if_neg (by omega)]; exact h4 0 0 b
  have er : ∀ k a b, k ≠ 10 → gr (rmM M g) k a b = gr M k a b := h3
  have en : ∀ a, gn (rmM M g) a = gn M a := h5
  refine ⟨⟨by rw [en]; exact w_k hw, ?_, ?_, ?_, ?_, ?_, ?_, ?_, by rw [er _ _ _ (by decide)]; exact w_3_0 hw⟩, fun i hi => by rw [er _ _ _ (by decide)]; exact w_sc hw hi, fun i hi => by rw [er _ _ _ (by decide)]; exact w_cl hw hi, ⟨?_, ?_, ?_⟩, ⟨?_, ?_, ?_⟩, ?_, ?_, ?_⟩
  · rw [er _ _ _ (by decide)]; exact w_0_0 hw
  · rw [er _ _ _ (by decide)]; exact w_0_3 hw
  · rw [er _ _ _ (by decide)]; exact w_0_5 hw
  · rw [er _ _ _ (by decide)]; exact w_0_7 hw
  · rw [er _ _ _ (by decide)]; exact w_0_8 hw
  · rw [er _ _ _ (by decide)]; exact w_0_9 hw
  · rw [er _ _ _ (by decide)]; exact w_0_11 hw
  · rw [ej _ (by decide), en]; exact w_nw hw
  · rw [en]; exact w_nwl hw
  · intro i hi
    rw [en] at hi
    rw [er _ _ _ (by decide), er _ _ _ (by decide), er _ _ _ (by decide), er _ _ _ (by decide), eg _ _ _ (by decide)]
    exact ⟨w_wk hw hi, w_num hw hi, w_7_4 hw hi, w_6_0 hw hi, w_6_1 hw hi⟩
  · rw [e6]; rfl
  · rw [e6]; omega
  · intro i hi
    rw [e6] at hi
    obtain ⟨q, hq⟩ := h8 i hi
    have hq : gr (rmM M g) 10 0 i = some q := hq
    unfold rgx
    rw [hq]; rfl
  · rw [ej _ (by decide), en]; exact w_nj hw
  · rw [en]; exact w_njl hw
  · intro i hi
    rw [en] at hi
    rw [er _ _ _ (by decide), eg _ _ _ (by decide)]
    exact ⟨w_jb hw hi, w_jn hw hi⟩
theorem rmM_gn (M : mM) (g a : Nat) : gn (rmM M g) a = gn M a := (rmL_all M g (nRg M)).2.2.2.2.1 a
theorem rmM_kq (M : mM) (g : Nat) : kq M (rmM M g) := by
  obtain ⟨h1, h2, h3, h4, h5, h6⟩ := rmL_all M g (nRg M)
  refine ⟨h5, ⟨?_, ?_⟩, fun i => ⟨?_, ?_, ?_⟩⟩ <;> (show gi (si _ _ _ _ _) _ _ _ = _; rw [gi_si, if_neg (by omega)]; exact h4 _ _ _)
theorem rmM_wT {M : mM} (ht : wT M) (g : Nat) : wT (rmM M g) := kt_w (M := M) ((rmL_all M g (nRg M)).2.2.2.1 3 0 1) ht
/-- may g be cleared; cleared -/
def clr (M : mM) (g : Nat) : Bool := decide (gi M 5 g 5 ≠ 0 ∧ gr M 5 g 2 = none ∧ ctl M (gr M 5 g 4) = 0)
def tc1 (M : mM) (g : Nat) : mM := brM M (gr M 5 g 3) 4
def tc2 (B : mM) (g : Nat) : mM := rmM (brM B (gr B 5 g 4) 4) g
def tcM (M : mM) (g : Nat) : mM := if clr M g = true then tc2 (tc1 M g) g else M
theorem tcM_t {M : mM} {g : Nat} (h : clr M g = true) : tcM M g = tc2 (tc1 M g) g := if_pos h
theorem tcM_f {M : mM} {g : Nat} (h : ¬ clr M g = true) : tcM M g = M := if_neg h
theorem tc2_gn (B : mM) (g a : Nat) : gn (tc2 B g) a = gn B a := (rmM_gn _ _ _).trans ((brM_kp _ _ _).1 a)
theorem tcM_gn (M : mM) (g a : Nat) : gn (tcM M g) a = gn M a := by
  unfold tcM
  split
  · exact (tc2_gn _ _ _).trans ((brM_kp _ _ _).1 a)
  · rfl
theorem tcM_w {M : mM} (hw : wK M) (g : Nat) : wK (tcM M g) := by
  unfold tcM
  split
  · exact rmM_w (kp_w (brM_kp _ _ _) (kp_w (brM_kp _ _ _) hw)) g
  · exact hw
theorem tcM_kq (M : mM) (g : Nat) : kq M (tcM M g) := by
  unfold tcM
  split
  · exact kq_tr (kp_q (brM_kp _ _ _)) (kq_tr (kp_q (brM_kp _ _ _)) (rmM_kq _ g))
  · exact kq_rf _
theorem tcM_wT {M : mM} (ht : wT M) (g : Nat) : wT (tcM M g) := by
  unfold tcM
  split
  · exact rmM_wT (brM_wT (brM_wT ht _ _) _ _) g
  · exact ht
theorem gn_ext {M M' : mM} (h : ∀ a, gn M' a = gn M a) (ad : Nat → Nat → Nat) : mExt M ad M' ad := ⟨fun _ _ _ => rfl, fun a => Nat.le_of_eq (h a).symm⟩
/-- settled after a loss -/
def stM (M : mM) (r : Option Nat) : mM := match rgAct M r with
  | none => M
  | some g => if clr M g = true then tcM M g else taM M g
theorem stM_0 {M : mM} {r : Option Nat} (h : rgAct M r = none) : stM M r = M := by unfold stM; rw [h]
theorem stM_1 {M : mM} {r : Option Nat} {g : Nat} (h : rgAct M r = some g) (h2 : clr M g = true) : stM M r = tcM M g := by unfold stM; rw [h]; exact if_pos h2
theorem stM_2 {M : mM} {r : Option Nat} {g : Nat} (h : rgAct M r = some g) (h2 : ¬ clr M g = true) : stM M r = taM M g := by unfold stM; rw [h]; exact if_neg h2
theorem stM_gn (M : mM) (r : Option Nat) (a : Nat) : gn (stM M r) a = gn M a := by
  cases h : rgAct M r with
  | none => rw [stM_0 h]
  | some g =>
    by_cases h2 : clr M g = true
    · rw [stM_1 h h2]; exact tcM_gn _ _ _
    · rw [stM_2 h h2]; exact (taM_kp _ _).1 a
theorem stM_w {M : mM} (hw : wK M) (r : Option Nat) : wK (stM M r) := by
  cases h : rgAct M r with
  | none => rw [stM_0 h]; exact hw
  | some g =>
    by_cases h2 : clr M g = true
    · rw [stM_1 h h2]; exact tcM_w hw _
    · rw [stM_2 h h2]; exact kp_w (taM_kp _ _) hw
theorem stM_kq (M : mM) (r : Option Nat) : kq M (stM M r) := by
  cases h : rgAct M r with
  | none => rw [stM_0 h]; exact kq_rf _
  | some g =>
    by_cases h2 : clr M g = true
    · rw [stM_1 h h2]; exact tcM_kq _ _
    · rw [stM_2 h h2]; exact kp_q (taM_kp _ _)
theorem stM_wT {M : mM} (ht : wT M) (r : Option Nat) : wT (stM M r) := by
  cases h : rgAct M r with
  | none => rw [stM_0 h]; exact ht
  | some g =>
    by_cases h2 : clr M g = true
    · rw [stM_1 h h2]; exact tcM_wT ht _
    · rw [stM_2 h h2]; exact taM_wT ht _
theorem rgAct_lv {D : va_G} {dA : Nat → ClassId} {base : Nat} {M : mM} {ad : Nat → Nat → Nat} {H0 H : Heap} {locs : List Loc} (hM : mSt D dA base M ad H0 H locs) (hw : wK M) {r : Option Nat} : ∀ q, rgAct M r = some q → q < gn M 5 := by
  intro q h
  unfold rgAct at h
  cases hf : ff (fun i => decide (r ≠ none ∧ gr M 5 (rgx M i) 4 = r)) (nRg M) 0 with
  | none => rw [hf] at h; cases h
  | some i =>
    rw [hf] at h
    cases h
    have := ff_lt hf
    exact live_regs hM hw (by omega)
set_option maxHeartbeats 4000000 in
set_option maxRecDepth 100000 in
theorem k_K_removeRegistration (l : Launch) (D : va_G) (dA : Nat → ClassId) (base : Nat) (M : mM) (ad : Nat → Nat → Nat) (hw : wK M) (g : Nat) (hg : g < gn M 5) : mMet l y_K_removeRegistration b_K_removeRegistration 4 none ({ frames := 0, cells := 0, slots := 0, locals := 0 } : Room) 0 0 D dA base M ad [.ref (ad 0 0), .ref (ad 5 g)] (fun rv M' ad' => rv = none ∧ M' = rmM M g ∧ ad' = ad) := by
  refine m_start (lvs := [(0, .ref (ad 0 0)), (1, .ref (ad 5 g))]) (by decide) (Nat.le_of_ble_eq_true rfl) rfl ?_
  intro p e s m below meth c ls X hr hlk hin hml hM hl
  refine lv_iconst (v := 0) X.1 X.2.1 d_K_removeRegistration_0 (by decide) ?_
  refine lv_istore_n (lv' := [(2, .int 0), (0, .ref (ad 0 0)), (1, .ref (ad 5 g))]) X.1 X.2.1 d_K_removeRegistration_1 rfl hl (by decide) rfl (fun ls hl => ?_)
  refine lv_iconst (v := 0) X.1 X.2.1 d_K_removeRegistration_2 (by decide) ?_
  refine lv_istore_n (lv' := [(3, .int 0), (2, .int 0), (0, .ref (ad 0 0)), (1, .ref (ad 5 g))]) X.1 X.2.1 d_K_removeRegistration_3 rfl hl (by decide) rfl (fun ls hl => ?_)
  have hN := w_nrl hw
  refine w_upW (nRg M) (fun ls => F0 m 4 ls []) (fun i H L ls => mSt D dA base ((rmL M g i).1) ad s.heap H L ∧ lv_has ls 4 [(2, .int (nI (rmL M g i).2)), (3, .int (nI i)), (0, .ref (ad 0 0)), (1, .ref (ad 5 g))] ∧ True) ?_ ?_ 0 _ _ ls (by omega) ⟨hM, lv_sub hl [1, 0, 2, 3] rfl, trivial⟩
  · rintro H locs ls ⟨hM, hl, hI⟩
    obtain ⟨a1, a2, a3, a4, a5, a6⟩ := rmL_all M g (nRg M)
    have hk0 : 0 < gn (rmL M g (nRg M)).1 0 := by rw [a5]; exact w_k hw
    have hgI : g < gn (rmL M g (nRg M)).1 5 := by rw [a5]; exact hg
    have hr5 : gr (rmL M g (nRg M)).1 0 0 5 = some 0 := by rw [a3 _ _ _ (by decide)]; exact w_0_5 hw
    refine lv_iload_n X.1 X.2.1 d_K_removeRegistration_4 rfl (lv_at hl 1 rfl) ?_
    refine lv_aload_n X.1 X.2.1 d_K_removeRegistration_5 rfl (lv_at hl 2 rfl) ?_
    refine r_geti X hM rfl hk0 f_K_38 rfl d_K_removeRegistration_6 ?_
    refine lv_icmp_ge (tgt := 43) X.1 X.2.1 d_K_removeRegistration_9 (by decide) (fun hz51 => ?_) (fun hz51 => absurd (by rw [a4, w_nr hw]; exact Int32.le_refl _) hz51)
    refine lv_aload_n X.1 X.2.1 d_K_removeRegistration_43 rfl (lv_at hl 2 rfl) ?_
    refine lv_iload_n X.1 X.2.1 d_K_removeRegistration_44 rfl (lv_at hl 0 rfl) ?_
    refine r_puti X hM rfl hk0 p_K_38 rfl rfl rfl d_K_removeRegistration_45 (fun H locs hM => ?_)
    exact m_vret X hr hlk hM d_K_removeRegistration_48 ⟨Nat.le_of_ble_eq_true rfl, Nat.le_of_ble_eq_true rfl⟩ (gn_ext a5 ad) ⟨rfl, rfl, rfl⟩
  · rintro i hi ih H locs ls ⟨hM, hl, hI⟩
    obtain ⟨a1, a2, a3, a4, a5, a6⟩ := rmL_all M g i
    have hk0 : 0 < gn (rmL M g i).1 0 := by rw [a5]; exact w_k hw
    have hgI : g < gn (rmL M g i).1 5 := by rw [a5]; exact hg
    have hr5 : gr (rmL M g i).1 0 0 5 = some 0 := by rw [a3 _ _ _ (by decide)]; exact w_0_5 hw
    have hge : ¬ gi (rmL M g i).1 0 0 6 ≤ nI i := by rw [a4, w_nr hw]; exact nI_ge hi (by omega)
    have hrI : gr (rmL M g i).1 10 0 i = some (rgx M i) := (a2 i (Nat.le_refl _)).trans (w_rg hw hi)
    refine lv_iload_n X.1 X.2.1 d_K_removeRegistration_4 rfl (lv_at hl 1 rfl) ?_
    refine lv_aload_n X.1 X.2.1 d_K_removeRegistration_5 rfl (lv_at hl 2 rfl) ?_
    refine r_geti X hM rfl hk0 f_K_38 rfl d_K_removeRegistration_6 ?_
    refine lv_icmp_ge (tgt := 43) X.1 X.2.1 d_K_removeRegistration_9 (by decide) (fun hz51 => absurd hz51 hge) (fun hz51 => ?_)
    refine lv_aload_n X.1 X.2.1 d_K_removeRegistration_12 rfl (lv_at hl 2 rfl) ?_
    refine r_gets (q := 0) X hM rfl hk0 f_K_34 rfl hr5 d_K_removeRegistration_13 (fun hv52 => ?_)
    refine lv_iload_n X.1 X.2.1 d_K_removeRegistration_16 rfl (lv_at hl 1 rfl) ?_
    refine r_aald X hM rfl hv52 a_regs (fun _ => rfl) (j := i) rfl (by omega) d_K_removeRegistration_17 (fun hv53 => ?_)
    refine lv_aload_n X.1 X.2.1 d_K_removeRegistration_18 rfl (lv_at hl 3 rfl) ?_
    show W _ _ _ _ _ _ _ _ _ _ _ _ _ _ _ (F0 m 19 ls (rfv ad 5 (some g) :: rfv ad 5 (gr ((rmL M g i).1) 10 0 i) :: []))
    refine r_acmp_eq (tgt := 37) X.1 X.2.1 hM (k := 5) hv53 (fun z hz => by cases hz; exact hgI) d_K_removeRegistration_19 (by decide) (fun hq0 => ?_) (fun hq0 => ?_)
    · skip
      obtain ⟨xi, e_xi⟩ : ∃ z : Int32, z = (nI i) + 1 := ⟨_, rfl⟩
      refine lv_iinc (v := xi) (lv' := [(3, .int xi), (2, .int (nI (rmL M g i).2)), (0, .ref (ad 0 0)), (1, .ref (ad 5 g))]) X.1 X.2.1 d_K_removeRegistration_37 hl (k := 1) rfl (by rw [e_xi]; rfl) (by decide) rfl (fun ls hl => ?_)
      refine lv_goto (tgt := 4) X.1 X.2.1 d_K_removeRegistration_40 (by decide) ?_
      have e9 := e_xi.trans (nI_1 i)
      subst e9
      exact ih _ _ ls ⟨by rw [rmL_t hq0]; exact hM, by rw [rmL_t hq0]; exact lv_sub hl [1, 0, 2, 3] rfl, trivial⟩
    · skip
      refine lv_aload_n X.1 X.2.1 d_K_removeRegistration_22 rfl (lv_at hl 2 rfl) ?_
      refine r_gets (q := 0) X hM rfl hk0 f_K_34 rfl hr5 d_K_removeRegistration_23 (fun hv54 => ?_)
      refine lv_iload_n X.1 X.2.1 d_K_removeRegistration_26 rfl (lv_at hl 0 rfl) ?_
      refine lv_aload_n X.1 X.2.1 d_K_removeRegistration_27 rfl (lv_at hl 2 rfl) ?_
      refine r_gets (q := 0) X hM rfl hk0 f_K_34 rfl hr5 d_K_removeRegistration_28 (fun hv55 => ?_)
      refine lv_iload_n X.1 X.2.1 d_K_removeRegistration_31 rfl (lv_at hl 1 rfl) ?_
      refine r_aalds (q := (rgx M i)) X hM rfl hv55 a_regs (fun _ => rfl) (j := i) rfl (by omega) hrI d_K_removeRegistration_32 (fun hv56 => ?_)
      refine r_aast X hM rfl hv54 a_regs (fun _ => rfl) rfl rfl rfl hv56 (j := (rmL M g i).2) rfl (by omega) d_K_removeRegistration_33 (fun H locs hM => ?_)
      obtain ⟨xk, e_xk⟩ : ∃ z : Int32, z = (nI (rmL M g i).2) + 1 := ⟨_, rfl⟩
      refine lv_iinc (v := xk) (lv' := [(2, .int xk), (3, .int (nI i)), (0, .ref (ad 0 0)), (1, .ref (ad 5 g))]) X.1 X.2.1 d_K_removeRegistration_34 hl (k := 0) rfl (by rw [e_xk]; rfl) (by decide) rfl (fun ls hl => ?_)
      obtain ⟨xi, e_xi⟩ : ∃ z : Int32, z = (nI i) + 1 := ⟨_, rfl⟩
      refine lv_iinc (v := xi) (lv' := [(3, .int xi), (2, .int xk), (0, .ref (ad 0 0)), (1, .ref (ad 5 g))]) X.1 X.2.1 d_K_removeRegistration_37 hl (k := 1) rfl (by rw [e_xi]; rfl) (by decide) rfl (fun ls hl => ?_)
      refine lv_goto (tgt := 4) X.1 X.2.1 d_K_removeRegistration_40 (by decide) ?_
      have e9 := e_xi.trans (nI_1 i)
      subst e9
      have e8 := e_xk.trans (nI_1 _)
      subst e8
      exact ih _ _ ls ⟨by rw [rmL_f hq0, hrI]; exact hM, by rw [rmL_f hq0]; exact lv_sub hl [1, 0, 2, 3] rfl, trivial⟩
set_option maxHeartbeats 4000000 in
set_option maxRecDepth 100000 in
theorem k_K_tryClearing (l : Launch) (D : va_G) (dA : Nat → ClassId) (base : Nat) (M : mM) (ad : Nat → Nat → Nat) (hw : wK M) (ht : wT M) (g : Nat) (hg : g < gn M 5) : mMet l y_K_tryClearing b_K_tryClearing 2 (some FieldType.boolean) ({ frames := 4, cells := 0, slots := 0, locals := 120 } : Room) 0 0 D dA base M ad [.ref (ad 0 0), .ref (ad 5 g)] (fun rv M' ad' => rv = some (.int (if clr M g = true then 1 else 0)) ∧ M' = tcM M g ∧ ad' = ad) := by
  refine m_start (lvs := [(0, .ref (ad 0 0)), (1, .ref (ad 5 g))]) (by decide) (Nat.le_of_ble_eq_true rfl) rfl ?_
  intro p e s m below meth c ls X hr hlk hin hml hM hl
  refine lv_aload_n X.1 X.2.1 d_K_tryClearing_0 rfl (lv_at hl 1 rfl) ?_
  refine r_geti X hM rfl hg f_K_236 rfl d_K_tryClearing_1 ?_
  refine lv_if_eq (tgt := 25) X.1 X.2.1 d_K_tryClearing_4 (by decide) (fun h4 => ?_) (fun h4 => ?_)
  · skip
    refine lv_iconst (v := 0) X.1 X.2.1 d_K_tryClearing_25 (by decide) ?_
    exact m_zret X hr hlk hM (by first | rfl | decide) d_K_tryClearing_26 ⟨Nat.le_of_ble_eq_true rfl, Nat.le_of_ble_eq_true rfl⟩ (mExt_rf _ _) ⟨b0 (fun z => (of_decide_eq_true z).1 h4), (tcM_f (fun z => (of_decide_eq_true z).1 h4)).symm, rfl⟩
  · skip
    refine lv_aload_n X.1 X.2.1 d_K_tryClearing_7 rfl (lv_at hl 1 rfl) ?_
    refine r_getr X hM rfl hg f_K_199 rfl d_K_tryClearing_8 (fun hv1 => ?_)
    refine r_ifnonnull (tgt := 25) X.1 X.2.1 d_K_tryClearing_11 (by decide) (fun w2 h11 => ?_) (fun h11 => ?_)
    · skip
      refine lv_iconst (v := 0) X.1 X.2.1 d_K_tryClearing_25 (by decide) ?_
      exact m_zret X hr hlk hM (by first | rfl | decide) d_K_tryClearing_26 ⟨Nat.le_of_ble_eq_true rfl, Nat.le_of_ble_eq_true rfl⟩ (mExt_rf _ _) ⟨b0 (fun z => absurd (of_decide_eq_true z).2.1 (by rw [h11]; exact (fun u => nomatch u))), (tcM_f (fun z => absurd (of_decide_eq_true z).2.1 (by rw [h11]; exact (fun u => nomatch u)))).symm, rfl⟩
    · skip
      refine lv_aload_n X.1 X.2.1 d_K_tryClearing_14 rfl (lv_at hl 0 rfl) ?_
      refine lv_aload_n X.1 X.2.1 d_K_tryClearing_15 rfl (lv_at hl 1 rfl) ?_
      refine r_getr X hM rfl hg f_K_169 rfl d_K_tryClearing_16 (fun hv3 => ?_)
      refine r_cV (As := [rfv ad 7 (gr M 5 g 4)]) (rest := []) X hml hl.1 hM (k_K_controlledBy l D dA base M ad hw (gr M 5 g 4) hv3) c_K_251 v_K_controlledBy kc_K rfl (w_k hw) rfl (Nat.le_of_ble_eq_true rfl) ⟨rfl, rfl, Nat.le_of_ble_eq_true rfl, Nat.le_of_ble_eq_true rfl⟩ ⟨Nat.le_of_ble_eq_true rfl, Nat.le_of_ble_eq_true rfl⟩ d_K_tryClearing_19 ?_
      intro rv M1 ad1 H locs hP hM hE
      obtain ⟨e1, e2, e3⟩ := hP
      subst rv; subst M1; subst ad1
      show W _ _ _ _ _ _ _ _ _ _ _ _ _ _ _ (F0 m 22 ls [.int (nI (ctl M (gr M 5 g 4)))])
      refine lv_if_le (tgt := 27) X.1 X.2.1 d_K_tryClearing_22 (by decide) (fun h22 => ?_) (fun h22 => ?_)
      · skip
        refine lv_aload_n X.1 X.2.1 d_K_tryClearing_27 rfl (lv_at hl 0 rfl) ?_
        refine lv_aload_n X.1 X.2.1 d_K_tryClearing_28 rfl (lv_at hl 1 rfl) ?_
        refine r_getr X hM rfl hg f_K_196 rfl d_K_tryClearing_29 (fun hv5 => ?_)
        refine lv_iconst (v := 4) X.1 X.2.1 d_K_tryClearing_32 (by decide) ?_
        refine r_cV (As := [rfv ad 7 (gr M 5 g 3), .int 4]) (rest := []) X hml hl.1 hM (k_K_bring l D dA base M ad hw ht (gr M 5 g 3) hv5 4) c_K_339 v_K_bring kc_K rfl (w_k hw) rfl (Nat.le_of_ble_eq_true rfl) ⟨rfl, rfl, Nat.le_of_ble_eq_true rfl, Nat.le_of_ble_eq_true rfl⟩ ⟨Nat.le_of_ble_eq_true rfl, Nat.le_of_ble_eq_true rfl⟩ d_K_tryClearing_33 ?_
        intro rv M1 ad1 H locs hP hM hE
        obtain ⟨e1, e2, e3⟩ := hP
        subst rv; subst M1; subst ad1
        have hk1 := brM_kp M (gr M 5 g 3) 4
        have hw1 := kp_w hk1 hw
        have ht1 := brM_wT ht (gr M 5 g 3) 4
        show W _ _ _ _ _ _ _ _ _ _ _ _ _ _ _ (F0 m 36 ls [])
        refine lv_aload_n X.1 X.2.1 d_K_tryClearing_36 rfl (lv_at hl 0 rfl) ?_
        refine lv_aload_n X.1 X.2.1 d_K_tryClearing_37 rfl (lv_at hl 1 rfl) ?_
        refine r_getr X hM rfl (kp_lv hk1 hg) f_K_169 rfl d_K_tryClearing_38 (fun hv7 => ?_)
        refine lv_iconst (v := 4) X.1 X.2.1 d_K_tryClearing_41 (by decide) ?_
        refine r_cV (As := [rfv ad 7 (gr (tc1 M g) 5 g 4), .int 4]) (rest := []) X hml hl.1 hM (k_K_bring l D dA base (tc1 M g) ad hw1 ht1 (gr (tc1 M g) 5 g 4) hv7 4) c_K_339 v_K_bring kc_K rfl (kp_lv hk1 (w_k hw)) rfl (Nat.le_of_ble_eq_true rfl) ⟨rfl, rfl, Nat.le_of_ble_eq_true rfl, Nat.le_of_ble_eq_true rfl⟩ ⟨Nat.le_of_ble_eq_true rfl, Nat.le_of_ble_eq_true rfl⟩ d_K_tryClearing_42 ?_
        intro rv M1 ad1 H locs hP hM hE
        obtain ⟨e1, e2, e3⟩ := hP
        subst rv; subst M1; subst ad1
        have hk2 := brM_kp (tc1 M g) (gr (tc1 M g) 5 g 4) 4
        have hw2 := kp_w hk2 hw1
        show W _ _ _ _ _ _ _ _ _ _ _ _ _ _ _ (F0 m 45 ls [])
        refine lv_aload_n X.1 X.2.1 d_K_tryClearing_45 rfl (lv_at hl 0 rfl) ?_
        refine lv_aload_n X.1 X.2.1 d_K_tryClearing_46 rfl (lv_at hl 1 rfl) ?_
        refine r_cV (As := [.ref (ad 5 g)]) (rest := []) X hml hl.1 hM (k_K_removeRegistration l D dA base (brM (tc1 M g) (gr (tc1 M g) 5 g 4) 4) ad hw2 g (kp_lv hk2 (kp_lv hk1 hg))) c_K_344 v_K_removeRegistration kc_K rfl (kp_lv hk2 (kp_lv hk1 (w_k hw))) rfl (Nat.le_of_ble_eq_true rfl) ⟨rfl, rfl, Nat.le_of_ble_eq_true rfl, Nat.le_of_ble_eq_true rfl⟩ ⟨Nat.le_of_ble_eq_true rfl, Nat.le_of_ble_eq_true rfl⟩ d_K_tryClearing_47 ?_
        intro rv M1 ad1 H locs hP hM hE
        obtain ⟨e1, e2, e3⟩ := hP
        subst rv; subst M1; subst ad1
        show W _ _ _ _ _ _ _ _ _ _ _ _ _ _ _ (F0 m 50 ls [])
        refine lv_iconst (v := 1) X.1 X.2.1 d_K_tryClearing_50 (by decide) ?_
        have hcl : clr M g = true := decide_eq_true ⟨h4, h11, by have z8 := ctl_le M (gr M 5 g 4); exact nI_z (by omega) (Int32.le_antisymm h22 (Int32.not_lt.mp (nI_pos (by omega))))⟩
        exact m_zret X hr hlk hM (by first | rfl | decide) d_K_tryClearing_51 ⟨Nat.le_of_ble_eq_true rfl, Nat.le_of_ble_eq_true rfl⟩ (gn_ext (fun a => (tc2_gn _ _ a).trans ((brM_kp _ _ _).1 a)) ad) ⟨b1 hcl, (tcM_t hcl).symm, rfl⟩
      · skip
        refine lv_iconst (v := 0) X.1 X.2.1 d_K_tryClearing_25 (by decide) ?_
        exact m_zret X hr hlk hM (by first | rfl | decide) d_K_tryClearing_26 ⟨Nat.le_of_ble_eq_true rfl, Nat.le_of_ble_eq_true rfl⟩ (mExt_rf _ _) ⟨b0 (fun z => absurd (of_decide_eq_true z).2.2 (fun u => h22 (by rw [u]; decide))), (tcM_f (fun z => absurd (of_decide_eq_true z).2.2 (fun u => h22 (by rw [u]; decide)))).symm, rfl⟩
set_option maxHeartbeats 4000000 in
set_option maxRecDepth 100000 in
theorem k_K_settleAfterLoss (l : Launch) (D : va_G) (dA : Nat → ClassId) (base : Nat) (M : mM) (ad : Nat → Nat → Nat) (hw : wK M) (ht : wT M) (r : Option Nat) (hr0 : ∀ q, r = some q → q < gn M 7) : mMet l y_K_settleAfterLoss b_K_settleAfterLoss 3 none ({ frames := 5, cells := 0, slots := 0, locals := 160 } : Room) 0 0 D dA base M ad [.ref (ad 0 0), rfv ad 7 r] (fun rv M' ad' => rv = none ∧ M' = stM M r ∧ ad' = ad) := by
  refine m_start (lvs := [(0, .ref (ad 0 0)), (1, rfv ad 7 (r))]) (by decide) (by cases r <;> exact Nat.le_of_ble_eq_true rfl) (by cases r <;> rfl) ?_
  intro p e s m below meth c ls X hr hlk hin hml hM hl
  refine lv_aload_n X.1 X.2.1 d_K_settleAfterLoss_0 rfl (lv_at hl 0 rfl) ?_
  refine r_aload_n X.1 X.2.1 d_K_settleAfterLoss_1 rfl (lv_at hl 1 rfl) ?_
  refine r_cV (As := [rfv ad 7 (r)]) (rest := []) X hml hl.1 hM (k_K_registrationWithActive l D dA base M ad hw r hr0) c_K_347 v_K_registrationWithActive kc_K rfl (w_k hw) rfl (Nat.le_of_ble_eq_true rfl) ⟨rfl, rfl, Nat.le_of_ble_eq_true rfl, Nat.le_of_ble_eq_true rfl⟩ ⟨Nat.le_of_ble_eq_true rfl, Nat.le_of_ble_eq_true rfl⟩ d_K_settleAfterLoss_2 ?_
  intro rv M1 ad1 H locs hP hM hE
  obtain ⟨e1, e2, e3⟩ := hP
  subst rv; subst M1; subst ad1
  have hal := rgAct_lv hM hw (r := r)
  show W _ _ _ _ _ _ _ _ _ _ _ _ _ _ _ (F0 m 5 ls [rfv ad 5 (rgAct M r)])
  refine r_astore_n (lv' := [(2, rfv ad 5 (rgAct M r)), (0, .ref (ad 0 0)), (1, rfv ad 7 (r))]) X.1 X.2.1 d_K_settleAfterLoss_5 rfl hl (by decide) (by simp only [List.filter_cons, List.filter_nil, rfv_cat]; rfl) (fun ls hl => ?_)
  refine r_aload_n X.1 X.2.1 d_K_settleAfterLoss_6 rfl (lv_at hl 0 rfl) ?_
  refine r_ifnull (tgt := 23) X.1 X.2.1 d_K_settleAfterLoss_7 (by decide) (fun h7 => ?_) (fun g h7 => ?_)
  · skip
    rw [h7] at hl
    have hl : lv_has ls 3 [(2, .null), (0, .ref (ad 0 0)), (1, rfv ad 7 (r))] := hl
    exact m_vret X hr hlk hM d_K_settleAfterLoss_23 ⟨Nat.le_of_ble_eq_true rfl, Nat.le_of_ble_eq_true rfl⟩ (mExt_rf _ _) ⟨rfl, (stM_0 h7).symm, rfl⟩
  · skip
    rw [h7] at hl
    have hl : lv_has ls 3 [(2, .ref (ad 5 g)), (0, .ref (ad 0 0)), (1, rfv ad 7 (r))] := hl
    refine lv_aload_n X.1 X.2.1 d_K_settleAfterLoss_10 rfl (lv_at hl 1 rfl) ?_
    refine lv_aload_n X.1 X.2.1 d_K_settleAfterLoss_11 rfl (lv_at hl 0 rfl) ?_
    refine r_cV (As := [.ref (ad 5 g)]) (rest := []) X hml hl.1 hM (k_K_tryClearing l D dA base M ad hw ht g (hal g h7)) c_K_329 v_K_tryClearing kc_K rfl (w_k hw) rfl (Nat.le_of_ble_eq_true rfl) ⟨rfl, rfl, Nat.le_of_ble_eq_true rfl, Nat.le_of_ble_eq_true rfl⟩ ⟨Nat.le_of_ble_eq_true rfl, Nat.le_of_ble_eq_true rfl⟩ d_K_settleAfterLoss_12 ?_
    intro rv M1 ad1 H locs hP hM hE
    obtain ⟨e1, e2, e3⟩ := hP
    subst rv; subst M1; subst ad1
    show W _ _ _ _ _ _ _ _ _ _ _ _ _ _ _ (F0 m 15 ls [.int (if clr M g = true then 1 else 0)])
    refine lv_if_ne (tgt := 23) X.1 X.2.1 d_K_settleAfterLoss_15 (by decide) (fun h15 => ?_) (fun h15 => ?_)
    · skip
      exact m_vret X hr hlk hM d_K_settleAfterLoss_23 ⟨Nat.le_of_ble_eq_true rfl, Nat.le_of_ble_eq_true rfl⟩ (gn_ext (tcM_gn M g) ad) ⟨rfl, (stM_1 h7 (bn0 h15)).symm, rfl⟩
    · skip
      rw [tcM_f (be0 h15)] at hM
      refine lv_aload_n X.1 X.2.1 d_K_settleAfterLoss_18 rfl (lv_at hl 1 rfl) ?_
      refine lv_aload_n X.1 X.2.1 d_K_settleAfterLoss_19 rfl (lv_at hl 0 rfl) ?_
      refine r_cV (As := [.ref (ad 5 g)]) (rest := []) X hml hl.1 hM (k_K_tryActivation l D dA base M ad hw ht g (hal g h7)) c_K_207 v_K_tryActivation kc_K rfl (w_k hw) rfl (Nat.le_of_ble_eq_true rfl) ⟨rfl, rfl, Nat.le_of_ble_eq_true rfl, Nat.le_of_ble_eq_true rfl⟩ ⟨Nat.le_of_ble_eq_true rfl, Nat.le_of_ble_eq_true rfl⟩ d_K_settleAfterLoss_20 ?_
      intro rv M1 ad1 H locs hP hM hE
      obtain ⟨e1, e2, e3⟩ := hP
      subst rv; subst M1; subst ad1
      show W _ _ _ _ _ _ _ _ _ _ _ _ _ _ _ (F0 m 23 ls [])
      exact m_vret X hr hlk hM d_K_settleAfterLoss_23 ⟨Nat.le_of_ble_eq_true rfl, Nat.le_of_ble_eq_true rfl⟩ (kp_ext (taM_kp M g) ad) ⟨rfl, (stM_2 h7 (be0 h15)).symm, rfl⟩
