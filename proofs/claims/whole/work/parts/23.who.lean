theorem live_regs {D : va_G} {dA : Nat → ClassId} {base : Nat} {M : mM} {ad : Nat → Nat → Nat} {H0 H : Heap} {locs : List Loc} (hM : mSt D dA base M ad H0 H locs) (hw : wK M) {i : Nat} (hi : i < nRg M) : rgx M i < gn M 5 :=
  hM.live (k := 10) (i := 0) (j := i) (hM.live (k := 0) (i := 0) (j := 5) (w_k hw) rfl (w_0_5 hw)) rfl (w_rg hw hi)
def fitR (M : mM) (path : Int32) (g : Nat) : Bool := decide (gi M 5 g 5 = 0 ∧ gr M 5 g 4 ≠ none ∧ bgs (gi M 5 g 0) path = true)
def betR (M : mM) (b : Option Nat) (g : Nat) : Bool := match b with
  | none => true
  | some h => decide (gi M 5 h 0 < gi M 5 g 0)
/-- the best of the first n registrations for a path -/
def rfB (M : mM) (path : Int32) : Nat → Option Nat
  | 0 => none
  | n + 1 => if fitR M path (rgx M n) = true ∧ betR M (rfB M path n) (rgx M n) = true then some (rgx M n) else rfB M path n
def rgFor (M : mM) (path : Int32) : Option Nat := rfB M path (nRg M)
theorem rfB_lv {D : va_G} {dA : Nat → ClassId} {base : Nat} {M : mM} {ad : Nat → Nat → Nat} {H0 H : Heap} {locs : List Loc} (hM : mSt D dA base M ad H0 H locs) (hw : wK M) {path : Int32} : ∀ {n : Nat}, n ≤ nRg M → ∀ q, rfB M path n = some q → q < gn M 5 := by
  intro n
  induction n with
  | zero => intro _ q h; cases h
  | succ n ih =>
    intro hn q h
    unfold rfB at h
    by_cases hc : fitR M path (rgx M n) = true ∧ betR M (rfB M path n) (rgx M n) = true
    · rw [if_pos hc] at h
      cases h
      exact live_regs hM hw (by omega)
    · rw [if_neg hc] at h
      exact ih (by omega) q h
theorem rfB_t {M : mM} {path : Int32} {n : Nat} (h1 : fitR M path (rgx M n) = true) (h2 : betR M (rfB M path n) (rgx M n) = true) : rfB M path (n + 1) = some (rgx M n) := if_pos ⟨h1, h2⟩
theorem rfB_f1 {M : mM} {path : Int32} {n : Nat} (h1 : ¬ fitR M path (rgx M n) = true) : rfB M path (n + 1) = rfB M path n := if_neg (fun z => h1 z.1)
theorem rfB_f2 {M : mM} {path : Int32} {n : Nat} (h2 : ¬ betR M (rfB M path n) (rgx M n) = true) : rfB M path (n + 1) = rfB M path n := if_neg (fun z => h2 z.2)
def upD (M : mM) (g : Nat) : Bool := match nwst M g with
  | none => false
  | some i => decide (gi M 7 i 1 = gi M 1 (gi M 5 g 1).toNatClampNeg 0)
theorem nwst_lv {D : va_G} {dA : Nat → ClassId} {base : Nat} {M : mM} {ad : Nat → Nat → Nat} {H0 H : Heap} {locs : List Loc} (hM : mSt D dA base M ad H0 H locs) {g : Nat} (hg : g < gn M 5) : ∀ q, nwst M g = some q → q < gn M 7 := by
  intro q h
  unfold nwst at h
  cases h2 : gr M 5 g 2 with
  | some i => rw [h2] at h; cases h; exact hM.live (k := 5) (j := 2) hg rfl h2
  | none =>
    rw [h2] at h
    cases h3 : gr M 5 g 3 with
    | some i => rw [h3] at h; cases h; exact hM.live (k := 5) (j := 3) hg rfl h3
    | none => rw [h3] at h; exact hM.live (k := 5) (j := 4) hg rfl h
set_option maxHeartbeats 4000000 in
set_option maxRecDepth 100000 in
theorem k_K_leastFreeClient (l : Launch) (D : va_G) (dA : Nat → ClassId) (base : Nat) (M : mM) (ad : Nat → Nat → Nat) (hw : wK M) : mMet l y_K_leastFreeClient b_K_leastFreeClient 2 (some FieldType.int) ({ frames := 0, cells := 0, slots := 0, locals := 0 } : Room) 0 0 D dA base M ad [.ref (ad 0 0)] (mSame M ad (some (.int (nI (lfc M))))) := by
  refine m_start (lvs := [(0, .ref (ad 0 0))]) (by decide) (Nat.le_of_ble_eq_true rfl) rfl ?_
  intro p e s m below meth c ls X hr hlk hin hml hM hl
  refine lv_iconst (v := 0) X.1 X.2.1 d_K_leastFreeClient_0 (by decide) ?_
  refine lv_istore_n (lv' := [(1, .int 0), (0, .ref (ad 0 0))]) X.1 X.2.1 d_K_leastFreeClient_1 rfl hl (by decide) rfl (fun ls hl => ?_)
  refine w_upW 8 (fun ls => F0 m 2 ls []) (fun i H L ls => mSt D dA base M ad s.heap H L ∧ lv_has ls 2 [(1, .int (nI i)), (0, .ref (ad 0 0))] ∧ ff (fun i => decide (gi M 2 i 0 = 0)) (8 - i) i = ff (fun i => decide (gi M 2 i 0 = 0)) 8 0) ?_ ?_ 0 _ _ ls (by omega) ⟨hM, lv_sub hl [0, 1] rfl, rfl⟩
  · rintro H locs ls ⟨hM, hl, hI⟩
    rw [Nat.sub_self] at hI
    refine lv_iload_n X.1 X.2.1 d_K_leastFreeClient_2 rfl (lv_at hl 0 rfl) ?_
    refine lv_bipush (v := 8) X.1 X.2.1 d_K_leastFreeClient_3 (by decide) ?_
    refine lv_icmp_ge (tgt := 26) X.1 X.2.1 d_K_leastFreeClient_5 (by decide) (fun hz51 => ?_) (fun hz51 => absurd (by decide) hz51)
    refine lv_iload_n X.1 X.2.1 d_K_leastFreeClient_26 rfl (lv_at hl 0 rfl) ?_
    exact m_iret X hr hlk hM d_K_leastFreeClient_27 ⟨Nat.le_of_ble_eq_true rfl, Nat.le_of_ble_eq_true rfl⟩ (mExt_rf _ _) ⟨by unfold lfc; rw [← hI]; rfl, rfl, rfl⟩
  · rintro i hi ih H locs ls ⟨hM, hl, hI⟩
    rw [show 8 - i = (8 - (i + 1)) + 1 by omega] at hI
    refine lv_iload_n X.1 X.2.1 d_K_leastFreeClient_2 rfl (lv_at hl 0 rfl) ?_
    refine lv_bipush (v := 8) X.1 X.2.1 d_K_leastFreeClient_3 (by decide) ?_
    refine lv_icmp_ge (tgt := 26) X.1 X.2.1 d_K_leastFreeClient_5 (by decide) (fun hz51 => absurd hz51 (show ¬ (8 : Int32) ≤ nI i from nI_ge hi (by decide))) (fun hz51 => ?_)
    refine lv_aload_n X.1 X.2.1 d_K_leastFreeClient_8 rfl (lv_at hl 1 rfl) ?_
    refine r_gets (q := 0) X hM rfl (w_k hw) f_K_43 rfl (w_0_7 hw) d_K_leastFreeClient_9 (fun hv52 => ?_)
    refine lv_iload_n X.1 X.2.1 d_K_leastFreeClient_12 rfl (lv_at hl 0 rfl) ?_
    refine r_aalds (q := i) X hM rfl hv52 a_clients (fun _ => rfl) (j := i) rfl (by omega) (w_cl hw hi) d_K_leastFreeClient_13 (fun hv53 => ?_)
    refine r_geti X hM rfl hv53 f_K_163 rfl d_K_leastFreeClient_14 ?_
    refine lv_if_eq (tgt := 26) X.1 X.2.1 d_K_leastFreeClient_17 (by decide) (fun hq0 => ?_) (fun hq0 => ?_)
    · skip
      refine lv_iload_n X.1 X.2.1 d_K_leastFreeClient_26 rfl (lv_at hl 0 rfl) ?_
      exact m_iret X hr hlk hM d_K_leastFreeClient_27 ⟨Nat.le_of_ble_eq_true rfl, Nat.le_of_ble_eq_true rfl⟩ (mExt_rf _ _) ⟨by unfold lfc; rw [← hI, ff_t (decide_eq_true hq0)]; rfl, rfl, rfl⟩
    · skip
      obtain ⟨xi, e_xi⟩ : ∃ z : Int32, z = (nI i) + 1 := ⟨_, rfl⟩
      refine lv_iinc (v := xi) (lv' := [(1, .int xi), (0, .ref (ad 0 0))]) X.1 X.2.1 d_K_leastFreeClient_20 hl (k := 0) rfl (by rw [e_xi]; rfl) (by decide) rfl (fun ls hl => ?_)
      refine lv_goto (tgt := 2) X.1 X.2.1 d_K_leastFreeClient_23 (by decide) ?_
      have e9 := e_xi.trans (nI_1 i)
      subst e9
      exact ih _ _ ls ⟨hM, lv_sub hl [0, 1] rfl, by rw [← hI]; exact (ff_f (fun z => hq0 (of_decide_eq_true z))).symm⟩
set_option maxHeartbeats 4000000 in
set_option maxRecDepth 100000 in
theorem k_K_controlledBy_n (l : Launch) (D : va_G) (dA : Nat → ClassId) (base : Nat) (M : mM) (ad : Nat → Nat → Nat) (hw : wK M)  : mMet l y_K_controlledBy b_K_controlledBy 4 (some FieldType.int) ({ frames := 0, cells := 0, slots := 0, locals := 0 } : Room) 0 0 D dA base M ad [.ref (ad 0 0), .null] (mSame M ad (some (.int (nI (ctl M ((none : Option Nat))))))) := by
  refine m_start (lvs := [(0, .ref (ad 0 0)), (1, .null)]) (by decide) (Nat.le_of_ble_eq_true rfl) rfl ?_
  intro p e s m below meth c ls X hr hlk hin hml hM hl
  refine lv_iconst (v := 0) X.1 X.2.1 d_K_controlledBy_0 (by decide) ?_
  refine lv_istore_n (lv' := [(2, .int 0), (0, .ref (ad 0 0)), (1, .null)]) X.1 X.2.1 d_K_controlledBy_1 rfl hl (by decide) rfl (fun ls hl => ?_)
  refine lv_iconst (v := 0) X.1 X.2.1 d_K_controlledBy_2 (by decide) ?_
  refine lv_istore_n (lv' := [(3, .int 0), (2, .int 0), (0, .ref (ad 0 0)), (1, .null)]) X.1 X.2.1 d_K_controlledBy_3 rfl hl (by decide) rfl (fun ls hl => ?_)
  refine w_upW 8 (fun ls => F0 m 4 ls []) (fun i H L ls => mSt D dA base M ad s.heap H L ∧ lv_has ls 4 [(2, .int (nI (cn (fun i => decide ((none : Option Nat) ≠ none ∧ gr M 2 i 2 = (none : Option Nat))) i))), (3, .int (nI i)), (0, .ref (ad 0 0)), (1, .null)] ∧ True) ?_ ?_ 0 _ _ ls (by omega) ⟨hM, lv_sub hl [1, 0, 2, 3] rfl, trivial⟩
  · rintro H locs ls ⟨hM, hl, hI⟩
    refine lv_iload_n X.1 X.2.1 d_K_controlledBy_4 rfl (lv_at hl 1 rfl) ?_
    refine lv_bipush (v := 8) X.1 X.2.1 d_K_controlledBy_5 (by decide) ?_
    refine lv_icmp_ge (tgt := 36) X.1 X.2.1 d_K_controlledBy_7 (by decide) (fun hz51 => ?_) (fun hz51 => absurd (by decide) hz51)
    refine lv_iload_n X.1 X.2.1 d_K_controlledBy_36 rfl (lv_at hl 0 rfl) ?_
    exact m_iret X hr hlk hM d_K_controlledBy_37 ⟨Nat.le_of_ble_eq_true rfl, Nat.le_of_ble_eq_true rfl⟩ (mExt_rf _ _) ⟨rfl, rfl, rfl⟩
  · rintro i hi ih H locs ls ⟨hM, hl, hI⟩
    refine lv_iload_n X.1 X.2.1 d_K_controlledBy_4 rfl (lv_at hl 1 rfl) ?_
    refine lv_bipush (v := 8) X.1 X.2.1 d_K_controlledBy_5 (by decide) ?_
    refine lv_icmp_ge (tgt := 36) X.1 X.2.1 d_K_controlledBy_7 (by decide) (fun hz51 => absurd hz51 (show ¬ (8 : Int32) ≤ nI i from nI_ge hi (by decide))) (fun hz51 => ?_)
    refine lv_aload_nN X.1 X.2.1 d_K_controlledBy_10 rfl (lv_at hl 3 rfl) ?_
    refine lv_ifnullN (tgt := 30) X.1 X.2.1 d_K_controlledBy_11 (by decide) ?_
    obtain ⟨xi, e_xi⟩ : ∃ z : Int32, z = (nI i) + 1 := ⟨_, rfl⟩
    refine lv_iinc (v := xi) (lv' := [(3, .int xi), (2, .int (nI (cn (fun i => decide ((none : Option Nat) ≠ none ∧ gr M 2 i 2 = (none : Option Nat))) i))), (0, .ref (ad 0 0)), (1, .null)]) X.1 X.2.1 d_K_controlledBy_30 hl (k := 1) rfl (by rw [e_xi]; rfl) (by decide) rfl (fun ls hl => ?_)
    refine lv_goto (tgt := 4) X.1 X.2.1 d_K_controlledBy_33 (by decide) ?_
    have e9 := e_xi.trans (nI_1 i)
    subst e9
    rw [cn_n (p := (fun i => decide ((none : Option Nat) ≠ none ∧ gr M 2 i 2 = (none : Option Nat)))) (n := i) (fun z => (of_decide_eq_true z).1 rfl)] at hl
    exact ih _ _ ls ⟨hM, lv_sub hl [1, 0, 2, 3] rfl, trivial⟩
set_option maxHeartbeats 4000000 in
set_option maxRecDepth 100000 in
theorem k_K_controlledBy_s (l : Launch) (D : va_G) (dA : Nat → ClassId) (base : Nat) (M : mM) (ad : Nat → Nat → Nat) (hw : wK M) (w : Nat) (hw7 : w < gn M 7) : mMet l y_K_controlledBy b_K_controlledBy 4 (some FieldType.int) ({ frames := 0, cells := 0, slots := 0, locals := 0 } : Room) 0 0 D dA base M ad [.ref (ad 0 0), .ref (ad 7 w)] (mSame M ad (some (.int (nI (ctl M ((some w))))))) := by
  refine m_start (lvs := [(0, .ref (ad 0 0)), (1, .ref (ad 7 w))]) (by decide) (Nat.le_of_ble_eq_true rfl) rfl ?_
  intro p e s m below meth c ls X hr hlk hin hml hM hl
  refine lv_iconst (v := 0) X.1 X.2.1 d_K_controlledBy_0 (by decide) ?_
  refine lv_istore_n (lv' := [(2, .int 0), (0, .ref (ad 0 0)), (1, .ref (ad 7 w))]) X.1 X.2.1 d_K_controlledBy_1 rfl hl (by decide) rfl (fun ls hl => ?_)
  refine lv_iconst (v := 0) X.1 X.2.1 d_K_controlledBy_2 (by decide) ?_
  refine lv_istore_n (lv' := [(3, .int 0), (2, .int 0), (0, .ref (ad 0 0)), (1, .ref (ad 7 w))]) X.1 X.2.1 d_K_controlledBy_3 rfl hl (by decide) rfl (fun ls hl => ?_)
  refine w_upW 8 (fun ls => F0 m 4 ls []) (fun i H L ls => mSt D dA base M ad s.heap H L ∧ lv_has ls 4 [(2, .int (nI (cn (fun i => decide ((some w) ≠ none ∧ gr M 2 i 2 = (some w))) i))), (3, .int (nI i)), (0, .ref (ad 0 0)), (1, .ref (ad 7 w))] ∧ True) ?_ ?_ 0 _ _ ls (by omega) ⟨hM, lv_sub hl [1, 0, 2, 3] rfl, trivial⟩
  · rintro H locs ls ⟨hM, hl, hI⟩
    refine lv_iload_n X.1 X.2.1 d_K_controlledBy_4 rfl (lv_at hl 1 rfl) ?_
    refine lv_bipush (v := 8) X.1 X.2.1 d_K_controlledBy_5 (by decide) ?_
    refine lv_icmp_ge (tgt := 36) X.1 X.2.1 d_K_controlledBy_7 (by decide) (fun hz51 => ?_) (fun hz51 => absurd (by decide) hz51)
    refine lv_iload_n X.1 X.2.1 d_K_controlledBy_36 rfl (lv_at hl 0 rfl) ?_
    exact m_iret X hr hlk hM d_K_controlledBy_37 ⟨Nat.le_of_ble_eq_true rfl, Nat.le_of_ble_eq_true rfl⟩ (mExt_rf _ _) ⟨rfl, rfl, rfl⟩
  · rintro i hi ih H locs ls ⟨hM, hl, hI⟩
    refine lv_iload_n X.1 X.2.1 d_K_controlledBy_4 rfl (lv_at hl 1 rfl) ?_
    refine lv_bipush (v := 8) X.1 X.2.1 d_K_controlledBy_5 (by decide) ?_
    refine lv_icmp_ge (tgt := 36) X.1 X.2.1 d_K_controlledBy_7 (by decide) (fun hz51 => absurd hz51 (show ¬ (8 : Int32) ≤ nI i from nI_ge hi (by decide))) (fun hz51 => ?_)
    refine lv_aload_n X.1 X.2.1 d_K_controlledBy_10 rfl (lv_at hl 3 rfl) ?_
    refine lv_ifnull X.1 X.2.1 d_K_controlledBy_11 ?_
    refine lv_aload_n X.1 X.2.1 d_K_controlledBy_14 rfl (lv_at hl 2 rfl) ?_
    refine r_gets (q := 0) X hM rfl (w_k hw) f_K_43 rfl (w_0_7 hw) d_K_controlledBy_15 (fun hv52 => ?_)
    refine lv_iload_n X.1 X.2.1 d_K_controlledBy_18 rfl (lv_at hl 1 rfl) ?_
    refine r_aalds (q := i) X hM rfl hv52 a_clients (fun _ => rfl) (j := i) rfl (by omega) (w_cl hw hi) d_K_controlledBy_19 (fun hv53 => ?_)
    refine r_getr X hM rfl hv53 f_K_173 rfl d_K_controlledBy_20 (fun hv54 => ?_)
    refine lv_aload_n X.1 X.2.1 d_K_controlledBy_23 rfl (lv_at hl 3 rfl) ?_
    show W _ _ _ _ _ _ _ _ _ _ _ _ _ _ _ (F0 m 24 ls (rfv ad 7 (some w) :: rfv ad 7 (gr M 2 i 2) :: []))
    refine r_acmp_ne (tgt := 30) X.1 X.2.1 hM (k := 7) hv54 (fun z hz => by cases hz; exact hw7) d_K_controlledBy_24 (by decide) (fun hq0 => ?_) (fun hq0 => ?_)
    · skip
      obtain ⟨xi, e_xi⟩ : ∃ z : Int32, z = (nI i) + 1 := ⟨_, rfl⟩
      refine lv_iinc (v := xi) (lv' := [(3, .int xi), (2, .int (nI (cn (fun i => decide ((some w) ≠ none ∧ gr M 2 i 2 = (some w))) i))), (0, .ref (ad 0 0)), (1, .ref (ad 7 w))]) X.1 X.2.1 d_K_controlledBy_30 hl (k := 1) rfl (by rw [e_xi]; rfl) (by decide) rfl (fun ls hl => ?_)
      refine lv_goto (tgt := 4) X.1 X.2.1 d_K_controlledBy_33 (by decide) ?_
      have e9 := e_xi.trans (nI_1 i)
      subst e9
      rw [cn_n (p := (fun i => decide ((some w) ≠ none ∧ gr M 2 i 2 = (some w)))) (n := i) (fun z => hq0 (of_decide_eq_true z).2)] at hl
      exact ih _ _ ls ⟨hM, lv_sub hl [1, 0, 2, 3] rfl, trivial⟩
    · skip
      obtain ⟨xc, e_xc⟩ : ∃ z : Int32, z = (nI (cn (fun i => decide ((some w) ≠ none ∧ gr M 2 i 2 = (some w))) i)) + 1 := ⟨_, rfl⟩
      refine lv_iinc (v := xc) (lv' := [(2, .int xc), (3, .int (nI i)), (0, .ref (ad 0 0)), (1, .ref (ad 7 w))]) X.1 X.2.1 d_K_controlledBy_27 hl (k := 0) rfl (by rw [e_xc]; rfl) (by decide) rfl (fun ls hl => ?_)
      obtain ⟨xi, e_xi⟩ : ∃ z : Int32, z = (nI i) + 1 := ⟨_, rfl⟩
      refine lv_iinc (v := xi) (lv' := [(3, .int xi), (2, .int xc), (0, .ref (ad 0 0)), (1, .ref (ad 7 w))]) X.1 X.2.1 d_K_controlledBy_30 hl (k := 1) rfl (by rw [e_xi]; rfl) (by decide) rfl (fun ls hl => ?_)
      refine lv_goto (tgt := 4) X.1 X.2.1 d_K_controlledBy_33 (by decide) ?_
      have e9 := e_xi.trans (nI_1 i)
      subst e9
      have e8 := cn_s (p := (fun i => decide ((some w) ≠ none ∧ gr M 2 i 2 = (some w)))) (n := i) (decide_eq_true ⟨(fun z => nomatch z), hq0⟩) e_xc
      subst e8
      exact ih _ _ ls ⟨hM, lv_sub hl [1, 0, 2, 3] rfl, trivial⟩
theorem k_K_controlledBy (l : Launch) (D : va_G) (dA : Nat → ClassId) (base : Nat) (M : mM) (ad : Nat → Nat → Nat) (hw : wK M) (r : Option Nat) (hr0 : ∀ q, r = some q → q < gn M 7) : mMet l y_K_controlledBy b_K_controlledBy 4 (some FieldType.int) ({ frames := 0, cells := 0, slots := 0, locals := 0 } : Room) 0 0 D dA base M ad [.ref (ad 0 0), rfv ad 7 r] (mSame M ad (some (.int (nI (ctl M r))))) := by
  cases r with
  | none => exact k_K_controlledBy_n l D dA base M ad hw
  | some w => exact k_K_controlledBy_s l D dA base M ad hw w (hr0 w rfl)
set_option maxHeartbeats 4000000 in
set_option maxRecDepth 100000 in
theorem k_K_registrationWithActive_n (l : Launch) (D : va_G) (dA : Nat → ClassId) (base : Nat) (M : mM) (ad : Nat → Nat → Nat) (hw : wK M)  : mMet l y_K_registrationWithActive b_K_registrationWithActive 3 (some (FieldType.object "ScopeKeeper$Registration")) ({ frames := 0, cells := 0, slots := 0, locals := 0 } : Room) 0 0 D dA base M ad [.ref (ad 0 0), .null] (mSame M ad (some (rfv ad 5 (rgAct M ((none : Option Nat)))))) := by
  refine m_start (lvs := [(0, .ref (ad 0 0)), (1, .null)]) (by decide) (Nat.le_of_ble_eq_true rfl) rfl ?_
  intro p e s m below meth c ls X hr hlk hin hml hM hl
  refine lv_iconst (v := 0) X.1 X.2.1 d_K_registrationWithActive_0 (by decide) ?_
  refine lv_istore_n (lv' := [(2, .int 0), (0, .ref (ad 0 0)), (1, .null)]) X.1 X.2.1 d_K_registrationWithActive_1 rfl hl (by decide) rfl (fun ls hl => ?_)
  have hN := w_nrl hw
  refine w_upW (nRg M) (fun ls => F0 m 2 ls []) (fun i H L ls => mSt D dA base M ad s.heap H L ∧ lv_has ls 3 [(2, .int (nI i)), (0, .ref (ad 0 0)), (1, .null)] ∧ ff (fun i => decide ((none : Option Nat) ≠ none ∧ gr M 5 (rgx M i) 4 = (none : Option Nat))) (nRg M - i) i = ff (fun i => decide ((none : Option Nat) ≠ none ∧ gr M 5 (rgx M i) 4 = (none : Option Nat))) (nRg M) 0) ?_ ?_ 0 _ _ ls (by omega) ⟨hM, lv_sub hl [0, 1, 2] rfl, by rw [Nat.sub_zero]⟩
  · rintro H locs ls ⟨hM, hl, hI⟩
    rw [Nat.sub_self] at hI
    refine lv_iload_n X.1 X.2.1 d_K_registrationWithActive_2 rfl (lv_at hl 0 rfl) ?_
    refine lv_aload_n X.1 X.2.1 d_K_registrationWithActive_3 rfl (lv_at hl 1 rfl) ?_
    refine r_geti X hM rfl (w_k hw) f_K_38 rfl d_K_registrationWithActive_4 ?_
    refine lv_icmp_ge (tgt := 40) X.1 X.2.1 d_K_registrationWithActive_7 (by decide) (fun hz51 => ?_) (fun hz51 => absurd (by rw [w_nr hw]; exact Int32.le_refl _) hz51)
    refine lv_null X.1 X.2.1 d_K_registrationWithActive_40 ?_
    exact m_aret X hr hlk hM (by first | rfl | exact rfv_isRef _ _ _) d_K_registrationWithActive_41 ⟨Nat.le_of_ble_eq_true rfl, Nat.le_of_ble_eq_true rfl⟩ (mExt_rf _ _) ⟨by unfold rgAct; rw [← hI]; rfl, rfl, rfl⟩
  · rintro i hi ih H locs ls ⟨hM, hl, hI⟩
    rw [show nRg M - i = (nRg M - (i + 1)) + 1 by omega] at hI
    have hge : ¬ gi M 0 0 6 ≤ nI i := by rw [w_nr hw]; exact nI_ge hi (by omega)
    refine lv_iload_n X.1 X.2.1 d_K_registrationWithActive_2 rfl (lv_at hl 0 rfl) ?_
    refine lv_aload_n X.1 X.2.1 d_K_registrationWithActive_3 rfl (lv_at hl 1 rfl) ?_
    refine r_geti X hM rfl (w_k hw) f_K_38 rfl d_K_registrationWithActive_4 ?_
    refine lv_icmp_ge (tgt := 40) X.1 X.2.1 d_K_registrationWithActive_7 (by decide) (fun hz51 => absurd hz51 hge) (fun hz51 => ?_)
    refine lv_aload_nN X.1 X.2.1 d_K_registrationWithActive_10 rfl (lv_at hl 2 rfl) ?_
    refine lv_ifnullN (tgt := 34) X.1 X.2.1 d_K_registrationWithActive_11 (by decide) ?_
    obtain ⟨xi, e_xi⟩ : ∃ z : Int32, z = (nI i) + 1 := ⟨_, rfl⟩
    refine lv_iinc (v := xi) (lv' := [(2, .int xi), (0, .ref (ad 0 0)), (1, .null)]) X.1 X.2.1 d_K_registrationWithActive_34 hl (k := 0) rfl (by rw [e_xi]; rfl) (by decide) rfl (fun ls hl => ?_)
    refine lv_goto (tgt := 2) X.1 X.2.1 d_K_registrationWithActive_37 (by decide) ?_
    have e9 := e_xi.trans (nI_1 i)
    subst e9
    exact ih _ _ ls ⟨hM, lv_sub hl [0, 1, 2] rfl, by rw [← hI]; exact (ff_f (fun z => (of_decide_eq_true z).1 rfl)).symm⟩
set_option maxHeartbeats 4000000 in
set_option maxRecDepth 100000 in
theorem k_K_registrationWithActive_s (l : Launch) (D : va_G) (dA : Nat → ClassId) (base : Nat) (M : mM) (ad : Nat → Nat → Nat) (hw : wK M) (w : Nat) (hw7 : w < gn M 7) : mMet l y_K_registrationWithActive b_K_registrationWithActive 3 (some (FieldType.object "ScopeKeeper$Registration")) ({ frames := 0, cells := 0, slots := 0, locals := 0 } : Room) 0 0 D dA base M ad [.ref (ad 0 0), .ref (ad 7 w)] (mSame M ad (some (rfv ad 5 (rgAct M ((some w)))))) := by
  refine m_start (lvs := [(0, .ref (ad 0 0)), (1, .ref (ad 7 w))]) (by decide) (Nat.le_of_ble_eq_true rfl) rfl ?_
  intro p e s m below meth c ls X hr hlk hin hml hM hl
  refine lv_iconst (v := 0) X.1 X.2.1 d_K_registrationWithActive_0 (by decide) ?_
  refine lv_istore_n (lv' := [(2, .int 0), (0, .ref (ad 0 0)), (1, .ref (ad 7 w))]) X.1 X.2.1 d_K_registrationWithActive_1 rfl hl (by decide) rfl (fun ls hl => ?_)
  have hN := w_nrl hw
  refine w_upW (nRg M) (fun ls => F0 m 2 ls []) (fun i H L ls => mSt D dA base M ad s.heap H L ∧ lv_has ls 3 [(2, .int (nI i)), (0, .ref (ad 0 0)), (1, .ref (ad 7 w))] ∧ ff (fun i => decide ((some w) ≠ none ∧ gr M 5 (rgx M i) 4 = (some w))) (nRg M - i) i = ff (fun i => decide ((some w) ≠ none ∧ gr M 5 (rgx M i) 4 = (some w))) (nRg M) 0) ?_ ?_ 0 _ _ ls (by omega) ⟨hM, lv_sub hl [0, 1, 2] rfl, by rw [Nat.sub_zero]⟩
  · rintro H locs ls ⟨hM, hl, hI⟩
    rw [Nat.sub_self] at hI
    refine lv_iload_n X.1 X.2.1 d_K_registrationWithActive_2 rfl (lv_at hl 0 rfl) ?_
    refine lv_aload_n X.1 X.2.1 d_K_registrationWithActive_3 rfl (lv_at hl 1 rfl) ?_
    refine r_geti X hM rfl (w_k hw) f_K_38 rfl d_K_registrationWithActive_4 ?_
    refine lv_icmp_ge (tgt := 40) X.1 X.2.1 d_K_registrationWithActive_7 (by decide) (fun hz51 => ?_) (fun hz51 => absurd (by rw [w_nr hw]; exact Int32.le_refl _) hz51)
    refine lv_null X.1 X.2.1 d_K_registrationWithActive_40 ?_
    exact m_aret X hr hlk hM (by first | rfl | exact rfv_isRef _ _ _) d_K_registrationWithActive_41 ⟨Nat.le_of_ble_eq_true rfl, Nat.le_of_ble_eq_true rfl⟩ (mExt_rf _ _) ⟨by unfold rgAct; rw [← hI]; rfl, rfl, rfl⟩
  · rintro i hi ih H locs ls ⟨hM, hl, hI⟩
    rw [show nRg M - i = (nRg M - (i + 1)) + 1 by omega] at hI
    have hge : ¬ gi M 0 0 6 ≤ nI i := by rw [w_nr hw]; exact nI_ge hi (by omega)
    refine lv_iload_n X.1 X.2.1 d_K_registrationWithActive_2 rfl (lv_at hl 0 rfl) ?_
    refine lv_aload_n X.1 X.2.1 d_K_registrationWithActive_3 rfl (lv_at hl 1 rfl) ?_
    refine r_geti X hM rfl (w_k hw) f_K_38 rfl d_K_registrationWithActive_4 ?_
    refine lv_icmp_ge (tgt := 40) X.1 X.2.1 d_K_registrationWithActive_7 (by decide) (fun hz51 => absurd hz51 hge) (fun hz51 => ?_)
    refine lv_aload_n X.1 X.2.1 d_K_registrationWithActive_10 rfl (lv_at hl 2 rfl) ?_
    refine lv_ifnull X.1 X.2.1 d_K_registrationWithActive_11 ?_
    refine lv_aload_n X.1 X.2.1 d_K_registrationWithActive_14 rfl (lv_at hl 1 rfl) ?_
    refine r_gets (q := 0) X hM rfl (w_k hw) f_K_34 rfl (w_0_5 hw) d_K_registrationWithActive_15 (fun hv52 => ?_)
    refine lv_iload_n X.1 X.2.1 d_K_registrationWithActive_18 rfl (lv_at hl 0 rfl) ?_
    refine r_aalds (q := (rgx M i)) X hM rfl hv52 a_regs (fun _ => rfl) (j := i) rfl (by omega) (w_rg hw hi) d_K_registrationWithActive_19 (fun hv53 => ?_)
    refine r_getr X hM rfl hv53 f_K_169 rfl d_K_registrationWithActive_20 (fun hv54 => ?_)
    refine lv_aload_n X.1 X.2.1 d_K_registrationWithActive_23 rfl (lv_at hl 2 rfl) ?_
    show W _ _ _ _ _ _ _ _ _ _ _ _ _ _ _ (F0 m 24 ls (rfv ad 7 (some w) :: rfv ad 7 (gr M 5 (rgx M i) 4) :: []))
    refine r_acmp_ne (tgt := 34) X.1 X.2.1 hM (k := 7) hv54 (fun z hz => by cases hz; exact hw7) d_K_registrationWithActive_24 (by decide) (fun hq0 => ?_) (fun hq0 => ?_)
    · skip
      obtain ⟨xi, e_xi⟩ : ∃ z : Int32, z = (nI i) + 1 := ⟨_, rfl⟩
      refine lv_iinc (v := xi) (lv' := [(2, .int xi), (0, .ref (ad 0 0)), (1, .ref (ad 7 w))]) X.1 X.2.1 d_K_registrationWithActive_34 hl (k := 0) rfl (by rw [e_xi]; rfl) (by decide) rfl (fun ls hl => ?_)
      refine lv_goto (tgt := 2) X.1 X.2.1 d_K_registrationWithActive_37 (by decide) ?_
      have e9 := e_xi.trans (nI_1 i)
      subst e9
      exact ih _ _ ls ⟨hM, lv_sub hl [0, 1, 2] rfl, by rw [← hI]; exact (ff_f (fun z => hq0 (of_decide_eq_true z).2)).symm⟩
    · skip
      refine lv_aload_n X.1 X.2.1 d_K_registrationWithActive_27 rfl (lv_at hl 1 rfl) ?_
      refine r_gets (q := 0) X hM rfl (w_k hw) f_K_34 rfl (w_0_5 hw) d_K_registrationWithActive_28 (fun hv55 => ?_)
      refine lv_iload_n X.1 X.2.1 d_K_registrationWithActive_31 rfl (lv_at hl 0 rfl) ?_
      refine r_aalds (q := (rgx M i)) X hM rfl hv55 a_regs (fun _ => rfl) (j := i) rfl (by omega) (w_rg hw hi) d_K_registrationWithActive_32 (fun hv56 => ?_)
      exact m_aret X hr hlk hM (by first | rfl | exact rfv_isRef _ _ _) d_K_registrationWithActive_33 ⟨Nat.le_of_ble_eq_true rfl, Nat.le_of_ble_eq_true rfl⟩ (mExt_rf _ _) ⟨by unfold rgAct; rw [← hI, ff_t (decide_eq_true ⟨(fun z => nomatch z), hq0⟩)]; rfl, rfl, rfl⟩
theorem k_K_registrationWithActive (l : Launch) (D : va_G) (dA : Nat → ClassId) (base : Nat) (M : mM) (ad : Nat → Nat → Nat) (hw : wK M) (r : Option Nat) (hr0 : ∀ q, r = some q → q < gn M 7) : mMet l y_K_registrationWithActive b_K_registrationWithActive 3 (some (FieldType.object "ScopeKeeper$Registration")) ({ frames := 0, cells := 0, slots := 0, locals := 0 } : Room) 0 0 D dA base M ad [.ref (ad 0 0), rfv ad 7 r] (mSame M ad (some (rfv ad 5 (rgAct M r)))) := by
  cases r with
  | none => exact k_K_registrationWithActive_n l D dA base M ad hw
  | some w => exact k_K_registrationWithActive_s l D dA base M ad hw w (hr0 w rfl)
set_option maxHeartbeats 4000000 in
set_option maxRecDepth 100000 in
theorem k_K_isUpToDate (l : Launch) (D : va_G) (dA : Nat → ClassId) (base : Nat) (M : mM) (ad : Nat → Nat → Nat) (hw : wK M) (g k : Nat) (hg : g < gn M 5) (hs : gi M 5 g 1 = nI k) (hk : k < 4) : mMet l y_K_isUpToDate b_K_isUpToDate 3 (some FieldType.boolean) ({ frames := 1, cells := 0, slots := 0, locals := 40 } : Room) 0 0 D dA base M ad [.ref (ad 0 0), .ref (ad 5 g)] (mSame M ad (some (.int (if upD M g = true then 1 else 0)))) := by
  refine m_start (lvs := [(0, .ref (ad 0 0)), (1, .ref (ad 5 g))]) (by decide) (Nat.le_of_ble_eq_true rfl) rfl ?_
  intro p e s m below meth c ls X hr hlk hin hml hM hl
  refine lv_aload_n X.1 X.2.1 d_K_isUpToDate_0 rfl (lv_at hl 1 rfl) ?_
  refine r_cV (As := []) (rest := []) X hml hl.1 hM (k_Rg_newest l D dA base M ad g hg) c_K_332 v_Rg_newest kc_Rg rfl hg rfl (Nat.le_of_ble_eq_true rfl) ⟨rfl, rfl, Nat.le_of_ble_eq_true rfl, Nat.le_of_ble_eq_true rfl⟩ ⟨Nat.le_of_ble_eq_true rfl, Nat.le_of_ble_eq_true rfl⟩ d_K_isUpToDate_1 ?_
  intro rv M1 ad1 H locs hP hM hE
  obtain ⟨e1, e2, e3⟩ := hP
  subst rv; subst M1; subst ad1
  show W _ _ _ _ _ _ _ _ _ _ _ _ _ _ _ (F0 m 4 ls [rfv ad 7 (nwst M g)])
  refine r_astore_n (lv' := [(2, rfv ad 7 (nwst M g)), (0, .ref (ad 0 0)), (1, .ref (ad 5 g))]) X.1 X.2.1 d_K_isUpToDate_4 rfl hl (by decide) rfl (fun ls hl => ?_)
  refine r_aload_n X.1 X.2.1 d_K_isUpToDate_5 rfl (lv_at hl 0 rfl) ?_
  refine r_ifnull (tgt := 32) X.1 X.2.1 d_K_isUpToDate_6 (by decide) (fun hn => ?_) (fun wn hn => ?_)
  · skip
    rw [hn] at hl
    have hl : lv_has ls 3 [(2, .null), (0, .ref (ad 0 0)), (1, .ref (ad 5 g))] := hl
    refine lv_iconst (v := 0) X.1 X.2.1 d_K_isUpToDate_32 (by decide) ?_
    exact m_zret X hr hlk hM (by first | rfl | decide) d_K_isUpToDate_33 ⟨Nat.le_of_ble_eq_true rfl, Nat.le_of_ble_eq_true rfl⟩ (mExt_rf _ _) ⟨b0 (by unfold upD; rw [hn]; exact Bool.false_ne_true), rfl, rfl⟩
  · skip
    rw [hn] at hl
    have hl : lv_has ls 3 [(2, .ref (ad 7 wn)), (0, .ref (ad 0 0)), (1, .ref (ad 5 g))] := hl
    refine lv_aload_n X.1 X.2.1 d_K_isUpToDate_9 rfl (lv_at hl 0 rfl) ?_
    refine r_geti X hM rfl ((nwst_lv hM hg) wn hn) f_K_216 rfl d_K_isUpToDate_10 ?_
    refine lv_aload_n X.1 X.2.1 d_K_isUpToDate_13 rfl (lv_at hl 1 rfl) ?_
    refine r_gets (q := 0) X hM rfl (w_k hw) f_K_11 rfl (w_0_0 hw) d_K_isUpToDate_14 (fun hv2 => ?_)
    refine lv_aload_n X.1 X.2.1 d_K_isUpToDate_17 rfl (lv_at hl 2 rfl) ?_
    refine r_geti X hM rfl hg f_K_235 rfl d_K_isUpToDate_18 ?_
    refine r_aalds (q := k) X hM rfl hv2 a_scripts (fun _ => rfl) (j := k) hs hk (w_sc hw hk) d_K_isUpToDate_21 (fun hv3 => ?_)
    refine r_geti X hM rfl hv3 f_K_84 rfl d_K_isUpToDate_22 ?_
    refine lv_icmp_ne (tgt := 32) X.1 X.2.1 d_K_isUpToDate_25 (by decide) (fun hq => ?_) (fun hq => ?_)
    · skip
      refine lv_iconst (v := 0) X.1 X.2.1 d_K_isUpToDate_32 (by decide) ?_
      exact m_zret X hr hlk hM (by first | rfl | decide) d_K_isUpToDate_33 ⟨Nat.le_of_ble_eq_true rfl, Nat.le_of_ble_eq_true rfl⟩ (mExt_rf _ _) ⟨b0 (by unfold upD; rw [hn]; intro z; have z := of_decide_eq_true z; rw [hs, nI_clamp (by omega)] at z; exact hq z), rfl, rfl⟩
    · skip
      refine lv_iconst (v := 1) X.1 X.2.1 d_K_isUpToDate_28 (by decide) ?_
      refine lv_goto (tgt := 33) X.1 X.2.1 d_K_isUpToDate_29 (by decide) ?_
      exact m_zret X hr hlk hM (by first | rfl | decide) d_K_isUpToDate_33 ⟨Nat.le_of_ble_eq_true rfl, Nat.le_of_ble_eq_true rfl⟩ (mExt_rf _ _) ⟨b1 (by unfold upD; rw [hn]; exact decide_eq_true (by rw [hs, nI_clamp (by omega)]; exact hq)), rfl, rfl⟩
