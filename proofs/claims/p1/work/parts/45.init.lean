theorem w_upA {G : Nat → Heap → List Loc → JFrame → Prop} (N : Nat) (F : Array Slot → JFrame) (Inv : Nat → Heap → List Loc → Array Slot → Prop) (hz : ∀ H L ls, Inv N H L ls → G N H L (F ls)) (hs : ∀ i, i < N → (∀ H L ls, Inv (i + 1) H L ls → G (i + 1) H L (F ls)) → ∀ H L ls, Inv i H L ls → G i H L (F ls)) : ∀ H L ls, Inv 0 H L ls → G 0 H L (F ls) := by
  have key : ∀ n i H L ls, i + n = N → Inv i H L ls → G i H L (F ls) := by
    intro n
    induction n with
    | zero =>
      intro i H L ls h hI
      have : i = N := by omega
      subst this
      exact hz H L ls hI
    | succ n ih =>
      intro i H L ls h hI
      exact hs i (by omega) (fun H L ls h2 => ih (i + 1) H L ls (by omega) h2) H L ls hI
  intro H L ls hI
  exact key N 0 H L ls (by omega) hI
/-- the scripts are made, the first i; the clients -/
def scL (A : mM) : Nat → mM
  | 0 => A
  | i + 1 => sr (scI (sn (scL A i) 1) (gn (scL A i) 1)) 8 0 i (some (gn (scL A i) 1))
def ccL (A : mM) : Nat → mM
  | 0 => A
  | i + 1 => sr (clI (sn (ccL A i) 2) (gn (ccL A i) 2)) 11 0 i (some (gn (ccL A i) 2))
theorem ao_8 : Cond.arrayOver (.object "ScopeKeeper$Script") ∈ gw := gwm (lt1 27 rfl) rfl
theorem ao_9 : Cond.arrayOver (.object "ScopeKeeper$Worker") ∈ gw := gwm (lt1 29 rfl) rfl
theorem ao_10 : Cond.arrayOver (.object "ScopeKeeper$Registration") ∈ gw := gwm (lt1 31 rfl) rfl
theorem ao_11 : Cond.arrayOver (.object "ScopeKeeper$Client") ∈ gw := gwm (lt1 33 rfl) rfl
theorem ao_13 : Cond.arrayOver (.object "ScopeKeeper$Job") ∈ gw := gwm (lt1 35 rfl) rfl
theorem al_9 : Cond.classLink "ScopeKeeper" 9 "ScopeKeeper$Script" ∈ gw := gwm (lt1 26 rfl) rfl
theorem al_23 : Cond.classLink "ScopeKeeper" 23 "ScopeKeeper$Worker" ∈ gw := gwm (lt1 28 rfl) rfl
theorem al_32 : Cond.classLink "ScopeKeeper" 32 "ScopeKeeper$Registration" ∈ gw := gwm (lt1 30 rfl) rfl
theorem al_41 : Cond.classLink "ScopeKeeper" 41 "ScopeKeeper$Client" ∈ gw := gwm (lt1 32 rfl) rfl
theorem al_50 : Cond.classLink "ScopeKeeper" 50 "ScopeKeeper$Job" ∈ gw := gwm (lt1 34 rfl) rfl
def trI (M : mM) (g : Nat) : mM := si (sr (sn M 14) 3 g 0 (some (gn M 14))) 3 g 1 0
set_option maxHeartbeats 4000000 in
set_option maxRecDepth 100000 in
theorem k_Tr_init (l : Launch) (D : va_G) (dA : Nat → ClassId) (base : Nat) (M : mM) (ad : Nat → Nat → Nat) (g : Nat) (hg : g < gn M 3) : mMet l y_Tr_init b_Tr_init 1 none ({ frames := 1, cells := 1, slots := 60, locals := 12 } : Room) 1 60 D dA base M ad [.ref (ad 3 g)] (fun rv M' ad' => rv = none ∧ M' = trI M g) := by
  refine m_start (lvs := [(0, .ref (ad 3 g))]) (by decide) (Nat.le_of_ble_eq_true rfl) rfl ?_
  intro p e s m below meth c ls X hr hlk hin hml hM hl
  refine lv_aload_n X.1 X.2.1 d_Tr_init_0 rfl (lv_at hl 0 rfl) ?_
  refine W.objInit X.1 X.2.1 X.2.2.1 (X.2.2.2.1 _ oi_Tr) (X.2.2.2.1 _ oi_inst) (X.2.2.2.1 _ oi_code) rfl (by rw [hml]; exact hl.1) rfl d_Tr_init_1 (Nat.le_of_ble_eq_true rfl) (Nat.le_of_ble_eq_true rfl) ?_
  refine W.eq (g2 := F0 m 4 ls []) rfl ?_
  refine lv_aload_n X.1 X.2.1 d_Tr_init_4 rfl (lv_at hl 0 rfl) ?_
  refine lv_bipush (v := 60) X.1 X.2.1 d_Tr_init_5 (by decide) ?_
  refine r_newi (k := 14) X hM a_numbers (fun _ => rfl) gw_int rfl (by decide) (Nat.le_of_ble_eq_true rfl) (Nat.le_of_ble_eq_true rfl) d_Tr_init_7 (fun q1 H q1ad hq1M hq1E hq1q => ?_)
  have hM := hq1M
  have hnq1 : gn M 14 < gn (sn M 14) 14 := sn_live _ _
  refine r_putfr X hin hM (hq1E 3 g hg) (sn_up hg) p_Tr_9 rfl (x := (some (gn M 14))) (fun z hz => by cases hz; exact hnq1) (congrArg Value.ref hq1q) rfl rfl d_Tr_init_9 (fun H locs hM => ?_)
  refine lv_aload_n X.1 X.2.1 d_Tr_init_12 rfl (lv_at hl 0 rfl) ?_
  refine lv_iconst (v := 0) X.1 X.2.1 d_Tr_init_13 (by decide) ?_
  refine r_puti X hM (hq1E 3 g hg) (sn_up hg) p_Tr_15 rfl rfl rfl d_Tr_init_14 (fun H locs hM => ?_)
  exact m_vret X hr hlk hM d_Tr_init_17 ⟨Nat.le_of_ble_eq_true rfl, Nat.le_of_ble_eq_true rfl⟩ (mExt_tr (mExt_rf _ _) (mExt_new hq1E)) ⟨rfl, rfl⟩
