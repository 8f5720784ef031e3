/-- a worker's cache c: its arrays, its size z -/
def wC (M : mM) (c z : Nat) : Prop := c < gn M 6 ∧ gr M 6 c 0 = some c ∧ gr M 6 c 1 = some c ∧ gi M 6 c 2 = nI z ∧ z ≤ 4
def plc (M : mM) (c : Nat) (x : Int32) (z : Nat) : Nat := (ff (fun i => decide (gi M 15 c i = x)) z 0).getD z
theorem ff_lt {p : Nat → Bool} : ∀ {n i q : Nat}, ff p n i = some q → i ≤ q ∧ q < i + n ∧ p q = true := by
  intro n
  induction n with
  | zero => intro i q h; cases h
  | succ n ih =>
    intro i q h
    unfold ff at h
    by_cases hp : p i = true
    · rw [if_pos hp] at h
      cases h
      exact ⟨Nat.le_refl _, by omega, hp⟩
    · rw [if_neg hp] at h
      obtain ⟨h1, h2, h3⟩ := ih h
      exact ⟨by omega, by omega, h3⟩
theorem plc_le (M : mM) (c : Nat) (x : Int32) (z : Nat) : plc M c x z ≤ z := by
  unfold plc
  cases h : ff (fun i => decide (gi M 15 c i = x)) z 0 with
  | none => exact Nat.le_refl _
  | some q => have := ff_lt h; show q ≤ z; omega
/-- the value at a place, 0 without -/
def atC (M : mM) (k c z : Nat) (x : Int32) : Int32 := if 0 ≤ x ∧ x < nI z then gi M k c x.toNatClampNeg else 0
/-- places from p up to q have come one down -/
def shM (M : mM) (c p q : Nat) : mM := (fun k i j => if (k = 15 ∨ k = 16) ∧ i = c ∧ p ≤ j ∧ j < q then M.1 k c (j + 1) else M.1 k i j, M.2)
theorem gi_sh (M : mM) (c p q k i j : Nat) : gi (shM M c p q) k i j = if (k = 15 ∨ k = 16) ∧ i = c ∧ p ≤ j ∧ j < q then M.1 k c (j + 1) else gi M k i j := rfl
theorem shM_0 (M : mM) (c p : Nat) : shM M c p p = M := by
  have : (fun k i j => if (k = 15 ∨ k = 16) ∧ i = c ∧ p ≤ j ∧ j < p then M.1 k c (j + 1) else M.1 k i j) = M.1 := by
    funext k i j
    rw [if_neg (fun h => by omega)]
  unfold shM
  rw [this]
theorem shM_s (M : mM) (c p q : Nat) (h : p ≤ q) : si (si (shM M c p q) 15 c q (gi (shM M c p q) 15 c (q + 1))) 16 c q (gi (si (shM M c p q) 15 c q (gi (shM M c p q) 15 c (q + 1))) 16 c (q + 1)) = shM M c p (q + 1) := by
  have e1 : gi (shM M c p q) 15 c (q + 1) = M.1 15 c (q + 1) := by
    show ite _ _ _ = _
    rw [if_neg (fun h => by omega)]
  have e2 : gi (si (shM M c p q) 15 c q (gi (shM M c p q) 15 c (q + 1))) 16 c (q + 1) = M.1 16 c (q + 1) := by
    rw [gi_si, if_neg (fun h => by omega)]
    show ite _ _ _ = _
    rw [if_neg (fun h => by omega)]
  rw [e2, e1]
  have : (fun k i j => if k = 16 ∧ i = c ∧ j = q then M.1 16 c (q + 1) else if k = 15 ∧ i = c ∧ j = q then M.1 15 c (q + 1) else if (k = 15 ∨ k = 16) ∧ i = c ∧ p ≤ j ∧ j < q then M.1 k c (j + 1) else M.1 k i j) = (fun k i j => if (k = 15 ∨ k = 16) ∧ i = c ∧ p ≤ j ∧ j < q + 1 then M.1 k c (j + 1) else M.1 k i j) := by
    funext k i j
    by_cases h1 : k = 16 ∧ i = c ∧ j = q
    · obtain ⟨rfl, rfl, rfl⟩ := h1
      rw [if_pos ⟨rfl, rfl, rfl⟩, if_pos ⟨Or.inr rfl, rfl, h, by omega⟩]
    · rw [if_neg h1]
      by_cases h2 : k = 15 ∧ i = c ∧ j = q
      · obtain ⟨rfl, rfl, rfl⟩ := h2
        rw [if_pos ⟨rfl, rfl, rfl⟩, if_pos ⟨Or.inl rfl, rfl, h, by omega⟩]
      · rw [if_neg h2]
        by_cases h3 : (k = 15 ∨ k = 16) ∧ i = c ∧ p ≤ j ∧ j < q
        · rw [if_pos h3, if_pos ⟨h3.1, h3.2.1, h3.2.2.1, by omega⟩]
        · rw [if_neg h3, if_neg]
          rintro ⟨h4, h5, h6, h7⟩
          by_cases h8 : j = q
          · rcases h4 with h4 | h4
            · exact h2 ⟨h4, h5, h8⟩
            · exact h1 ⟨h4, h5, h8⟩
          · exact h3 ⟨h4, h5, h6, by omega⟩
  show ((_, M.2) : mM) = (_, M.2)
  exact congrArg (fun f => ((f, M.2) : mM)) this
/-- place p of z goes -/
def drpM (M : mM) (c p z : Nat) : mM := si (shM M c p (z - 1)) 6 c 2 (nI (z - 1))
/-- a path comes behind all others, with its value -/
def kepM (M : mM) (c : Nat) (x y : Int32) (z : Nat) : mM :=
  if plc M c x z < z then si (si (si (drpM M c (plc M c x z) z) 15 c (z - 1) x) 16 c (z - 1) y) 6 c 2 (nI z)
  else if z = 4 then si (si (si (drpM M c 0 4) 15 c 3 x) 16 c 3 y) 6 c 2 (nI 4)
  else si (si (si M 15 c z x) 16 c z y) 6 c 2 (nI (z + 1))
set_option maxHeartbeats 4000000 in
set_option maxRecDepth 100000 in
theorem k_Ca_placeOf (l : Launch) (D : va_G) (dA : Nat → ClassId) (base : Nat) (M : mM) (ad : Nat → Nat → Nat) (u z : Nat) (hc : wC M u z) (x : Int32) : mMet l y_Ca_placeOf b_Ca_placeOf 3 (some FieldType.int) ({ frames := 0, cells := 0, slots := 0, locals := 0 } : Room) 0 0 D dA base M ad [.ref (ad 6 u), .int x] (mSame M ad (some (.int (nI (plc M u x z))))) := by
  refine m_start (lvs := [(0, .ref (ad 6 u)), (1, .int x)]) (by decide) (Nat.le_of_ble_eq_true rfl) rfl ?_
  intro p e s m below meth c ls X hr hlk hin hml hM hl
  refine lv_iconst (v := 0) X.1 X.2.1 d_Ca_placeOf_0 (by decide) ?_
  refine lv_istore_n (lv' := [(2, .int 0), (0, .ref (ad 6 u)), (1, .int x)]) X.1 X.2.1 d_Ca_placeOf_1 rfl hl (by decide) rfl (fun ls hl => ?_)
  have hz4 := hc.2.2.2.2
  refine w_upW z (fun ls => F0 m 2 ls []) (fun i H L ls => mSt D dA base M ad s.heap H L ∧ lv_has ls 3 [(2, .int (nI i)), (0, .ref (ad 6 u)), (1, .int x)] ∧ ff (fun i => decide (gi M 15 u i = x)) (z - i) i = ff (fun i => decide (gi M 15 u i = x)) z 0) ?_ ?_ 0 _ _ ls (by omega) ⟨hM, lv_sub hl [0, 1, 2] rfl, by rw [Nat.sub_zero]⟩
  · rintro H locs ls ⟨hM, hl, hI⟩
    rw [Nat.sub_self] at hI
    refine lv_iload_n X.1 X.2.1 d_Ca_placeOf_2 rfl (lv_at hl 0 rfl) ?_
    refine lv_aload_n X.1 X.2.1 d_Ca_placeOf_3 rfl (lv_at hl 1 rfl) ?_
    refine r_geti X hM rfl hc.1 f_Ca_18 rfl d_Ca_placeOf_4 ?_
    refine lv_icmp_ge (tgt := 26) X.1 X.2.1 d_Ca_placeOf_7 (by decide) (fun hz51 => ?_) (fun hz51 => absurd (by rw [hc.2.2.2.1]; exact Int32.le_refl _) hz51)
    refine lv_iload_n X.1 X.2.1 d_Ca_placeOf_26 rfl (lv_at hl 0 rfl) ?_
    exact m_iret X hr hlk hM d_Ca_placeOf_27 ⟨Nat.le_of_ble_eq_true rfl, Nat.le_of_ble_eq_true rfl⟩ (mExt_rf _ _) ⟨by unfold plc; rw [← hI]; rfl, rfl, rfl⟩
  · rintro i hi ih H locs ls ⟨hM, hl, hI⟩
    rw [show z - i = (z - (i + 1)) + 1 by omega] at hI
    have hge : ¬ gi M 6 u 2 ≤ nI i := by rw [hc.2.2.2.1]; exact nI_ge hi (by omega)
    refine lv_iload_n X.1 X.2.1 d_Ca_placeOf_2 rfl (lv_at hl 0 rfl) ?_
    refine lv_aload_n X.1 X.2.1 d_Ca_placeOf_3 rfl (lv_at hl 1 rfl) ?_
    refine r_geti X hM rfl hc.1 f_Ca_18 rfl d_Ca_placeOf_4 ?_
    refine lv_icmp_ge (tgt := 26) X.1 X.2.1 d_Ca_placeOf_7 (by decide) (fun hz51 => absurd hz51 hge) (fun hz51 => ?_)
    refine lv_aload_n X.1 X.2.1 d_Ca_placeOf_10 rfl (lv_at hl 1 rfl) ?_
    refine r_gets (q := u) X hM rfl hc.1 f_Ca_9 rfl hc.2.1 d_Ca_placeOf_11 (fun hv52 => ?_)
    refine lv_iload_n X.1 X.2.1 d_Ca_placeOf_14 rfl (lv_at hl 0 rfl) ?_
    refine r_iald X hM rfl hv52 a_paths (fun _ => rfl) (j := i) rfl (by omega) d_Ca_placeOf_15 ?_
    refine lv_iload_n X.1 X.2.1 d_Ca_placeOf_16 rfl (lv_at hl 2 rfl) ?_
    refine lv_icmp_eq (tgt := 26) X.1 X.2.1 d_Ca_placeOf_17 (by decide) (fun hq0 => ?_) (fun hq0 => ?_)
    · skip
      refine lv_iload_n X.1 X.2.1 d_Ca_placeOf_26 rfl (lv_at hl 0 rfl) ?_
      exact m_iret X hr hlk hM d_Ca_placeOf_27 ⟨Nat.le_of_ble_eq_true rfl, Nat.le_of_ble_eq_true rfl⟩ (mExt_rf _ _) ⟨by unfold plc; rw [← hI, ff_t (decide_eq_true hq0)]; rfl, rfl, rfl⟩
    · skip
      obtain ⟨xi, e_xi⟩ : ∃ z : Int32, z = (nI i) + 1 := ⟨_, rfl⟩
      refine lv_iinc (v := xi) (lv' := [(2, .int xi), (0, .ref (ad 6 u)), (1, .int x)]) X.1 X.2.1 d_Ca_placeOf_20 hl (k := 0) rfl (by rw [e_xi]; rfl) (by decide) rfl (fun ls hl => ?_)
      refine lv_goto (tgt := 2) X.1 X.2.1 d_Ca_placeOf_23 (by decide) ?_
      have e9 := e_xi.trans (nI_1 i)
      subst e9
      exact ih _ _ ls ⟨hM, lv_sub hl [0, 1, 2] rfl, by rw [← hI]; exact (ff_f (fun z => hq0 (of_decide_eq_true z))).symm⟩
set_option maxHeartbeats 4000000 in
set_option maxRecDepth 100000 in
theorem k_Ca_has (l : Launch) (D : va_G) (dA : Nat → ClassId) (base : Nat) (M : mM) (ad : Nat → Nat → Nat) (u z : Nat) (hc : wC M u z) (x : Int32) : mMet l y_Ca_has b_Ca_has 2 (some FieldType.boolean) ({ frames := 1, cells := 0, slots := 0, locals := 40 } : Room) 0 0 D dA base M ad [.ref (ad 6 u), .int x] (mSame M ad (some (.int (if plc M u x z < z then 1 else 0)))) := by
  refine m_start (lvs := [(0, .ref (ad 6 u)), (1, .int x)]) (by decide) (Nat.le_of_ble_eq_true rfl) rfl ?_
  intro p e s m below meth c ls X hr hlk hin hml hM hl
  refine lv_aload_n X.1 X.2.1 d_Ca_has_0 rfl (lv_at hl 0 rfl) ?_
  refine lv_iload_n X.1 X.2.1 d_Ca_has_1 rfl (lv_at hl 1 rfl) ?_
  refine r_cV (As := [.int x]) (rest := []) X hml hl.1 hM (k_Ca_placeOf l D dA base M ad u z hc x) c_Ca_22 v_Ca_placeOf kc_Ca rfl hc.1 rfl (Nat.le_of_ble_eq_true rfl) ⟨rfl, rfl, Nat.le_of_ble_eq_true rfl, Nat.le_of_ble_eq_true rfl⟩ ⟨Nat.le_of_ble_eq_true rfl, Nat.le_of_ble_eq_true rfl⟩ d_Ca_has_2 ?_
  intro rv M1 ad1 H locs hP hM hE
  obtain ⟨e1, e2, e3⟩ := hP
  subst rv; subst M1; subst ad1
  show W _ _ _ _ _ _ _ _ _ _ _ _ _ _ _ (F0 m 5 ls [.int (nI (plc M u x z))])
  refine lv_aload_n X.1 X.2.1 d_Ca_has_5 rfl (lv_at hl 0 rfl) ?_
  refine r_geti X hM rfl hc.1 f_Ca_18 rfl d_Ca_has_6 ?_
  refine lv_icmp_ge (tgt := 16) X.1 X.2.1 d_Ca_has_9 (by decide) (fun hq => ?_) (fun hq => ?_)
  · skip
    refine lv_iconst (v := 0) X.1 X.2.1 d_Ca_has_16 (by decide) ?_
    exact m_zret X hr hlk hM (by first | rfl | decide) d_Ca_has_17 ⟨Nat.le_of_ble_eq_true rfl, Nat.le_of_ble_eq_true rfl⟩ (mExt_rf _ _) ⟨b0 (by rw [hc.2.2.2.1] at hq; have h8 := hc.2.2.2.2; exact fun z => nI_ge z (by omega) hq), rfl, rfl⟩
  · skip
    refine lv_iconst (v := 1) X.1 X.2.1 d_Ca_has_12 (by decide) ?_
    refine lv_goto (tgt := 17) X.1 X.2.1 d_Ca_has_13 (by decide) ?_
    exact m_zret X hr hlk hM (by first | rfl | decide) d_Ca_has_17 ⟨Nat.le_of_ble_eq_true rfl, Nat.le_of_ble_eq_true rfl⟩ (mExt_rf _ _) ⟨b1 (by rw [hc.2.2.2.1] at hq; have h9 := plc_le M u x z; have h8 := hc.2.2.2.2; exact Nat.lt_of_not_le (fun z => hq (nI_le z (by omega)))), rfl, rfl⟩
set_option maxHeartbeats 4000000 in
set_option maxRecDepth 100000 in
theorem k_Ca_pathAt (l : Launch) (D : va_G) (dA : Nat → ClassId) (base : Nat) (M : mM) (ad : Nat → Nat → Nat) (u z : Nat) (hc : wC M u z) (x : Int32) : mMet l y_Ca_pathAt b_Ca_pathAt 2 (some FieldType.int) ({ frames := 0, cells := 0, slots := 0, locals := 0 } : Room) 0 0 D dA base M ad [.ref (ad 6 u), .int x] (mSame M ad (some (.int (atC M 15 u z x)))) := by
  refine m_start (lvs := [(0, .ref (ad 6 u)), (1, .int x)]) (by decide) (Nat.le_of_ble_eq_true rfl) rfl ?_
  intro p e s m below meth c ls X hr hlk hin hml hM hl
  refine lv_iload_n X.1 X.2.1 d_Ca_pathAt_0 rfl (lv_at hl 1 rfl) ?_
  refine lv_if_lt (tgt := 21) X.1 X.2.1 d_Ca_pathAt_1 (by decide) (fun h1 => ?_) (fun h1 => ?_)
  · skip
    refine lv_iconst (v := 0) X.1 X.2.1 d_Ca_pathAt_21 (by decide) ?_
    exact m_iret X hr hlk hM d_Ca_pathAt_22 ⟨Nat.le_of_ble_eq_true rfl, Nat.le_of_ble_eq_true rfl⟩ (mExt_rf _ _) ⟨by unfold atC; rw [if_neg (fun z => absurd h1 (Int32.not_lt.mpr z.1))], rfl, rfl⟩
  · skip
    refine lv_iload_n X.1 X.2.1 d_Ca_pathAt_4 rfl (lv_at hl 1 rfl) ?_
    refine lv_aload_n X.1 X.2.1 d_Ca_pathAt_5 rfl (lv_at hl 0 rfl) ?_
    refine r_geti X hM rfl hc.1 f_Ca_18 rfl d_Ca_pathAt_6 ?_
    refine lv_icmp_ge (tgt := 21) X.1 X.2.1 d_Ca_pathAt_9 (by decide) (fun h2 => ?_) (fun h2 => ?_)
    · skip
      refine lv_iconst (v := 0) X.1 X.2.1 d_Ca_pathAt_21 (by decide) ?_
      exact m_iret X hr hlk hM d_Ca_pathAt_22 ⟨Nat.le_of_ble_eq_true rfl, Nat.le_of_ble_eq_true rfl⟩ (mExt_rf _ _) ⟨by unfold atC; rw [if_neg (fun z => absurd h2 (by rw [hc.2.2.2.1]; exact Int32.not_le.mpr z.2))], rfl, rfl⟩
    · skip
      have h8 := hc.2.2.2.2
      obtain ⟨j, hj, hxj⟩ : ∃ j, j < z ∧ x = nI j := by
        rcases pk_ix x (n := z) (by omega) with h9 | h9 | ⟨j, h9, h7⟩
        · exact absurd h9 h1
        · exact absurd (by rw [hc.2.2.2.1]; exact h9) h2
        · exact ⟨j, h9, h7⟩
      refine lv_aload_n X.1 X.2.1 d_Ca_pathAt_12 rfl (lv_at hl 0 rfl) ?_
      refine r_gets (q := u) X hM rfl hc.1 f_Ca_9 rfl hc.2.1 d_Ca_pathAt_13 (fun hv1 => ?_)
      refine lv_iload_n X.1 X.2.1 d_Ca_pathAt_16 rfl (lv_at hl 1 rfl) ?_
      refine r_iald X hM rfl hv1 a_paths (fun _ => rfl) (j := j) hxj (by omega) d_Ca_pathAt_17 ?_
      refine lv_goto (tgt := 22) X.1 X.2.1 d_Ca_pathAt_18 (by decide) ?_
      exact m_iret X hr hlk hM d_Ca_pathAt_22 ⟨Nat.le_of_ble_eq_true rfl, Nat.le_of_ble_eq_true rfl⟩ (mExt_rf _ _) ⟨by unfold atC; rw [if_pos ⟨Int32.not_lt.mp h1, by rw [← hc.2.2.2.1]; exact Int32.not_le.mp h2⟩, hxj, nI_clamp (by omega)], rfl, rfl⟩
set_option maxHeartbeats 4000000 in
set_option maxRecDepth 100000 in
theorem k_Ca_valueAt (l : Launch) (D : va_G) (dA : Nat → ClassId) (base : Nat) (M : mM) (ad : Nat → Nat → Nat) (u z : Nat) (hc : wC M u z) (x : Int32) : mMet l y_Ca_valueAt b_Ca_valueAt 2 (some FieldType.int) ({ frames := 0, cells := 0, slots := 0, locals := 0 } : Room) 0 0 D dA base M ad [.ref (ad 6 u), .int x] (mSame M ad (some (.int (atC M 16 u z x)))) := by
  refine m_start (lvs := [(0, .ref (ad 6 u)), (1, .int x)]) (by decide) (Nat.le_of_ble_eq_true rfl) rfl ?_
  intro p e s m below meth c ls X hr hlk hin hml hM hl
  refine lv_iload_n X.1 X.2.1 d_Ca_valueAt_0 rfl (lv_at hl 1 rfl) ?_
  refine lv_if_lt (tgt := 21) X.1 X.2.1 d_Ca_valueAt_1 (by decide) (fun h1 => ?_) (fun h1 => ?_)
  · skip
    refine lv_iconst (v := 0) X.1 X.2.1 d_Ca_valueAt_21 (by decide) ?_
    exact m_iret X hr hlk hM d_Ca_valueAt_22 ⟨Nat.le_of_ble_eq_true rfl, Nat.le_of_ble_eq_true rfl⟩ (mExt_rf _ _) ⟨by unfold atC; rw [if_neg (fun z => absurd h1 (Int32.not_lt.mpr z.1))], rfl, rfl⟩
  · skip
    refine lv_iload_n X.1 X.2.1 d_Ca_valueAt_4 rfl (lv_at hl 1 rfl) ?_
    refine lv_aload_n X.1 X.2.1 d_Ca_valueAt_5 rfl (lv_at hl 0 rfl) ?_
    refine r_geti X hM rfl hc.1 f_Ca_18 rfl d_Ca_valueAt_6 ?_
    refine lv_icmp_ge (tgt := 21) X.1 X.2.1 d_Ca_valueAt_9 (by decide) (fun h2 => ?_) (fun h2 => ?_)
    · skip
      refine lv_iconst (v := 0) X.1 X.2.1 d_Ca_valueAt_21 (by decide) ?_
      exact m_iret X hr hlk hM d_Ca_valueAt_22 ⟨Nat.le_of_ble_eq_true rfl, Nat.le_of_ble_eq_true rfl⟩ (mExt_rf _ _) ⟨by unfold atC; rw [if_neg (fun z => absurd h2 (by rw [hc.2.2.2.1]; exact Int32.not_le.mpr z.2))], rfl, rfl⟩
    · skip
      have h8 := hc.2.2.2.2
      obtain ⟨j, hj, hxj⟩ : ∃ j, j < z ∧ x = nI j := by
        rcases pk_ix x (n := z) (by omega) with h9 | h9 | ⟨j, h9, h7⟩
        · exact absurd h9 h1
        · exact absurd (by rw [hc.2.2.2.1]; exact h9) h2
        · exact ⟨j, h9, h7⟩
      refine lv_aload_n X.1 X.2.1 d_Ca_valueAt_12 rfl (lv_at hl 0 rfl) ?_
      refine r_gets (q := u) X hM rfl hc.1 f_Ca_15 rfl hc.2.2.1 d_Ca_valueAt_13 (fun hv1 => ?_)
      refine lv_iload_n X.1 X.2.1 d_Ca_valueAt_16 rfl (lv_at hl 1 rfl) ?_
      refine r_iald X hM rfl hv1 a_values (fun _ => rfl) (j := j) hxj (by omega) d_Ca_valueAt_17 ?_
      refine lv_goto (tgt := 22) X.1 X.2.1 d_Ca_valueAt_18 (by decide) ?_
      exact m_iret X hr hlk hM d_Ca_valueAt_22 ⟨Nat.le_of_ble_eq_true rfl, Nat.le_of_ble_eq_true rfl⟩ (mExt_rf _ _) ⟨by unfold atC; rw [if_pos ⟨Int32.not_lt.mp h1, by rw [← hc.2.2.2.1]; exact Int32.not_le.mp h2⟩, hxj, nI_clamp (by omega)], rfl, rfl⟩
set_option maxHeartbeats 4000000 in
set_option maxRecDepth 100000 in
theorem k_Ca_valueOf (l : Launch) (D : va_G) (dA : Nat → ClassId) (base : Nat) (M : mM) (ad : Nat → Nat → Nat) (u z : Nat) (hc : wC M u z) (x : Int32) : mMet l y_Ca_valueOf b_Ca_valueOf 2 (some FieldType.int) ({ frames := 1, cells := 0, slots := 0, locals := 40 } : Room) 0 0 D dA base M ad [.ref (ad 6 u), .int x] (mSame M ad (some (.int (atC M 16 u z (nI (plc M u x z)))))) := by
  refine m_start (lvs := [(0, .ref (ad 6 u)), (1, .int x)]) (by decide) (Nat.le_of_ble_eq_true rfl) rfl ?_
  intro p e s m below meth c ls X hr hlk hin hml hM hl
  refine lv_aload_n X.1 X.2.1 d_Ca_valueOf_0 rfl (lv_at hl 0 rfl) ?_
  refine lv_aload_n X.1 X.2.1 d_Ca_valueOf_1 rfl (lv_at hl 0 rfl) ?_
  refine lv_iload_n X.1 X.2.1 d_Ca_valueOf_2 rfl (lv_at hl 1 rfl) ?_
  refine r_cV (As := [.int x]) (rest := [.ref (ad 6 u)]) X hml hl.1 hM (k_Ca_placeOf l D dA base M ad u z hc x) c_Ca_22 v_Ca_placeOf kc_Ca rfl hc.1 rfl (Nat.le_of_ble_eq_true rfl) ⟨rfl, rfl, Nat.le_of_ble_eq_true rfl, Nat.le_of_ble_eq_true rfl⟩ ⟨Nat.le_of_ble_eq_true rfl, Nat.le_of_ble_eq_true rfl⟩ d_Ca_valueOf_3 ?_
  intro rv M1 ad1 H locs hP hM hE
  obtain ⟨e1, e2, e3⟩ := hP
  subst rv; subst M1; subst ad1
  show W _ _ _ _ _ _ _ _ _ _ _ _ _ _ _ (F0 m 6 ls [.int (nI (plc M u x z)), .ref (ad 6 u)])
  refine r_cV (As := [.int (nI (plc M u x z))]) (rest := []) X hml hl.1 hM (k_Ca_valueAt l D dA base M ad u z hc (nI (plc M u x z))) c_Ca_26 v_Ca_valueAt kc_Ca rfl hc.1 rfl (Nat.le_of_ble_eq_true rfl) ⟨rfl, rfl, Nat.le_of_ble_eq_true rfl, Nat.le_of_ble_eq_true rfl⟩ ⟨Nat.le_of_ble_eq_true rfl, Nat.le_of_ble_eq_true rfl⟩ d_Ca_valueOf_6 ?_
  intro rv M1 ad1 H locs hP hM hE
  obtain ⟨e1, e2, e3⟩ := hP
  subst rv; subst M1; subst ad1
  show W _ _ _ _ _ _ _ _ _ _ _ _ _ _ _ (F0 m 9 ls [.int (atC M 16 u z (nI (plc M u x z)))])
  exact m_iret X hr hlk hM d_Ca_valueOf_9 ⟨Nat.le_of_ble_eq_true rfl, Nat.le_of_ble_eq_true rfl⟩ (mExt_rf _ _) ⟨rfl, rfl, rfl⟩
set_option maxHeartbeats 4000000 in
set_option maxRecDepth 100000 in
theorem k_Ca_drop (l : Launch) (D : va_G) (dA : Nat → ClassId) (base : Nat) (M : mM) (ad : Nat → Nat → Nat) (u z : Nat) (hc : wC M u z) (q : Nat) (hq : q < z) : mMet l y_Ca_drop b_Ca_drop 3 none ({ frames := 0, cells := 0, slots := 0, locals := 0 } : Room) 0 0 D dA base M ad [.ref (ad 6 u), .int (nI q)] (fun rv M' ad' => rv = none ∧ M' = drpM M u q z ∧ ad' = ad) := by
  refine m_start (lvs := [(0, .ref (ad 6 u)), (1, .int (nI q))]) (by decide) (Nat.le_of_ble_eq_true rfl) rfl ?_
  intro p e s m below meth c ls X hr hlk hin hml hM hl
  refine lv_iload_n X.1 X.2.1 d_Ca_drop_0 rfl (lv_at hl 1 rfl) ?_
  refine lv_istore_n (lv' := [(2, .int (nI q)), (0, .ref (ad 6 u)), (1, .int (nI q))]) X.1 X.2.1 d_Ca_drop_1 rfl hl (by decide) rfl (fun ls hl => ?_)
  have hz4 := hc.2.2.2.2
  rw [← shM_0 M u q] at hM
  refine w_upW (z - 1) (fun ls => F0 m 2 ls []) (fun i H L ls => mSt D dA base (shM M u q i) ad s.heap H L ∧ lv_has ls 3 [(2, .int (nI i)), (0, .ref (ad 6 u)), (1, .int (nI q))] ∧ q ≤ i) ?_ ?_ q _ _ ls (by omega) ⟨hM, lv_sub hl [0, 1, 2] rfl, Nat.le_refl _⟩
  · rintro H locs ls ⟨hM, hl, hI⟩
    have e7 : gi (shM M u q (z - 1)) 6 u 2 = nI z := by
      rw [gi_sh, if_neg (fun h => by omega)]
      exact hc.2.2.2.1
    have e6 : nI (z - 1) + 1 = nI z := by rw [nI_1]; congr 1; omega
    have e5 : nI z - 1 = nI (z - 1) := by rw [← e6]; exact Int32.add_sub_cancel _ _
    refine lv_iload_n X.1 X.2.1 d_Ca_drop_2 rfl (lv_at hl 0 rfl) ?_
    refine lv_iconst (v := 1) X.1 X.2.1 d_Ca_drop_3 (by decide) ?_
    refine lv_iadd X.1 X.2.1 d_Ca_drop_4 ?_
    refine lv_aload_n X.1 X.2.1 d_Ca_drop_5 rfl (lv_at hl 1 rfl) ?_
    refine r_geti X hM rfl hc.1 f_Ca_18 rfl d_Ca_drop_6 ?_
    refine lv_icmp_ge (tgt := 46) X.1 X.2.1 d_Ca_drop_9 (by decide) (fun hz51 => ?_) (fun hz51 => absurd (by rw [e7, e6]; exact Int32.le_refl _) hz51)
    refine lv_aload_n X.1 X.2.1 d_Ca_drop_46 rfl (lv_at hl 1 rfl) ?_
    refine lv_dup X.1 X.2.1 d_Ca_drop_47 rfl ?_
    refine r_geti X hM rfl hc.1 f_Ca_18 rfl d_Ca_drop_48 ?_
    refine lv_iconst (v := 1) X.1 X.2.1 d_Ca_drop_51 (by decide) ?_
    refine lv_isub X.1 X.2.1 d_Ca_drop_52 ?_
    refine r_puti X hM rfl hc.1 p_Ca_18 rfl rfl rfl d_Ca_drop_53 (fun H locs hM => ?_)
    exact m_vret X hr hlk hM d_Ca_drop_56 ⟨Nat.le_of_ble_eq_true rfl, Nat.le_of_ble_eq_true rfl⟩ ⟨fun _ _ _ => rfl, fun _ => Nat.le_refl _⟩ ⟨rfl, by unfold drpM; rw [e7, e5], rfl⟩
  · rintro i hi ih H locs ls ⟨hM, hl, hI⟩
    have hq9 : q ≤ i := hI
    have e7 : gi (shM M u q i) 6 u 2 = nI z := by
      rw [gi_sh, if_neg (fun h => by omega)]
      exact hc.2.2.2.1
    have hge : ¬ gi (shM M u q i) 6 u 2 ≤ nI i + 1 := by rw [e7, nI_1]; exact nI_ge (by omega) (by omega)
    refine lv_iload_n X.1 X.2.1 d_Ca_drop_2 rfl (lv_at hl 0 rfl) ?_
    refine lv_iconst (v := 1) X.1 X.2.1 d_Ca_drop_3 (by decide) ?_
    refine lv_iadd X.1 X.2.1 d_Ca_drop_4 ?_
    refine lv_aload_n X.1 X.2.1 d_Ca_drop_5 rfl (lv_at hl 1 rfl) ?_
    refine r_geti X hM rfl hc.1 f_Ca_18 rfl d_Ca_drop_6 ?_
    refine lv_icmp_ge (tgt := 46) X.1 X.2.1 d_Ca_drop_9 (by decide) (fun hz51 => absurd hz51 hge) (fun hz51 => ?_)
    refine lv_aload_n X.1 X.2.1 d_Ca_drop_12 rfl (lv_at hl 1 rfl) ?_
    refine r_gets (q := u) X hM rfl hc.1 f_Ca_9 rfl hc.2.1 d_Ca_drop_13 (fun hv52 => ?_)
    refine lv_iload_n X.1 X.2.1 d_Ca_drop_16 rfl (lv_at hl 0 rfl) ?_
    refine lv_aload_n X.1 X.2.1 d_Ca_drop_17 rfl (lv_at hl 1 rfl) ?_
    refine r_gets (q := u) X hM rfl hc.1 f_Ca_9 rfl hc.2.1 d_Ca_drop_18 (fun hv53 => ?_)
    refine lv_iload_n X.1 X.2.1 d_Ca_drop_21 rfl (lv_at hl 0 rfl) ?_
    refine lv_iconst (v := 1) X.1 X.2.1 d_Ca_drop_22 (by decide) ?_
    refine lv_iadd X.1 X.2.1 d_Ca_drop_23 ?_
    refine r_iald X hM rfl hv53 a_paths (fun _ => rfl) (j := (i + 1)) (nI_1 i) (by omega) d_Ca_drop_24 ?_
    refine r_iast X hM rfl hv52 a_paths (fun _ => rfl) (j := i) rfl (by omega) d_Ca_drop_25 (fun H locs hM => ?_)
    refine lv_aload_n X.1 X.2.1 d_Ca_drop_26 rfl (lv_at hl 1 rfl) ?_
    refine r_gets (q := u) X hM rfl hc.1 f_Ca_15 rfl hc.2.2.1 d_Ca_drop_27 (fun hv54 => ?_)
    refine lv_iload_n X.1 X.2.1 d_Ca_drop_30 rfl (lv_at hl 0 rfl) ?_
    refine lv_aload_n X.1 X.2.1 d_Ca_drop_31 rfl (lv_at hl 1 rfl) ?_
    refine r_gets (q := u) X hM rfl hc.1 f_Ca_15 rfl hc.2.2.1 d_Ca_drop_32 (fun hv55 => ?_)
    refine lv_iload_n X.1 X.2.1 d_Ca_drop_35 rfl (lv_at hl 0 rfl) ?_
    refine lv_iconst (v := 1) X.1 X.2.1 d_Ca_drop_36 (by decide) ?_
    refine lv_iadd X.1 X.2.1 d_Ca_drop_37 ?_
    refine r_iald X hM rfl hv55 a_values (fun _ => rfl) (j := (i + 1)) (nI_1 i) (by omega) d_Ca_drop_38 ?_
    refine r_iast X hM rfl hv54 a_values (fun _ => rfl) (j := i) rfl (by omega) d_Ca_drop_39 (fun H locs hM => ?_)
    obtain ⟨xi, e_xi⟩ : ∃ z : Int32, z = (nI i) + 1 := ⟨_, rfl⟩
    refine lv_iinc (v := xi) (lv' := [(2, .int xi), (0, .ref (ad 6 u)), (1, .int (nI q))]) X.1 X.2.1 d_Ca_drop_40 hl (k := 0) rfl (by rw [e_xi]; rfl) (by decide) rfl (fun ls hl => ?_)
    refine lv_goto (tgt := 2) X.1 X.2.1 d_Ca_drop_43 (by decide) ?_
    have e9 := e_xi.trans (nI_1 i)
    subst e9
    rw [shM_s M u q i hq9] at hM
    exact ih _ _ ls ⟨hM, lv_sub hl [0, 1, 2] rfl, by omega⟩
