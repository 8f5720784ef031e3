theorem nI8 : nI 8 = 8 := by decide
def inRow (M : mM) (sc : Int32) (j : Nat) : Bool := decide (gi M 4 j 2 = sc ∧ gi M 4 j 5 = 0)
def num (M : mM) (r : Option Nat) : Int32 := match r with
  | none => 0
  | some i => gi M 7 i 0
def nwst (M : mM) (g : Nat) : Option Nat := match gr M 5 g 2 with
  | some i => some i
  | none => match gr M 5 g 3 with
    | some i => some i
    | none => gr M 5 g 4
def rgOf (M : mM) (sc : Int32) : Option Nat := (ff (fun i => decide (gi M 5 (rgx M i) 0 = sc)) (nRg M) 0).map (rgx M)
def rgAct (M : mM) (r : Option Nat) : Option Nat := (ff (fun i => decide (r ≠ none ∧ gr M 5 (rgx M i) 4 = r)) (nRg M) 0).map (rgx M)
def fstR (M : mM) (sc : Int32) : Option Nat := ff (inRow M sc) (gn M 4) 0
def lstR (M : mM) (sc : Int32) : Option Nat := fl (inRow M sc) (gn M 4)
def lenR (M : mM) (sc : Int32) : Nat := cn (inRow M sc) (gn M 4)
def opn (M : mM) : Nat := cn (fun j => decide (gi M 4 j 5 = 0)) (gn M 4)
def thr (M : mM) : Nat := cn (fun i => decide (gi M 2 i 0 ≠ 0)) 8
def ctl (M : mM) (r : Option Nat) : Nat := cn (fun i => decide (r ≠ none ∧ gr M 2 i 2 = r)) 8
def lfc (M : mM) : Nat := (ff (fun i => decide (gi M 2 i 0 = 0)) 8 0).getD 8
theorem cn_s {p : Nat → Bool} {n : Nat} {x : Int32} (h : p n = true) (hx : x = nI (cn p n) + 1) : x = nI (cn p (n + 1)) := by
  rw [hx, nI_1]; show _ = nI (cn p n + ite _ _ _); rw [if_pos h]
theorem cn_n {p : Nat → Bool} {n : Nat} (h : ¬ p n = true) : nI (cn p n) = nI (cn p (n + 1)) := by
  show _ = nI (cn p n + ite _ _ _); rw [if_neg h, Nat.add_zero]
set_option maxHeartbeats 4000000 in
set_option maxRecDepth 100000 in
theorem k_K_begins (l : Launch) (D : va_G) (dA : Nat → ClassId) (base : Nat) (M : mM) (ad : Nat → Nat → Nat) (x y : Int32) : mMet l y_K_begins b_K_begins 5 (some FieldType.boolean) ({ frames := 0, cells := 0, slots := 0, locals := 0 } : Room) 0 0 D dA base M ad [.int x, .int y] (mSame M ad (some (.int (if bgs x y = true then 1 else 0)))) := by
  refine m_start (lvs := [(0, .int x), (1, .int y)]) (by decide) (Nat.le_of_ble_eq_true rfl) rfl ?_
  intro p e s m below meth c ls X hr hlk hin hml hM hl
  refine lv_iload_n X.1 X.2.1 d_K_begins_0 rfl (lv_at hl 0 rfl) ?_
  refine lv_istore_n (lv' := [(2, .int x), (0, .int x), (1, .int y)]) X.1 X.2.1 d_K_begins_1 rfl hl (by decide) rfl (fun ls hl => ?_)
  refine lv_iload_n X.1 X.2.1 d_K_begins_2 rfl (lv_at hl 2 rfl) ?_
  refine lv_istore_n (lv' := [(3, .int y), (2, .int x), (0, .int x), (1, .int y)]) X.1 X.2.1 d_K_begins_3 rfl hl (by decide) rfl (fun ls hl => ?_)
  refine lv_iconst (v := 0) X.1 X.2.1 d_K_begins_4 (by decide) ?_
  refine lv_istore (lv' := [(4, .int 0), (3, .int y), (2, .int x), (0, .int x), (1, .int y)]) X.1 X.2.1 d_K_begins_5 hl (by decide) rfl (fun ls hl => ?_)
  refine w_up 4 (fun ls => F0 m 7 ls []) (fun i ls => ∃ r q, lv_has ls 5 [(4, .int (nI i)), (3, .int q), (2, .int r), (0, .int x), (1, .int y)] ∧ bgL (4 - i) r q = bgL 4 x y) ?_ ?_ 0 ls (by omega) ⟨x, y, lv_sub hl [0, 1, 2, 3, 4] rfl, rfl⟩
  · rintro ls ⟨r, q, hl, hI⟩
    refine lv_iload X.1 X.2.1 d_K_begins_7 (lv_at hl 0 rfl) ?_
    refine lv_iconst (v := 4) X.1 X.2.1 d_K_begins_9 (by decide) ?_
    refine lv_icmp_ge (tgt := 46) X.1 X.2.1 d_K_begins_10 (by decide) (fun hz1 => ?_) (fun hz1 => absurd (by decide) hz1)
    refine lv_iconst (v := 1) X.1 X.2.1 d_K_begins_46 (by decide) ?_
    exact m_zret X hr hlk hM (by first | rfl | decide) d_K_begins_47 ⟨Nat.le_of_ble_eq_true rfl, Nat.le_of_ble_eq_true rfl⟩ (mExt_rf _ _) ⟨b1 (hI.symm.trans rfl), rfl, rfl⟩
  · rintro i hi ih ls ⟨r, q, hl, hI⟩
    rw [show 4 - i = (4 - (i + 1)) + 1 by omega] at hI
    have hge := nI_ge hi (by decide)
    refine lv_iload X.1 X.2.1 d_K_begins_7 (lv_at hl 0 rfl) ?_
    refine lv_iconst (v := 4) X.1 X.2.1 d_K_begins_9 (by decide) ?_
    refine lv_icmp_ge (tgt := 46) X.1 X.2.1 d_K_begins_10 (by decide) (fun hz1 => absurd hz1 hge) (fun hz1 => ?_)
    refine lv_iload_n X.1 X.2.1 d_K_begins_13 rfl (lv_at hl 2 rfl) ?_
    refine lv_if_le (tgt := 46) X.1 X.2.1 d_K_begins_14 (by decide) (fun hr0 => ?_) (fun hr0 => ?_)
    · skip
      refine lv_iconst (v := 1) X.1 X.2.1 d_K_begins_46 (by decide) ?_
      exact m_zret X hr hlk hM (by first | rfl | decide) d_K_begins_47 ⟨Nat.le_of_ble_eq_true rfl, Nat.le_of_ble_eq_true rfl⟩ (mExt_rf _ _) ⟨b1 (by unfold bgs; rw [← hI]; show ite _ _ _ = true; rw [if_neg (Int32.not_lt.mpr hr0)]), rfl, rfl⟩
    · skip
      refine lv_iload_n X.1 X.2.1 d_K_begins_17 rfl (lv_at hl 2 rfl) ?_
      refine lv_bipush (v := 27) X.1 X.2.1 d_K_begins_18 (by decide) ?_
      refine lv_irem X.1 X.2.1 d_K_begins_20 (by decide) ?_
      refine lv_iload_n X.1 X.2.1 d_K_begins_21 rfl (lv_at hl 1 rfl) ?_
      refine lv_bipush (v := 27) X.1 X.2.1 d_K_begins_22 (by decide) ?_
      refine lv_irem X.1 X.2.1 d_K_begins_24 (by decide) ?_
      refine lv_icmp_eq (tgt := 30) X.1 X.2.1 d_K_begins_25 (by decide) (fun hq0 => ?_) (fun hq0 => ?_)
      · skip
        refine lv_iload_n X.1 X.2.1 d_K_begins_30 rfl (lv_at hl 2 rfl) ?_
        refine lv_bipush (v := 27) X.1 X.2.1 d_K_begins_31 (by decide) ?_
        refine lv_idiv X.1 X.2.1 d_K_begins_33 (by decide) ?_
        refine lv_istore_n (lv' := [(2, .int (r / 27)), (4, .int (nI i)), (3, .int q), (0, .int x), (1, .int y)]) X.1 X.2.1 d_K_begins_34 rfl hl (by decide) rfl (fun ls hl => ?_)
        refine lv_iload_n X.1 X.2.1 d_K_begins_35 rfl (lv_at hl 2 rfl) ?_
        refine lv_bipush (v := 27) X.1 X.2.1 d_K_begins_36 (by decide) ?_
        refine lv_idiv X.1 X.2.1 d_K_begins_38 (by decide) ?_
        refine lv_istore_n (lv' := [(3, .int (q / 27)), (2, .int (r / 27)), (4, .int (nI i)), (0, .int x), (1, .int y)]) X.1 X.2.1 d_K_begins_39 rfl hl (by decide) rfl (fun ls hl => ?_)
        obtain ⟨xi, e_xi⟩ : ∃ z : Int32, z = (nI i) + 1 := ⟨_, rfl⟩
        refine lv_iinc (v := xi) (lv' := [(4, .int xi), (3, .int (q / 27)), (2, .int (r / 27)), (0, .int x), (1, .int y)]) X.1 X.2.1 d_K_begins_40 hl (k := 2) rfl (by rw [e_xi]; rfl) (by decide) rfl (fun ls hl => ?_)
        refine lv_goto (tgt := 7) X.1 X.2.1 d_K_begins_43 (by decide) ?_
        have e9 := e_xi.trans (nI_1 i)
        subst e9
        exact ih ls ⟨_, _, lv_sub hl [0, 1, 2, 3, 4] rfl, by rw [← hI]; show _ = ite _ _ _; rw [if_pos (Int32.not_le.mp hr0), if_pos hq0]⟩
      · skip
        refine lv_iconst (v := 0) X.1 X.2.1 d_K_begins_28 (by decide) ?_
        exact m_zret X hr hlk hM (by first | rfl | decide) d_K_begins_29 ⟨Nat.le_of_ble_eq_true rfl, Nat.le_of_ble_eq_true rfl⟩ (mExt_rf _ _) ⟨b0 (by unfold bgs; rw [← hI]; show ¬ (ite _ _ _ = true); rw [if_pos (Int32.not_le.mp hr0), if_neg hq0]; decide), rfl, rfl⟩
set_option maxHeartbeats 4000000 in
set_option maxRecDepth 100000 in
theorem k_K_isInRow (l : Launch) (D : va_G) (dA : Nat → ClassId) (base : Nat) (M : mM) (ad : Nat → Nat → Nat) (j : Nat) (sc : Int32) (hj : j < gn M 4) : mMet l y_K_isInRow b_K_isInRow 2 (some FieldType.boolean) ({ frames := 0, cells := 0, slots := 0, locals := 0 } : Room) 0 0 D dA base M ad [.ref (ad 4 j), .int sc] (mSame M ad (some (.int (if inRow M sc j = true then 1 else 0)))) := by
  refine m_start (lvs := [(0, .ref (ad 4 j)), (1, .int sc)]) (by decide) (Nat.le_of_ble_eq_true rfl) rfl ?_
  intro p e s m below meth c ls X hr hlk hin hml hM hl
  refine lv_aload_n X.1 X.2.1 d_K_isInRow_0 rfl (lv_at hl 0 rfl) ?_
  refine r_geti X hM rfl hj f_K_301 rfl d_K_isInRow_1 ?_
  refine lv_iload_n X.1 X.2.1 d_K_isInRow_4 rfl (lv_at hl 1 rfl) ?_
  refine lv_icmp_ne (tgt := 19) X.1 X.2.1 d_K_isInRow_5 (by decide) (fun hz1 => ?_) (fun hz1 => ?_)
  · skip
    refine lv_iconst (v := 0) X.1 X.2.1 d_K_isInRow_19 (by decide) ?_
    exact m_zret X hr hlk hM (by first | rfl | decide) d_K_isInRow_20 ⟨Nat.le_of_ble_eq_true rfl, Nat.le_of_ble_eq_true rfl⟩ (mExt_rf _ _) ⟨b0 (by unfold inRow; intro z; have z := of_decide_eq_true z; exact hz1 z.1), rfl, rfl⟩
  · skip
    refine lv_aload_n X.1 X.2.1 d_K_isInRow_8 rfl (lv_at hl 0 rfl) ?_
    refine r_geti X hM rfl hj f_K_147 rfl d_K_isInRow_9 ?_
    refine lv_if_ne (tgt := 19) X.1 X.2.1 d_K_isInRow_12 (by decide) (fun hz2 => ?_) (fun hz2 => ?_)
    · skip
      refine lv_iconst (v := 0) X.1 X.2.1 d_K_isInRow_19 (by decide) ?_
      exact m_zret X hr hlk hM (by first | rfl | decide) d_K_isInRow_20 ⟨Nat.le_of_ble_eq_true rfl, Nat.le_of_ble_eq_true rfl⟩ (mExt_rf _ _) ⟨b0 (by unfold inRow; intro z; have z := of_decide_eq_true z; exact hz2 z.2), rfl, rfl⟩
    · skip
      refine lv_iconst (v := 1) X.1 X.2.1 d_K_isInRow_15 (by decide) ?_
      refine lv_goto (tgt := 20) X.1 X.2.1 d_K_isInRow_16 (by decide) ?_
      exact m_zret X hr hlk hM (by first | rfl | decide) d_K_isInRow_20 ⟨Nat.le_of_ble_eq_true rfl, Nat.le_of_ble_eq_true rfl⟩ (mExt_rf _ _) ⟨b1 (by unfold inRow; exact decide_eq_true ⟨hz1, hz2⟩), rfl, rfl⟩
set_option maxHeartbeats 4000000 in
set_option maxRecDepth 100000 in
theorem k_K_numberOf (l : Launch) (D : va_G) (dA : Nat → ClassId) (base : Nat) (M : mM) (ad : Nat → Nat → Nat) (r : Option Nat) (hr0 : ∀ q, r = some q → q < gn M 7) : mMet l y_K_numberOf b_K_numberOf 1 (some FieldType.int) ({ frames := 0, cells := 0, slots := 0, locals := 0 } : Room) 0 0 D dA base M ad [rfv ad 7 r] (mSame M ad (some (.int (num M r)))) := by
  refine m_start (lvs := [(0, rfv ad 7 (r))]) (by decide) (by cases r <;> exact Nat.le_of_ble_eq_true rfl) (by cases r <;> rfl) ?_
  intro p e s m below meth c ls X hr hlk hin hml hM hl
  refine r_aload_n X.1 X.2.1 d_K_numberOf_0 rfl (lv_at hl 0 rfl) ?_
  refine r_ifnonnull (tgt := 8) X.1 X.2.1 d_K_numberOf_1 (by decide) (fun i hq => ?_) (fun hq => ?_)
  · skip
    rw [hq] at hl
    have hl : lv_has ls 1 [(0, .ref (ad 7 i))] := hl
    refine lv_aload_n X.1 X.2.1 d_K_numberOf_8 rfl (lv_at hl 0 rfl) ?_
    refine r_geti X hM rfl (hr0 i hq) f_K_211 rfl d_K_numberOf_9 ?_
    exact m_iret X hr hlk hM d_K_numberOf_12 ⟨Nat.le_of_ble_eq_true rfl, Nat.le_of_ble_eq_true rfl⟩ (mExt_rf _ _) ⟨by rw [hq]; rfl, rfl, rfl⟩
  · skip
    rw [hq] at hl
    have hl : lv_has ls 1 [(0, .null)] := hl
    refine lv_iconst (v := 0) X.1 X.2.1 d_K_numberOf_4 (by decide) ?_
    refine lv_goto (tgt := 12) X.1 X.2.1 d_K_numberOf_5 (by decide) ?_
    exact m_iret X hr hlk hM d_K_numberOf_12 ⟨Nat.le_of_ble_eq_true rfl, Nat.le_of_ble_eq_true rfl⟩ (mExt_rf _ _) ⟨by rw [hq]; rfl, rfl, rfl⟩
set_option maxHeartbeats 4000000 in
set_option maxRecDepth 100000 in
theorem k_Rg_newest (l : Launch) (D : va_G) (dA : Nat → ClassId) (base : Nat) (M : mM) (ad : Nat → Nat → Nat) (g : Nat) (hg : g < gn M 5) : mMet l y_Rg_newest b_Rg_newest 1 (some (FieldType.object "ScopeKeeper$Worker")) ({ frames := 0, cells := 0, slots := 0, locals := 0 } : Room) 0 0 D dA base M ad [.ref (ad 5 g)] (mSame M ad (some (rfv ad 7 (nwst M g)))) := by
  refine m_start (lvs := [(0, .ref (ad 5 g))]) (by decide) (Nat.le_of_ble_eq_true rfl) rfl ?_
  intro p e s m below meth c ls X hr hlk hin hml hM hl
  refine lv_aload_n X.1 X.2.1 d_Rg_newest_0 rfl (lv_at hl 0 rfl) ?_
  refine r_getr X hM rfl hg f_Rg_13 rfl d_Rg_newest_1 (fun hv1 => ?_)
  refine r_ifnull (tgt := 12) X.1 X.2.1 d_Rg_newest_4 (by decide) (fun ha => ?_) (fun ia ha => ?_)
  · skip
    refine lv_aload_n X.1 X.2.1 d_Rg_newest_12 rfl (lv_at hl 0 rfl) ?_
    refine r_getr X hM rfl hg f_Rg_17 rfl d_Rg_newest_13 (fun hv2 => ?_)
    refine r_ifnull (tgt := 26) X.1 X.2.1 d_Rg_newest_16 (by decide) (fun hb => ?_) (fun ib hb => ?_)
    · skip
      refine lv_aload_n X.1 X.2.1 d_Rg_newest_26 rfl (lv_at hl 0 rfl) ?_
      refine r_getr X hM rfl hg f_Rg_20 rfl d_Rg_newest_27 (fun hv3 => ?_)
      exact m_aret X hr hlk hM (by first | rfl | exact rfv_isRef _ _ _) d_Rg_newest_30 ⟨Nat.le_of_ble_eq_true rfl, Nat.le_of_ble_eq_true rfl⟩ (mExt_rf _ _) ⟨by unfold nwst; simp only [ha, hb]; try rfl, rfl, rfl⟩
    · skip
      refine lv_aload_n X.1 X.2.1 d_Rg_newest_19 rfl (lv_at hl 0 rfl) ?_
      refine r_gets (q := ib) X hM rfl hg f_Rg_17 rfl hb d_Rg_newest_20 (fun hv4 => ?_)
      refine lv_goto (tgt := 30) X.1 X.2.1 d_Rg_newest_23 (by decide) ?_
      exact m_aret X hr hlk hM (by first | rfl | exact rfv_isRef _ _ _) d_Rg_newest_30 ⟨Nat.le_of_ble_eq_true rfl, Nat.le_of_ble_eq_true rfl⟩ (mExt_rf _ _) ⟨by unfold nwst; simp only [ha, hb]; try rfl, rfl, rfl⟩
  · skip
    refine lv_aload_n X.1 X.2.1 d_Rg_newest_7 rfl (lv_at hl 0 rfl) ?_
    refine r_gets (q := ia) X hM rfl hg f_Rg_13 rfl ha d_Rg_newest_8 (fun hv5 => ?_)
    exact m_aret X hr hlk hM (by first | rfl | exact rfv_isRef _ _ _) d_Rg_newest_11 ⟨Nat.le_of_ble_eq_true rfl, Nat.le_of_ble_eq_true rfl⟩ (mExt_rf _ _) ⟨by unfold nwst; rw [ha]; rfl, rfl, rfl⟩
set_option maxHeartbeats 4000000 in
set_option maxRecDepth 100000 in
theorem k_K_registrationOf (l : Launch) (D : va_G) (dA : Nat → ClassId) (base : Nat) (M : mM) (ad : Nat → Nat → Nat) (hw : wK M) (sc : Int32) : mMet l y_K_registrationOf b_K_registrationOf 3 (some (FieldType.object "ScopeKeeper$Registration")) ({ frames := 0, cells := 0, slots := 0, locals := 0 } : Room) 0 0 D dA base M ad [.ref (ad 0 0), .int sc] (mSame M ad (some (rfv ad 5 (rgOf M sc)))) := by
  refine m_start (lvs := [(0, .ref (ad 0 0)), (1, .int sc)]) (by decide) (Nat.le_of_ble_eq_true rfl) rfl ?_
  intro p e s m below meth c ls X hr hlk hin hml hM hl
  refine lv_iconst (v := 0) X.1 X.2.1 d_K_registrationOf_0 (by decide) ?_
  refine lv_istore_n (lv' := [(2, .int 0), (0, .ref (ad 0 0)), (1, .int sc)]) X.1 X.2.1 d_K_registrationOf_1 rfl hl (by decide) rfl (fun ls hl => ?_)
  have hN := w_nrl hw
  refine w_upW (nRg M) (fun ls => F0 m 2 ls []) (fun i H L ls => mSt D dA base M ad s.heap H L ∧ lv_has ls 3 [(2, .int (nI i)), (0, .ref (ad 0 0)), (1, .int sc)] ∧ ff (fun i => decide (gi M 5 (rgx M i) 0 = sc)) (nRg M - i) i = ff (fun i => decide (gi M 5 (rgx M i) 0 = sc)) (nRg M) 0) ?_ ?_ 0 _ _ ls (by omega) ⟨hM, lv_sub hl [0, 1, 2] rfl, by rw [Nat.sub_zero]⟩
  · rintro H locs ls ⟨hM, hl, hI⟩
    rw [Nat.sub_self] at hI
    refine lv_iload_n X.1 X.2.1 d_K_registrationOf_2 rfl (lv_at hl 0 rfl) ?_
    refine lv_aload_n X.1 X.2.1 d_K_registrationOf_3 rfl (lv_at hl 1 rfl) ?_
    refine r_geti X hM rfl (w_k hw) f_K_38 rfl d_K_registrationOf_4 ?_
    refine lv_icmp_ge (tgt := 36) X.1 X.2.1 d_K_registrationOf_7 (by decide) (fun hz1 => ?_) (fun hz1 => absurd (by rw [w_nr hw]; exact Int32.le_refl _) hz1)
    refine lv_null X.1 X.2.1 d_K_registrationOf_36 ?_
    exact m_aret X hr hlk hM (by first | rfl | exact rfv_isRef _ _ _) d_K_registrationOf_37 ⟨Nat.le_of_ble_eq_true rfl, Nat.le_of_ble_eq_true rfl⟩ (mExt_rf _ _) ⟨by unfold rgOf; rw [← hI]; rfl, rfl, rfl⟩
  · rintro i hi ih H locs ls ⟨hM, hl, hI⟩
    rw [show nRg M - i = (nRg M - (i + 1)) + 1 by omega] at hI
    have hge : ¬ gi M 0 0 6 ≤ nI i := by rw [w_nr hw]; exact nI_ge hi (by omega)
    refine lv_iload_n X.1 X.2.1 d_K_registrationOf_2 rfl (lv_at hl 0 rfl) ?_
    refine lv_aload_n X.1 X.2.1 d_K_registrationOf_3 rfl (lv_at hl 1 rfl) ?_
    refine r_geti X hM rfl (w_k hw) f_K_38 rfl d_K_registrationOf_4 ?_
    refine lv_icmp_ge (tgt := 36) X.1 X.2.1 d_K_registrationOf_7 (by decide) (fun hz1 => absurd hz1 hge) (fun hz1 => ?_)
    refine lv_aload_n X.1 X.2.1 d_K_registrationOf_10 rfl (lv_at hl 1 rfl) ?_
    refine r_gets (q := 0) X hM rfl (w_k hw) f_K_34 rfl (w_0_5 hw) d_K_registrationOf_11 (fun hv2 => ?_)
    refine lv_iload_n X.1 X.2.1 d_K_registrationOf_14 rfl (lv_at hl 0 rfl) ?_
    refine r_aalds (q := (rgx M i)) X hM rfl hv2 a_regs (fun _ => rfl) (j := i) rfl (by omega) (w_rg hw hi) d_K_registrationOf_15 (fun hv3 => ?_)
    refine r_geti X hM rfl hv3 f_K_274 rfl d_K_registrationOf_16 ?_
    refine lv_iload_n X.1 X.2.1 d_K_registrationOf_19 rfl (lv_at hl 2 rfl) ?_
    refine lv_icmp_ne (tgt := 30) X.1 X.2.1 d_K_registrationOf_20 (by decide) (fun hq0 => ?_) (fun hq0 => ?_)
    · skip
      obtain ⟨xi, e_xi⟩ : ∃ z : Int32, z = (nI i) + 1 := ⟨_, rfl⟩
      refine lv_iinc (v := xi) (lv' := [(2, .int xi), (0, .ref (ad 0 0)), (1, .int sc)]) X.1 X.2.1 d_K_registrationOf_30 hl (k := 0) rfl (by rw [e_xi]; rfl) (by decide) rfl (fun ls hl => ?_)
      refine lv_goto (tgt := 2) X.1 X.2.1 d_K_registrationOf_33 (by decide) ?_
      have e9 := e_xi.trans (nI_1 i)
      subst e9
      exact ih _ _ ls ⟨hM, lv_sub hl [0, 1, 2] rfl, by rw [← hI]; exact (ff_f (by simpa using hq0)).symm⟩
    · skip
      refine lv_aload_n X.1 X.2.1 d_K_registrationOf_23 rfl (lv_at hl 1 rfl) ?_
      refine r_gets (q := 0) X hM rfl (w_k hw) f_K_34 rfl (w_0_5 hw) d_K_registrationOf_24 (fun hv4 => ?_)
      refine lv_iload_n X.1 X.2.1 d_K_registrationOf_27 rfl (lv_at hl 0 rfl) ?_
      refine r_aalds (q := (rgx M i)) X hM rfl hv4 a_regs (fun _ => rfl) (j := i) rfl (by omega) (w_rg hw hi) d_K_registrationOf_28 (fun hv5 => ?_)
      exact m_aret X hr hlk hM (by first | rfl | exact rfv_isRef _ _ _) d_K_registrationOf_29 ⟨Nat.le_of_ble_eq_true rfl, Nat.le_of_ble_eq_true rfl⟩ (mExt_rf _ _) ⟨by unfold rgOf; rw [← hI, ff_t (by simpa using hq0)]; rfl, rfl, rfl⟩
