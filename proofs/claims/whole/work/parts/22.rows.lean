theorem be0 {c : Prop} [Decidable c] (h : (if c then (1 : Int32) else 0) = 0) : ¬ c := fun z => by rw [if_pos z] at h; exact absurd h (by decide)
theorem bn0 {c : Prop} [Decidable c] (h : ¬ (if c then (1 : Int32) else 0) = 0) : c := Classical.byContradiction fun z => h (if_neg z)
theorem fl_t {p : Nat → Bool} {n : Nat} (h : p n = true) : fl p (n + 1) = some n := if_pos h
theorem fl_f {p : Nat → Bool} {n : Nat} (h : ¬ p n = true) : fl p (n + 1) = fl p n := if_neg h
set_option maxHeartbeats 4000000 in
set_option maxRecDepth 100000 in
theorem k_K_firstOfRow (l : Launch) (D : va_G) (dA : Nat → ClassId) (base : Nat) (M : mM) (ad : Nat → Nat → Nat) (hw : wK M) (sc : Int32) : mMet l y_K_firstOfRow b_K_firstOfRow 3 (some (FieldType.object "ScopeKeeper$Job")) ({ frames := 1, cells := 0, slots := 0, locals := 40 } : Room) 0 0 D dA base M ad [.ref (ad 0 0), .int sc] (mSame M ad (some (rfv ad 4 (fstR M sc)))) := by
  refine m_start (lvs := [(0, .ref (ad 0 0)), (1, .int sc)]) (by decide) (Nat.le_of_ble_eq_true rfl) rfl ?_
  intro p e s m below meth c ls X hr hlk hin hml hM hl
  refine lv_iconst (v := 0) X.1 X.2.1 d_K_firstOfRow_0 (by decide) ?_
  refine lv_istore_n (lv' := [(2, .int 0), (0, .ref (ad 0 0)), (1, .int sc)]) X.1 X.2.1 d_K_firstOfRow_1 rfl hl (by decide) rfl (fun ls hl => ?_)
  have hN := w_njl hw
  refine w_upW (gn M 4) (fun ls => F0 m 2 ls []) (fun i H L ls => mSt D dA base M ad s.heap H L ∧ lv_has ls 3 [(2, .int (nI i)), (0, .ref (ad 0 0)), (1, .int sc)] ∧ ff (inRow M sc) (gn M 4 - i) i = ff (inRow M sc) (gn M 4) 0) ?_ ?_ 0 _ _ ls (by omega) ⟨hM, lv_sub hl [0, 1, 2] rfl, by rw [Nat.sub_zero]⟩
  · rintro H locs ls ⟨hM, hl, hI⟩
    rw [Nat.sub_self] at hI
    refine lv_iload_n X.1 X.2.1 d_K_firstOfRow_2 rfl (lv_at hl 0 rfl) ?_
    refine lv_aload_n X.1 X.2.1 d_K_firstOfRow_3 rfl (lv_at hl 1 rfl) ?_
    refine r_geti X hM rfl (w_k hw) f_K_56 rfl d_K_firstOfRow_4 ?_
    refine lv_icmp_ge (tgt := 36) X.1 X.2.1 d_K_firstOfRow_7 (by decide) (fun hz51 => ?_) (fun hz51 => absurd (by rw [w_nj hw]; exact Int32.le_refl _) hz51)
    refine lv_null X.1 X.2.1 d_K_firstOfRow_36 ?_
    exact m_aret X hr hlk hM (by first | rfl | exact rfv_isRef _ _ _) d_K_firstOfRow_37 ⟨Nat.le_of_ble_eq_true rfl, Nat.le_of_ble_eq_true rfl⟩ (mExt_rf _ _) ⟨by unfold fstR; rw [← hI]; rfl, rfl, rfl⟩
  · rintro i hi ih H locs ls ⟨hM, hl, hI⟩
    rw [show gn M 4 - i = (gn M 4 - (i + 1)) + 1 by omega] at hI
    have hge : ¬ gi M 0 0 10 ≤ nI i := by rw [w_nj hw]; exact nI_ge hi (by omega)
    refine lv_iload_n X.1 X.2.1 d_K_firstOfRow_2 rfl (lv_at hl 0 rfl) ?_
    refine lv_aload_n X.1 X.2.1 d_K_firstOfRow_3 rfl (lv_at hl 1 rfl) ?_
    refine r_geti X hM rfl (w_k hw) f_K_56 rfl d_K_firstOfRow_4 ?_
    refine lv_icmp_ge (tgt := 36) X.1 X.2.1 d_K_firstOfRow_7 (by decide) (fun hz51 => absurd hz51 hge) (fun hz51 => ?_)
    refine lv_aload_n X.1 X.2.1 d_K_firstOfRow_10 rfl (lv_at hl 1 rfl) ?_
    refine r_gets (q := 0) X hM rfl (w_k hw) f_K_52 rfl (w_0_9 hw) d_K_firstOfRow_11 (fun hv52 => ?_)
    refine lv_iload_n X.1 X.2.1 d_K_firstOfRow_14 rfl (lv_at hl 0 rfl) ?_
    refine r_aalds (q := i) X hM rfl hv52 a_jobs (fun _ => rfl) (j := i) rfl (by omega) (w_jb hw hi) d_K_firstOfRow_15 (fun hv53 => ?_)
    refine lv_iload_n X.1 X.2.1 d_K_firstOfRow_16 rfl (lv_at hl 2 rfl) ?_
    refine r_cS (As := [.ref (ad 4 i), .int sc]) (rest := []) X hml hl.1 hM (k_K_isInRow l D dA base M ad i sc hv53) c_K_302 v_K_isInRow rfl (Nat.le_of_ble_eq_true rfl) ⟨rfl, rfl, Nat.le_of_ble_eq_true rfl, Nat.le_of_ble_eq_true rfl⟩ ⟨Nat.le_of_ble_eq_true rfl, Nat.le_of_ble_eq_true rfl⟩ d_K_firstOfRow_17 ?_
    intro rv M1 ad1 H locs hP hM hE
    obtain ⟨e1, e2, e3⟩ := hP
    subst rv; subst M1; subst ad1
    show W _ _ _ _ _ _ _ _ _ _ _ _ _ _ _ (F0 m 20 ls [.int (if inRow M sc i = true then 1 else 0)])
    refine lv_if_eq (tgt := 30) X.1 X.2.1 d_K_firstOfRow_20 (by decide) (fun hq0 => ?_) (fun hq0 => ?_)
    · skip
      obtain ⟨xi, e_xi⟩ : ∃ z : Int32, z = (nI i) + 1 := ⟨_, rfl⟩
      refine lv_iinc (v := xi) (lv' := [(2, .int xi), (0, .ref (ad 0 0)), (1, .int sc)]) X.1 X.2.1 d_K_firstOfRow_30 hl (k := 0) rfl (by rw [e_xi]; rfl) (by decide) rfl (fun ls hl => ?_)
      refine lv_goto (tgt := 2) X.1 X.2.1 d_K_firstOfRow_33 (by decide) ?_
      have e9 := e_xi.trans (nI_1 i)
      subst e9
      exact ih _ _ ls ⟨hM, lv_sub hl [0, 1, 2] rfl, by rw [← hI]; exact (ff_f (be0 hq0)).symm⟩
    · skip
      refine lv_aload_n X.1 X.2.1 d_K_firstOfRow_23 rfl (lv_at hl 1 rfl) ?_
      refine r_gets (q := 0) X hM rfl (w_k hw) f_K_52 rfl (w_0_9 hw) d_K_firstOfRow_24 (fun hv55 => ?_)
      refine lv_iload_n X.1 X.2.1 d_K_firstOfRow_27 rfl (lv_at hl 0 rfl) ?_
      refine r_aalds (q := i) X hM rfl hv55 a_jobs (fun _ => rfl) (j := i) rfl (by omega) (w_jb hw hi) d_K_firstOfRow_28 (fun hv56 => ?_)
      exact m_aret X hr hlk hM (by first | rfl | exact rfv_isRef _ _ _) d_K_firstOfRow_29 ⟨Nat.le_of_ble_eq_true rfl, Nat.le_of_ble_eq_true rfl⟩ (mExt_rf _ _) ⟨by unfold fstR; rw [← hI, ff_t (bn0 hq0)]; rfl, rfl, rfl⟩
set_option maxHeartbeats 4000000 in
set_option maxRecDepth 100000 in
theorem k_K_lastOfRow (l : Launch) (D : va_G) (dA : Nat → ClassId) (base : Nat) (M : mM) (ad : Nat → Nat → Nat) (hw : wK M) (sc : Int32) : mMet l y_K_lastOfRow b_K_lastOfRow 3 (some (FieldType.object "ScopeKeeper$Job")) ({ frames := 1, cells := 0, slots := 0, locals := 40 } : Room) 0 0 D dA base M ad [.ref (ad 0 0), .int sc] (mSame M ad (some (rfv ad 4 (lstR M sc)))) := by
  refine m_start (lvs := [(0, .ref (ad 0 0)), (1, .int sc)]) (by decide) (Nat.le_of_ble_eq_true rfl) rfl ?_
  intro p e s m below meth c ls X hr hlk hin hml hM hl
  refine lv_aload_n X.1 X.2.1 d_K_lastOfRow_0 rfl (lv_at hl 0 rfl) ?_
  refine r_geti X hM rfl (w_k hw) f_K_56 rfl d_K_lastOfRow_1 ?_
  refine lv_iconst (v := 1) X.1 X.2.1 d_K_lastOfRow_4 (by decide) ?_
  refine lv_isub X.1 X.2.1 d_K_lastOfRow_5 ?_
  refine lv_istore_n (lv' := [(2, .int ((gi M 0 0 10) - (1))), (0, .ref (ad 0 0)), (1, .int sc)]) X.1 X.2.1 d_K_lastOfRow_6 rfl hl (by decide) rfl (fun ls hl => ?_)
  have hN := w_njl hw
  refine w_downW (fun ls => F0 m 7 ls []) (fun n H L ls => mSt D dA base M ad s.heap H L ∧ lv_has ls 3 [(2, .int (nI n - 1)), (0, .ref (ad 0 0)), (1, .int sc)] ∧ n ≤ gn M 4 ∧ fl (inRow M sc) n = fl (inRow M sc) (gn M 4)) ?_ ?_ (gn M 4) _ _ ls ⟨hM, by have hl := lv_sub hl [0, 1, 2] rfl; rw [w_nj hw] at hl; exact hl, Nat.le_refl _, rfl⟩
  · rintro H locs ls ⟨hM, hl, hn, hI⟩
    refine lv_iload_n X.1 X.2.1 d_K_lastOfRow_7 rfl (lv_at hl 0 rfl) ?_
    refine lv_if_lt (tgt := 37) X.1 X.2.1 d_K_lastOfRow_8 (by decide) (fun hz51 => ?_) (fun hz51 => absurd (by decide) hz51)
    refine lv_null X.1 X.2.1 d_K_lastOfRow_37 ?_
    exact m_aret X hr hlk hM (by first | rfl | exact rfv_isRef _ _ _) d_K_lastOfRow_38 ⟨Nat.le_of_ble_eq_true rfl, Nat.le_of_ble_eq_true rfl⟩ (mExt_rf _ _) ⟨by unfold lstR; rw [← hI]; rfl, rfl, rfl⟩
  · rintro i ih H locs ls ⟨hM, hl, hn, hI⟩
    rw [nI_pred] at hl
    have hi : i < gn M 4 := by omega
    refine lv_iload_n X.1 X.2.1 d_K_lastOfRow_7 rfl (lv_at hl 0 rfl) ?_
    refine lv_if_lt (tgt := 37) X.1 X.2.1 d_K_lastOfRow_8 (by decide) (fun hz51 => absurd hz51 (nI_pos (by omega))) (fun hz51 => ?_)
    refine lv_aload_n X.1 X.2.1 d_K_lastOfRow_11 rfl (lv_at hl 1 rfl) ?_
    refine r_gets (q := 0) X hM rfl (w_k hw) f_K_52 rfl (w_0_9 hw) d_K_lastOfRow_12 (fun hv52 => ?_)
    refine lv_iload_n X.1 X.2.1 d_K_lastOfRow_15 rfl (lv_at hl 0 rfl) ?_
    refine r_aalds (q := i) X hM rfl hv52 a_jobs (fun _ => rfl) (j := i) rfl (by omega) (w_jb hw hi) d_K_lastOfRow_16 (fun hv53 => ?_)
    refine lv_iload_n X.1 X.2.1 d_K_lastOfRow_17 rfl (lv_at hl 2 rfl) ?_
    refine r_cS (As := [.ref (ad 4 i), .int sc]) (rest := []) X hml hl.1 hM (k_K_isInRow l D dA base M ad i sc hv53) c_K_302 v_K_isInRow rfl (Nat.le_of_ble_eq_true rfl) ⟨rfl, rfl, Nat.le_of_ble_eq_true rfl, Nat.le_of_ble_eq_true rfl⟩ ⟨Nat.le_of_ble_eq_true rfl, Nat.le_of_ble_eq_true rfl⟩ d_K_lastOfRow_18 ?_
    intro rv M1 ad1 H locs hP hM hE
    obtain ⟨e1, e2, e3⟩ := hP
    subst rv; subst M1; subst ad1
    show W _ _ _ _ _ _ _ _ _ _ _ _ _ _ _ (F0 m 21 ls [.int (if inRow M sc i = true then 1 else 0)])
    refine lv_if_eq (tgt := 31) X.1 X.2.1 d_K_lastOfRow_21 (by decide) (fun hq0 => ?_) (fun hq0 => ?_)
    · skip
      obtain ⟨xi, e_xi⟩ : ∃ z : Int32, z = (nI i) + (-1) := ⟨_, rfl⟩
      refine lv_iinc (v := xi) (lv' := [(2, .int xi), (0, .ref (ad 0 0)), (1, .int sc)]) X.1 X.2.1 d_K_lastOfRow_31 hl (k := 0) rfl (by rw [e_xi]; rfl) (by decide) rfl (fun ls hl => ?_)
      refine lv_goto (tgt := 7) X.1 X.2.1 d_K_lastOfRow_34 (by decide) ?_
      have e9 : xi = nI i - 1 := e_xi.trans (by rw [Int32.sub_eq_add_neg])
      subst e9
      exact ih _ _ ls ⟨hM, lv_sub hl [0, 1, 2] rfl, by omega, by rw [← hI]; exact (fl_f (be0 hq0)).symm⟩
    · skip
      refine lv_aload_n X.1 X.2.1 d_K_lastOfRow_24 rfl (lv_at hl 1 rfl) ?_
      refine r_gets (q := 0) X hM rfl (w_k hw) f_K_52 rfl (w_0_9 hw) d_K_lastOfRow_25 (fun hv55 => ?_)
      refine lv_iload_n X.1 X.2.1 d_K_lastOfRow_28 rfl (lv_at hl 0 rfl) ?_
      refine r_aalds (q := i) X hM rfl hv55 a_jobs (fun _ => rfl) (j := i) rfl (by omega) (w_jb hw hi) d_K_lastOfRow_29 (fun hv56 => ?_)
      exact m_aret X hr hlk hM (by first | rfl | exact rfv_isRef _ _ _) d_K_lastOfRow_30 ⟨Nat.le_of_ble_eq_true rfl, Nat.le_of_ble_eq_true rfl⟩ (mExt_rf _ _) ⟨by unfold lstR; rw [← hI, fl_t (bn0 hq0)]; rfl, rfl, rfl⟩
set_option maxHeartbeats 4000000 in
set_option maxRecDepth 100000 in
theorem k_K_rowLength (l : Launch) (D : va_G) (dA : Nat → ClassId) (base : Nat) (M : mM) (ad : Nat → Nat → Nat) (hw : wK M) (sc : Int32) : mMet l y_K_rowLength b_K_rowLength 4 (some FieldType.int) ({ frames := 1, cells := 0, slots := 0, locals := 40 } : Room) 0 0 D dA base M ad [.ref (ad 0 0), .int sc] (mSame M ad (some (.int (nI (cn (inRow M sc) (gn M 4)))))) := by
  refine m_start (lvs := [(0, .ref (ad 0 0)), (1, .int sc)]) (by decide) (Nat.le_of_ble_eq_true rfl) rfl ?_
  intro p e s m below meth c ls X hr hlk hin hml hM hl
  refine lv_iconst (v := 0) X.1 X.2.1 d_K_rowLength_0 (by decide) ?_
  refine lv_istore_n (lv' := [(2, .int 0), (0, .ref (ad 0 0)), (1, .int sc)]) X.1 X.2.1 d_K_rowLength_1 rfl hl (by decide) rfl (fun ls hl => ?_)
  refine lv_iconst (v := 0) X.1 X.2.1 d_K_rowLength_2 (by decide) ?_
  refine lv_istore_n (lv' := [(3, .int 0), (2, .int 0), (0, .ref (ad 0 0)), (1, .int sc)]) X.1 X.2.1 d_K_rowLength_3 rfl hl (by decide) rfl (fun ls hl => ?_)
  have hN := w_njl hw
  refine w_upW (gn M 4) (fun ls => F0 m 4 ls []) (fun i H L ls => mSt D dA base M ad s.heap H L ∧ lv_has ls 4 [(2, .int (nI (cn (inRow M sc) i))), (3, .int (nI i)), (0, .ref (ad 0 0)), (1, .int sc)] ∧ True) ?_ ?_ 0 _ _ ls (by omega) ⟨hM, lv_sub hl [1, 0, 2, 3] rfl, trivial⟩
  · rintro H locs ls ⟨hM, hl, hI⟩
    refine lv_iload_n X.1 X.2.1 d_K_rowLength_4 rfl (lv_at hl 1 rfl) ?_
    refine lv_aload_n X.1 X.2.1 d_K_rowLength_5 rfl (lv_at hl 2 rfl) ?_
    refine r_geti X hM rfl (w_k hw) f_K_56 rfl d_K_rowLength_6 ?_
    refine lv_icmp_ge (tgt := 34) X.1 X.2.1 d_K_rowLength_9 (by decide) (fun hz51 => ?_) (fun hz51 => absurd (by rw [w_nj hw]; exact Int32.le_refl _) hz51)
    refine lv_iload_n X.1 X.2.1 d_K_rowLength_34 rfl (lv_at hl 0 rfl) ?_
    exact m_iret X hr hlk hM d_K_rowLength_35 ⟨Nat.le_of_ble_eq_true rfl, Nat.le_of_ble_eq_true rfl⟩ (mExt_rf _ _) ⟨rfl, rfl, rfl⟩
  · rintro i hi ih H locs ls ⟨hM, hl, hI⟩
    have hge := (show ¬ gi M 0 0 10 ≤ nI i by rw [w_nj hw]; exact nI_ge hi (by omega))
    refine lv_iload_n X.1 X.2.1 d_K_rowLength_4 rfl (lv_at hl 1 rfl) ?_
    refine lv_aload_n X.1 X.2.1 d_K_rowLength_5 rfl (lv_at hl 2 rfl) ?_
    refine r_geti X hM rfl (w_k hw) f_K_56 rfl d_K_rowLength_6 ?_
    refine lv_icmp_ge (tgt := 34) X.1 X.2.1 d_K_rowLength_9 (by decide) (fun hz51 => absurd hz51 hge) (fun hz51 => ?_)
    refine lv_aload_n X.1 X.2.1 d_K_rowLength_12 rfl (lv_at hl 2 rfl) ?_
    refine r_gets (q := 0) X hM rfl (w_k hw) f_K_52 rfl (w_0_9 hw) d_K_rowLength_13 (fun hv52 => ?_)
    refine lv_iload_n X.1 X.2.1 d_K_rowLength_16 rfl (lv_at hl 1 rfl) ?_
    refine r_aalds (q := i) X hM rfl hv52 a_jobs (fun _ => rfl) (j := i) rfl (by omega) (w_jb hw hi) d_K_rowLength_17 (fun hv53 => ?_)
    refine lv_iload_n X.1 X.2.1 d_K_rowLength_18 rfl (lv_at hl 3 rfl) ?_
    refine r_cS (As := [.ref (ad 4 i), .int sc]) (rest := []) X hml hl.1 hM (k_K_isInRow l D dA base M ad i sc hv53) c_K_302 v_K_isInRow rfl (Nat.le_of_ble_eq_true rfl) ⟨rfl, rfl, Nat.le_of_ble_eq_true rfl, Nat.le_of_ble_eq_true rfl⟩ ⟨Nat.le_of_ble_eq_true rfl, Nat.le_of_ble_eq_true rfl⟩ d_K_rowLength_19 ?_
    intro rv M1 ad1 H locs hP hM hE
    obtain ⟨e1, e2, e3⟩ := hP
    subst rv; subst M1; subst ad1
    show W _ _ _ _ _ _ _ _ _ _ _ _ _ _ _ (F0 m 22 ls [.int (if inRow M sc i = true then 1 else 0)])
    refine lv_if_eq (tgt := 28) X.1 X.2.1 d_K_rowLength_22 (by decide) (fun hq0 => ?_) (fun hq0 => ?_)
    · skip
      obtain ⟨xi, e_xi⟩ : ∃ z : Int32, z = (nI i) + 1 := ⟨_, rfl⟩
      refine lv_iinc (v := xi) (lv' := [(3, .int xi), (2, .int (nI (cn (inRow M sc) i))), (0, .ref (ad 0 0)), (1, .int sc)]) X.1 X.2.1 d_K_rowLength_28 hl (k := 1) rfl (by rw [e_xi]; rfl) (by decide) rfl (fun ls hl => ?_)
      refine lv_goto (tgt := 4) X.1 X.2.1 d_K_rowLength_31 (by decide) ?_
      have e9 := e_xi.trans (nI_1 i)
      subst e9
      rw [cn_n (p := (inRow M sc)) (n := i) (be0 hq0)] at hl
      exact ih _ _ ls ⟨hM, lv_sub hl [1, 0, 2, 3] rfl, trivial⟩
    · skip
      obtain ⟨xc, e_xc⟩ : ∃ z : Int32, z = (nI (cn (inRow M sc) i)) + 1 := ⟨_, rfl⟩
      refine lv_iinc (v := xc) (lv' := [(2, .int xc), (3, .int (nI i)), (0, .ref (ad 0 0)), (1, .int sc)]) X.1 X.2.1 d_K_rowLength_25 hl (k := 0) rfl (by rw [e_xc]; rfl) (by decide) rfl (fun ls hl => ?_)
      obtain ⟨xi, e_xi⟩ : ∃ z : Int32, z = (nI i) + 1 := ⟨_, rfl⟩
      refine lv_iinc (v := xi) (lv' := [(3, .int xi), (2, .int xc), (0, .ref (ad 0 0)), (1, .int sc)]) X.1 X.2.1 d_K_rowLength_28 hl (k := 1) rfl (by rw [e_xi]; rfl) (by decide) rfl (fun ls hl => ?_)
      refine lv_goto (tgt := 4) X.1 X.2.1 d_K_rowLength_31 (by decide) ?_
      have e9 := e_xi.trans (nI_1 i)
      subst e9
      have e8 := cn_s (p := (inRow M sc)) (n := i) (bn0 hq0) e_xc
      subst e8
      exact ih _ _ ls ⟨hM, lv_sub hl [1, 0, 2, 3] rfl, trivial⟩
set_option maxHeartbeats 4000000 in
set_option maxRecDepth 100000 in
theorem k_K_jobsNotEnded (l : Launch) (D : va_G) (dA : Nat → ClassId) (base : Nat) (M : mM) (ad : Nat → Nat → Nat) (hw : wK M) : mMet l y_K_jobsNotEnded b_K_jobsNotEnded 3 (some FieldType.int) ({ frames := 0, cells := 0, slots := 0, locals := 0 } : Room) 0 0 D dA base M ad [.ref (ad 0 0)] (mSame M ad (some (.int (nI (cn (fun j => decide (gi M 4 j 5 = 0)) (gn M 4)))))) := by
  refine m_start (lvs := [(0, .ref (ad 0 0))]) (by decide) (Nat.le_of_ble_eq_true rfl) rfl ?_
  intro p e s m below meth c ls X hr hlk hin hml hM hl
  refine lv_iconst (v := 0) X.1 X.2.1 d_K_jobsNotEnded_0 (by decide) ?_
  refine lv_istore_n (lv' := [(1, .int 0), (0, .ref (ad 0 0))]) X.1 X.2.1 d_K_jobsNotEnded_1 rfl hl (by decide) rfl (fun ls hl => ?_)
  refine lv_iconst (v := 0) X.1 X.2.1 d_K_jobsNotEnded_2 (by decide) ?_
  refine lv_istore_n (lv' := [(2, .int 0), (1, .int 0), (0, .ref (ad 0 0))]) X.1 X.2.1 d_K_jobsNotEnded_3 rfl hl (by decide) rfl (fun ls hl => ?_)
  have hN := w_njl hw
  refine w_upW (gn M 4) (fun ls => F0 m 4 ls []) (fun i H L ls => mSt D dA base M ad s.heap H L ∧ lv_has ls 3 [(1, .int (nI (cn (fun j => decide (gi M 4 j 5 = 0)) i))), (2, .int (nI i)), (0, .ref (ad 0 0))] ∧ True) ?_ ?_ 0 _ _ ls (by omega) ⟨hM, lv_sub hl [1, 0, 2] rfl, trivial⟩
  · rintro H locs ls ⟨hM, hl, hI⟩
    refine lv_iload_n X.1 X.2.1 d_K_jobsNotEnded_4 rfl (lv_at hl 1 rfl) ?_
    refine lv_aload_n X.1 X.2.1 d_K_jobsNotEnded_5 rfl (lv_at hl 2 rfl) ?_
    refine r_geti X hM rfl (w_k hw) f_K_56 rfl d_K_jobsNotEnded_6 ?_
    refine lv_icmp_ge (tgt := 33) X.1 X.2.1 d_K_jobsNotEnded_9 (by decide) (fun hz51 => ?_) (fun hz51 => absurd (by rw [w_nj hw]; exact Int32.le_refl _) hz51)
    refine lv_iload_n X.1 X.2.1 d_K_jobsNotEnded_33 rfl (lv_at hl 0 rfl) ?_
    exact m_iret X hr hlk hM d_K_jobsNotEnded_34 ⟨Nat.le_of_ble_eq_true rfl, Nat.le_of_ble_eq_true rfl⟩ (mExt_rf _ _) ⟨rfl, rfl, rfl⟩
  · rintro i hi ih H locs ls ⟨hM, hl, hI⟩
    have hge := (show ¬ gi M 0 0 10 ≤ nI i by rw [w_nj hw]; exact nI_ge hi (by omega))
    refine lv_iload_n X.1 X.2.1 d_K_jobsNotEnded_4 rfl (lv_at hl 1 rfl) ?_
    refine lv_aload_n X.1 X.2.1 d_K_jobsNotEnded_5 rfl (lv_at hl 2 rfl) ?_
    refine r_geti X hM rfl (w_k hw) f_K_56 rfl d_K_jobsNotEnded_6 ?_
    refine lv_icmp_ge (tgt := 33) X.1 X.2.1 d_K_jobsNotEnded_9 (by decide) (fun hz51 => absurd hz51 hge) (fun hz51 => ?_)
    refine lv_aload_n X.1 X.2.1 d_K_jobsNotEnded_12 rfl (lv_at hl 2 rfl) ?_
    refine r_gets (q := 0) X hM rfl (w_k hw) f_K_52 rfl (w_0_9 hw) d_K_jobsNotEnded_13 (fun hv52 => ?_)
    refine lv_iload_n X.1 X.2.1 d_K_jobsNotEnded_16 rfl (lv_at hl 1 rfl) ?_
    refine r_aalds (q := i) X hM rfl hv52 a_jobs (fun _ => rfl) (j := i) rfl (by omega) (w_jb hw hi) d_K_jobsNotEnded_17 (fun hv53 => ?_)
    refine r_geti X hM rfl hv53 f_K_147 rfl d_K_jobsNotEnded_18 ?_
    refine lv_if_ne (tgt := 27) X.1 X.2.1 d_K_jobsNotEnded_21 (by decide) (fun hq0 => ?_) (fun hq0 => ?_)
    · skip
      obtain ⟨xi, e_xi⟩ : ∃ z : Int32, z = (nI i) + 1 := ⟨_, rfl⟩
      refine lv_iinc (v := xi) (lv' := [(2, .int xi), (1, .int (nI (cn (fun j => decide (gi M 4 j 5 = 0)) i))), (0, .ref (ad 0 0))]) X.1 X.2.1 d_K_jobsNotEnded_27 hl (k := 1) rfl (by rw [e_xi]; rfl) (by decide) rfl (fun ls hl => ?_)
      refine lv_goto (tgt := 4) X.1 X.2.1 d_K_jobsNotEnded_30 (by decide) ?_
      have e9 := e_xi.trans (nI_1 i)
      subst e9
      rw [cn_n (p := (fun j => decide (gi M 4 j 5 = 0))) (n := i) (fun z => hq0 (of_decide_eq_true z))] at hl
      exact ih _ _ ls ⟨hM, lv_sub hl [1, 0, 2] rfl, trivial⟩
    · skip
      obtain ⟨xc, e_xc⟩ : ∃ z : Int32, z = (nI (cn (fun j => decide (gi M 4 j 5 = 0)) i)) + 1 := ⟨_, rfl⟩
      refine lv_iinc (v := xc) (lv' := [(1, .int xc), (2, .int (nI i)), (0, .ref (ad 0 0))]) X.1 X.2.1 d_K_jobsNotEnded_24 hl (k := 0) rfl (by rw [e_xc]; rfl) (by decide) rfl (fun ls hl => ?_)
      obtain ⟨xi, e_xi⟩ : ∃ z : Int32, z = (nI i) + 1 := ⟨_, rfl⟩
      refine lv_iinc (v := xi) (lv' := [(2, .int xi), (1, .int xc), (0, .ref (ad 0 0))]) X.1 X.2.1 d_K_jobsNotEnded_27 hl (k := 1) rfl (by rw [e_xi]; rfl) (by decide) rfl (fun ls hl => ?_)
      refine lv_goto (tgt := 4) X.1 X.2.1 d_K_jobsNotEnded_30 (by decide) ?_
      have e9 := e_xi.trans (nI_1 i)
      subst e9
      have e8 := cn_s (p := (fun j => decide (gi M 4 j 5 = 0))) (n := i) (decide_eq_true hq0) e_xc
      subst e8
      exact ih _ _ ls ⟨hM, lv_sub hl [1, 0, 2] rfl, trivial⟩
set_option maxHeartbeats 4000000 in
set_option maxRecDepth 100000 in
theorem k_K_clientsThere (l : Launch) (D : va_G) (dA : Nat → ClassId) (base : Nat) (M : mM) (ad : Nat → Nat → Nat) (hw : wK M) : mMet l y_K_clientsThere b_K_clientsThere 3 (some FieldType.int) ({ frames := 0, cells := 0, slots := 0, locals := 0 } : Room) 0 0 D dA base M ad [.ref (ad 0 0)] (mSame M ad (some (.int (nI (cn (fun i => decide (gi M 2 i 0 ≠ 0)) 8))))) := by
  refine m_start (lvs := [(0, .ref (ad 0 0))]) (by decide) (Nat.le_of_ble_eq_true rfl) rfl ?_
  intro p e s m below meth c ls X hr hlk hin hml hM hl
  refine lv_iconst (v := 0) X.1 X.2.1 d_K_clientsThere_0 (by decide) ?_
  refine lv_istore_n (lv' := [(1, .int 0), (0, .ref (ad 0 0))]) X.1 X.2.1 d_K_clientsThere_1 rfl hl (by decide) rfl (fun ls hl => ?_)
  refine lv_iconst (v := 0) X.1 X.2.1 d_K_clientsThere_2 (by decide) ?_
  refine lv_istore_n (lv' := [(2, .int 0), (1, .int 0), (0, .ref (ad 0 0))]) X.1 X.2.1 d_K_clientsThere_3 rfl hl (by decide) rfl (fun ls hl => ?_)
  refine w_upW 8 (fun ls => F0 m 4 ls []) (fun i H L ls => mSt D dA base M ad s.heap H L ∧ lv_has ls 3 [(1, .int (nI (cn (fun i => decide (gi M 2 i 0 ≠ 0)) i))), (2, .int (nI i)), (0, .ref (ad 0 0))] ∧ True) ?_ ?_ 0 _ _ ls (by omega) ⟨hM, lv_sub hl [1, 0, 2] rfl, trivial⟩
  · rintro H locs ls ⟨hM, hl, hI⟩
    refine lv_iload_n X.1 X.2.1 d_K_clientsThere_4 rfl (lv_at hl 1 rfl) ?_
    refine lv_bipush (v := 8) X.1 X.2.1 d_K_clientsThere_5 (by decide) ?_
    refine lv_icmp_ge (tgt := 31) X.1 X.2.1 d_K_clientsThere_7 (by decide) (fun hz51 => ?_) (fun hz51 => absurd (by decide) hz51)
    refine lv_iload_n X.1 X.2.1 d_K_clientsThere_31 rfl (lv_at hl 0 rfl) ?_
    exact m_iret X hr hlk hM d_K_clientsThere_32 ⟨Nat.le_of_ble_eq_true rfl, Nat.le_of_ble_eq_true rfl⟩ (mExt_rf _ _) ⟨rfl, rfl, rfl⟩
  · rintro i hi ih H locs ls ⟨hM, hl, hI⟩
    have hge := (show ¬ (8 : Int32) ≤ nI i from nI_ge hi (by decide))
    refine lv_iload_n X.1 X.2.1 d_K_clientsThere_4 rfl (lv_at hl 1 rfl) ?_
    refine lv_bipush (v := 8) X.1 X.2.1 d_K_clientsThere_5 (by decide) ?_
    refine lv_icmp_ge (tgt := 31) X.1 X.2.1 d_K_clientsThere_7 (by decide) (fun hz51 => absurd hz51 hge) (fun hz51 => ?_)
    refine lv_aload_n X.1 X.2.1 d_K_clientsThere_10 rfl (lv_at hl 2 rfl) ?_
    refine r_gets (q := 0) X hM rfl (w_k hw) f_K_43 rfl (w_0_7 hw) d_K_clientsThere_11 (fun hv52 => ?_)
    refine lv_iload_n X.1 X.2.1 d_K_clientsThere_14 rfl (lv_at hl 1 rfl) ?_
    refine r_aalds (q := i) X hM rfl hv52 a_clients (fun _ => rfl) (j := i) rfl (by omega) (w_cl hw hi) d_K_clientsThere_15 (fun hv53 => ?_)
    refine r_geti X hM rfl hv53 f_K_163 rfl d_K_clientsThere_16 ?_
    refine lv_if_eq (tgt := 25) X.1 X.2.1 d_K_clientsThere_19 (by decide) (fun hq0 => ?_) (fun hq0 => ?_)
    · skip
      obtain ⟨xi, e_xi⟩ : ∃ z : Int32, z = (nI i) + 1 := ⟨_, rfl⟩
      refine lv_iinc (v := xi) (lv' := [(2, .int xi), (1, .int (nI (cn (fun i => decide (gi M 2 i 0 ≠ 0)) i))), (0, .ref (ad 0 0))]) X.1 X.2.1 d_K_clientsThere_25 hl (k := 1) rfl (by rw [e_xi]; rfl) (by decide) rfl (fun ls hl => ?_)
      refine lv_goto (tgt := 4) X.1 X.2.1 d_K_clientsThere_28 (by decide) ?_
      have e9 := e_xi.trans (nI_1 i)
      subst e9
      rw [cn_n (p := (fun i => decide (gi M 2 i 0 ≠ 0))) (n := i) (fun z => (of_decide_eq_true z) hq0)] at hl
      exact ih _ _ ls ⟨hM, lv_sub hl [1, 0, 2] rfl, trivial⟩
    · skip
      obtain ⟨xc, e_xc⟩ : ∃ z : Int32, z = (nI (cn (fun i => decide (gi M 2 i 0 ≠ 0)) i)) + 1 := ⟨_, rfl⟩
      refine lv_iinc (v := xc) (lv' := [(1, .int xc), (2, .int (nI i)), (0, .ref (ad 0 0))]) X.1 X.2.1 d_K_clientsThere_22 hl (k := 0) rfl (by rw [e_xc]; rfl) (by decide) rfl (fun ls hl => ?_)
      obtain ⟨xi, e_xi⟩ : ∃ z : Int32, z = (nI i) + 1 := ⟨_, rfl⟩
      refine lv_iinc (v := xi) (lv' := [(2, .int xi), (1, .int xc), (0, .ref (ad 0 0))]) X.1 X.2.1 d_K_clientsThere_25 hl (k := 1) rfl (by rw [e_xi]; rfl) (by decide) rfl (fun ls hl => ?_)
      refine lv_goto (tgt := 4) X.1 X.2.1 d_K_clientsThere_28 (by decide) ?_
      have e9 := e_xi.trans (nI_1 i)
      subst e9
      have e8 := cn_s (p := (fun i => decide (gi M 2 i 0 ≠ 0))) (n := i) (decide_eq_true hq0) e_xc
      subst e8
      exact ih _ _ ls ⟨hM, lv_sub hl [1, 0, 2] rfl, trivial⟩
