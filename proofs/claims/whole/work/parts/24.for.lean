set_option maxHeartbeats 4000000 in
set_option maxRecDepth 100000 in
theorem k_K_registrationFor (l : Launch) (D : va_G) (dA : Nat → ClassId) (base : Nat) (M : mM) (ad : Nat → Nat → Nat) (hw : wK M) (path : Int32) : mMet l y_K_registrationFor b_K_registrationFor 6 (some (FieldType.object "ScopeKeeper$Registration")) ({ frames := 1, cells := 0, slots := 0, locals := 40 } : Room) 0 0 D dA base M ad [.ref (ad 0 0), .int path] (mSame M ad (some (rfv ad 5 (rgFor M path)))) := by
  refine m_start (lvs := [(0, .ref (ad 0 0)), (1, .int path)]) (by decide) (Nat.le_of_ble_eq_true rfl) rfl ?_
  intro p e s m below meth c ls X hr hlk hin hml hM hl
  refine lv_null X.1 X.2.1 d_K_registrationFor_0 ?_
  refine lv_astore_nN (lv' := [(2, .null), (0, .ref (ad 0 0)), (1, .int path)]) X.1 X.2.1 d_K_registrationFor_1 rfl hl (by decide) rfl (fun ls hl => ?_)
  refine lv_iconst (v := 0) X.1 X.2.1 d_K_registrationFor_2 (by decide) ?_
  refine lv_istore_n (lv' := [(3, .int 0), (2, .null), (0, .ref (ad 0 0)), (1, .int path)]) X.1 X.2.1 d_K_registrationFor_3 rfl hl (by decide) rfl (fun ls hl => ?_)
  have hN := w_nrl hw
  refine w_upW (nRg M) (fun ls => F0 m 4 ls []) (fun i H L ls => mSt D dA base M ad s.heap H L ∧ lv_has ls 6 [(2, rfv ad 5 (rfB M path i)), (3, .int (nI i)), (0, .ref (ad 0 0)), (1, .int path)] ∧ True) ?_ ?_ 0 _ _ ls (by omega) ⟨hM, lv_sub hl [1, 0, 2, 3] rfl, trivial⟩
  · rintro H locs ls ⟨hM, hl, hI⟩
    refine lv_iload_n X.1 X.2.1 d_K_registrationFor_4 rfl (lv_at hl 1 rfl) ?_
    refine lv_aload_n X.1 X.2.1 d_K_registrationFor_5 rfl (lv_at hl 2 rfl) ?_
    refine r_geti X hM rfl (w_k hw) f_K_38 rfl d_K_registrationFor_6 ?_
    refine lv_icmp_ge (tgt := 85) X.1 X.2.1 d_K_registrationFor_9 (by decide) (fun hz51 => ?_) (fun hz51 => absurd (by rw [w_nr hw]; exact Int32.le_refl _) hz51)
    refine r_aload_n X.1 X.2.1 d_K_registrationFor_85 rfl (lv_at hl 0 rfl) ?_
    exact m_aret X hr hlk hM (by first | rfl | exact rfv_isRef _ _ _) d_K_registrationFor_86 ⟨Nat.le_of_ble_eq_true rfl, Nat.le_of_ble_eq_true rfl⟩ (mExt_rf _ _) ⟨rfl, rfl, rfl⟩
  · rintro i hi ih H locs ls ⟨hM, hl, hI⟩
    have hge : ¬ gi M 0 0 6 ≤ nI i := by rw [w_nr hw]; exact nI_ge hi (by omega)
    refine lv_iload_n X.1 X.2.1 d_K_registrationFor_4 rfl (lv_at hl 1 rfl) ?_
    refine lv_aload_n X.1 X.2.1 d_K_registrationFor_5 rfl (lv_at hl 2 rfl) ?_
    refine r_geti X hM rfl (w_k hw) f_K_38 rfl d_K_registrationFor_6 ?_
    refine lv_icmp_ge (tgt := 85) X.1 X.2.1 d_K_registrationFor_9 (by decide) (fun hz51 => absurd hz51 hge) (fun hz51 => ?_)
    refine lv_aload_n X.1 X.2.1 d_K_registrationFor_12 rfl (lv_at hl 2 rfl) ?_
    refine r_gets (q := 0) X hM rfl (w_k hw) f_K_34 rfl (w_0_5 hw) d_K_registrationFor_13 (fun hv52 => ?_)
    refine lv_iload_n X.1 X.2.1 d_K_registrationFor_16 rfl (lv_at hl 1 rfl) ?_
    refine r_aalds (q := (rgx M i)) X hM rfl hv52 a_regs (fun _ => rfl) (j := i) rfl (by omega) (w_rg hw hi) d_K_registrationFor_17 (fun hv53 => ?_)
    refine lv_astore (lv' := [(4, .ref (ad 5 ((rgx M i)))), (2, rfv ad 5 (rfB M path i)), (3, .int (nI i)), (0, .ref (ad 0 0)), (1, .int path)]) X.1 X.2.1 d_K_registrationFor_18 hl (by decide) rfl (fun ls hl => ?_)
    refine lv_aload X.1 X.2.1 d_K_registrationFor_20 (lv_at hl 0 rfl) ?_
    refine r_geti X hM rfl hv53 f_K_236 rfl d_K_registrationFor_22 ?_
    refine lv_if_ne (tgt := 52) X.1 X.2.1 d_K_registrationFor_25 (by decide) (fun h25 => ?_) (fun h25 => ?_)
    · skip
      refine lv_iconst (v := 0) X.1 X.2.1 d_K_registrationFor_52 (by decide) ?_
      refine lv_istore (lv' := [(5, .int 0), (4, .ref (ad 5 ((rgx M i)))), (2, rfv ad 5 (rfB M path i)), (3, .int (nI i)), (0, .ref (ad 0 0)), (1, .int path)]) X.1 X.2.1 d_K_registrationFor_53 hl (by decide) rfl (fun ls hl => ?_)
      refine lv_iload X.1 X.2.1 d_K_registrationFor_55 (lv_at hl 0 rfl) ?_
      refine lv_if_eq (tgt := 79) X.1 X.2.1 d_K_registrationFor_57 (by decide) (fun hz54 => ?_) (fun hz54 => absurd (by decide) hz54)
      obtain ⟨xi, e_xi⟩ : ∃ z : Int32, z = (nI i) + 1 := ⟨_, rfl⟩
      refine lv_iinc (v := xi) (lv' := [(3, .int xi), (5, .int 0), (4, .ref (ad 5 ((rgx M i)))), (2, rfv ad 5 (rfB M path i)), (0, .ref (ad 0 0)), (1, .int path)]) X.1 X.2.1 d_K_registrationFor_79 hl (k := 3) rfl (by rw [e_xi]; rfl) (by decide) (by simp only [List.filter_cons, List.filter_nil, rfv_cat]; rfl) (fun ls hl => ?_)
      refine lv_goto (tgt := 4) X.1 X.2.1 d_K_registrationFor_82 (by decide) ?_
      have e9 := e_xi.trans (nI_1 i)
      subst e9
      have hf : ¬ fitR M path (rgx M i) = true := fun z => h25 (of_decide_eq_true z).1
      exact ih _ _ ls ⟨hM, (by rw [rfB_f1 hf]; exact lv_sub hl [3, 0, 4, 5] rfl), trivial⟩
    · skip
      refine lv_aload X.1 X.2.1 d_K_registrationFor_28 (lv_at hl 0 rfl) ?_
      refine r_getr X hM rfl hv53 f_K_169 rfl d_K_registrationFor_30 (fun hv55 => ?_)
      refine r_ifnull (tgt := 52) X.1 X.2.1 d_K_registrationFor_33 (by decide) (fun h33 => ?_) (fun w4 h33 => ?_)
      · skip
        refine lv_iconst (v := 0) X.1 X.2.1 d_K_registrationFor_52 (by decide) ?_
        refine lv_istore (lv' := [(5, .int 0), (4, .ref (ad 5 ((rgx M i)))), (2, rfv ad 5 (rfB M path i)), (3, .int (nI i)), (0, .ref (ad 0 0)), (1, .int path)]) X.1 X.2.1 d_K_registrationFor_53 hl (by decide) rfl (fun ls hl => ?_)
        refine lv_iload X.1 X.2.1 d_K_registrationFor_55 (lv_at hl 0 rfl) ?_
        refine lv_if_eq (tgt := 79) X.1 X.2.1 d_K_registrationFor_57 (by decide) (fun hz56 => ?_) (fun hz56 => absurd (by decide) hz56)
        obtain ⟨xi, e_xi⟩ : ∃ z : Int32, z = (nI i) + 1 := ⟨_, rfl⟩
        refine lv_iinc (v := xi) (lv' := [(3, .int xi), (5, .int 0), (4, .ref (ad 5 ((rgx M i)))), (2, rfv ad 5 (rfB M path i)), (0, .ref (ad 0 0)), (1, .int path)]) X.1 X.2.1 d_K_registrationFor_79 hl (k := 3) rfl (by rw [e_xi]; rfl) (by decide) (by simp only [List.filter_cons, List.filter_nil, rfv_cat]; rfl) (fun ls hl => ?_)
        refine lv_goto (tgt := 4) X.1 X.2.1 d_K_registrationFor_82 (by decide) ?_
        have e9 := e_xi.trans (nI_1 i)
        subst e9
        have hf : ¬ fitR M path (rgx M i) = true := fun z => (of_decide_eq_true z).2.1 h33
        exact ih _ _ ls ⟨hM, (by rw [rfB_f1 hf]; exact lv_sub hl [3, 0, 4, 5] rfl), trivial⟩
      · skip
        refine lv_aload X.1 X.2.1 d_K_registrationFor_36 (lv_at hl 0 rfl) ?_
        refine r_geti X hM rfl hv53 f_K_274 rfl d_K_registrationFor_38 ?_
        refine lv_iload_n X.1 X.2.1 d_K_registrationFor_41 rfl (lv_at hl 4 rfl) ?_
        refine r_cS (As := [.int (gi M 5 (rgx M i) 0), .int path]) (rest := []) X hml hl.1 hM (k_K_begins l D dA base M ad (gi M 5 (rgx M i) 0) path) c_K_315 v_K_begins rfl (Nat.le_of_ble_eq_true rfl) ⟨rfl, rfl, Nat.le_of_ble_eq_true rfl, Nat.le_of_ble_eq_true rfl⟩ ⟨Nat.le_of_ble_eq_true rfl, Nat.le_of_ble_eq_true rfl⟩ d_K_registrationFor_42 ?_
        intro rv M1 ad1 H locs hP hM hE
        obtain ⟨e1, e2, e3⟩ := hP
        subst rv; subst M1; subst ad1
        show W _ _ _ _ _ _ _ _ _ _ _ _ _ _ _ (F0 m 45 ls [.int (if bgs (gi M 5 (rgx M i) 0) path = true then 1 else 0)])
        refine lv_if_eq (tgt := 52) X.1 X.2.1 d_K_registrationFor_45 (by decide) (fun h45 => ?_) (fun h45 => ?_)
        · skip
          refine lv_iconst (v := 0) X.1 X.2.1 d_K_registrationFor_52 (by decide) ?_
          refine lv_istore (lv' := [(5, .int 0), (4, .ref (ad 5 ((rgx M i)))), (2, rfv ad 5 (rfB M path i)), (3, .int (nI i)), (0, .ref (ad 0 0)), (1, .int path)]) X.1 X.2.1 d_K_registrationFor_53 hl (by decide) rfl (fun ls hl => ?_)
          refine lv_iload X.1 X.2.1 d_K_registrationFor_55 (lv_at hl 0 rfl) ?_
          refine lv_if_eq (tgt := 79) X.1 X.2.1 d_K_registrationFor_57 (by decide) (fun hz58 => ?_) (fun hz58 => absurd (by decide) hz58)
          obtain ⟨xi, e_xi⟩ : ∃ z : Int32, z = (nI i) + 1 := ⟨_, rfl⟩
          refine lv_iinc (v := xi) (lv' := [(3, .int xi), (5, .int 0), (4, .ref (ad 5 ((rgx M i)))), (2, rfv ad 5 (rfB M path i)), (0, .ref (ad 0 0)), (1, .int path)]) X.1 X.2.1 d_K_registrationFor_79 hl (k := 3) rfl (by rw [e_xi]; rfl) (by decide) (by simp only [List.filter_cons, List.filter_nil, rfv_cat]; rfl) (fun ls hl => ?_)
          refine lv_goto (tgt := 4) X.1 X.2.1 d_K_registrationFor_82 (by decide) ?_
          have e9 := e_xi.trans (nI_1 i)
          subst e9
          have hf : ¬ fitR M path (rgx M i) = true := fun z => be0 h45 (of_decide_eq_true z).2.2
          exact ih _ _ ls ⟨hM, (by rw [rfB_f1 hf]; exact lv_sub hl [3, 0, 4, 5] rfl), trivial⟩
        · skip
          refine lv_iconst (v := 1) X.1 X.2.1 d_K_registrationFor_48 (by decide) ?_
          refine lv_goto (tgt := 53) X.1 X.2.1 d_K_registrationFor_49 (by decide) ?_
          refine lv_istore (lv' := [(5, .int 1), (4, .ref (ad 5 ((rgx M i)))), (2, rfv ad 5 (rfB M path i)), (3, .int (nI i)), (0, .ref (ad 0 0)), (1, .int path)]) X.1 X.2.1 d_K_registrationFor_53 hl (by decide) rfl (fun ls hl => ?_)
          refine lv_iload X.1 X.2.1 d_K_registrationFor_55 (lv_at hl 0 rfl) ?_
          refine lv_if_eq (tgt := 79) X.1 X.2.1 d_K_registrationFor_57 (by decide) (fun hz59 => absurd hz59 (by decide)) (fun hz59 => ?_)
          refine r_aload_n X.1 X.2.1 d_K_registrationFor_60 rfl (lv_at hl 2 rfl) ?_
          refine r_ifnull (tgt := 76) X.1 X.2.1 d_K_registrationFor_61 (by decide) (fun h61 => ?_) (fun wb h61 => ?_)
          · skip
            rw [h61] at hl
            have hl : lv_has ls 6 [(5, .int 1), (4, .ref (ad 5 ((rgx M i)))), (2, .null), (3, .int (nI i)), (0, .ref (ad 0 0)), (1, .int path)] := hl
            refine lv_aload X.1 X.2.1 d_K_registrationFor_76 (lv_at hl 1 rfl) ?_
            refine lv_astore_n (lv' := [(2, .ref (ad 5 ((rgx M i)))), (5, .int 1), (4, .ref (ad 5 ((rgx M i)))), (3, .int (nI i)), (0, .ref (ad 0 0)), (1, .int path)]) X.1 X.2.1 d_K_registrationFor_78 rfl hl (by decide) rfl (fun ls hl => ?_)
            obtain ⟨xi, e_xi⟩ : ∃ z : Int32, z = (nI i) + 1 := ⟨_, rfl⟩
            refine lv_iinc (v := xi) (lv' := [(3, .int xi), (2, .ref (ad 5 ((rgx M i)))), (5, .int 1), (4, .ref (ad 5 ((rgx M i)))), (0, .ref (ad 0 0)), (1, .int path)]) X.1 X.2.1 d_K_registrationFor_79 hl (k := 3) rfl (by rw [e_xi]; rfl) (by decide) rfl (fun ls hl => ?_)
            refine lv_goto (tgt := 4) X.1 X.2.1 d_K_registrationFor_82 (by decide) ?_
            have e9 := e_xi.trans (nI_1 i)
            subst e9
            have hf : fitR M path (rgx M i) = true := decide_eq_true ⟨h25, by rw [h33]; exact (fun z => nomatch z), bn0 h45⟩
            have hb9 : betR M (rfB M path i) (rgx M i) = true := by rw [h61]; first | rfl | exact decide_eq_true (Int32.not_le.mp h73)
            exact ih _ _ ls ⟨hM, (by rw [rfB_t hf hb9]; exact lv_sub hl [1, 0, 4, 5] rfl), trivial⟩
          · skip
            rw [h61] at hl
            have hl : lv_has ls 6 [(5, .int 1), (4, .ref (ad 5 ((rgx M i)))), (2, .ref (ad 5 wb)), (3, .int (nI i)), (0, .ref (ad 0 0)), (1, .int path)] := hl
            refine lv_aload X.1 X.2.1 d_K_registrationFor_64 (lv_at hl 1 rfl) ?_
            refine r_geti X hM rfl hv53 f_K_274 rfl d_K_registrationFor_66 ?_
            refine lv_aload_n X.1 X.2.1 d_K_registrationFor_69 rfl (lv_at hl 2 rfl) ?_
            refine r_geti X hM rfl ((rfB_lv hM hw (by omega)) wb h61) f_K_274 rfl d_K_registrationFor_70 ?_
            refine lv_icmp_le (tgt := 79) X.1 X.2.1 d_K_registrationFor_73 (by decide) (fun h73 => ?_) (fun h73 => ?_)
            · skip
              obtain ⟨xi, e_xi⟩ : ∃ z : Int32, z = (nI i) + 1 := ⟨_, rfl⟩
              refine lv_iinc (v := xi) (lv' := [(3, .int xi), (5, .int 1), (4, .ref (ad 5 ((rgx M i)))), (2, .ref (ad 5 wb)), (0, .ref (ad 0 0)), (1, .int path)]) X.1 X.2.1 d_K_registrationFor_79 hl (k := 3) rfl (by rw [e_xi]; rfl) (by decide) rfl (fun ls hl => ?_)
              refine lv_goto (tgt := 4) X.1 X.2.1 d_K_registrationFor_82 (by decide) ?_
              have e9 := e_xi.trans (nI_1 i)
              subst e9
              have hf : fitR M path (rgx M i) = true := decide_eq_true ⟨h25, by rw [h33]; exact (fun z => nomatch z), bn0 h45⟩
              have hb9 : ¬ betR M (rfB M path i) (rgx M i) = true := by rw [h61]; exact fun z => absurd (of_decide_eq_true z) (Int32.not_lt.mpr h73)
              exact ih _ _ ls ⟨hM, (by rw [rfB_f2 hb9, h61]; exact lv_sub hl [3, 0, 4, 5] rfl), trivial⟩
            · skip
              refine lv_aload X.1 X.2.1 d_K_registrationFor_76 (lv_at hl 1 rfl) ?_
              refine lv_astore_n (lv' := [(2, .ref (ad 5 ((rgx M i)))), (5, .int 1), (4, .ref (ad 5 ((rgx M i)))), (3, .int (nI i)), (0, .ref (ad 0 0)), (1, .int path)]) X.1 X.2.1 d_K_registrationFor_78 rfl hl (by decide) rfl (fun ls hl => ?_)
              obtain ⟨xi, e_xi⟩ : ∃ z : Int32, z = (nI i) + 1 := ⟨_, rfl⟩
              refine lv_iinc (v := xi) (lv' := [(3, .int xi), (2, .ref (ad 5 ((rgx M i)))), (5, .int 1), (4, .ref (ad 5 ((rgx M i)))), (0, .ref (ad 0 0)), (1, .int path)]) X.1 X.2.1 d_K_registrationFor_79 hl (k := 3) rfl (by rw [e_xi]; rfl) (by decide) rfl (fun ls hl => ?_)
              refine lv_goto (tgt := 4) X.1 X.2.1 d_K_registrationFor_82 (by decide) ?_
              have e9 := e_xi.trans (nI_1 i)
              subst e9
              have hf : fitR M path (rgx M i) = true := decide_eq_true ⟨h25, by rw [h33]; exact (fun z => nomatch z), bn0 h45⟩
              have hb9 : betR M (rfB M path i) (rgx M i) = true := by rw [h61]; first | rfl | exact decide_eq_true (Int32.not_le.mp h73)
              exact ih _ _ ls ⟨hM, (by rw [rfB_t hf hb9]; exact lv_sub hl [1, 0, 4, 5] rfl), trivial⟩
