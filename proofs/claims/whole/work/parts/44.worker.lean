theorem sub_ix {x : Int32} {a n : Nat} (h1 : nI a ≤ x) (h2 : ¬ nI (a + n) ≤ x) (hb : a + n < 2 ^ 31) : ∃ j : Nat, j < n ∧ x - nI a = nI j ∧ x = nI (a + j) := by
  rcases pk_ix x hb with h | h | ⟨i, hi, h⟩
  · exact absurd (Int32.lt_of_le_of_lt h1 h) (nI_pos (by omega))
  · exact absurd h h2
  · have hai : a ≤ i := by
      rcases Nat.lt_or_ge i a with z | z
      · exact absurd (by rw [← h]; exact h1) (nI_ge z (by omega))
      · exact z
    refine ⟨i - a, by omega, ?_, by rw [h]; congr 1; omega⟩
    rw [h]
    have e : nI i = nI (i - a) + nI a := by rw [nI_add]; congr 1; omega
    rw [e, Int32.add_sub_cancel]
theorem wCa_of {M : mM} (hw : wK M) (ho : wO M) : wCa M := by
  intro w h
  obtain ⟨z, hz, e⟩ := ho.2.2.2.1 w h
  have e2 : csz M w = z := by unfold csz; rw [e]; exact nI_clamp (by omega)
  rw [e2]
  exact ⟨by rw [ho.1.1]; exact h, w_6_0 hw h, w_6_1 hw h, e, hz⟩
def wkXc (M : mM) (w q : Int32) : Nat := if ¬ ((0 ≤ q ∧ q ≤ 4) ∨ (10 ≤ q ∧ q < 10 + 4) ∨ (20 ≤ q ∧ q < 20 + 4)) then 1 else if ¬ (1 ≤ w ∧ w ≤ gi M 0 0 4) then 2 else 0
def wkW (M : mM) (i : Nat) (q : Int32) : Int32 := if q = 0 then gi M 7 i 5 else if q = 1 then gi M 7 i 1 else if q = 2 then gi M 7 i 3 else if q = 3 then nI (ctl M (some i)) else if q = 4 then gi M 6 i 2 else if 20 ≤ q then atC M 16 i (csz M i) (q - 20) else atC M 15 i (csz M i) (q - 10)
set_option maxHeartbeats 4000000 in
set_option maxRecDepth 100000 in
theorem k_K_worker (l : Launch) (hst : l.stackTraces = false) (D : va_G) (dA : Nat → ClassId) (base : Nat) (M : mM) (ad : Nat → Nat → Nat) (hw : wK M) (ho : wO M) (w q : Int32) : mMetX l y_K_worker b_K_worker 6 (some FieldType.int) ({ frames := 6, cells := 1, slots := 6, locals := 100 } : Room) 1 6 D dA base M ad [.ref (ad 0 0), .int w, .int q] (fun rv M' ad' => wkXc M w q = 0 ∧ rv = some (.int (wkW M (w - 1).toNatClampNeg q)) ∧ M' = M ∧ ad' = ad) (fun E => (wkXc M w q = 1 ∧ E = "java/lang/IllegalArgumentException") ∨ (wkXc M w q = 2 ∧ E = "java/lang/IndexOutOfBoundsException")) := by
  refine m_startX (lvs := [(0, .ref (ad 0 0)), (1, .int w), (2, .int q)]) (by decide) (Nat.le_of_ble_eq_true rfl) rfl ?_
  intro p e s m below meth c ls X hr hlk hin hml hM hl hno
  have hk0 : 0 < gn M 0 := w_k hw
  refine lv_iload_n X.1 X.2.1 d_K_worker_0 rfl (lv_at hl 2 rfl) ?_
  refine lv_if_lt (tgt := 13) X.1 X.2.1 d_K_worker_1 (by decide) (fun h1 => ?_) (fun h1 => ?_)
  · skip
    refine lv_iconst (v := 0) X.1 X.2.1 d_K_worker_13 (by decide) ?_
    refine lv_istore_n (lv' := [(3, .int 0), (0, .ref (ad 0 0)), (1, .int w), (2, .int q)]) X.1 X.2.1 d_K_worker_14 rfl hl (by decide) rfl (fun ls hl => ?_)
    refine lv_iload_n X.1 X.2.1 d_K_worker_15 rfl (lv_at hl 3 rfl) ?_
    refine lv_bipush (v := 10) X.1 X.2.1 d_K_worker_16 (by decide) ?_
    refine lv_iconst (v := 4) X.1 X.2.1 d_K_worker_18 (by decide) ?_
    refine r_cS (As := [.int q, .int 10, .int 4]) (rest := []) X hml hl.1 hM (k_K_isWithin l D dA base M ad q 10 4) c_K_239 v_K_isWithin rfl (Nat.le_of_ble_eq_true rfl) ⟨rfl, rfl, Nat.le_of_ble_eq_true rfl, Nat.le_of_ble_eq_true rfl⟩ ⟨Nat.le_of_ble_eq_true rfl, Nat.le_of_ble_eq_true rfl⟩ d_K_worker_19 ?_
    intro rv M1 ad1 H locs hP hM hE
    obtain ⟨e1, e2, e3⟩ := hP
    subst rv; subst M1; subst ad1
    show W _ _ _ _ _ _ _ _ _ _ _ _ _ _ _ (F0 m 22 ls [.int (if 10 ≤ q ∧ q < 10 + 4 then 1 else 0)])
    refine lv_if_ne (tgt := 35) X.1 X.2.1 d_K_worker_22 (by decide) (fun h22 => ?_) (fun h22 => ?_)
    · skip
      refine lv_iconst (v := 1) X.1 X.2.1 d_K_worker_35 (by decide) ?_
      refine lv_goto (tgt := 40) X.1 X.2.1 d_K_worker_36 (by decide) ?_
      refine lv_istore (lv' := [(4, .int 1), (3, .int 0), (0, .ref (ad 0 0)), (1, .int w), (2, .int q)]) X.1 X.2.1 d_K_worker_40 hl (by decide) rfl (fun ls hl => ?_)
      refine lv_iload_n X.1 X.2.1 d_K_worker_42 rfl (lv_at hl 1 rfl) ?_
      refine lv_if_ne (tgt := 61) X.1 X.2.1 d_K_worker_43 (by decide) (fun hz2 => absurd (by decide) hz2) (fun hz2 => ?_)
      refine lv_iload X.1 X.2.1 d_K_worker_46 (lv_at hl 0 rfl) ?_
      refine lv_if_ne (tgt := 61) X.1 X.2.1 d_K_worker_48 (by decide) (fun hz3 => ?_) (fun hz3 => absurd hz3 (by decide))
      have hv : (0 ≤ q ∧ q ≤ 4) ∨ (10 ≤ q ∧ q < 10 + 4) ∨ (20 ≤ q ∧ q < 20 + 4) := Or.inr (Or.inl (bn0 h22))
      refine lv_iload_n X.1 X.2.1 d_K_worker_61 rfl (lv_at hl 3 rfl) ?_
      refine lv_iconst (v := 1) X.1 X.2.1 d_K_worker_62 (by decide) ?_
      refine lv_icmp_lt (tgt := 74) X.1 X.2.1 d_K_worker_63 (by decide) (fun h63 => ?_) (fun h63 => ?_)
      · skip
        exact r_throw X hst hml hl.1 hM hlk hno t_K_243_245_247 d_K_worker_74 d_K_worker_77 d_K_worker_78 d_K_worker_80 d_K_worker_83 ⟨Nat.le_of_ble_eq_true rfl, Nat.le_of_ble_eq_true rfl, Nat.le_of_ble_eq_true rfl, Nat.le_of_ble_eq_true rfl⟩ ⟨Nat.le_of_ble_eq_true rfl, Nat.le_of_ble_eq_true rfl⟩ (Or.inr ⟨by unfold wkXc; rw [if_neg (fun z => z hv), if_pos (fun z => absurd h63 (Int32.not_lt.mpr z.1))], rfl⟩)
      · skip
        refine lv_iload_n X.1 X.2.1 d_K_worker_66 rfl (lv_at hl 3 rfl) ?_
        refine lv_aload_n X.1 X.2.1 d_K_worker_67 rfl (lv_at hl 2 rfl) ?_
        refine r_geti X hM rfl hk0 f_K_29 rfl d_K_worker_68 ?_
        refine lv_icmp_le (tgt := 84) X.1 X.2.1 d_K_worker_71 (by decide) (fun h71 => ?_) (fun h71 => ?_)
        · skip
          have hN := w_nwl hw
          have h71 : w ≤ nI (gn M 7) := by rw [← w_nw hw]; exact h71
          obtain ⟨j, hj, hxj, hwj⟩ : ∃ j : Nat, j < gn M 7 ∧ w - 1 = nI j ∧ w = nI (1 + j) := sub_ix (x := w) (a := 1) (n := gn M 7) (Int32.not_lt.mp h63) (fun z => absurd (Int32.le_trans z h71) (nI_ge (by omega) (by omega))) (by omega)
          have hcl : (w - 1).toNatClampNeg = j := by rw [hxj]; exact nI_clamp (by omega)
          refine lv_aload_n X.1 X.2.1 d_K_worker_84 rfl (lv_at hl 2 rfl) ?_
          refine r_gets (q := 0) X hM rfl hk0 f_K_25 rfl (w_0_3 hw) d_K_worker_85 (fun hv4 => ?_)
          refine lv_iload_n X.1 X.2.1 d_K_worker_88 rfl (lv_at hl 3 rfl) ?_
          refine lv_iconst (v := 1) X.1 X.2.1 d_K_worker_89 (by decide) ?_
          refine lv_isub X.1 X.2.1 d_K_worker_90 ?_
          refine r_aalds (q := j) X hM rfl hv4 a_workers (fun _ => rfl) (j := j) hxj (by omega) (w_wk hw hj) d_K_worker_91 (fun hv5 => ?_)
          refine lv_astore (lv' := [(5, .ref (ad 7 j)), (4, .int 1), (3, .int 0), (0, .ref (ad 0 0)), (1, .int w), (2, .int q)]) X.1 X.2.1 d_K_worker_92 hl (by decide) rfl (fun ls hl => ?_)
          refine lv_iload_n X.1 X.2.1 d_K_worker_94 rfl (lv_at hl 5 rfl) ?_
          by_cases hs_0 : q = 0
          · skip
            refine W.eq (g2 := F0 m 95 ls (.int 0 :: [])) (by rw [hs_0]) ?_
            refine lv_tableIn (tgt := 128) X.1 X.2.1 d_K_worker_95 (by decide) (by decide) rfl (by decide) ?_
            refine lv_aload X.1 X.2.1 d_K_worker_128 (lv_at hl 0 rfl) ?_
            refine r_geti X hM rfl hv5 f_K_248 rfl d_K_worker_130 ?_
            refine vx_ret ?_
            exact m_iret X hr hlk hM d_K_worker_133 ⟨Nat.le_of_ble_eq_true rfl, Nat.le_of_ble_eq_true rfl⟩ (mExt_rf _ _) ⟨by unfold wkXc; rw [if_neg (fun z => z hv), if_neg (fun z => z ⟨Int32.not_lt.mp h63, by rw [w_nw hw]; exact h71⟩)], by rw [hcl]; exact congrArg (fun z => some (Value.int z)) (Eq.symm (by unfold wkW; rw [if_pos hs_0])), rfl, rfl⟩
          by_cases hs_1 : q = 1
          · skip
            refine W.eq (g2 := F0 m 95 ls (.int 1 :: [])) (by rw [hs_1]) ?_
            refine lv_tableIn (tgt := 134) X.1 X.2.1 d_K_worker_95 (by decide) (by decide) rfl (by decide) ?_
            refine lv_aload X.1 X.2.1 d_K_worker_134 (lv_at hl 0 rfl) ?_
            refine r_geti X hM rfl hv5 f_K_216 rfl d_K_worker_136 ?_
            refine vx_ret ?_
            exact m_iret X hr hlk hM d_K_worker_139 ⟨Nat.le_of_ble_eq_true rfl, Nat.le_of_ble_eq_true rfl⟩ (mExt_rf _ _) ⟨by unfold wkXc; rw [if_neg (fun z => z hv), if_neg (fun z => z ⟨Int32.not_lt.mp h63, by rw [w_nw hw]; exact h71⟩)], by rw [hcl]; exact congrArg (fun z => some (Value.int z)) (Eq.symm (by unfold wkW; rw [if_neg hs_0, if_pos hs_1])), rfl, rfl⟩
          by_cases hs_2 : q = 2
          · skip
            refine W.eq (g2 := F0 m 95 ls (.int 2 :: [])) (by rw [hs_2]) ?_
            refine lv_tableIn (tgt := 140) X.1 X.2.1 d_K_worker_95 (by decide) (by decide) rfl (by decide) ?_
            refine lv_aload X.1 X.2.1 d_K_worker_140 (lv_at hl 0 rfl) ?_
            refine r_geti X hM rfl hv5 f_K_212 rfl d_K_worker_142 ?_
            refine vx_ret ?_
            exact m_iret X hr hlk hM d_K_worker_145 ⟨Nat.le_of_ble_eq_true rfl, Nat.le_of_ble_eq_true rfl⟩ (mExt_rf _ _) ⟨by unfold wkXc; rw [if_neg (fun z => z hv), if_neg (fun z => z ⟨Int32.not_lt.mp h63, by rw [w_nw hw]; exact h71⟩)], by rw [hcl]; exact congrArg (fun z => some (Value.int z)) (Eq.symm (by unfold wkW; rw [if_neg hs_0, if_neg hs_1, if_pos hs_2])), rfl, rfl⟩
          by_cases hs_3 : q = 3
          · skip
            refine W.eq (g2 := F0 m 95 ls (.int 3 :: [])) (by rw [hs_3]) ?_
            refine lv_tableIn (tgt := 146) X.1 X.2.1 d_K_worker_95 (by decide) (by decide) rfl (by decide) ?_
            refine lv_aload_n X.1 X.2.1 d_K_worker_146 rfl (lv_at hl 3 rfl) ?_
            refine lv_aload X.1 X.2.1 d_K_worker_147 (lv_at hl 0 rfl) ?_
            refine r_cV (As := [.ref (ad 7 j)]) (rest := []) X hml hl.1 hM (k_K_controlledBy_s l D dA base M ad hw j hj) c_K_251 v_K_controlledBy kc_K rfl hk0 rfl (Nat.le_of_ble_eq_true rfl) ⟨rfl, rfl, Nat.le_of_ble_eq_true rfl, Nat.le_of_ble_eq_true rfl⟩ ⟨Nat.le_of_ble_eq_true rfl, Nat.le_of_ble_eq_true rfl⟩ d_K_worker_149 ?_
            intro rv M1 ad1 H locs hP hM hE
            obtain ⟨e1, e2, e3⟩ := hP
            subst rv; subst M1; subst ad1
            show W _ _ _ _ _ _ _ _ _ _ _ _ _ _ _ (F0 m 152 ls [.int (nI (ctl M (some j)))])
            refine vx_ret ?_
            exact m_iret X hr hlk hM d_K_worker_152 ⟨Nat.le_of_ble_eq_true rfl, Nat.le_of_ble_eq_true rfl⟩ (mExt_rf _ _) ⟨by unfold wkXc; rw [if_neg (fun z => z hv), if_neg (fun z => z ⟨Int32.not_lt.mp h63, by rw [w_nw hw]; exact h71⟩)], by rw [hcl]; exact congrArg (fun z => some (Value.int z)) (Eq.symm (by unfold wkW; rw [if_neg hs_0, if_neg hs_1, if_neg hs_2, if_pos hs_3])), rfl, rfl⟩
          by_cases hs_4 : q = 4
          · skip
            refine W.eq (g2 := F0 m 95 ls (.int 4 :: [])) (by rw [hs_4]) ?_
            refine lv_tableIn (tgt := 153) X.1 X.2.1 d_K_worker_95 (by decide) (by decide) rfl (by decide) ?_
            refine lv_aload X.1 X.2.1 d_K_worker_153 (lv_at hl 0 rfl) ?_
            refine r_gets (q := j) X hM rfl hv5 f_K_217 rfl (w_7_4 hw hj) d_K_worker_155 (fun hv7 => ?_)
            refine r_geti X hM rfl hv7 f_K_254 rfl d_K_worker_158 ?_
            refine vx_ret ?_
            exact m_iret X hr hlk hM d_K_worker_161 ⟨Nat.le_of_ble_eq_true rfl, Nat.le_of_ble_eq_true rfl⟩ (mExt_rf _ _) ⟨by unfold wkXc; rw [if_neg (fun z => z hv), if_neg (fun z => z ⟨Int32.not_lt.mp h63, by rw [w_nw hw]; exact h71⟩)], by rw [hcl]; exact congrArg (fun z => some (Value.int z)) (Eq.symm (by unfold wkW; rw [if_neg hs_0, if_neg hs_1, if_neg hs_2, if_neg hs_3, if_pos hs_4])), rfl, rfl⟩
          refine lv_tableOut (tgt := 162) X.1 X.2.1 d_K_worker_95 (by have a0 := lv_neT hs_0 (a := 0) rfl; have a1 := lv_neT hs_1 (a := 1) rfl; have a2 := lv_neT hs_2 (a := 2) rfl; have a3 := lv_neT hs_3 (a := 3) rfl; have a4 := lv_neT hs_4 (a := 4) rfl; omega) (by decide) ?_
          refine lv_iload_n X.1 X.2.1 d_K_worker_162 rfl (lv_at hl 5 rfl) ?_
          refine lv_bipush (v := 20) X.1 X.2.1 d_K_worker_163 (by decide) ?_
          refine lv_icmp_ge (tgt := 183) X.1 X.2.1 d_K_worker_165 (by decide) (fun h165 => ?_) (fun h165 => ?_)
          · skip
            refine lv_aload X.1 X.2.1 d_K_worker_183 (lv_at hl 0 rfl) ?_
            refine r_gets (q := j) X hM rfl hv5 f_K_217 rfl (w_7_4 hw hj) d_K_worker_185 (fun hv8 => ?_)
            refine lv_iload_n X.1 X.2.1 d_K_worker_188 rfl (lv_at hl 5 rfl) ?_
            refine lv_bipush (v := 20) X.1 X.2.1 d_K_worker_189 (by decide) ?_
            refine lv_isub X.1 X.2.1 d_K_worker_191 ?_
            refine r_cV (As := [.int ((q) - (20))]) (rest := []) X hml hl.1 hM (k_Ca_valueAt l D dA base M ad j (csz M j) (wCa_of hw ho j hj) (q - 20)) c_K_260 v_Ca_valueAt kc_Ca rfl hv8 rfl (Nat.le_of_ble_eq_true rfl) ⟨rfl, rfl, Nat.le_of_ble_eq_true rfl, Nat.le_of_ble_eq_true rfl⟩ ⟨Nat.le_of_ble_eq_true rfl, Nat.le_of_ble_eq_true rfl⟩ d_K_worker_192 ?_
            intro rv M1 ad1 H locs hP hM hE
            obtain ⟨e1, e2, e3⟩ := hP
            subst rv; subst M1; subst ad1
            show W _ _ _ _ _ _ _ _ _ _ _ _ _ _ _ (F0 m 195 ls [.int (atC M 16 j (csz M j) (q - 20))])
            refine vx_ret ?_
            exact m_iret X hr hlk hM d_K_worker_195 ⟨Nat.le_of_ble_eq_true rfl, Nat.le_of_ble_eq_true rfl⟩ (mExt_rf _ _) ⟨by unfold wkXc; rw [if_neg (fun z => z hv), if_neg (fun z => z ⟨Int32.not_lt.mp h63, by rw [w_nw hw]; exact h71⟩)], by rw [hcl]; exact congrArg (fun z => some (Value.int z)) (Eq.symm (by unfold wkW; rw [if_neg hs_0, if_neg hs_1, if_neg hs_2, if_neg hs_3, if_neg hs_4, if_pos h165])), rfl, rfl⟩
          · skip
            refine lv_aload X.1 X.2.1 d_K_worker_168 (lv_at hl 0 rfl) ?_
            refine r_gets (q := j) X hM rfl hv5 f_K_217 rfl (w_7_4 hw hj) d_K_worker_170 (fun hv10 => ?_)
            refine lv_iload_n X.1 X.2.1 d_K_worker_173 rfl (lv_at hl 5 rfl) ?_
            refine lv_bipush (v := 10) X.1 X.2.1 d_K_worker_174 (by decide) ?_
            refine lv_isub X.1 X.2.1 d_K_worker_176 ?_
            refine r_cV (As := [.int ((q) - (10))]) (rest := []) X hml hl.1 hM (k_Ca_pathAt l D dA base M ad j (csz M j) (wCa_of hw ho j hj) (q - 10)) c_K_257 v_Ca_pathAt kc_Ca rfl hv10 rfl (Nat.le_of_ble_eq_true rfl) ⟨rfl, rfl, Nat.le_of_ble_eq_true rfl, Nat.le_of_ble_eq_true rfl⟩ ⟨Nat.le_of_ble_eq_true rfl, Nat.le_of_ble_eq_true rfl⟩ d_K_worker_177 ?_
            intro rv M1 ad1 H locs hP hM hE
            obtain ⟨e1, e2, e3⟩ := hP
            subst rv; subst M1; subst ad1
            show W _ _ _ _ _ _ _ _ _ _ _ _ _ _ _ (F0 m 180 ls [.int (atC M 15 j (csz M j) (q - 10))])
            refine lv_goto (tgt := 195) X.1 X.2.1 d_K_worker_180 (by decide) ?_
            refine vx_ret ?_
            exact m_iret X hr hlk hM d_K_worker_195 ⟨Nat.le_of_ble_eq_true rfl, Nat.le_of_ble_eq_true rfl⟩ (mExt_rf _ _) ⟨by unfold wkXc; rw [if_neg (fun z => z hv), if_neg (fun z => z ⟨Int32.not_lt.mp h63, by rw [w_nw hw]; exact h71⟩)], by rw [hcl]; exact congrArg (fun z => some (Value.int z)) (Eq.symm (by unfold wkW; rw [if_neg hs_0, if_neg hs_1, if_neg hs_2, if_neg hs_3, if_neg hs_4, if_neg h165])), rfl, rfl⟩
        · skip
          exact r_throw X hst hml hl.1 hM hlk hno t_K_243_245_247 d_K_worker_74 d_K_worker_77 d_K_worker_78 d_K_worker_80 d_K_worker_83 ⟨Nat.le_of_ble_eq_true rfl, Nat.le_of_ble_eq_true rfl, Nat.le_of_ble_eq_true rfl, Nat.le_of_ble_eq_true rfl⟩ ⟨Nat.le_of_ble_eq_true rfl, Nat.le_of_ble_eq_true rfl⟩ (Or.inr ⟨by unfold wkXc; rw [if_neg (fun z => z hv), if_pos (fun z => h71 (z.2))], rfl⟩)
    · skip
      refine lv_iload_n X.1 X.2.1 d_K_worker_25 rfl (lv_at hl 3 rfl) ?_
      refine lv_bipush (v := 20) X.1 X.2.1 d_K_worker_26 (by decide) ?_
      refine lv_iconst (v := 4) X.1 X.2.1 d_K_worker_28 (by decide) ?_
      refine r_cS (As := [.int q, .int 20, .int 4]) (rest := []) X hml hl.1 hM (k_K_isWithin l D dA base M ad q 20 4) c_K_239 v_K_isWithin rfl (Nat.le_of_ble_eq_true rfl) ⟨rfl, rfl, Nat.le_of_ble_eq_true rfl, Nat.le_of_ble_eq_true rfl⟩ ⟨Nat.le_of_ble_eq_true rfl, Nat.le_of_ble_eq_true rfl⟩ d_K_worker_29 ?_
      intro rv M1 ad1 H locs hP hM hE
      obtain ⟨e1, e2, e3⟩ := hP
      subst rv; subst M1; subst ad1
      show W _ _ _ _ _ _ _ _ _ _ _ _ _ _ _ (F0 m 32 ls [.int (if 20 ≤ q ∧ q < 20 + 4 then 1 else 0)])
      refine lv_if_eq (tgt := 39) X.1 X.2.1 d_K_worker_32 (by decide) (fun h32 => ?_) (fun h32 => ?_)
      · skip
        refine lv_iconst (v := 0) X.1 X.2.1 d_K_worker_39 (by decide) ?_
        refine lv_istore (lv' := [(4, .int 0), (3, .int 0), (0, .ref (ad 0 0)), (1, .int w), (2, .int q)]) X.1 X.2.1 d_K_worker_40 hl (by decide) rfl (fun ls hl => ?_)
        refine lv_iload_n X.1 X.2.1 d_K_worker_42 rfl (lv_at hl 1 rfl) ?_
        refine lv_if_ne (tgt := 61) X.1 X.2.1 d_K_worker_43 (by decide) (fun hz13 => absurd (by decide) hz13) (fun hz13 => ?_)
        refine lv_iload X.1 X.2.1 d_K_worker_46 (lv_at hl 0 rfl) ?_
        refine lv_if_ne (tgt := 61) X.1 X.2.1 d_K_worker_48 (by decide) (fun hz14 => absurd (by decide) hz14) (fun hz14 => ?_)
        exact r_throw X hst hml hl.1 hM hlk hno t_K_75_233_79 d_K_worker_51 d_K_worker_54 d_K_worker_55 d_K_worker_57 d_K_worker_60 ⟨Nat.le_of_ble_eq_true rfl, Nat.le_of_ble_eq_true rfl, Nat.le_of_ble_eq_true rfl, Nat.le_of_ble_eq_true rfl⟩ ⟨Nat.le_of_ble_eq_true rfl, Nat.le_of_ble_eq_true rfl⟩ (Or.inl ⟨if_pos (by rintro (z | z | z); exact absurd h1 (Int32.not_lt.mpr z.1); exact be0 h22 z; exact be0 h32 z), rfl⟩)
      · skip
        refine lv_iconst (v := 1) X.1 X.2.1 d_K_worker_35 (by decide) ?_
        refine lv_goto (tgt := 40) X.1 X.2.1 d_K_worker_36 (by decide) ?_
        refine lv_istore (lv' := [(4, .int 1), (3, .int 0), (0, .ref (ad 0 0)), (1, .int w), (2, .int q)]) X.1 X.2.1 d_K_worker_40 hl (by decide) rfl (fun ls hl => ?_)
        refine lv_iload_n X.1 X.2.1 d_K_worker_42 rfl (lv_at hl 1 rfl) ?_
        refine lv_if_ne (tgt := 61) X.1 X.2.1 d_K_worker_43 (by decide) (fun hz15 => absurd (by decide) hz15) (fun hz15 => ?_)
        refine lv_iload X.1 X.2.1 d_K_worker_46 (lv_at hl 0 rfl) ?_
        refine lv_if_ne (tgt := 61) X.1 X.2.1 d_K_worker_48 (by decide) (fun hz16 => ?_) (fun hz16 => absurd hz16 (by decide))
        have hv : (0 ≤ q ∧ q ≤ 4) ∨ (10 ≤ q ∧ q < 10 + 4) ∨ (20 ≤ q ∧ q < 20 + 4) := Or.inr (Or.inr (bn0 h32))
        refine lv_iload_n X.1 X.2.1 d_K_worker_61 rfl (lv_at hl 3 rfl) ?_
        refine lv_iconst (v := 1) X.1 X.2.1 d_K_worker_62 (by decide) ?_
        refine lv_icmp_lt (tgt := 74) X.1 X.2.1 d_K_worker_63 (by decide) (fun h63 => ?_) (fun h63 => ?_)
        · skip
          exact r_throw X hst hml hl.1 hM hlk hno t_K_243_245_247 d_K_worker_74 d_K_worker_77 d_K_worker_78 d_K_worker_80 d_K_worker_83 ⟨Nat.le_of_ble_eq_true rfl, Nat.le_of_ble_eq_true rfl, Nat.le_of_ble_eq_true rfl, Nat.le_of_ble_eq_true rfl⟩ ⟨Nat.le_of_ble_eq_true rfl, Nat.le_of_ble_eq_true rfl⟩ (Or.inr ⟨by unfold wkXc; rw [if_neg (fun z => z hv), if_pos (fun z => absurd h63 (Int32.not_lt.mpr z.1))], rfl⟩)
        · skip
          refine lv_iload_n X.1 X.2.1 d_K_worker_66 rfl (lv_at hl 3 rfl) ?_
          refine lv_aload_n X.1 X.2.1 d_K_worker_67 rfl (lv_at hl 2 rfl) ?_
          refine r_geti X hM rfl hk0 f_K_29 rfl d_K_worker_68 ?_
          refine lv_icmp_le (tgt := 84) X.1 X.2.1 d_K_worker_71 (by decide) (fun h71 => ?_) (fun h71 => ?_)
          · skip
            have hN := w_nwl hw
            have h71 : w ≤ nI (gn M 7) := by rw [← w_nw hw]; exact h71
            obtain ⟨j, hj, hxj, hwj⟩ : ∃ j : Nat, j < gn M 7 ∧ w - 1 = nI j ∧ w = nI (1 + j) := sub_ix (x := w) (a := 1) (n := gn M 7) (Int32.not_lt.mp h63) (fun z => absurd (Int32.le_trans z h71) (nI_ge (by omega) (by omega))) (by omega)
            have hcl : (w - 1).toNatClampNeg = j := by rw [hxj]; exact nI_clamp (by omega)
            refine lv_aload_n X.1 X.2.1 d_K_worker_84 rfl (lv_at hl 2 rfl) ?_
            refine r_gets (q := 0) X hM rfl hk0 f_K_25 rfl (w_0_3 hw) d_K_worker_85 (fun hv17 => ?_)
            refine lv_iload_n X.1 X.2.1 d_K_worker_88 rfl (lv_at hl 3 rfl) ?_
            refine lv_iconst (v := 1) X.1 X.2.1 d_K_worker_89 (by decide) ?_
            refine lv_isub X.1 X.2.1 d_K_worker_90 ?_
            refine r_aalds (q := j) X hM rfl hv17 a_workers (fun _ => rfl) (j := j) hxj (by omega) (w_wk hw hj) d_K_worker_91 (fun hv18 => ?_)
            refine lv_astore (lv' := [(5, .ref (ad 7 j)), (4, .int 1), (3, .int 0), (0, .ref (ad 0 0)), (1, .int w), (2, .int q)]) X.1 X.2.1 d_K_worker_92 hl (by decide) rfl (fun ls hl => ?_)
            refine lv_iload_n X.1 X.2.1 d_K_worker_94 rfl (lv_at hl 5 rfl) ?_
            by_cases hs_0 : q = 0
            · skip
              refine W.eq (g2 := F0 m 95 ls (.int 0 :: [])) (by rw [hs_0]) ?_
              refine lv_tableIn (tgt := 128) X.1 X.2.1 d_K_worker_95 (by decide) (by decide) rfl (by decide) ?_
              refine lv_aload X.1 X.2.1 d_K_worker_128 (lv_at hl 0 rfl) ?_
              refine r_geti X hM rfl hv18 f_K_248 rfl d_K_worker_130 ?_
              refine vx_ret ?_
              exact m_iret X hr hlk hM d_K_worker_133 ⟨Nat.le_of_ble_eq_true rfl, Nat.le_of_ble_eq_true rfl⟩ (mExt_rf _ _) ⟨by unfold wkXc; rw [if_neg (fun z => z hv), if_neg (fun z => z ⟨Int32.not_lt.mp h63, by rw [w_nw hw]; exact h71⟩)], by rw [hcl]; exact congrArg (fun z => some (Value.int z)) (Eq.symm (by unfold wkW; rw [if_pos hs_0])), rfl, rfl⟩
            by_cases hs_1 : q = 1
            · skip
              refine W.eq (g2 := F0 m 95 ls (.int 1 :: [])) (by rw [hs_1]) ?_
              refine lv_tableIn (tgt := 134) X.1 X.2.1 d_K_worker_95 (by decide) (by decide) rfl (by decide) ?_
              refine lv_aload X.1 X.2.1 d_K_worker_134 (lv_at hl 0 rfl) ?_
              refine r_geti X hM rfl hv18 f_K_216 rfl d_K_worker_136 ?_
              refine vx_ret ?_
              exact m_iret X hr hlk hM d_K_worker_139 ⟨Nat.le_of_ble_eq_true rfl, Nat.le_of_ble_eq_true rfl⟩ (mExt_rf _ _) ⟨by unfold wkXc; rw [if_neg (fun z => z hv), if_neg (fun z => z ⟨Int32.not_lt.mp h63, by rw [w_nw hw]; exact h71⟩)], by rw [hcl]; exact congrArg (fun z => some (Value.int z)) (Eq.symm (by unfold wkW; rw [if_neg hs_0, if_pos hs_1])), rfl, rfl⟩
            by_cases hs_2 : q = 2
            · skip
              refine W.eq (g2 := F0 m 95 ls (.int 2 :: [])) (by rw [hs_2]) ?_
              refine lv_tableIn (tgt := 140) X.1 X.2.1 d_K_worker_95 (by decide) (by decide) rfl (by decide) ?_
              refine lv_aload X.1 X.2.1 d_K_worker_140 (lv_at hl 0 rfl) ?_
              refine r_geti X hM rfl hv18 f_K_212 rfl d_K_worker_142 ?_
              refine vx_ret ?_
              exact m_iret X hr hlk hM d_K_worker_145 ⟨Nat.le_of_ble_eq_true rfl, Nat.le_of_ble_eq_true rfl⟩ (mExt_rf _ _) ⟨by unfold wkXc; rw [if_neg (fun z => z hv), if_neg (fun z => z ⟨Int32.not_lt.mp h63, by rw [w_nw hw]; exact h71⟩)], by rw [hcl]; exact congrArg (fun z => some (Value.int z)) (Eq.symm (by unfold wkW; rw [if_neg hs_0, if_neg hs_1, if_pos hs_2])), rfl, rfl⟩
            by_cases hs_3 : q = 3
            · skip
              refine W.eq (g2 := F0 m 95 ls (.int 3 :: [])) (by rw [hs_3]) ?_
              refine lv_tableIn (tgt := 146) X.1 X.2.1 d_K_worker_95 (by decide) (by decide) rfl (by decide) ?_
              refine lv_aload_n X.1 X.2.1 d_K_worker_146 rfl (lv_at hl 3 rfl) ?_
              refine lv_aload X.1 X.2.1 d_K_worker_147 (lv_at hl 0 rfl) ?_
              refine r_cV (As := [.ref (ad 7 j)]) (rest := []) X hml hl.1 hM (k_K_controlledBy_s l D dA base M ad hw j hj) c_K_251 v_K_controlledBy kc_K rfl hk0 rfl (Nat.le_of_ble_eq_true rfl) ⟨rfl, rfl, Nat.le_of_ble_eq_true rfl, Nat.le_of_ble_eq_true rfl⟩ ⟨Nat.le_of_ble_eq_true rfl, Nat.le_of_ble_eq_true rfl⟩ d_K_worker_149 ?_
              intro rv M1 ad1 H locs hP hM hE
              obtain ⟨e1, e2, e3⟩ := hP
              subst rv; subst M1; subst ad1
              show W _ _ _ _ _ _ _ _ _ _ _ _ _ _ _ (F0 m 152 ls [.int (nI (ctl M (some j)))])
              refine vx_ret ?_
              exact m_iret X hr hlk hM d_K_worker_152 ⟨Nat.le_of_ble_eq_true rfl, Nat.le_of_ble_eq_true rfl⟩ (mExt_rf _ _) ⟨by unfold wkXc; rw [if_neg (fun z => z hv), if_neg (fun z => z ⟨Int32.not_lt.mp h63, by rw [w_nw hw]; exact h71⟩)], by rw [hcl]; exact congrArg (fun z => some (Value.int z)) (Eq.symm (by unfold wkW; rw [if_neg hs_0, if_neg hs_1, if_neg hs_2, if_pos hs_3])), rfl, rfl⟩
            by_cases hs_4 : q = 4
            · skip
              refine W.eq (g2 := F0 m 95 ls (.int 4 :: [])) (by rw [hs_4]) ?_
              refine lv_tableIn (tgt := 153) X.1 X.2.1 d_K_worker_95 (by decide) (by decide) rfl (by decide) ?_
              refine lv_aload X.1 X.2.1 d_K_worker_153 (lv_at hl 0 rfl) ?_
              refine r_gets (q := j) X hM rfl hv18 f_K_217 rfl (w_7_4 hw hj) d_K_worker_155 (fun hv20 => ?_)
              refine r_geti X hM rfl hv20 f_K_254 rfl d_K_worker_158 ?_
              refine vx_ret ?_
              exact m_iret X hr hlk hM d_K_worker_161 ⟨Nat.le_of_ble_eq_true rfl, Nat.le_of_ble_eq_true rfl⟩ (mExt_rf _ _) ⟨by unfold wkXc; rw [if_neg (fun z => z hv), if_neg (fun z => z ⟨Int32.not_lt.mp h63, by rw [w_nw hw]; exact h71⟩)], by rw [hcl]; exact congrArg (fun z => some (Value.int z)) (Eq.symm (by unfold wkW; rw [if_neg hs_0, if_neg hs_1, if_neg hs_2, if_neg hs_3, if_pos hs_4])), rfl, rfl⟩
            refine lv_tableOut (tgt := 162) X.1 X.2.1 d_K_worker_95 (by have a0 := lv_neT hs_0 (a := 0) rfl; have a1 := lv_neT hs_1 (a := 1) rfl; have a2 := lv_neT hs_2 (a := 2) rfl; have a3 := lv_neT hs_3 (a := 3) rfl; have a4 := lv_neT hs_4 (a := 4) rfl; omega) (by decide) ?_
            refine lv_iload_n X.1 X.2.1 d_K_worker_162 rfl (lv_at hl 5 rfl) ?_
            refine lv_bipush (v := 20) X.1 X.2.1 d_K_worker_163 (by decide) ?_
            refine lv_icmp_ge (tgt := 183) X.1 X.2.1 d_K_worker_165 (by decide) (fun h165 => ?_) (fun h165 => ?_)
            · skip
              refine lv_aload X.1 X.2.1 d_K_worker_183 (lv_at hl 0 rfl) ?_
              refine r_gets (q := j) X hM rfl hv18 f_K_217 rfl (w_7_4 hw hj) d_K_worker_185 (fun hv21 => ?_)
              refine lv_iload_n X.1 X.2.1 d_K_worker_188 rfl (lv_at hl 5 rfl) ?_
              refine lv_bipush (v := 20) X.1 X.2.1 d_K_worker_189 (by decide) ?_
              refine lv_isub X.1 X.2.1 d_K_worker_191 ?_
              refine r_cV (As := [.int ((q) - (20))]) (rest := []) X hml hl.1 hM (k_Ca_valueAt l D dA base M ad j (csz M j) (wCa_of hw ho j hj) (q - 20)) c_K_260 v_Ca_valueAt kc_Ca rfl hv21 rfl (Nat.le_of_ble_eq_true rfl) ⟨rfl, rfl, Nat.le_of_ble_eq_true rfl, Nat.le_of_ble_eq_true rfl⟩ ⟨Nat.le_of_ble_eq_true rfl, Nat.le_of_ble_eq_true rfl⟩ d_K_worker_192 ?_
              intro rv M1 ad1 H locs hP hM hE
              obtain ⟨e1, e2, e3⟩ := hP
              subst rv; subst M1; subst ad1
              show W _ _ _ _ _ _ _ _ _ _ _ _ _ _ _ (F0 m 195 ls [.int (atC M 16 j (csz M j) (q - 20))])
              refine vx_ret ?_
              exact m_iret X hr hlk hM d_K_worker_195 ⟨Nat.le_of_ble_eq_true rfl, Nat.le_of_ble_eq_true rfl⟩ (mExt_rf _ _) ⟨by unfold wkXc; rw [if_neg (fun z => z hv), if_neg (fun z => z ⟨Int32.not_lt.mp h63, by rw [w_nw hw]; exact h71⟩)], by rw [hcl]; exact congrArg (fun z => some (Value.int z)) (Eq.symm (by unfold wkW; rw [if_neg hs_0, if_neg hs_1, if_neg hs_2, if_neg hs_3, if_neg hs_4, if_pos h165])), rfl, rfl⟩
            · skip
              refine lv_aload X.1 X.2.1 d_K_worker_168 (lv_at hl 0 rfl) ?_
              refine r_gets (q := j) X hM rfl hv18 f_K_217 rfl (w_7_4 hw hj) d_K_worker_170 (fun hv23 => ?_)
              refine lv_iload_n X.1 X.2.1 d_K_worker_173 rfl (lv_at hl 5 rfl) ?_
              refine lv_bipush (v := 10) X.1 X.2.1 d_K_worker_174 (by decide) ?_
              refine lv_isub X.1 X.2.1 d_K_worker_176 ?_
              refine r_cV (As := [.int ((q) - (10))]) (rest := []) X hml hl.1 hM (k_Ca_pathAt l D dA base M ad j (csz M j) (wCa_of hw ho j hj) (q - 10)) c_K_257 v_Ca_pathAt kc_Ca rfl hv23 rfl (Nat.le_of_ble_eq_true rfl) ⟨rfl, rfl, Nat.le_of_ble_eq_true rfl, Nat.le_of_ble_eq_true rfl⟩ ⟨Nat.le_of_ble_eq_true rfl, Nat.le_of_ble_eq_true rfl⟩ d_K_worker_177 ?_
              intro rv M1 ad1 H locs hP hM hE
              obtain ⟨e1, e2, e3⟩ := hP
              subst rv; subst M1; subst ad1
              show W _ _ _ _ _ _ _ _ _ _ _ _ _ _ _ (F0 m 180 ls [.int (atC M 15 j (csz M j) (q - 10))])
              refine lv_goto (tgt := 195) X.1 X.2.1 d_K_worker_180 (by decide) ?_
              refine vx_ret ?_
              exact m_iret X hr hlk hM d_K_worker_195 ⟨Nat.le_of_ble_eq_true rfl, Nat.le_of_ble_eq_true rfl⟩ (mExt_rf _ _) ⟨by unfold wkXc; rw [if_neg (fun z => z hv), if_neg (fun z => z ⟨Int32.not_lt.mp h63, by rw [w_nw hw]; exact h71⟩)], by rw [hcl]; exact congrArg (fun z => some (Value.int z)) (Eq.symm (by unfold wkW; rw [if_neg hs_0, if_neg hs_1, if_neg hs_2, if_neg hs_3, if_neg hs_4, if_neg h165])), rfl, rfl⟩
          · skip
            exact r_throw X hst hml hl.1 hM hlk hno t_K_243_245_247 d_K_worker_74 d_K_worker_77 d_K_worker_78 d_K_worker_80 d_K_worker_83 ⟨Nat.le_of_ble_eq_true rfl, Nat.le_of_ble_eq_true rfl, Nat.le_of_ble_eq_true rfl, Nat.le_of_ble_eq_true rfl⟩ ⟨Nat.le_of_ble_eq_true rfl, Nat.le_of_ble_eq_true rfl⟩ (Or.inr ⟨by unfold wkXc; rw [if_neg (fun z => z hv), if_pos (fun z => h71 (z.2))], rfl⟩)
  · skip
    refine lv_iload_n X.1 X.2.1 d_K_worker_4 rfl (lv_at hl 2 rfl) ?_
    refine lv_iconst (v := 4) X.1 X.2.1 d_K_worker_5 (by decide) ?_
    refine lv_icmp_gt (tgt := 13) X.1 X.2.1 d_K_worker_6 (by decide) (fun h6 => ?_) (fun h6 => ?_)
    · skip
      refine lv_iconst (v := 0) X.1 X.2.1 d_K_worker_13 (by decide) ?_
      refine lv_istore_n (lv' := [(3, .int 0), (0, .ref (ad 0 0)), (1, .int w), (2, .int q)]) X.1 X.2.1 d_K_worker_14 rfl hl (by decide) rfl (fun ls hl => ?_)
      refine lv_iload_n X.1 X.2.1 d_K_worker_15 rfl (lv_at hl 3 rfl) ?_
      refine lv_bipush (v := 10) X.1 X.2.1 d_K_worker_16 (by decide) ?_
      refine lv_iconst (v := 4) X.1 X.2.1 d_K_worker_18 (by decide) ?_
      refine r_cS (As := [.int q, .int 10, .int 4]) (rest := []) X hml hl.1 hM (k_K_isWithin l D dA base M ad q 10 4) c_K_239 v_K_isWithin rfl (Nat.le_of_ble_eq_true rfl) ⟨rfl, rfl, Nat.le_of_ble_eq_true rfl, Nat.le_of_ble_eq_true rfl⟩ ⟨Nat.le_of_ble_eq_true rfl, Nat.le_of_ble_eq_true rfl⟩ d_K_worker_19 ?_
      intro rv M1 ad1 H locs hP hM hE
      obtain ⟨e1, e2, e3⟩ := hP
      subst rv; subst M1; subst ad1
      show W _ _ _ _ _ _ _ _ _ _ _ _ _ _ _ (F0 m 22 ls [.int (if 10 ≤ q ∧ q < 10 + 4 then 1 else 0)])
      refine lv_if_ne (tgt := 35) X.1 X.2.1 d_K_worker_22 (by decide) (fun h22 => ?_) (fun h22 => ?_)
      · skip
        refine lv_iconst (v := 1) X.1 X.2.1 d_K_worker_35 (by decide) ?_
        refine lv_goto (tgt := 40) X.1 X.2.1 d_K_worker_36 (by decide) ?_
        refine lv_istore (lv' := [(4, .int 1), (3, .int 0), (0, .ref (ad 0 0)), (1, .int w), (2, .int q)]) X.1 X.2.1 d_K_worker_40 hl (by decide) rfl (fun ls hl => ?_)
        refine lv_iload_n X.1 X.2.1 d_K_worker_42 rfl (lv_at hl 1 rfl) ?_
        refine lv_if_ne (tgt := 61) X.1 X.2.1 d_K_worker_43 (by decide) (fun hz26 => absurd (by decide) hz26) (fun hz26 => ?_)
        refine lv_iload X.1 X.2.1 d_K_worker_46 (lv_at hl 0 rfl) ?_
        refine lv_if_ne (tgt := 61) X.1 X.2.1 d_K_worker_48 (by decide) (fun hz27 => ?_) (fun hz27 => absurd hz27 (by decide))
        have hv : (0 ≤ q ∧ q ≤ 4) ∨ (10 ≤ q ∧ q < 10 + 4) ∨ (20 ≤ q ∧ q < 20 + 4) := Or.inr (Or.inl (bn0 h22))
        refine lv_iload_n X.1 X.2.1 d_K_worker_61 rfl (lv_at hl 3 rfl) ?_
        refine lv_iconst (v := 1) X.1 X.2.1 d_K_worker_62 (by decide) ?_
        refine lv_icmp_lt (tgt := 74) X.1 X.2.1 d_K_worker_63 (by decide) (fun h63 => ?_) (fun h63 => ?_)
        · skip
          exact r_throw X hst hml hl.1 hM hlk hno t_K_243_245_247 d_K_worker_74 d_K_worker_77 d_K_worker_78 d_K_worker_80 d_K_worker_83 ⟨Nat.le_of_ble_eq_true rfl, Nat.le_of_ble_eq_true rfl, Nat.le_of_ble_eq_true rfl, Nat.le_of_ble_eq_true rfl⟩ ⟨Nat.le_of_ble_eq_true rfl, Nat.le_of_ble_eq_true rfl⟩ (Or.inr ⟨by unfold wkXc; rw [if_neg (fun z => z hv), if_pos (fun z => absurd h63 (Int32.not_lt.mpr z.1))], rfl⟩)
        · skip
          refine lv_iload_n X.1 X.2.1 d_K_worker_66 rfl (lv_at hl 3 rfl) ?_
          refine lv_aload_n X.1 X.2.1 d_K_worker_67 rfl (lv_at hl 2 rfl) ?_
          refine r_geti X hM rfl hk0 f_K_29 rfl d_K_worker_68 ?_
          refine lv_icmp_le (tgt := 84) X.1 X.2.1 d_K_worker_71 (by decide) (fun h71 => ?_) (fun h71 => ?_)
          · skip
            have hN := w_nwl hw
            have h71 : w ≤ nI (gn M 7) := by rw [← w_nw hw]; exact h71
            obtain ⟨j, hj, hxj, hwj⟩ : ∃ j : Nat, j < gn M 7 ∧ w - 1 = nI j ∧ w = nI (1 + j) := sub_ix (x := w) (a := 1) (n := gn M 7) (Int32.not_lt.mp h63) (fun z => absurd (Int32.le_trans z h71) (nI_ge (by omega) (by omega))) (by omega)
            have hcl : (w - 1).toNatClampNeg = j := by rw [hxj]; exact nI_clamp (by omega)
            refine lv_aload_n X.1 X.2.1 d_K_worker_84 rfl (lv_at hl 2 rfl) ?_
            refine r_gets (q := 0) X hM rfl hk0 f_K_25 rfl (w_0_3 hw) d_K_worker_85 (fun hv28 => ?_)
            refine lv_iload_n X.1 X.2.1 d_K_worker_88 rfl (lv_at hl 3 rfl) ?_
            refine lv_iconst (v := 1) X.1 X.2.1 d_K_worker_89 (by decide) ?_
            refine lv_isub X.1 X.2.1 d_K_worker_90 ?_
            refine r_aalds (q := j) X hM rfl hv28 a_workers (fun _ => rfl) (j := j) hxj (by omega) (w_wk hw hj) d_K_worker_91 (fun hv29 => ?_)
            refine lv_astore (lv' := [(5, .ref (ad 7 j)), (4, .int 1), (3, .int 0), (0, .ref (ad 0 0)), (1, .int w), (2, .int q)]) X.1 X.2.1 d_K_worker_92 hl (by decide) rfl (fun ls hl => ?_)
            refine lv_iload_n X.1 X.2.1 d_K_worker_94 rfl (lv_at hl 5 rfl) ?_
            by_cases hs_0 : q = 0
            · skip
              refine W.eq (g2 := F0 m 95 ls (.int 0 :: [])) (by rw [hs_0]) ?_
              refine lv_tableIn (tgt := 128) X.1 X.2.1 d_K_worker_95 (by decide) (by decide) rfl (by decide) ?_
              refine lv_aload X.1 X.2.1 d_K_worker_128 (lv_at hl 0 rfl) ?_
              refine r_geti X hM rfl hv29 f_K_248 rfl d_K_worker_130 ?_
              refine vx_ret ?_
              exact m_iret X hr hlk hM d_K_worker_133 ⟨Nat.le_of_ble_eq_true rfl, Nat.le_of_ble_eq_true rfl⟩ (mExt_rf _ _) ⟨by unfold wkXc; rw [if_neg (fun z => z hv), if_neg (fun z => z ⟨Int32.not_lt.mp h63, by rw [w_nw hw]; exact h71⟩)], by rw [hcl]; exact congrArg (fun z => some (Value.int z)) (Eq.symm (by unfold wkW; rw [if_pos hs_0])), rfl, rfl⟩
            by_cases hs_1 : q = 1
            · skip
              refine W.eq (g2 := F0 m 95 ls (.int 1 :: [])) (by rw [hs_1]) ?_
              refine lv_tableIn (tgt := 134) X.1 X.2.1 d_K_worker_95 (by decide) (by decide) rfl (by decide) ?_
              refine lv_aload X.1 X.2.1 d_K_worker_134 (lv_at hl 0 rfl) ?_
              refine r_geti X hM rfl hv29 f_K_216 rfl d_K_worker_136 ?_
              refine vx_ret ?_
              exact m_iret X hr hlk hM d_K_worker_139 ⟨Nat.le_of_ble_eq_true rfl, Nat.le_of_ble_eq_true rfl⟩ (mExt_rf _ _) ⟨by unfold wkXc; rw [if_neg (fun z => z hv), if_neg (fun z => z ⟨Int32.not_lt.mp h63, by rw [w_nw hw]; exact h71⟩)], by rw [hcl]; exact congrArg (fun z => some (Value.int z)) (Eq.symm (by unfold wkW; rw [if_neg hs_0, if_pos hs_1])), rfl, rfl⟩
            by_cases hs_2 : q = 2
            · skip
              refine W.eq (g2 := F0 m 95 ls (.int 2 :: [])) (by rw [hs_2]) ?_
              refine lv_tableIn (tgt := 140) X.1 X.2.1 d_K_worker_95 (by decide) (by decide) rfl (by decide) ?_
              refine lv_aload X.1 X.2.1 d_K_worker_140 (lv_at hl 0 rfl) ?_
              refine r_geti X hM rfl hv29 f_K_212 rfl d_K_worker_142 ?_
              refine vx_ret ?_
              exact m_iret X hr hlk hM d_K_worker_145 ⟨Nat.le_of_ble_eq_true rfl, Nat.le_of_ble_eq_true rfl⟩ (mExt_rf _ _) ⟨by unfold wkXc; rw [if_neg (fun z => z hv), if_neg (fun z => z ⟨Int32.not_lt.mp h63, by rw [w_nw hw]; exact h71⟩)], by rw [hcl]; exact congrArg (fun z => some (Value.int z)) (Eq.symm (by unfold wkW; rw [if_neg hs_0, if_neg hs_1, if_pos hs_2])), rfl, rfl⟩
            by_cases hs_3 : q = 3
            · skip
              refine W.eq (g2 := F0 m 95 ls (.int 3 :: [])) (by rw [hs_3]) ?_
              refine lv_tableIn (tgt := 146) X.1 X.2.1 d_K_worker_95 (by decide) (by decide) rfl (by decide) ?_
              refine lv_aload_n X.1 X.2.1 d_K_worker_146 rfl (lv_at hl 3 rfl) ?_
              refine lv_aload X.1 X.2.1 d_K_worker_147 (lv_at hl 0 rfl) ?_
              refine r_cV (As := [.ref (ad 7 j)]) (rest := []) X hml hl.1 hM (k_K_controlledBy_s l D dA base M ad hw j hj) c_K_251 v_K_controlledBy kc_K rfl hk0 rfl (Nat.le_of_ble_eq_true rfl) ⟨rfl, rfl, Nat.le_of_ble_eq_true rfl, Nat.le_of_ble_eq_true rfl⟩ ⟨Nat.le_of_ble_eq_true rfl, Nat.le_of_ble_eq_true rfl⟩ d_K_worker_149 ?_
              intro rv M1 ad1 H locs hP hM hE
              obtain ⟨e1, e2, e3⟩ := hP
              subst rv; subst M1; subst ad1
              show W _ _ _ _ _ _ _ _ _ _ _ _ _ _ _ (F0 m 152 ls [.int (nI (ctl M (some j)))])
              refine vx_ret ?_
              exact m_iret X hr hlk hM d_K_worker_152 ⟨Nat.le_of_ble_eq_true rfl, Nat.le_of_ble_eq_true rfl⟩ (mExt_rf _ _) ⟨by unfold wkXc; rw [if_neg (fun z => z hv), if_neg (fun z => z ⟨Int32.not_lt.mp h63, by rw [w_nw hw]; exact h71⟩)], by rw [hcl]; exact congrArg (fun z => some (Value.int z)) (Eq.symm (by unfold wkW; rw [if_neg hs_0, if_neg hs_1, if_neg hs_2, if_pos hs_3])), rfl, rfl⟩
            by_cases hs_4 : q = 4
            · skip
              refine W.eq (g2 := F0 m 95 ls (.int 4 :: [])) (by rw [hs_4]) ?_
              refine lv_tableIn (tgt := 153) X.1 X.2.1 d_K_worker_95 (by decide) (by decide) rfl (by decide) ?_
              refine lv_aload X.1 X.2.1 d_K_worker_153 (lv_at hl 0 rfl) ?_
              refine r_gets (q := j) X hM rfl hv29 f_K_217 rfl (w_7_4 hw hj) d_K_worker_155 (fun hv31 => ?_)
              refine r_geti X hM rfl hv31 f_K_254 rfl d_K_worker_158 ?_
              refine vx_ret ?_
              exact m_iret X hr hlk hM d_K_worker_161 ⟨Nat.le_of_ble_eq_true rfl, Nat.le_of_ble_eq_true rfl⟩ (mExt_rf _ _) ⟨by unfold wkXc; rw [if_neg (fun z => z hv), if_neg (fun z => z ⟨Int32.not_lt.mp h63, by rw [w_nw hw]; exact h71⟩)], by rw [hcl]; exact congrArg (fun z => some (Value.int z)) (Eq.symm (by unfold wkW; rw [if_neg hs_0, if_neg hs_1, if_neg hs_2, if_neg hs_3, if_pos hs_4])), rfl, rfl⟩
            refine lv_tableOut (tgt := 162) X.1 X.2.1 d_K_worker_95 (by have a0 := lv_neT hs_0 (a := 0) rfl; have a1 := lv_neT hs_1 (a := 1) rfl; have a2 := lv_neT hs_2 (a := 2) rfl; have a3 := lv_neT hs_3 (a := 3) rfl; have a4 := lv_neT hs_4 (a := 4) rfl; omega) (by decide) ?_
            refine lv_iload_n X.1 X.2.1 d_K_worker_162 rfl (lv_at hl 5 rfl) ?_
            refine lv_bipush (v := 20) X.1 X.2.1 d_K_worker_163 (by decide) ?_
            refine lv_icmp_ge (tgt := 183) X.1 X.2.1 d_K_worker_165 (by decide) (fun h165 => ?_) (fun h165 => ?_)
            · skip
              refine lv_aload X.1 X.2.1 d_K_worker_183 (lv_at hl 0 rfl) ?_
              refine r_gets (q := j) X hM rfl hv29 f_K_217 rfl (w_7_4 hw hj) d_K_worker_185 (fun hv32 => ?_)
              refine lv_iload_n X.1 X.2.1 d_K_worker_188 rfl (lv_at hl 5 rfl) ?_
              refine lv_bipush (v := 20) X.1 X.2.1 d_K_worker_189 (by decide) ?_
              refine lv_isub X.1 X.2.1 d_K_worker_191 ?_
              refine r_cV (As := [.int ((q) - (20))]) (rest := []) X hml hl.1 hM (k_Ca_valueAt l D dA base M ad j (csz M j) (wCa_of hw ho j hj) (q - 20)) c_K_260 v_Ca_valueAt kc_Ca rfl hv32 rfl (Nat.le_of_ble_eq_true rfl) ⟨rfl, rfl, Nat.le_of_ble_eq_true rfl, Nat.le_of_ble_eq_true rfl⟩ ⟨Nat.le_of_ble_eq_true rfl, Nat.le_of_ble_eq_true rfl⟩ d_K_worker_192 ?_
              intro rv M1 ad1 H locs hP hM hE
              obtain ⟨e1, e2, e3⟩ := hP
              subst rv; subst M1; subst ad1
              show W _ _ _ _ _ _ _ _ _ _ _ _ _ _ _ (F0 m 195 ls [.int (atC M 16 j (csz M j) (q - 20))])
              refine vx_ret ?_
              exact m_iret X hr hlk hM d_K_worker_195 ⟨Nat.le_of_ble_eq_true rfl, Nat.le_of_ble_eq_true rfl⟩ (mExt_rf _ _) ⟨by unfold wkXc; rw [if_neg (fun z => z hv), if_neg (fun z => z ⟨Int32.not_lt.mp h63, by rw [w_nw hw]; exact h71⟩)], by rw [hcl]; exact congrArg (fun z => some (Value.int z)) (Eq.symm (by unfold wkW; rw [if_neg hs_0, if_neg hs_1, if_neg hs_2, if_neg hs_3, if_neg hs_4, if_pos h165])), rfl, rfl⟩
            · skip
              refine lv_aload X.1 X.2.1 d_K_worker_168 (lv_at hl 0 rfl) ?_
              refine r_gets (q := j) X hM rfl hv29 f_K_217 rfl (w_7_4 hw hj) d_K_worker_170 (fun hv34 => ?_)
              refine lv_iload_n X.1 X.2.1 d_K_worker_173 rfl (lv_at hl 5 rfl) ?_
              refine lv_bipush (v := 10) X.1 X.2.1 d_K_worker_174 (by decide) ?_
              refine lv_isub X.1 X.2.1 d_K_worker_176 ?_
              refine r_cV (As := [.int ((q) - (10))]) (rest := []) X hml hl.1 hM (k_Ca_pathAt l D dA base M ad j (csz M j) (wCa_of hw ho j hj) (q - 10)) c_K_257 v_Ca_pathAt kc_Ca rfl hv34 rfl (Nat.le_of_ble_eq_true rfl) ⟨rfl, rfl, Nat.le_of_ble_eq_true rfl, Nat.le_of_ble_eq_true rfl⟩ ⟨Nat.le_of_ble_eq_true rfl, Nat.le_of_ble_eq_true rfl⟩ d_K_worker_177 ?_
              intro rv M1 ad1 H locs hP hM hE
              obtain ⟨e1, e2, e3⟩ := hP
              subst rv; subst M1; subst ad1
              show W _ _ _ _ _ _ _ _ _ _ _ _ _ _ _ (F0 m 180 ls [.int (atC M 15 j (csz M j) (q - 10))])
              refine lv_goto (tgt := 195) X.1 X.2.1 d_K_worker_180 (by decide) ?_
              refine vx_ret ?_
              exact m_iret X hr hlk hM d_K_worker_195 ⟨Nat.le_of_ble_eq_true rfl, Nat.le_of_ble_eq_true rfl⟩ (mExt_rf _ _) ⟨by unfold wkXc; rw [if_neg (fun z => z hv), if_neg (fun z => z ⟨Int32.not_lt.mp h63, by rw [w_nw hw]; exact h71⟩)], by rw [hcl]; exact congrArg (fun z => some (Value.int z)) (Eq.symm (by unfold wkW; rw [if_neg hs_0, if_neg hs_1, if_neg hs_2, if_neg hs_3, if_neg hs_4, if_neg h165])), rfl, rfl⟩
          · skip
            exact r_throw X hst hml hl.1 hM hlk hno t_K_243_245_247 d_K_worker_74 d_K_worker_77 d_K_worker_78 d_K_worker_80 d_K_worker_83 ⟨Nat.le_of_ble_eq_true rfl, Nat.le_of_ble_eq_true rfl, Nat.le_of_ble_eq_true rfl, Nat.le_of_ble_eq_true rfl⟩ ⟨Nat.le_of_ble_eq_true rfl, Nat.le_of_ble_eq_true rfl⟩ (Or.inr ⟨by unfold wkXc; rw [if_neg (fun z => z hv), if_pos (fun z => h71 (z.2))], rfl⟩)
      · skip
        refine lv_iload_n X.1 X.2.1 d_K_worker_25 rfl (lv_at hl 3 rfl) ?_
        refine lv_bipush (v := 20) X.1 X.2.1 d_K_worker_26 (by decide) ?_
        refine lv_iconst (v := 4) X.1 X.2.1 d_K_worker_28 (by decide) ?_
        refine r_cS (As := [.int q, .int 20, .int 4]) (rest := []) X hml hl.1 hM (k_K_isWithin l D dA base M ad q 20 4) c_K_239 v_K_isWithin rfl (Nat.le_of_ble_eq_true rfl) ⟨rfl, rfl, Nat.le_of_ble_eq_true rfl, Nat.le_of_ble_eq_true rfl⟩ ⟨Nat.le_of_ble_eq_true rfl, Nat.le_of_ble_eq_true rfl⟩ d_K_worker_29 ?_
        intro rv M1 ad1 H locs hP hM hE
        obtain ⟨e1, e2, e3⟩ := hP
        subst rv; subst M1; subst ad1
        show W _ _ _ _ _ _ _ _ _ _ _ _ _ _ _ (F0 m 32 ls [.int (if 20 ≤ q ∧ q < 20 + 4 then 1 else 0)])
        refine lv_if_eq (tgt := 39) X.1 X.2.1 d_K_worker_32 (by decide) (fun h32 => ?_) (fun h32 => ?_)
        · skip
          refine lv_iconst (v := 0) X.1 X.2.1 d_K_worker_39 (by decide) ?_
          refine lv_istore (lv' := [(4, .int 0), (3, .int 0), (0, .ref (ad 0 0)), (1, .int w), (2, .int q)]) X.1 X.2.1 d_K_worker_40 hl (by decide) rfl (fun ls hl => ?_)
          refine lv_iload_n X.1 X.2.1 d_K_worker_42 rfl (lv_at hl 1 rfl) ?_
          refine lv_if_ne (tgt := 61) X.1 X.2.1 d_K_worker_43 (by decide) (fun hz37 => absurd (by decide) hz37) (fun hz37 => ?_)
          refine lv_iload X.1 X.2.1 d_K_worker_46 (lv_at hl 0 rfl) ?_
          refine lv_if_ne (tgt := 61) X.1 X.2.1 d_K_worker_48 (by decide) (fun hz38 => absurd (by decide) hz38) (fun hz38 => ?_)
          exact r_throw X hst hml hl.1 hM hlk hno t_K_75_233_79 d_K_worker_51 d_K_worker_54 d_K_worker_55 d_K_worker_57 d_K_worker_60 ⟨Nat.le_of_ble_eq_true rfl, Nat.le_of_ble_eq_true rfl, Nat.le_of_ble_eq_true rfl, Nat.le_of_ble_eq_true rfl⟩ ⟨Nat.le_of_ble_eq_true rfl, Nat.le_of_ble_eq_true rfl⟩ (Or.inl ⟨if_pos (by rintro (z | z | z); exact absurd h6 (Int32.not_lt.mpr z.2); exact be0 h22 z; exact be0 h32 z), rfl⟩)
        · skip
          refine lv_iconst (v := 1) X.1 X.2.1 d_K_worker_35 (by decide) ?_
          refine lv_goto (tgt := 40) X.1 X.2.1 d_K_worker_36 (by decide) ?_
          refine lv_istore (lv' := [(4, .int 1), (3, .int 0), (0, .ref (ad 0 0)), (1, .int w), (2, .int q)]) X.1 X.2.1 d_K_worker_40 hl (by decide) rfl (fun ls hl => ?_)
          refine lv_iload_n X.1 X.2.1 d_K_worker_42 rfl (lv_at hl 1 rfl) ?_
          refine lv_if_ne (tgt := 61) X.1 X.2.1 d_K_worker_43 (by decide) (fun hz39 => absurd (by decide) hz39) (fun hz39 => ?_)
          refine lv_iload X.1 X.2.1 d_K_worker_46 (lv_at hl 0 rfl) ?_
          refine lv_if_ne (tgt := 61) X.1 X.2.1 d_K_worker_48 (by decide) (fun hz40 => ?_) (fun hz40 => absurd hz40 (by decide))
          have hv : (0 ≤ q ∧ q ≤ 4) ∨ (10 ≤ q ∧ q < 10 + 4) ∨ (20 ≤ q ∧ q < 20 + 4) := Or.inr (Or.inr (bn0 h32))
          refine lv_iload_n X.1 X.2.1 d_K_worker_61 rfl (lv_at hl 3 rfl) ?_
          refine lv_iconst (v := 1) X.1 X.2.1 d_K_worker_62 (by decide) ?_
          refine lv_icmp_lt (tgt := 74) X.1 X.2.1 d_K_worker_63 (by decide) (fun h63 => ?_) (fun h63 => ?_)
          · skip
            exact r_throw X hst hml hl.1 hM hlk hno t_K_243_245_247 d_K_worker_74 d_K_worker_77 d_K_worker_78 d_K_worker_80 d_K_worker_83 ⟨Nat.le_of_ble_eq_true rfl, Nat.le_of_ble_eq_true rfl, Nat.le_of_ble_eq_true rfl, Nat.le_of_ble_eq_true rfl⟩ ⟨Nat.le_of_ble_eq_true rfl, Nat.le_of_ble_eq_true rfl⟩ (Or.inr ⟨by unfold wkXc; rw [if_neg (fun z => z hv), if_pos (fun z => absurd h63 (Int32.not_lt.mpr z.1))], rfl⟩)
          · skip
            refine lv_iload_n X.1 X.2.1 d_K_worker_66 rfl (lv_at hl 3 rfl) ?_
            refine lv_aload_n X.1 X.2.1 d_K_worker_67 rfl (lv_at hl 2 rfl) ?_
            refine r_geti X hM rfl hk0 f_K_29 rfl d_K_worker_68 ?_
            refine lv_icmp_le (tgt := 84) X.1 X.2.1 d_K_worker_71 (by decide) (fun h71 => ?_) (fun h71 => ?_)
            · skip
              have hN := w_nwl hw
              have h71 : w ≤ nI (gn M 7) := by rw [← w_nw hw]; exact h71
              obtain ⟨j, hj, hxj, hwj⟩ : ∃ j : Nat, j < gn M 7 ∧ w - 1 = nI j ∧ w = nI (1 + j) := sub_ix (x := w) (a := 1) (n := gn M 7) (Int32.not_lt.mp h63) (fun z => absurd (Int32.le_trans z h71) (nI_ge (by omega) (by omega))) (by omega)
              have hcl : (w - 1).toNatClampNeg = j := by rw [hxj]; exact nI_clamp (by omega)
              refine lv_aload_n X.1 X.2.1 d_K_worker_84 rfl (lv_at hl 2 rfl) ?_
              refine r_gets (q := 0) X hM rfl hk0 f_K_25 rfl (w_0_3 hw) d_K_worker_85 (fun hv41 => ?_)
              refine lv_iload_n X.1 X.2.1 d_K_worker_88 rfl (lv_at hl 3 rfl) ?_
              refine lv_iconst (v := 1) X.1 X.2.1 d_K_worker_89 (by decide) ?_
              refine lv_isub X.1 X.2.1 d_K_worker_90 ?_
              refine r_aalds (q := j) X hM rfl hv41 a_workers (fun _ => rfl) (j := j) hxj (by omega) (w_wk hw hj) d_K_worker_91 (fun hv42 => ?_)
              refine lv_astore (lv' := [(5, .ref (ad 7 j)), (4, .int 1), (3, .int 0), (0, .ref (ad 0 0)), (1, .int w), (2, .int q)]) X.1 X.2.1 d_K_worker_92 hl (by decide) rfl (fun ls hl => ?_)
              refine lv_iload_n X.1 X.2.1 d_K_worker_94 rfl (lv_at hl 5 rfl) ?_
              by_cases hs_0 : q = 0
              · skip
                refine W.eq (g2 := F0 m 95 ls (.int 0 :: [])) (by rw [hs_0]) ?_
                refine lv_tableIn (tgt := 128) X.1 X.2.1 d_K_worker_95 (by decide) (by decide) rfl (by decide) ?_
                refine lv_aload X.1 X.2.1 d_K_worker_128 (lv_at hl 0 rfl) ?_
                refine r_geti X hM rfl hv42 f_K_248 rfl d_K_worker_130 ?_
                refine vx_ret ?_
                exact m_iret X hr hlk hM d_K_worker_133 ⟨Nat.le_of_ble_eq_true rfl, Nat.le_of_ble_eq_true rfl⟩ (mExt_rf _ _) ⟨by unfold wkXc; rw [if_neg (fun z => z hv), if_neg (fun z => z ⟨Int32.not_lt.mp h63, by rw [w_nw hw]; exact h71⟩)], by rw [hcl]; exact congrArg (fun z => some (Value.int z)) (Eq.symm (by unfold wkW; rw [if_pos hs_0])), rfl, rfl⟩
              by_cases hs_1 : q = 1
              · skip
                refine W.eq (g2 := F0 m 95 ls (.int 1 :: [])) (by rw [hs_1]) ?_
                refine lv_tableIn (tgt := 134) X.1 X.2.1 d_K_worker_95 (by decide) (by decide) rfl (by decide) ?_
                refine lv_aload X.1 X.2.1 d_K_worker_134 (lv_at hl 0 rfl) ?_
                refine r_geti X hM rfl hv42 f_K_216 rfl d_K_worker_136 ?_
                refine vx_ret ?_
                exact m_iret X hr hlk hM d_K_worker_139 ⟨Nat.le_of_ble_eq_true rfl, Nat.le_of_ble_eq_true rfl⟩ (mExt_rf _ _) ⟨by unfold wkXc; rw [if_neg (fun z => z hv), if_neg (fun z => z ⟨Int32.not_lt.mp h63, by rw [w_nw hw]; exact h71⟩)], by rw [hcl]; exact congrArg (fun z => some (Value.int z)) (Eq.symm (by unfold wkW; rw [if_neg hs_0, if_pos hs_1])), rfl, rfl⟩
              by_cases hs_2 : q = 2
              · skip
                refine W.eq (g2 := F0 m 95 ls (.int 2 :: [])) (by rw [hs_2]) ?_
                refine lv_tableIn (tgt := 140) X.1 X.2.1 d_K_worker_95 (by decide) (by decide) rfl (by decide) ?_
                refine lv_aload X.1 X.2.1 d_K_worker_140 (lv_at hl 0 rfl) ?_
                refine r_geti X hM rfl hv42 f_K_212 rfl d_K_worker_142 ?_
                refine vx_ret ?_
                exact m_iret X hr hlk hM d_K_worker_145 ⟨Nat.le_of_ble_eq_true rfl, Nat.le_of_ble_eq_true rfl⟩ (mExt_rf _ _) ⟨by unfold wkXc; rw [if_neg (fun z => z hv), if_neg (fun z => z ⟨Int32.not_lt.mp h63, by rw [w_nw hw]; exact h71⟩)], by rw [hcl]; exact congrArg (fun z => some (Value.int z)) (Eq.symm (by unfold wkW; rw [if_neg hs_0, if_neg hs_1, if_pos hs_2])), rfl, rfl⟩
              by_cases hs_3 : q = 3
              · skip
                refine W.eq (g2 := F0 m 95 ls (.int 3 :: [])) (by rw [hs_3]) ?_
                refine lv_tableIn (tgt := 146) X.1 X.2.1 d_K_worker_95 (by decide) (by decide) rfl (by decide) ?_
                refine lv_aload_n X.1 X.2.1 d_K_worker_146 rfl (lv_at hl 3 rfl) ?_
                refine lv_aload X.1 X.2.1 d_K_worker_147 (lv_at hl 0 rfl) ?_
                refine r_cV (As := [.ref (ad 7 j)]) (rest := []) X hml hl.1 hM (k_K_controlledBy_s l D dA base M ad hw j hj) c_K_251 v_K_controlledBy kc_K rfl hk0 rfl (Nat.le_of_ble_eq_true rfl) ⟨rfl, rfl, Nat.le_of_ble_eq_true rfl, Nat.le_of_ble_eq_true rfl⟩ ⟨Nat.le_of_ble_eq_true rfl, Nat.le_of_ble_eq_true rfl⟩ d_K_worker_149 ?_
                intro rv M1 ad1 H locs hP hM hE
                obtain ⟨e1, e2, e3⟩ := hP
                subst rv; subst M1; subst ad1
                show W _ _ _ _ _ _ _ _ _ _ _ _ _ _ _ (F0 m 152 ls [.int (nI (ctl M (some j)))])
                refine vx_ret ?_
                exact m_iret X hr hlk hM d_K_worker_152 ⟨Nat.le_of_ble_eq_true rfl, Nat.le_of_ble_eq_true rfl⟩ (mExt_rf _ _) ⟨by unfold wkXc; rw [if_neg (fun z => z hv), if_neg (fun z => z ⟨Int32.not_lt.mp h63, by rw [w_nw hw]; exact h71⟩)], by rw [hcl]; exact congrArg (fun z => some (Value.int z)) (Eq.symm (by unfold wkW; rw [if_neg hs_0, if_neg hs_1, if_neg hs_2, if_pos hs_3])), rfl, rfl⟩
              by_cases hs_4 : q = 4
              · skip
                refine W.eq (g2 := F0 m 95 ls (.int 4 :: [])) (by rw [hs_4]) ?_
                refine lv_tableIn (tgt := 153) X.1 X.2.1 d_K_worker_95 (by decide) (by decide) rfl (by decide) ?_
                refine lv_aload X.1 X.2.1 d_K_worker_153 (lv_at hl 0 rfl) ?_
                refine r_gets (q := j) X hM rfl hv42 f_K_217 rfl (w_7_4 hw hj) d_K_worker_155 (fun hv44 => ?_)
                refine r_geti X hM rfl hv44 f_K_254 rfl d_K_worker_158 ?_
                refine vx_ret ?_
                exact m_iret X hr hlk hM d_K_worker_161 ⟨Nat.le_of_ble_eq_true rfl, Nat.le_of_ble_eq_true rfl⟩ (mExt_rf _ _) ⟨by unfold wkXc; rw [if_neg (fun z => z hv), if_neg (fun z => z ⟨Int32.not_lt.mp h63, by rw [w_nw hw]; exact h71⟩)], by rw [hcl]; exact congrArg (fun z => some (Value.int z)) (Eq.symm (by unfold wkW; rw [if_neg hs_0, if_neg hs_1, if_neg hs_2, if_neg hs_3, if_pos hs_4])), rfl, rfl⟩
              refine lv_tableOut (tgt := 162) X.1 X.2.1 d_K_worker_95 (by have a0 := lv_neT hs_0 (a := 0) rfl; have a1 := lv_neT hs_1 (a := 1) rfl; have a2 := lv_neT hs_2 (a := 2) rfl; have a3 := lv_neT hs_3 (a := 3) rfl; have a4 := lv_neT hs_4 (a := 4) rfl; omega) (by decide) ?_
              refine lv_iload_n X.1 X.2.1 d_K_worker_162 rfl (lv_at hl 5 rfl) ?_
              refine lv_bipush (v := 20) X.1 X.2.1 d_K_worker_163 (by decide) ?_
              refine lv_icmp_ge (tgt := 183) X.1 X.2.1 d_K_worker_165 (by decide) (fun h165 => ?_) (fun h165 => ?_)
              · skip
                refine lv_aload X.1 X.2.1 d_K_worker_183 (lv_at hl 0 rfl) ?_
                refine r_gets (q := j) X hM rfl hv42 f_K_217 rfl (w_7_4 hw hj) d_K_worker_185 (fun hv45 => ?_)
                refine lv_iload_n X.1 X.2.1 d_K_worker_188 rfl (lv_at hl 5 rfl) ?_
                refine lv_bipush (v := 20) X.1 X.2.1 d_K_worker_189 (by decide) ?_
                refine lv_isub X.1 X.2.1 d_K_worker_191 ?_
                refine r_cV (As := [.int ((q) - (20))]) (rest := []) X hml hl.1 hM (k_Ca_valueAt l D dA base M ad j (csz M j) (wCa_of hw ho j hj) (q - 20)) c_K_260 v_Ca_valueAt kc_Ca rfl hv45 rfl (Nat.le_of_ble_eq_true rfl) ⟨rfl, rfl, Nat.le_of_ble_eq_true rfl, Nat.le_of_ble_eq_true rfl⟩ ⟨Nat.le_of_ble_eq_true rfl, Nat.le_of_ble_eq_true rfl⟩ d_K_worker_192 ?_
                intro rv M1 ad1 H locs hP hM hE
                obtain ⟨e1, e2, e3⟩ := hP
                subst rv; subst M1; subst ad1
                show W _ _ _ _ _ _ _ _ _ _ _ _ _ _ _ (F0 m 195 ls [.int (atC M 16 j (csz M j) (q - 20))])
                refine vx_ret ?_
                exact m_iret X hr hlk hM d_K_worker_195 ⟨Nat.le_of_ble_eq_true rfl, Nat.le_of_ble_eq_true rfl⟩ (mExt_rf _ _) ⟨by unfold wkXc; rw [if_neg (fun z => z hv), if_neg (fun z => z ⟨Int32.not_lt.mp h63, by rw [w_nw hw]; exact h71⟩)], by rw [hcl]; exact congrArg (fun z => some (Value.int z)) (Eq.symm (by unfold wkW; rw [if_neg hs_0, if_neg hs_1, if_neg hs_2, if_neg hs_3, if_neg hs_4, if_pos h165])), rfl, rfl⟩
              · skip
                refine lv_aload X.1 X.2.1 d_K_worker_168 (lv_at hl 0 rfl) ?_
                refine r_gets (q := j) X hM rfl hv42 f_K_217 rfl (w_7_4 hw hj) d_K_worker_170 (fun hv47 => ?_)
                refine lv_iload_n X.1 X.2.1 d_K_worker_173 rfl (lv_at hl 5 rfl) ?_
                refine lv_bipush (v := 10) X.1 X.2.1 d_K_worker_174 (by decide) ?_
                refine lv_isub X.1 X.2.1 d_K_worker_176 ?_
                refine r_cV (As := [.int ((q) - (10))]) (rest := []) X hml hl.1 hM (k_Ca_pathAt l D dA base M ad j (csz M j) (wCa_of hw ho j hj) (q - 10)) c_K_257 v_Ca_pathAt kc_Ca rfl hv47 rfl (Nat.le_of_ble_eq_true rfl) ⟨rfl, rfl, Nat.le_of_ble_eq_true rfl, Nat.le_of_ble_eq_true rfl⟩ ⟨Nat.le_of_ble_eq_true rfl, Nat.le_of_ble_eq_true rfl⟩ d_K_worker_177 ?_
                intro rv M1 ad1 H locs hP hM hE
                obtain ⟨e1, e2, e3⟩ := hP
                subst rv; subst M1; subst ad1
                show W _ _ _ _ _ _ _ _ _ _ _ _ _ _ _ (F0 m 180 ls [.int (atC M 15 j (csz M j) (q - 10))])
                refine lv_goto (tgt := 195) X.1 X.2.1 d_K_worker_180 (by decide) ?_
                refine vx_ret ?_
                exact m_iret X hr hlk hM d_K_worker_195 ⟨Nat.le_of_ble_eq_true rfl, Nat.le_of_ble_eq_true rfl⟩ (mExt_rf _ _) ⟨by unfold wkXc; rw [if_neg (fun z => z hv), if_neg (fun z => z ⟨Int32.not_lt.mp h63, by rw [w_nw hw]; exact h71⟩)], by rw [hcl]; exact congrArg (fun z => some (Value.int z)) (Eq.symm (by unfold wkW; rw [if_neg hs_0, if_neg hs_1, if_neg hs_2, if_neg hs_3, if_neg hs_4, if_neg h165])), rfl, rfl⟩
            · skip
              exact r_throw X hst hml hl.1 hM hlk hno t_K_243_245_247 d_K_worker_74 d_K_worker_77 d_K_worker_78 d_K_worker_80 d_K_worker_83 ⟨Nat.le_of_ble_eq_true rfl, Nat.le_of_ble_eq_true rfl, Nat.le_of_ble_eq_true rfl, Nat.le_of_ble_eq_true rfl⟩ ⟨Nat.le_of_ble_eq_true rfl, Nat.le_of_ble_eq_true rfl⟩ (Or.inr ⟨by unfold wkXc; rw [if_neg (fun z => z hv), if_pos (fun z => h71 (z.2))], rfl⟩)
    · skip
      refine lv_iconst (v := 1) X.1 X.2.1 d_K_worker_9 (by decide) ?_
      refine lv_goto (tgt := 14) X.1 X.2.1 d_K_worker_10 (by decide) ?_
      refine lv_istore_n (lv' := [(3, .int 1), (0, .ref (ad 0 0)), (1, .int w), (2, .int q)]) X.1 X.2.1 d_K_worker_14 rfl hl (by decide) rfl (fun ls hl => ?_)
      refine lv_iload_n X.1 X.2.1 d_K_worker_15 rfl (lv_at hl 3 rfl) ?_
      refine lv_bipush (v := 10) X.1 X.2.1 d_K_worker_16 (by decide) ?_
      refine lv_iconst (v := 4) X.1 X.2.1 d_K_worker_18 (by decide) ?_
      refine r_cS (As := [.int q, .int 10, .int 4]) (rest := []) X hml hl.1 hM (k_K_isWithin l D dA base M ad q 10 4) c_K_239 v_K_isWithin rfl (Nat.le_of_ble_eq_true rfl) ⟨rfl, rfl, Nat.le_of_ble_eq_true rfl, Nat.le_of_ble_eq_true rfl⟩ ⟨Nat.le_of_ble_eq_true rfl, Nat.le_of_ble_eq_true rfl⟩ d_K_worker_19 ?_
      intro rv M1 ad1 H locs hP hM hE
      obtain ⟨e1, e2, e3⟩ := hP
      subst rv; subst M1; subst ad1
      show W _ _ _ _ _ _ _ _ _ _ _ _ _ _ _ (F0 m 22 ls [.int (if 10 ≤ q ∧ q < 10 + 4 then 1 else 0)])
      refine lv_if_ne (tgt := 35) X.1 X.2.1 d_K_worker_22 (by decide) (fun h22 => ?_) (fun h22 => ?_)
      · skip
        refine lv_iconst (v := 1) X.1 X.2.1 d_K_worker_35 (by decide) ?_
        refine lv_goto (tgt := 40) X.1 X.2.1 d_K_worker_36 (by decide) ?_
        refine lv_istore (lv' := [(4, .int 1), (3, .int 1), (0, .ref (ad 0 0)), (1, .int w), (2, .int q)]) X.1 X.2.1 d_K_worker_40 hl (by decide) rfl (fun ls hl => ?_)
        refine lv_iload_n X.1 X.2.1 d_K_worker_42 rfl (lv_at hl 1 rfl) ?_
        refine lv_if_ne (tgt := 61) X.1 X.2.1 d_K_worker_43 (by decide) (fun hz50 => ?_) (fun hz50 => absurd hz50 (by decide))
        have hv : (0 ≤ q ∧ q ≤ 4) ∨ (10 ≤ q ∧ q < 10 + 4) ∨ (20 ≤ q ∧ q < 20 + 4) := Or.inl ⟨Int32.not_lt.mp h1, Int32.not_lt.mp h6⟩
        refine lv_iload_n X.1 X.2.1 d_K_worker_61 rfl (lv_at hl 3 rfl) ?_
        refine lv_iconst (v := 1) X.1 X.2.1 d_K_worker_62 (by decide) ?_
        refine lv_icmp_lt (tgt := 74) X.1 X.2.1 d_K_worker_63 (by decide) (fun h63 => ?_) (fun h63 => ?_)
        · skip
          exact r_throw X hst hml hl.1 hM hlk hno t_K_243_245_247 d_K_worker_74 d_K_worker_77 d_K_worker_78 d_K_worker_80 d_K_worker_83 ⟨Nat.le_of_ble_eq_true rfl, Nat.le_of_ble_eq_true rfl, Nat.le_of_ble_eq_true rfl, Nat.le_of_ble_eq_true rfl⟩ ⟨Nat.le_of_ble_eq_true rfl, Nat.le_of_ble_eq_true rfl⟩ (Or.inr ⟨by unfold wkXc; rw [if_neg (fun z => z hv), if_pos (fun z => absurd h63 (Int32.not_lt.mpr z.1))], rfl⟩)
        · skip
          refine lv_iload_n X.1 X.2.1 d_K_worker_66 rfl (lv_at hl 3 rfl) ?_
          refine lv_aload_n X.1 X.2.1 d_K_worker_67 rfl (lv_at hl 2 rfl) ?_
          refine r_geti X hM rfl hk0 f_K_29 rfl d_K_worker_68 ?_
          refine lv_icmp_le (tgt := 84) X.1 X.2.1 d_K_worker_71 (by decide) (fun h71 => ?_) (fun h71 => ?_)
          · skip
            have hN := w_nwl hw
            have h71 : w ≤ nI (gn M 7) := by rw [← w_nw hw]; exact h71
            obtain ⟨j, hj, hxj, hwj⟩ : ∃ j : Nat, j < gn M 7 ∧ w - 1 = nI j ∧ w = nI (1 + j) := sub_ix (x := w) (a := 1) (n := gn M 7) (Int32.not_lt.mp h63) (fun z => absurd (Int32.le_trans z h71) (nI_ge (by omega) (by omega))) (by omega)
            have hcl : (w - 1).toNatClampNeg = j := by rw [hxj]; exact nI_clamp (by omega)
            refine lv_aload_n X.1 X.2.1 d_K_worker_84 rfl (lv_at hl 2 rfl) ?_
            refine r_gets (q := 0) X hM rfl hk0 f_K_25 rfl (w_0_3 hw) d_K_worker_85 (fun hv51 => ?_)
            refine lv_iload_n X.1 X.2.1 d_K_worker_88 rfl (lv_at hl 3 rfl) ?_
            refine lv_iconst (v := 1) X.1 X.2.1 d_K_worker_89 (by decide) ?_
            refine lv_isub X.1 X.2.1 d_K_worker_90 ?_
            refine r_aalds (q := j) X hM rfl hv51 a_workers (fun _ => rfl) (j := j) hxj (by omega) (w_wk hw hj) d_K_worker_91 (fun hv52 => ?_)
            refine lv_astore (lv' := [(5, .ref (ad 7 j)), (4, .int 1), (3, .int 1), (0, .ref (ad 0 0)), (1, .int w), (2, .int q)]) X.1 X.2.1 d_K_worker_92 hl (by decide) rfl (fun ls hl => ?_)
            refine lv_iload_n X.1 X.2.1 d_K_worker_94 rfl (lv_at hl 5 rfl) ?_
            by_cases hs_0 : q = 0
            · skip
              refine W.eq (g2 := F0 m 95 ls (.int 0 :: [])) (by rw [hs_0]) ?_
              refine lv_tableIn (tgt := 128) X.1 X.2.1 d_K_worker_95 (by decide) (by decide) rfl (by decide) ?_
              refine lv_aload X.1 X.2.1 d_K_worker_128 (lv_at hl 0 rfl) ?_
              refine r_geti X hM rfl hv52 f_K_248 rfl d_K_worker_130 ?_
              refine vx_ret ?_
              exact m_iret X hr hlk hM d_K_worker_133 ⟨Nat.le_of_ble_eq_true rfl, Nat.le_of_ble_eq_true rfl⟩ (mExt_rf _ _) ⟨by unfold wkXc; rw [if_neg (fun z => z hv), if_neg (fun z => z ⟨Int32.not_lt.mp h63, by rw [w_nw hw]; exact h71⟩)], by rw [hcl]; exact congrArg (fun z => some (Value.int z)) (Eq.symm (by unfold wkW; rw [if_pos hs_0])), rfl, rfl⟩
            by_cases hs_1 : q = 1
            · skip
              refine W.eq (g2 := F0 m 95 ls (.int 1 :: [])) (by rw [hs_1]) ?_
              refine lv_tableIn (tgt := 134) X.1 X.2.1 d_K_worker_95 (by decide) (by decide) rfl (by decide) ?_
              refine lv_aload X.1 X.2.1 d_K_worker_134 (lv_at hl 0 rfl) ?_
              refine r_geti X hM rfl hv52 f_K_216 rfl d_K_worker_136 ?_
              refine vx_ret ?_
              exact m_iret X hr hlk hM d_K_worker_139 ⟨Nat.le_of_ble_eq_true rfl, Nat.le_of_ble_eq_true rfl⟩ (mExt_rf _ _) ⟨by unfold wkXc; rw [if_neg (fun z => z hv), if_neg (fun z => z ⟨Int32.not_lt.mp h63, by rw [w_nw hw]; exact h71⟩)], by rw [hcl]; exact congrArg (fun z => some (Value.int z)) (Eq.symm (by unfold wkW; rw [if_neg hs_0, if_pos hs_1])), rfl, rfl⟩
            by_cases hs_2 : q = 2
            · skip
              refine W.eq (g2 := F0 m 95 ls (.int 2 :: [])) (by rw [hs_2]) ?_
              refine lv_tableIn (tgt := 140) X.1 X.2.1 d_K_worker_95 (by decide) (by decide) rfl (by decide) ?_
              refine lv_aload X.1 X.2.1 d_K_worker_140 (lv_at hl 0 rfl) ?_
              refine r_geti X hM rfl hv52 f_K_212 rfl d_K_worker_142 ?_
              refine vx_ret ?_
              exact m_iret X hr hlk hM d_K_worker_145 ⟨Nat.le_of_ble_eq_true rfl, Nat.le_of_ble_eq_true rfl⟩ (mExt_rf _ _) ⟨by unfold wkXc; rw [if_neg (fun z => z hv), if_neg (fun z => z ⟨Int32.not_lt.mp h63, by rw [w_nw hw]; exact h71⟩)], by rw [hcl]; exact congrArg (fun z => some (Value.int z)) (Eq.symm (by unfold wkW; rw [if_neg hs_0, if_neg hs_1, if_pos hs_2])), rfl, rfl⟩
            by_cases hs_3 : q = 3
            · skip
              refine W.eq (g2 := F0 m 95 ls (.int 3 :: [])) (by rw [hs_3]) ?_
              refine lv_tableIn (tgt := 146) X.1 X.2.1 d_K_worker_95 (by decide) (by decide) rfl (by decide) ?_
              refine lv_aload_n X.1 X.2.1 d_K_worker_146 rfl (lv_at hl 3 rfl) ?_
              refine lv_aload X.1 X.2.1 d_K_worker_147 (lv_at hl 0 rfl) ?_
              refine r_cV (As := [.ref (ad 7 j)]) (rest := []) X hml hl.1 hM (k_K_controlledBy_s l D dA base M ad hw j hj) c_K_251 v_K_controlledBy kc_K rfl hk0 rfl (Nat.le_of_ble_eq_true rfl) ⟨rfl, rfl, Nat.le_of_ble_eq_true rfl, Nat.le_of_ble_eq_true rfl⟩ ⟨Nat.le_of_ble_eq_true rfl, Nat.le_of_ble_eq_true rfl⟩ d_K_worker_149 ?_
              intro rv M1 ad1 H locs hP hM hE
              obtain ⟨e1, e2, e3⟩ := hP
              subst rv; subst M1; subst ad1
              show W _ _ _ _ _ _ _ _ _ _ _ _ _ _ _ (F0 m 152 ls [.int (nI (ctl M (some j)))])
              refine vx_ret ?_
              exact m_iret X hr hlk hM d_K_worker_152 ⟨Nat.le_of_ble_eq_true rfl, Nat.le_of_ble_eq_true rfl⟩ (mExt_rf _ _) ⟨by unfold wkXc; rw [if_neg (fun z => z hv), if_neg (fun z => z ⟨Int32.not_lt.mp h63, by rw [w_nw hw]; exact h71⟩)], by rw [hcl]; exact congrArg (fun z => some (Value.int z)) (Eq.symm (by unfold wkW; rw [if_neg hs_0, if_neg hs_1, if_neg hs_2, if_pos hs_3])), rfl, rfl⟩
            by_cases hs_4 : q = 4
            · skip
              refine W.eq (g2 := F0 m 95 ls (.int 4 :: [])) (by rw [hs_4]) ?_
              refine lv_tableIn (tgt := 153) X.1 X.2.1 d_K_worker_95 (by decide) (by decide) rfl (by decide) ?_
              refine lv_aload X.1 X.2.1 d_K_worker_153 (lv_at hl 0 rfl) ?_
              refine r_gets (q := j) X hM rfl hv52 f_K_217 rfl (w_7_4 hw hj) d_K_worker_155 (fun hv54 => ?_)
              refine r_geti X hM rfl hv54 f_K_254 rfl d_K_worker_158 ?_
              refine vx_ret ?_
              exact m_iret X hr hlk hM d_K_worker_161 ⟨Nat.le_of_ble_eq_true rfl, Nat.le_of_ble_eq_true rfl⟩ (mExt_rf _ _) ⟨by unfold wkXc; rw [if_neg (fun z => z hv), if_neg (fun z => z ⟨Int32.not_lt.mp h63, by rw [w_nw hw]; exact h71⟩)], by rw [hcl]; exact congrArg (fun z => some (Value.int z)) (Eq.symm (by unfold wkW; rw [if_neg hs_0, if_neg hs_1, if_neg hs_2, if_neg hs_3, if_pos hs_4])), rfl, rfl⟩
            refine lv_tableOut (tgt := 162) X.1 X.2.1 d_K_worker_95 (by have a0 := lv_neT hs_0 (a := 0) rfl; have a1 := lv_neT hs_1 (a := 1) rfl; have a2 := lv_neT hs_2 (a := 2) rfl; have a3 := lv_neT hs_3 (a := 3) rfl; have a4 := lv_neT hs_4 (a := 4) rfl; omega) (by decide) ?_
            refine lv_iload_n X.1 X.2.1 d_K_worker_162 rfl (lv_at hl 5 rfl) ?_
            refine lv_bipush (v := 20) X.1 X.2.1 d_K_worker_163 (by decide) ?_
            refine lv_icmp_ge (tgt := 183) X.1 X.2.1 d_K_worker_165 (by decide) (fun h165 => ?_) (fun h165 => ?_)
            · skip
              refine lv_aload X.1 X.2.1 d_K_worker_183 (lv_at hl 0 rfl) ?_
              refine r_gets (q := j) X hM rfl hv52 f_K_217 rfl (w_7_4 hw hj) d_K_worker_185 (fun hv55 => ?_)
              refine lv_iload_n X.1 X.2.1 d_K_worker_188 rfl (lv_at hl 5 rfl) ?_
              refine lv_bipush (v := 20) X.1 X.2.1 d_K_worker_189 (by decide) ?_
              refine lv_isub X.1 X.2.1 d_K_worker_191 ?_
              refine r_cV (As := [.int ((q) - (20))]) (rest := []) X hml hl.1 hM (k_Ca_valueAt l D dA base M ad j (csz M j) (wCa_of hw ho j hj) (q - 20)) c_K_260 v_Ca_valueAt kc_Ca rfl hv55 rfl (Nat.le_of_ble_eq_true rfl) ⟨rfl, rfl, Nat.le_of_ble_eq_true rfl, Nat.le_of_ble_eq_true rfl⟩ ⟨Nat.le_of_ble_eq_true rfl, Nat.le_of_ble_eq_true rfl⟩ d_K_worker_192 ?_
              intro rv M1 ad1 H locs hP hM hE
              obtain ⟨e1, e2, e3⟩ := hP
              subst rv; subst M1; subst ad1
              show W _ _ _ _ _ _ _ _ _ _ _ _ _ _ _ (F0 m 195 ls [.int (atC M 16 j (csz M j) (q - 20))])
              refine vx_ret ?_
              exact m_iret X hr hlk hM d_K_worker_195 ⟨Nat.le_of_ble_eq_true rfl, Nat.le_of_ble_eq_true rfl⟩ (mExt_rf _ _) ⟨by unfold wkXc; rw [if_neg (fun z => z hv), if_neg (fun z => z ⟨Int32.not_lt.mp h63, by rw [w_nw hw]; exact h71⟩)], by rw [hcl]; exact congrArg (fun z => some (Value.int z)) (Eq.symm (by unfold wkW; rw [if_neg hs_0, if_neg hs_1, if_neg hs_2, if_neg hs_3, if_neg hs_4, if_pos h165])), rfl, rfl⟩
            · skip
              refine lv_aload X.1 X.2.1 d_K_worker_168 (lv_at hl 0 rfl) ?_
              refine r_gets (q := j) X hM rfl hv52 f_K_217 rfl (w_7_4 hw hj) d_K_worker_170 (fun hv57 => ?_)
              refine lv_iload_n X.1 X.2.1 d_K_worker_173 rfl (lv_at hl 5 rfl) ?_
              refine lv_bipush (v := 10) X.1 X.2.1 d_K_worker_174 (by decide) ?_
              refine lv_isub X.1 X.2.1 d_K_worker_176 ?_
              refine r_cV (As := [.int ((q) - (10))]) (rest := []) X hml hl.1 hM (k_Ca_pathAt l D dA base M ad j (csz M j) (wCa_of hw ho j hj) (q - 10)) c_K_257 v_Ca_pathAt kc_Ca rfl hv57 rfl (Nat.le_of_ble_eq_true rfl) ⟨rfl, rfl, Nat.le_of_ble_eq_true rfl, Nat.le_of_ble_eq_true rfl⟩ ⟨Nat.le_of_ble_eq_true rfl, Nat.le_of_ble_eq_true rfl⟩ d_K_worker_177 ?_
              intro rv M1 ad1 H locs hP hM hE
              obtain ⟨e1, e2, e3⟩ := hP
              subst rv; subst M1; subst ad1
              show W _ _ _ _ _ _ _ _ _ _ _ _ _ _ _ (F0 m 180 ls [.int (atC M 15 j (csz M j) (q - 10))])
              refine lv_goto (tgt := 195) X.1 X.2.1 d_K_worker_180 (by decide) ?_
              refine vx_ret ?_
              exact m_iret X hr hlk hM d_K_worker_195 ⟨Nat.le_of_ble_eq_true rfl, Nat.le_of_ble_eq_true rfl⟩ (mExt_rf _ _) ⟨by unfold wkXc; rw [if_neg (fun z => z hv), if_neg (fun z => z ⟨Int32.not_lt.mp h63, by rw [w_nw hw]; exact h71⟩)], by rw [hcl]; exact congrArg (fun z => some (Value.int z)) (Eq.symm (by unfold wkW; rw [if_neg hs_0, if_neg hs_1, if_neg hs_2, if_neg hs_3, if_neg hs_4, if_neg h165])), rfl, rfl⟩
          · skip
            exact r_throw X hst hml hl.1 hM hlk hno t_K_243_245_247 d_K_worker_74 d_K_worker_77 d_K_worker_78 d_K_worker_80 d_K_worker_83 ⟨Nat.le_of_ble_eq_true rfl, Nat.le_of_ble_eq_true rfl, Nat.le_of_ble_eq_true rfl, Nat.le_of_ble_eq_true rfl⟩ ⟨Nat.le_of_ble_eq_true rfl, Nat.le_of_ble_eq_true rfl⟩ (Or.inr ⟨by unfold wkXc; rw [if_neg (fun z => z hv), if_pos (fun z => h71 (z.2))], rfl⟩)
      · skip
        refine lv_iload_n X.1 X.2.1 d_K_worker_25 rfl (lv_at hl 3 rfl) ?_
        refine lv_bipush (v := 20) X.1 X.2.1 d_K_worker_26 (by decide) ?_
        refine lv_iconst (v := 4) X.1 X.2.1 d_K_worker_28 (by decide) ?_
        refine r_cS (As := [.int q, .int 20, .int 4]) (rest := []) X hml hl.1 hM (k_K_isWithin l D dA base M ad q 20 4) c_K_239 v_K_isWithin rfl (Nat.le_of_ble_eq_true rfl) ⟨rfl, rfl, Nat.le_of_ble_eq_true rfl, Nat.le_of_ble_eq_true rfl⟩ ⟨Nat.le_of_ble_eq_true rfl, Nat.le_of_ble_eq_true rfl⟩ d_K_worker_29 ?_
        intro rv M1 ad1 H locs hP hM hE
        obtain ⟨e1, e2, e3⟩ := hP
        subst rv; subst M1; subst ad1
        show W _ _ _ _ _ _ _ _ _ _ _ _ _ _ _ (F0 m 32 ls [.int (if 20 ≤ q ∧ q < 20 + 4 then 1 else 0)])
        refine lv_if_eq (tgt := 39) X.1 X.2.1 d_K_worker_32 (by decide) (fun h32 => ?_) (fun h32 => ?_)
        · skip
          refine lv_iconst (v := 0) X.1 X.2.1 d_K_worker_39 (by decide) ?_
          refine lv_istore (lv' := [(4, .int 0), (3, .int 1), (0, .ref (ad 0 0)), (1, .int w), (2, .int q)]) X.1 X.2.1 d_K_worker_40 hl (by decide) rfl (fun ls hl => ?_)
          refine lv_iload_n X.1 X.2.1 d_K_worker_42 rfl (lv_at hl 1 rfl) ?_
          refine lv_if_ne (tgt := 61) X.1 X.2.1 d_K_worker_43 (by decide) (fun hz60 => ?_) (fun hz60 => absurd hz60 (by decide))
          have hv : (0 ≤ q ∧ q ≤ 4) ∨ (10 ≤ q ∧ q < 10 + 4) ∨ (20 ≤ q ∧ q < 20 + 4) := Or.inl ⟨Int32.not_lt.mp h1, Int32.not_lt.mp h6⟩
          refine lv_iload_n X.1 X.2.1 d_K_worker_61 rfl (lv_at hl 3 rfl) ?_
          refine lv_iconst (v := 1) X.1 X.2.1 d_K_worker_62 (by decide) ?_
          refine lv_icmp_lt (tgt := 74) X.1 X.2.1 d_K_worker_63 (by decide) (fun h63 => ?_) (fun h63 => ?_)
          · skip
            exact r_throw X hst hml hl.1 hM hlk hno t_K_243_245_247 d_K_worker_74 d_K_worker_77 d_K_worker_78 d_K_worker_80 d_K_worker_83 ⟨Nat.le_of_ble_eq_true rfl, Nat.le_of_ble_eq_true rfl, Nat.le_of_ble_eq_true rfl, Nat.le_of_ble_eq_true rfl⟩ ⟨Nat.le_of_ble_eq_true rfl, Nat.le_of_ble_eq_true rfl⟩ (Or.inr ⟨by unfold wkXc; rw [if_neg (fun z => z hv), if_pos (fun z => absurd h63 (Int32.not_lt.mpr z.1))], rfl⟩)
          · skip
            refine lv_iload_n X.1 X.2.1 d_K_worker_66 rfl (lv_at hl 3 rfl) ?_
            refine lv_aload_n X.1 X.2.1 d_K_worker_67 rfl (lv_at hl 2 rfl) ?_
            refine r_geti X hM rfl hk0 f_K_29 rfl d_K_worker_68 ?_
            refine lv_icmp_le (tgt := 84) X.1 X.2.1 d_K_worker_71 (by decide) (fun h71 => ?_) (fun h71 => ?_)
            · skip
              have hN := w_nwl hw
              have h71 : w ≤ nI (gn M 7) := by rw [← w_nw hw]; exact h71
              obtain ⟨j, hj, hxj, hwj⟩ : ∃ j : Nat, j < gn M 7 ∧ w - 1 = nI j ∧ w = nI (1 + j) := sub_ix (x := w) (a := 1) (n := gn M 7) (Int32.not_lt.mp h63) (fun z => absurd (Int32.le_trans z h71) (nI_ge (by omega) (by omega))) (by omega)
              have hcl : (w - 1).toNatClampNeg = j := by rw [hxj]; exact nI_clamp (by omega)
              refine lv_aload_n X.1 X.2.1 d_K_worker_84 rfl (lv_at hl 2 rfl) ?_
              refine r_gets (q := 0) X hM rfl hk0 f_K_25 rfl (w_0_3 hw) d_K_worker_85 (fun hv61 => ?_)
              refine lv_iload_n X.1 X.2.1 d_K_worker_88 rfl (lv_at hl 3 rfl) ?_
              refine lv_iconst (v := 1) X.1 X.2.1 d_K_worker_89 (by decide) ?_
              refine lv_isub X.1 X.2.1 d_K_worker_90 ?_
              refine r_aalds (q := j) X hM rfl hv61 a_workers (fun _ => rfl) (j := j) hxj (by omega) (w_wk hw hj) d_K_worker_91 (fun hv62 => ?_)
              refine lv_astore (lv' := [(5, .ref (ad 7 j)), (4, .int 0), (3, .int 1), (0, .ref (ad 0 0)), (1, .int w), (2, .int q)]) X.1 X.2.1 d_K_worker_92 hl (by decide) rfl (fun ls hl => ?_)
              refine lv_iload_n X.1 X.2.1 d_K_worker_94 rfl (lv_at hl 5 rfl) ?_
              by_cases hs_0 : q = 0
              · skip
                refine W.eq (g2 := F0 m 95 ls (.int 0 :: [])) (by rw [hs_0]) ?_
                refine lv_tableIn (tgt := 128) X.1 X.2.1 d_K_worker_95 (by decide) (by decide) rfl (by decide) ?_
                refine lv_aload X.1 X.2.1 d_K_worker_128 (lv_at hl 0 rfl) ?_
                refine r_geti X hM rfl hv62 f_K_248 rfl d_K_worker_130 ?_
                refine vx_ret ?_
                exact m_iret X hr hlk hM d_K_worker_133 ⟨Nat.le_of_ble_eq_true rfl, Nat.le_of_ble_eq_true rfl⟩ (mExt_rf _ _) ⟨by unfold wkXc; rw [if_neg (fun z => z hv), if_neg (fun z => z ⟨Int32.not_lt.mp h63, by rw [w_nw hw]; exact h71⟩)], by rw [hcl]; exact congrArg (fun z => some (Value.int z)) (Eq.symm (by unfold wkW; rw [if_pos hs_0])), rfl, rfl⟩
              by_cases hs_1 : q = 1
              · skip
                refine W.eq (g2 := F0 m 95 ls (.int 1 :: [])) (by rw [hs_1]) ?_
                refine lv_tableIn (tgt := 134) X.1 X.2.1 d_K_worker_95 (by decide) (by decide) rfl (by decide) ?_
                refine lv_aload X.1 X.2.1 d_K_worker_134 (lv_at hl 0 rfl) ?_
                refine r_geti X hM rfl hv62 f_K_216 rfl d_K_worker_136 ?_
                refine vx_ret ?_
                exact m_iret X hr hlk hM d_K_worker_139 ⟨Nat.le_of_ble_eq_true rfl, Nat.le_of_ble_eq_true rfl⟩ (mExt_rf _ _) ⟨by unfold wkXc; rw [if_neg (fun z => z hv), if_neg (fun z => z ⟨Int32.not_lt.mp h63, by rw [w_nw hw]; exact h71⟩)], by rw [hcl]; exact congrArg (fun z => some (Value.int z)) (Eq.symm (by unfold wkW; rw [if_neg hs_0, if_pos hs_1])), rfl, rfl⟩
              by_cases hs_2 : q = 2
              · skip
                refine W.eq (g2 := F0 m 95 ls (.int 2 :: [])) (by rw [hs_2]) ?_
                refine lv_tableIn (tgt := 140) X.1 X.2.1 d_K_worker_95 (by decide) (by decide) rfl (by decide) ?_
                refine lv_aload X.1 X.2.1 d_K_worker_140 (lv_at hl 0 rfl) ?_
                refine r_geti X hM rfl hv62 f_K_212 rfl d_K_worker_142 ?_
                refine vx_ret ?_
                exact m_iret X hr hlk hM d_K_worker_145 ⟨Nat.le_of_ble_eq_true rfl, Nat.le_of_ble_eq_true rfl⟩ (mExt_rf _ _) ⟨by unfold wkXc; rw [if_neg (fun z => z hv), if_neg (fun z => z ⟨Int32.not_lt.mp h63, by rw [w_nw hw]; exact h71⟩)], by rw [hcl]; exact congrArg (fun z => some (Value.int z)) (Eq.symm (by unfold wkW; rw [if_neg hs_0, if_neg hs_1, if_pos hs_2])), rfl, rfl⟩
              by_cases hs_3 : q = 3
              · skip
                refine W.eq (g2 := F0 m 95 ls (.int 3 :: [])) (by rw [hs_3]) ?_
                refine lv_tableIn (tgt := 146) X.1 X.2.1 d_K_worker_95 (by decide) (by decide) rfl (by decide) ?_
                refine lv_aload_n X.1 X.2.1 d_K_worker_146 rfl (lv_at hl 3 rfl) ?_
                refine lv_aload X.1 X.2.1 d_K_worker_147 (lv_at hl 0 rfl) ?_
                refine r_cV (As := [.ref (ad 7 j)]) (rest := []) X hml hl.1 hM (k_K_controlledBy_s l D dA base M ad hw j hj) c_K_251 v_K_controlledBy kc_K rfl hk0 rfl (Nat.le_of_ble_eq_true rfl) ⟨rfl, rfl, Nat.le_of_ble_eq_true rfl, Nat.le_of_ble_eq_true rfl⟩ ⟨Nat.le_of_ble_eq_true rfl, Nat.le_of_ble_eq_true rfl⟩ d_K_worker_149 ?_
                intro rv M1 ad1 H locs hP hM hE
                obtain ⟨e1, e2, e3⟩ := hP
                subst rv; subst M1; subst ad1
                show W _ _ _ _ _ _ _ _ _ _ _ _ _ _ _ (F0 m 152 ls [.int (nI (ctl M (some j)))])
                refine vx_ret ?_
                exact m_iret X hr hlk hM d_K_worker_152 ⟨Nat.le_of_ble_eq_true rfl, Nat.le_of_ble_eq_true rfl⟩ (mExt_rf _ _) ⟨by unfold wkXc; rw [if_neg (fun z => z hv), if_neg (fun z => z ⟨Int32.not_lt.mp h63, by rw [w_nw hw]; exact h71⟩)], by rw [hcl]; exact congrArg (fun z => some (Value.int z)) (Eq.symm (by unfold wkW; rw [if_neg hs_0, if_neg hs_1, if_neg hs_2, if_pos hs_3])), rfl, rfl⟩
              by_cases hs_4 : q = 4
              · skip
                refine W.eq (g2 := F0 m 95 ls (.int 4 :: [])) (by rw [hs_4]) ?_
                refine lv_tableIn (tgt := 153) X.1 X.2.1 d_K_worker_95 (by decide) (by decide) rfl (by decide) ?_
                refine lv_aload X.1 X.2.1 d_K_worker_153 (lv_at hl 0 rfl) ?_
                refine r_gets (q := j) X hM rfl hv62 f_K_217 rfl (w_7_4 hw hj) d_K_worker_155 (fun hv64 => ?_)
                refine r_geti X hM rfl hv64 f_K_254 rfl d_K_worker_158 ?_
                refine vx_ret ?_
                exact m_iret X hr hlk hM d_K_worker_161 ⟨Nat.le_of_ble_eq_true rfl, Nat.le_of_ble_eq_true rfl⟩ (mExt_rf _ _) ⟨by unfold wkXc; rw [if_neg (fun z => z hv), if_neg (fun z => z ⟨Int32.not_lt.mp h63, by rw [w_nw hw]; exact h71⟩)], by rw [hcl]; exact congrArg (fun z => some (Value.int z)) (Eq.symm (by unfold wkW; rw [if_neg hs_0, if_neg hs_1, if_neg hs_2, if_neg hs_3, if_pos hs_4])), rfl, rfl⟩
              refine lv_tableOut (tgt := 162) X.1 X.2.1 d_K_worker_95 (by have a0 := lv_neT hs_0 (a := 0) rfl; have a1 := lv_neT hs_1 (a := 1) rfl; have a2 := lv_neT hs_2 (a := 2) rfl; have a3 := lv_neT hs_3 (a := 3) rfl; have a4 := lv_neT hs_4 (a := 4) rfl; omega) (by decide) ?_
              refine lv_iload_n X.1 X.2.1 d_K_worker_162 rfl (lv_at hl 5 rfl) ?_
              refine lv_bipush (v := 20) X.1 X.2.1 d_K_worker_163 (by decide) ?_
              refine lv_icmp_ge (tgt := 183) X.1 X.2.1 d_K_worker_165 (by decide) (fun h165 => ?_) (fun h165 => ?_)
              · skip
                refine lv_aload X.1 X.2.1 d_K_worker_183 (lv_at hl 0 rfl) ?_
                refine r_gets (q := j) X hM rfl hv62 f_K_217 rfl (w_7_4 hw hj) d_K_worker_185 (fun hv65 => ?_)
                refine lv_iload_n X.1 X.2.1 d_K_worker_188 rfl (lv_at hl 5 rfl) ?_
                refine lv_bipush (v := 20) X.1 X.2.1 d_K_worker_189 (by decide) ?_
                refine lv_isub X.1 X.2.1 d_K_worker_191 ?_
                refine r_cV (As := [.int ((q) - (20))]) (rest := []) X hml hl.1 hM (k_Ca_valueAt l D dA base M ad j (csz M j) (wCa_of hw ho j hj) (q - 20)) c_K_260 v_Ca_valueAt kc_Ca rfl hv65 rfl (Nat.le_of_ble_eq_true rfl) ⟨rfl, rfl, Nat.le_of_ble_eq_true rfl, Nat.le_of_ble_eq_true rfl⟩ ⟨Nat.le_of_ble_eq_true rfl, Nat.le_of_ble_eq_true rfl⟩ d_K_worker_192 ?_
                intro rv M1 ad1 H locs hP hM hE
                obtain ⟨e1, e2, e3⟩ := hP
                subst rv; subst M1; subst ad1
                show W _ _ _ _ _ _ _ _ _ _ _ _ _ _ _ (F0 m 195 ls [.int (atC M 16 j (csz M j) (q - 20))])
                refine vx_ret ?_
                exact m_iret X hr hlk hM d_K_worker_195 ⟨Nat.le_of_ble_eq_true rfl, Nat.le_of_ble_eq_true rfl⟩ (mExt_rf _ _) ⟨by unfold wkXc; rw [if_neg (fun z => z hv), if_neg (fun z => z ⟨Int32.not_lt.mp h63, by rw [w_nw hw]; exact h71⟩)], by rw [hcl]; exact congrArg (fun z => some (Value.int z)) (Eq.symm (by unfold wkW; rw [if_neg hs_0, if_neg hs_1, if_neg hs_2, if_neg hs_3, if_neg hs_4, if_pos h165])), rfl, rfl⟩
              · skip
                refine lv_aload X.1 X.2.1 d_K_worker_168 (lv_at hl 0 rfl) ?_
                refine r_gets (q := j) X hM rfl hv62 f_K_217 rfl (w_7_4 hw hj) d_K_worker_170 (fun hv67 => ?_)
                refine lv_iload_n X.1 X.2.1 d_K_worker_173 rfl (lv_at hl 5 rfl) ?_
                refine lv_bipush (v := 10) X.1 X.2.1 d_K_worker_174 (by decide) ?_
                refine lv_isub X.1 X.2.1 d_K_worker_176 ?_
                refine r_cV (As := [.int ((q) - (10))]) (rest := []) X hml hl.1 hM (k_Ca_pathAt l D dA base M ad j (csz M j) (wCa_of hw ho j hj) (q - 10)) c_K_257 v_Ca_pathAt kc_Ca rfl hv67 rfl (Nat.le_of_ble_eq_true rfl) ⟨rfl, rfl, Nat.le_of_ble_eq_true rfl, Nat.le_of_ble_eq_true rfl⟩ ⟨Nat.le_of_ble_eq_true rfl, Nat.le_of_ble_eq_true rfl⟩ d_K_worker_177 ?_
                intro rv M1 ad1 H locs hP hM hE
                obtain ⟨e1, e2, e3⟩ := hP
                subst rv; subst M1; subst ad1
                show W _ _ _ _ _ _ _ _ _ _ _ _ _ _ _ (F0 m 180 ls [.int (atC M 15 j (csz M j) (q - 10))])
                refine lv_goto (tgt := 195) X.1 X.2.1 d_K_worker_180 (by decide) ?_
                refine vx_ret ?_
                exact m_iret X hr hlk hM d_K_worker_195 ⟨Nat.le_of_ble_eq_true rfl, Nat.le_of_ble_eq_true rfl⟩ (mExt_rf _ _) ⟨by unfold wkXc; rw [if_neg (fun z => z hv), if_neg (fun z => z ⟨Int32.not_lt.mp h63, by rw [w_nw hw]; exact h71⟩)], by rw [hcl]; exact congrArg (fun z => some (Value.int z)) (Eq.symm (by unfold wkW; rw [if_neg hs_0, if_neg hs_1, if_neg hs_2, if_neg hs_3, if_neg hs_4, if_neg h165])), rfl, rfl⟩
            · skip
              exact r_throw X hst hml hl.1 hM hlk hno t_K_243_245_247 d_K_worker_74 d_K_worker_77 d_K_worker_78 d_K_worker_80 d_K_worker_83 ⟨Nat.le_of_ble_eq_true rfl, Nat.le_of_ble_eq_true rfl, Nat.le_of_ble_eq_true rfl, Nat.le_of_ble_eq_true rfl⟩ ⟨Nat.le_of_ble_eq_true rfl, Nat.le_of_ble_eq_true rfl⟩ (Or.inr ⟨by unfold wkXc; rw [if_neg (fun z => z hv), if_pos (fun z => h71 (z.2))], rfl⟩)
        · skip
          refine lv_iconst (v := 1) X.1 X.2.1 d_K_worker_35 (by decide) ?_
          refine lv_goto (tgt := 40) X.1 X.2.1 d_K_worker_36 (by decide) ?_
          refine lv_istore (lv' := [(4, .int 1), (3, .int 1), (0, .ref (ad 0 0)), (1, .int w), (2, .int q)]) X.1 X.2.1 d_K_worker_40 hl (by decide) rfl (fun ls hl => ?_)
          refine lv_iload_n X.1 X.2.1 d_K_worker_42 rfl (lv_at hl 1 rfl) ?_
          refine lv_if_ne (tgt := 61) X.1 X.2.1 d_K_worker_43 (by decide) (fun hz69 => ?_) (fun hz69 => absurd hz69 (by decide))
          have hv : (0 ≤ q ∧ q ≤ 4) ∨ (10 ≤ q ∧ q < 10 + 4) ∨ (20 ≤ q ∧ q < 20 + 4) := Or.inl ⟨Int32.not_lt.mp h1, Int32.not_lt.mp h6⟩
          refine lv_iload_n X.1 X.2.1 d_K_worker_61 rfl (lv_at hl 3 rfl) ?_
          refine lv_iconst (v := 1) X.1 X.2.1 d_K_worker_62 (by decide) ?_
          refine lv_icmp_lt (tgt := 74) X.1 X.2.1 d_K_worker_63 (by decide) (fun h63 => ?_) (fun h63 => ?_)
          · skip
            exact r_throw X hst hml hl.1 hM hlk hno t_K_243_245_247 d_K_worker_74 d_K_worker_77 d_K_worker_78 d_K_worker_80 d_K_worker_83 ⟨Nat.le_of_ble_eq_true rfl, Nat.le_of_ble_eq_true rfl, Nat.le_of_ble_eq_true rfl, Nat.le_of_ble_eq_true rfl⟩ ⟨Nat.le_of_ble_eq_true rfl, Nat.le_of_ble_eq_true rfl⟩ (Or.inr ⟨by unfold wkXc; rw [if_neg (fun z => z hv), if_pos (fun z => absurd h63 (Int32.not_lt.mpr z.1))], rfl⟩)
          · skip
            refine lv_iload_n X.1 X.2.1 d_K_worker_66 rfl (lv_at hl 3 rfl) ?_
            refine lv_aload_n X.1 X.2.1 d_K_worker_67 rfl (lv_at hl 2 rfl) ?_
            refine r_geti X hM rfl hk0 f_K_29 rfl d_K_worker_68 ?_
            refine lv_icmp_le (tgt := 84) X.1 X.2.1 d_K_worker_71 (by decide) (fun h71 => ?_) (fun h71 => ?_)
            · skip
              have hN := w_nwl hw
              have h71 : w ≤ nI (gn M 7) := by rw [← w_nw hw]; exact h71
              obtain ⟨j, hj, hxj, hwj⟩ : ∃ j : Nat, j < gn M 7 ∧ w - 1 = nI j ∧ w = nI (1 + j) := sub_ix (x := w) (a := 1) (n := gn M 7) (Int32.not_lt.mp h63) (fun z => absurd (Int32.le_trans z h71) (nI_ge (by omega) (by omega))) (by omega)
              have hcl : (w - 1).toNatClampNeg = j := by rw [hxj]; exact nI_clamp (by omega)
              refine lv_aload_n X.1 X.2.1 d_K_worker_84 rfl (lv_at hl 2 rfl) ?_
              refine r_gets (q := 0) X hM rfl hk0 f_K_25 rfl (w_0_3 hw) d_K_worker_85 (fun hv70 => ?_)
              refine lv_iload_n X.1 X.2.1 d_K_worker_88 rfl (lv_at hl 3 rfl) ?_
              refine lv_iconst (v := 1) X.1 X.2.1 d_K_worker_89 (by decide) ?_
              refine lv_isub X.1 X.2.1 d_K_worker_90 ?_
              refine r_aalds (q := j) X hM rfl hv70 a_workers (fun _ => rfl) (j := j) hxj (by omega) (w_wk hw hj) d_K_worker_91 (fun hv71 => ?_)
              refine lv_astore (lv' := [(5, .ref (ad 7 j)), (4, .int 1), (3, .int 1), (0, .ref (ad 0 0)), (1, .int w), (2, .int q)]) X.1 X.2.1 d_K_worker_92 hl (by decide) rfl (fun ls hl => ?_)
              refine lv_iload_n X.1 X.2.1 d_K_worker_94 rfl (lv_at hl 5 rfl) ?_
              by_cases hs_0 : q = 0
              · skip
                refine W.eq (g2 := F0 m 95 ls (.int 0 :: [])) (by rw [hs_0]) ?_
                refine lv_tableIn (tgt := 128) X.1 X.2.1 d_K_worker_95 (by decide) (by decide) rfl (by decide) ?_
                refine lv_aload X.1 X.2.1 d_K_worker_128 (lv_at hl 0 rfl) ?_
                refine r_geti X hM rfl hv71 f_K_248 rfl d_K_worker_130 ?_
                refine vx_ret ?_
                exact m_iret X hr hlk hM d_K_worker_133 ⟨Nat.le_of_ble_eq_true rfl, Nat.le_of_ble_eq_true rfl⟩ (mExt_rf _ _) ⟨by unfold wkXc; rw [if_neg (fun z => z hv), if_neg (fun z => z ⟨Int32.not_lt.mp h63, by rw [w_nw hw]; exact h71⟩)], by rw [hcl]; exact congrArg (fun z => some (Value.int z)) (Eq.symm (by unfold wkW; rw [if_pos hs_0])), rfl, rfl⟩
              by_cases hs_1 : q = 1
              · skip
                refine W.eq (g2 := F0 m 95 ls (.int 1 :: [])) (by rw [hs_1]) ?_
                refine lv_tableIn (tgt := 134) X.1 X.2.1 d_K_worker_95 (by decide) (by decide) rfl (by decide) ?_
                refine lv_aload X.1 X.2.1 d_K_worker_134 (lv_at hl 0 rfl) ?_
                refine r_geti X hM rfl hv71 f_K_216 rfl d_K_worker_136 ?_
                refine vx_ret ?_
                exact m_iret X hr hlk hM d_K_worker_139 ⟨Nat.le_of_ble_eq_true rfl, Nat.le_of_ble_eq_true rfl⟩ (mExt_rf _ _) ⟨by unfold wkXc; rw [if_neg (fun z => z hv), if_neg (fun z => z ⟨Int32.not_lt.mp h63, by rw [w_nw hw]; exact h71⟩)], by rw [hcl]; exact congrArg (fun z => some (Value.int z)) (Eq.symm (by unfold wkW; rw [if_neg hs_0, if_pos hs_1])), rfl, rfl⟩
              by_cases hs_2 : q = 2
              · skip
                refine W.eq (g2 := F0 m 95 ls (.int 2 :: [])) (by rw [hs_2]) ?_
                refine lv_tableIn (tgt := 140) X.1 X.2.1 d_K_worker_95 (by decide) (by decide) rfl (by decide) ?_
                refine lv_aload X.1 X.2.1 d_K_worker_140 (lv_at hl 0 rfl) ?_
                refine r_geti X hM rfl hv71 f_K_212 rfl d_K_worker_142 ?_
                refine vx_ret ?_
                exact m_iret X hr hlk hM d_K_worker_145 ⟨Nat.le_of_ble_eq_true rfl, Nat.le_of_ble_eq_true rfl⟩ (mExt_rf _ _) ⟨by unfold wkXc; rw [if_neg (fun z => z hv), if_neg (fun z => z ⟨Int32.not_lt.mp h63, by rw [w_nw hw]; exact h71⟩)], by rw [hcl]; exact congrArg (fun z => some (Value.int z)) (Eq.symm (by unfold wkW; rw [if_neg hs_0, if_neg hs_1, if_pos hs_2])), rfl, rfl⟩
              by_cases hs_3 : q = 3
              · skip
                refine W.eq (g2 := F0 m 95 ls (.int 3 :: [])) (by rw [hs_3]) ?_
                refine lv_tableIn (tgt := 146) X.1 X.2.1 d_K_worker_95 (by decide) (by decide) rfl (by decide) ?_
                refine lv_aload_n X.1 X.2.1 d_K_worker_146 rfl (lv_at hl 3 rfl) ?_
                refine lv_aload X.1 X.2.1 d_K_worker_147 (lv_at hl 0 rfl) ?_
                refine r_cV (As := [.ref (ad 7 j)]) (rest := []) X hml hl.1 hM (k_K_controlledBy_s l D dA base M ad hw j hj) c_K_251 v_K_controlledBy kc_K rfl hk0 rfl (Nat.le_of_ble_eq_true rfl) ⟨rfl, rfl, Nat.le_of_ble_eq_true rfl, Nat.le_of_ble_eq_true rfl⟩ ⟨Nat.le_of_ble_eq_true rfl, Nat.le_of_ble_eq_true rfl⟩ d_K_worker_149 ?_
                intro rv M1 ad1 H locs hP hM hE
                obtain ⟨e1, e2, e3⟩ := hP
                subst rv; subst M1; subst ad1
                show W _ _ _ _ _ _ _ _ _ _ _ _ _ _ _ (F0 m 152 ls [.int (nI (ctl M (some j)))])
                refine vx_ret ?_
                exact m_iret X hr hlk hM d_K_worker_152 ⟨Nat.le_of_ble_eq_true rfl, Nat.le_of_ble_eq_true rfl⟩ (mExt_rf _ _) ⟨by unfold wkXc; rw [if_neg (fun z => z hv), if_neg (fun z => z ⟨Int32.not_lt.mp h63, by rw [w_nw hw]; exact h71⟩)], by rw [hcl]; exact congrArg (fun z => some (Value.int z)) (Eq.symm (by unfold wkW; rw [if_neg hs_0, if_neg hs_1, if_neg hs_2, if_pos hs_3])), rfl, rfl⟩
              by_cases hs_4 : q = 4
              · skip
                refine W.eq (g2 := F0 m 95 ls (.int 4 :: [])) (by rw [hs_4]) ?_
                refine lv_tableIn (tgt := 153) X.1 X.2.1 d_K_worker_95 (by decide) (by decide) rfl (by decide) ?_
                refine lv_aload X.1 X.2.1 d_K_worker_153 (lv_at hl 0 rfl) ?_
                refine r_gets (q := j) X hM rfl hv71 f_K_217 rfl (w_7_4 hw hj) d_K_worker_155 (fun hv73 => ?_)
                refine r_geti X hM rfl hv73 f_K_254 rfl d_K_worker_158 ?_
                refine vx_ret ?_
                exact m_iret X hr hlk hM d_K_worker_161 ⟨Nat.le_of_ble_eq_true rfl, Nat.le_of_ble_eq_true rfl⟩ (mExt_rf _ _) ⟨by unfold wkXc; rw [if_neg (fun z => z hv), if_neg (fun z => z ⟨Int32.not_lt.mp h63, by rw [w_nw hw]; exact h71⟩)], by rw [hcl]; exact congrArg (fun z => some (Value.int z)) (Eq.symm (by unfold wkW; rw [if_neg hs_0, if_neg hs_1, if_neg hs_2, if_neg hs_3, if_pos hs_4])), rfl, rfl⟩
              refine lv_tableOut (tgt := 162) X.1 X.2.1 d_K_worker_95 (by have a0 := lv_neT hs_0 (a := 0) rfl; have a1 := lv_neT hs_1 (a := 1) rfl; have a2 := lv_neT hs_2 (a := 2) rfl; have a3 := lv_neT hs_3 (a := 3) rfl; have a4 := lv_neT hs_4 (a := 4) rfl; omega) (by decide) ?_
              refine lv_iload_n X.1 X.2.1 d_K_worker_162 rfl (lv_at hl 5 rfl) ?_
              refine lv_bipush (v := 20) X.1 X.2.1 d_K_worker_163 (by decide) ?_
              refine lv_icmp_ge (tgt := 183) X.1 X.2.1 d_K_worker_165 (by decide) (fun h165 => ?_) (fun h165 => ?_)
              · skip
                refine lv_aload X.1 X.2.1 d_K_worker_183 (lv_at hl 0 rfl) ?_
                refine r_gets (q := j) X hM rfl hv71 f_K_217 rfl (w_7_4 hw hj) d_K_worker_185 (fun hv74 => ?_)
                refine lv_iload_n X.1 X.2.1 d_K_worker_188 rfl (lv_at hl 5 rfl) ?_
                refine lv_bipush (v := 20) X.1 X.2.1 d_K_worker_189 (by decide) ?_
                refine lv_isub X.1 X.2.1 d_K_worker_191 ?_
                refine r_cV (As := [.int ((q) - (20))]) (rest := []) X hml hl.1 hM (k_Ca_valueAt l D dA base M ad j (csz M j) (wCa_of hw ho j hj) (q - 20)) c_K_260 v_Ca_valueAt kc_Ca rfl hv74 rfl (Nat.le_of_ble_eq_true rfl) ⟨rfl, rfl, Nat.le_of_ble_eq_true rfl, Nat.le_of_ble_eq_true rfl⟩ ⟨Nat.le_of_ble_eq_true rfl, Nat.le_of_ble_eq_true rfl⟩ d_K_worker_192 ?_
                intro rv M1 ad1 H locs hP hM hE
                obtain ⟨e1, e2, e3⟩ := hP
                subst rv; subst M1; subst ad1
                show W _ _ _ _ _ _ _ _ _ _ _ _ _ _ _ (F0 m 195 ls [.int (atC M 16 j (csz M j) (q - 20))])
                refine vx_ret ?_
                exact m_iret X hr hlk hM d_K_worker_195 ⟨Nat.le_of_ble_eq_true rfl, Nat.le_of_ble_eq_true rfl⟩ (mExt_rf _ _) ⟨by unfold wkXc; rw [if_neg (fun z => z hv), if_neg (fun z => z ⟨Int32.not_lt.mp h63, by rw [w_nw hw]; exact h71⟩)], by rw [hcl]; exact congrArg (fun z => some (Value.int z)) (Eq.symm (by unfold wkW; rw [if_neg hs_0, if_neg hs_1, if_neg hs_2, if_neg hs_3, if_neg hs_4, if_pos h165])), rfl, rfl⟩
              · skip
                refine lv_aload X.1 X.2.1 d_K_worker_168 (lv_at hl 0 rfl) ?_
                refine r_gets (q := j) X hM rfl hv71 f_K_217 rfl (w_7_4 hw hj) d_K_worker_170 (fun hv76 => ?_)
                refine lv_iload_n X.1 X.2.1 d_K_worker_173 rfl (lv_at hl 5 rfl) ?_
                refine lv_bipush (v := 10) X.1 X.2.1 d_K_worker_174 (by decide) ?_
                refine lv_isub X.1 X.2.1 d_K_worker_176 ?_
                refine r_cV (As := [.int ((q) - (10))]) (rest := []) X hml hl.1 hM (k_Ca_pathAt l D dA base M ad j (csz M j) (wCa_of hw ho j hj) (q - 10)) c_K_257 v_Ca_pathAt kc_Ca rfl hv76 rfl (Nat.le_of_ble_eq_true rfl) ⟨rfl, rfl, Nat.le_of_ble_eq_true rfl, Nat.le_of_ble_eq_true rfl⟩ ⟨Nat.le_of_ble_eq_true rfl, Nat.le_of_ble_eq_true rfl⟩ d_K_worker_177 ?_
                intro rv M1 ad1 H locs hP hM hE
                obtain ⟨e1, e2, e3⟩ := hP
                subst rv; subst M1; subst ad1
                show W _ _ _ _ _ _ _ _ _ _ _ _ _ _ _ (F0 m 180 ls [.int (atC M 15 j (csz M j) (q - 10))])
                refine lv_goto (tgt := 195) X.1 X.2.1 d_K_worker_180 (by decide) ?_
                refine vx_ret ?_
                exact m_iret X hr hlk hM d_K_worker_195 ⟨Nat.le_of_ble_eq_true rfl, Nat.le_of_ble_eq_true rfl⟩ (mExt_rf _ _) ⟨by unfold wkXc; rw [if_neg (fun z => z hv), if_neg (fun z => z ⟨Int32.not_lt.mp h63, by rw [w_nw hw]; exact h71⟩)], by rw [hcl]; exact congrArg (fun z => some (Value.int z)) (Eq.symm (by unfold wkW; rw [if_neg hs_0, if_neg hs_1, if_neg hs_2, if_neg hs_3, if_neg hs_4, if_neg h165])), rfl, rfl⟩
            · skip
              exact r_throw X hst hml hl.1 hM hlk hno t_K_243_245_247 d_K_worker_74 d_K_worker_77 d_K_worker_78 d_K_worker_80 d_K_worker_83 ⟨Nat.le_of_ble_eq_true rfl, Nat.le_of_ble_eq_true rfl, Nat.le_of_ble_eq_true rfl, Nat.le_of_ble_eq_true rfl⟩ ⟨Nat.le_of_ble_eq_true rfl, Nat.le_of_ble_eq_true rfl⟩ (Or.inr ⟨by unfold wkXc; rw [if_neg (fun z => z hv), if_pos (fun z => h71 (z.2))], rfl⟩)
set_option maxHeartbeats 4000000 in
set_option maxRecDepth 100000 in
theorem k_K_trace (l : Launch) (hst : l.stackTraces = false) (D : va_G) (dA : Nat → ClassId) (base : Nat) (M : mM) (ad : Nat → Nat → Nat) (hw : wK M) (ht : wT M) (x : Int32) : mMetX l y_K_trace b_K_trace 2 (some FieldType.int) ({ frames := 6, cells := 1, slots := 6, locals := 100 } : Room) 1 6 D dA base M ad [.ref (ad 0 0), .int x] (fun rv M' ad' => (0 ≤ x ∧ x < gi M 3 0 1) ∧ rv = some (.int (gi M 14 0 x.toNatClampNeg)) ∧ M' = M ∧ ad' = ad) (fun E => ¬ (0 ≤ x ∧ x < gi M 3 0 1) ∧ E = "java/lang/IndexOutOfBoundsException") := by
  refine m_startX (lvs := [(0, .ref (ad 0 0)), (1, .int x)]) (by decide) (Nat.le_of_ble_eq_true rfl) rfl ?_
  intro p e s m below meth c ls X hr hlk hin hml hM hl hno
  have hk0 : 0 < gn M 0 := w_k hw
  refine lv_iload_n X.1 X.2.1 d_K_trace_0 rfl (lv_at hl 1 rfl) ?_
  refine lv_if_lt (tgt := 15) X.1 X.2.1 d_K_trace_1 (by decide) (fun h1 => ?_) (fun h1 => ?_)
  · skip
    exact r_throwW X hst hml hl.1 hM hlk hno t_K_243_268_247 d_K_trace_15 d_K_trace_18 d_K_trace_19 d_K_trace_22 d_K_trace_25 ⟨Nat.le_of_ble_eq_true rfl, Nat.le_of_ble_eq_true rfl, Nat.le_of_ble_eq_true rfl, Nat.le_of_ble_eq_true rfl⟩ ⟨Nat.le_of_ble_eq_true rfl, Nat.le_of_ble_eq_true rfl⟩ ⟨fun z => absurd h1 (Int32.not_lt.mpr z.1), rfl⟩
  · skip
    refine lv_iload_n X.1 X.2.1 d_K_trace_4 rfl (lv_at hl 1 rfl) ?_
    refine lv_aload_n X.1 X.2.1 d_K_trace_5 rfl (lv_at hl 0 rfl) ?_
    refine r_gets (q := 0) X hM rfl hk0 f_K_62 rfl (w_0_11 hw) d_K_trace_6 (fun hv1 => ?_)
    refine r_geti X hM rfl hv1 f_K_265 rfl d_K_trace_9 ?_
    refine lv_icmp_lt (tgt := 26) X.1 X.2.1 d_K_trace_12 (by decide) (fun h12 => ?_) (fun h12 => ?_)
    · skip
      have hz := ht.2
      obtain ⟨j, hj, hxj⟩ : ∃ j : Nat, j < (tsz M) ∧ x = nI j := by
        rcases pk_ix x (n := (tsz M)) (by omega) with u9 | u9 | ⟨j, u9, u8⟩
        · exact absurd u9 (h1)
        · exact absurd u9 (by rw [← ht.1]; exact Int32.not_le.mpr h12)
        · exact ⟨j, u9, u8⟩
      have hcl : x.toNatClampNeg = j := by rw [hxj]; exact nI_clamp (by omega)
      refine lv_aload_n X.1 X.2.1 d_K_trace_26 rfl (lv_at hl 0 rfl) ?_
      refine r_gets (q := 0) X hM rfl hk0 f_K_62 rfl (w_0_11 hw) d_K_trace_27 (fun hv2 => ?_)
      refine r_gets (q := 0) X hM rfl hv2 f_K_270 rfl (w_3_0 hw) d_K_trace_30 (fun hv3 => ?_)
      refine lv_iload_n X.1 X.2.1 d_K_trace_33 rfl (lv_at hl 1 rfl) ?_
      refine r_iald X hM rfl hv3 a_numbers (fun _ => rfl) (j := j) hxj (by omega) d_K_trace_34 ?_
      refine vx_ret ?_
      exact m_iret X hr hlk hM d_K_trace_35 ⟨Nat.le_of_ble_eq_true rfl, Nat.le_of_ble_eq_true rfl⟩ (mExt_rf _ _) ⟨⟨Int32.not_lt.mp h1, h12⟩, by rw [hcl], rfl, rfl⟩
    · skip
      exact r_throwW X hst hml hl.1 hM hlk hno t_K_243_268_247 d_K_trace_15 d_K_trace_18 d_K_trace_19 d_K_trace_22 d_K_trace_25 ⟨Nat.le_of_ble_eq_true rfl, Nat.le_of_ble_eq_true rfl, Nat.le_of_ble_eq_true rfl, Nat.le_of_ble_eq_true rfl⟩ ⟨Nat.le_of_ble_eq_true rfl, Nat.le_of_ble_eq_true rfl⟩ ⟨fun z => h12 z.2, rfl⟩
abbrev ctOk (q : Int32) : Prop := (10 ≤ q ∧ q < 10 + 8) ∨ (20 ≤ q ∧ q < 20 + 8) ∨ (30 ≤ q ∧ q < 30 + 5) ∨ (0 ≤ q ∧ q ≤ 5)
def ctV (M : mM) (q : Int32) : Int32 := if 10 ≤ q ∧ q < 10 + 8 then num M (gr M 2 (q - 10).toNatClampNeg 2) else if 20 ≤ q ∧ q < 20 + 8 then (if gi M 2 (q - 20).toNatClampNeg 0 = 0 then -1 else gi M 2 (q - 20).toNatClampNeg 1) else if 30 ≤ q ∧ q < 30 + 5 then (if q - 30 < gi M 0 0 6 then gi M 5 (rgx M (q - 30).toNatClampNeg) 0 else -1) else if q = 0 then gi M 0 0 6 else if q = 1 then gi M 0 0 4 else if q = 2 then nI (thr M) else if q = 3 then gi M 0 0 10 else if q = 4 then nI (opn M) else gi M 3 0 2
theorem six (q : Int32) (h0 : ¬ q = 0) (h1 : ¬ q = 1) (h2 : ¬ q = 2) (h3 : ¬ q = 3) (h4 : ¬ q = 4) (h5 : ¬ q = 5) : ¬ (0 ≤ q ∧ q ≤ 5) := by
  rintro ⟨z1, z2⟩
  rcases pk_ix q (n := 6) (by decide) with h | h | ⟨i, hi, h⟩
  · exact absurd h (Int32.not_lt.mpr z1)
  · exact absurd (Int32.le_trans h z2) (by decide)
  · have : i = 0 ∨ i = 1 ∨ i = 2 ∨ i = 3 ∨ i = 4 ∨ i = 5 := by omega
    rcases this with rfl | rfl | rfl | rfl | rfl | rfl
    · exact h0 h
    · exact h1 h
    · exact h2 h
    · exact h3 h
    · exact h4 h
    · exact h5 h
set_option maxHeartbeats 4000000 in
set_option maxRecDepth 100000 in
theorem k_K_count (l : Launch) (hst : l.stackTraces = false) (D : va_G) (dA : Nat → ClassId) (base : Nat) (M : mM) (ad : Nat → Nat → Nat) (hw : wK M) (q : Int32) : mMetX l y_K_count b_K_count 3 (some FieldType.int) ({ frames := 6, cells := 1, slots := 6, locals := 100 } : Room) 1 6 D dA base M ad [.ref (ad 0 0), .int q] (fun rv M' ad' => ctOk q ∧ rv = some (.int (ctV M q)) ∧ M' = M ∧ ad' = ad) (fun E => ¬ ctOk q ∧ E = "java/lang/IllegalArgumentException") := by
  refine m_startX (lvs := [(0, .ref (ad 0 0)), (1, .int q)]) (by decide) (Nat.le_of_ble_eq_true rfl) rfl ?_
  intro p e s m below meth c ls X hr hlk hin hml hM hl hno
  have hk0 : 0 < gn M 0 := w_k hw
  refine lv_iload_n X.1 X.2.1 d_K_count_0 rfl (lv_at hl 1 rfl) ?_
  refine lv_bipush (v := 10) X.1 X.2.1 d_K_count_1 (by decide) ?_
  refine lv_bipush (v := 8) X.1 X.2.1 d_K_count_3 (by decide) ?_
  refine r_cS (As := [.int q, .int 10, .int 8]) (rest := []) X hml hl.1 hM (k_K_isWithin l D dA base M ad q 10 8) c_K_239 v_K_isWithin rfl (Nat.le_of_ble_eq_true rfl) ⟨rfl, rfl, Nat.le_of_ble_eq_true rfl, Nat.le_of_ble_eq_true rfl⟩ ⟨Nat.le_of_ble_eq_true rfl, Nat.le_of_ble_eq_true rfl⟩ d_K_count_5 ?_
  intro rv M1 ad1 H locs hP hM hE
  obtain ⟨e1, e2, e3⟩ := hP
  subst rv; subst M1; subst ad1
  show W _ _ _ _ _ _ _ _ _ _ _ _ _ _ _ (F0 m 8 ls [.int (if 10 ≤ q ∧ q < 10 + 8 then 1 else 0)])
  refine lv_if_eq (tgt := 27) X.1 X.2.1 d_K_count_8 (by decide) (fun h8 => ?_) (fun h8 => ?_)
  · skip
    refine lv_iload_n X.1 X.2.1 d_K_count_27 rfl (lv_at hl 1 rfl) ?_
    refine lv_bipush (v := 20) X.1 X.2.1 d_K_count_28 (by decide) ?_
    refine lv_bipush (v := 8) X.1 X.2.1 d_K_count_30 (by decide) ?_
    refine r_cS (As := [.int q, .int 20, .int 8]) (rest := []) X hml hl.1 hM (k_K_isWithin l D dA base M ad q 20 8) c_K_239 v_K_isWithin rfl (Nat.le_of_ble_eq_true rfl) ⟨rfl, rfl, Nat.le_of_ble_eq_true rfl, Nat.le_of_ble_eq_true rfl⟩ ⟨Nat.le_of_ble_eq_true rfl, Nat.le_of_ble_eq_true rfl⟩ d_K_count_32 ?_
    intro rv M1 ad1 H locs hP hM hE
    obtain ⟨e1, e2, e3⟩ := hP
    subst rv; subst M1; subst ad1
    show W _ _ _ _ _ _ _ _ _ _ _ _ _ _ _ (F0 m 35 ls [.int (if 20 ≤ q ∧ q < 20 + 8 then 1 else 0)])
    refine lv_if_eq (tgt := 64) X.1 X.2.1 d_K_count_35 (by decide) (fun h35 => ?_) (fun h35 => ?_)
    · skip
      refine lv_iload_n X.1 X.2.1 d_K_count_64 rfl (lv_at hl 1 rfl) ?_
      refine lv_bipush (v := 30) X.1 X.2.1 d_K_count_65 (by decide) ?_
      refine lv_iconst (v := 5) X.1 X.2.1 d_K_count_67 (by decide) ?_
      refine r_cS (As := [.int q, .int 30, .int 5]) (rest := []) X hml hl.1 hM (k_K_isWithin l D dA base M ad q 30 5) c_K_239 v_K_isWithin rfl (Nat.le_of_ble_eq_true rfl) ⟨rfl, rfl, Nat.le_of_ble_eq_true rfl, Nat.le_of_ble_eq_true rfl⟩ ⟨Nat.le_of_ble_eq_true rfl, Nat.le_of_ble_eq_true rfl⟩ d_K_count_68 ?_
      intro rv M1 ad1 H locs hP hM hE
      obtain ⟨e1, e2, e3⟩ := hP
      subst rv; subst M1; subst ad1
      show W _ _ _ _ _ _ _ _ _ _ _ _ _ _ _ (F0 m 71 ls [.int (if 30 ≤ q ∧ q < 30 + 5 then 1 else 0)])
      refine lv_if_eq (tgt := 101) X.1 X.2.1 d_K_count_71 (by decide) (fun h71 => ?_) (fun h71 => ?_)
      · skip
        refine lv_iload_n X.1 X.2.1 d_K_count_101 rfl (lv_at hl 1 rfl) ?_
        by_cases hs_0 : q = 0
        · skip
          refine W.eq (g2 := F0 m 102 ls (.int 0 :: [])) (by rw [hs_0]) ?_
          refine lv_tableIn (tgt := 140) X.1 X.2.1 d_K_count_102 (by decide) (by decide) rfl (by decide) ?_
          refine lv_aload_n X.1 X.2.1 d_K_count_140 rfl (lv_at hl 0 rfl) ?_
          refine r_geti X hM rfl hk0 f_K_38 rfl d_K_count_141 ?_
          refine vx_ret ?_
          exact m_iret X hr hlk hM d_K_count_144 ⟨Nat.le_of_ble_eq_true rfl, Nat.le_of_ble_eq_true rfl⟩ (mExt_rf _ _) ⟨Or.inr (Or.inr (Or.inr (by rw [hs_0]; decide))), congrArg (fun z => some (Value.int z)) (Eq.symm (by unfold ctV; rw [if_neg (be0 h8), if_neg (be0 h35), if_neg (be0 h71), if_pos hs_0])), rfl, rfl⟩
        by_cases hs_1 : q = 1
        · skip
          refine W.eq (g2 := F0 m 102 ls (.int 1 :: [])) (by rw [hs_1]) ?_
          refine lv_tableIn (tgt := 145) X.1 X.2.1 d_K_count_102 (by decide) (by decide) rfl (by decide) ?_
          refine lv_aload_n X.1 X.2.1 d_K_count_145 rfl (lv_at hl 0 rfl) ?_
          refine r_geti X hM rfl hk0 f_K_29 rfl d_K_count_146 ?_
          refine vx_ret ?_
          exact m_iret X hr hlk hM d_K_count_149 ⟨Nat.le_of_ble_eq_true rfl, Nat.le_of_ble_eq_true rfl⟩ (mExt_rf _ _) ⟨Or.inr (Or.inr (Or.inr (by rw [hs_1]; decide))), congrArg (fun z => some (Value.int z)) (Eq.symm (by unfold ctV; rw [if_neg (be0 h8), if_neg (be0 h35), if_neg (be0 h71), if_neg hs_0, if_pos hs_1])), rfl, rfl⟩
        by_cases hs_2 : q = 2
        · skip
          refine W.eq (g2 := F0 m 102 ls (.int 2 :: [])) (by rw [hs_2]) ?_
          refine lv_tableIn (tgt := 150) X.1 X.2.1 d_K_count_102 (by decide) (by decide) rfl (by decide) ?_
          refine lv_aload_n X.1 X.2.1 d_K_count_150 rfl (lv_at hl 0 rfl) ?_
          refine r_cV (As := []) (rest := []) X hml hl.1 hM (k_K_clientsThere l D dA base M ad hw) c_K_277 v_K_clientsThere kc_K rfl hk0 rfl (Nat.le_of_ble_eq_true rfl) ⟨rfl, rfl, Nat.le_of_ble_eq_true rfl, Nat.le_of_ble_eq_true rfl⟩ ⟨Nat.le_of_ble_eq_true rfl, Nat.le_of_ble_eq_true rfl⟩ d_K_count_151 ?_
          intro rv M1 ad1 H locs hP hM hE
          obtain ⟨e1, e2, e3⟩ := hP
          subst rv; subst M1; subst ad1
          show W _ _ _ _ _ _ _ _ _ _ _ _ _ _ _ (F0 m 154 ls [.int (nI (thr M))])
          refine vx_ret ?_
          exact m_iret X hr hlk hM d_K_count_154 ⟨Nat.le_of_ble_eq_true rfl, Nat.le_of_ble_eq_true rfl⟩ (mExt_rf _ _) ⟨Or.inr (Or.inr (Or.inr (by rw [hs_2]; decide))), congrArg (fun z => some (Value.int z)) (Eq.symm (by unfold ctV; rw [if_neg (be0 h8), if_neg (be0 h35), if_neg (be0 h71), if_neg hs_0, if_neg hs_1, if_pos hs_2])), rfl, rfl⟩
        by_cases hs_3 : q = 3
        · skip
          refine W.eq (g2 := F0 m 102 ls (.int 3 :: [])) (by rw [hs_3]) ?_
          refine lv_tableIn (tgt := 155) X.1 X.2.1 d_K_count_102 (by decide) (by decide) rfl (by decide) ?_
          refine lv_aload_n X.1 X.2.1 d_K_count_155 rfl (lv_at hl 0 rfl) ?_
          refine r_geti X hM rfl hk0 f_K_56 rfl d_K_count_156 ?_
          refine vx_ret ?_
          exact m_iret X hr hlk hM d_K_count_159 ⟨Nat.le_of_ble_eq_true rfl, Nat.le_of_ble_eq_true rfl⟩ (mExt_rf _ _) ⟨Or.inr (Or.inr (Or.inr (by rw [hs_3]; decide))), congrArg (fun z => some (Value.int z)) (Eq.symm (by unfold ctV; rw [if_neg (be0 h8), if_neg (be0 h35), if_neg (be0 h71), if_neg hs_0, if_neg hs_1, if_neg hs_2, if_pos hs_3])), rfl, rfl⟩
        by_cases hs_4 : q = 4
        · skip
          refine W.eq (g2 := F0 m 102 ls (.int 4 :: [])) (by rw [hs_4]) ?_
          refine lv_tableIn (tgt := 160) X.1 X.2.1 d_K_count_102 (by decide) (by decide) rfl (by decide) ?_
          refine lv_aload_n X.1 X.2.1 d_K_count_160 rfl (lv_at hl 0 rfl) ?_
          refine r_cV (As := []) (rest := []) X hml hl.1 hM (k_K_jobsNotEnded l D dA base M ad hw) c_K_280 v_K_jobsNotEnded kc_K rfl hk0 rfl (Nat.le_of_ble_eq_true rfl) ⟨rfl, rfl, Nat.le_of_ble_eq_true rfl, Nat.le_of_ble_eq_true rfl⟩ ⟨Nat.le_of_ble_eq_true rfl, Nat.le_of_ble_eq_true rfl⟩ d_K_count_161 ?_
          intro rv M1 ad1 H locs hP hM hE
          obtain ⟨e1, e2, e3⟩ := hP
          subst rv; subst M1; subst ad1
          show W _ _ _ _ _ _ _ _ _ _ _ _ _ _ _ (F0 m 164 ls [.int (nI (opn M))])
          refine vx_ret ?_
          exact m_iret X hr hlk hM d_K_count_164 ⟨Nat.le_of_ble_eq_true rfl, Nat.le_of_ble_eq_true rfl⟩ (mExt_rf _ _) ⟨Or.inr (Or.inr (Or.inr (by rw [hs_4]; decide))), congrArg (fun z => some (Value.int z)) (Eq.symm (by unfold ctV; rw [if_neg (be0 h8), if_neg (be0 h35), if_neg (be0 h71), if_neg hs_0, if_neg hs_1, if_neg hs_2, if_neg hs_3, if_pos hs_4])), rfl, rfl⟩
        by_cases hs_5 : q = 5
        · skip
          refine W.eq (g2 := F0 m 102 ls (.int 5 :: [])) (by rw [hs_5]) ?_
          refine lv_tableIn (tgt := 165) X.1 X.2.1 d_K_count_102 (by decide) (by decide) rfl (by decide) ?_
          refine lv_aload_n X.1 X.2.1 d_K_count_165 rfl (lv_at hl 0 rfl) ?_
          refine r_gets (q := 0) X hM rfl hk0 f_K_62 rfl (w_0_11 hw) d_K_count_166 (fun hv6 => ?_)
          refine r_geti X hM rfl hv6 f_K_283 rfl d_K_count_169 ?_
          refine vx_ret ?_
          exact m_iret X hr hlk hM d_K_count_172 ⟨Nat.le_of_ble_eq_true rfl, Nat.le_of_ble_eq_true rfl⟩ (mExt_rf _ _) ⟨Or.inr (Or.inr (Or.inr (by rw [hs_5]; decide))), congrArg (fun z => some (Value.int z)) (Eq.symm (by unfold ctV; rw [if_neg (be0 h8), if_neg (be0 h35), if_neg (be0 h71), if_neg hs_0, if_neg hs_1, if_neg hs_2, if_neg hs_3, if_neg hs_4])), rfl, rfl⟩
        refine lv_tableOut (tgt := 173) X.1 X.2.1 d_K_count_102 (by have a0 := lv_neT hs_0 (a := 0) rfl; have a1 := lv_neT hs_1 (a := 1) rfl; have a2 := lv_neT hs_2 (a := 2) rfl; have a3 := lv_neT hs_3 (a := 3) rfl; have a4 := lv_neT hs_4 (a := 4) rfl; have a5 := lv_neT hs_5 (a := 5) rfl; omega) (by decide) ?_
        exact r_throw X hst hml hl.1 hM hlk hno t_K_75_233_79 d_K_count_173 d_K_count_176 d_K_count_177 d_K_count_179 d_K_count_182 ⟨Nat.le_of_ble_eq_true rfl, Nat.le_of_ble_eq_true rfl, Nat.le_of_ble_eq_true rfl, Nat.le_of_ble_eq_true rfl⟩ ⟨Nat.le_of_ble_eq_true rfl, Nat.le_of_ble_eq_true rfl⟩ ⟨by rintro (z | z | z | z); exact be0 h8 z; exact be0 h35 z; exact be0 h71 z; exact six q hs_0 hs_1 hs_2 hs_3 hs_4 hs_5 z, rfl⟩
      · skip
        obtain ⟨j, hj, hxj, -⟩ : ∃ j : Nat, j < 5 ∧ q - 30 = nI j ∧ q = nI (30 + j) := sub_ix (x := q) (a := 30) (n := 5) (bn0 h71).1 (Int32.not_le.mpr (bn0 h71).2) (by omega)
        have hcl : (q - 30).toNatClampNeg = j := by rw [hxj]; exact nI_clamp (by omega)
        refine lv_iload_n X.1 X.2.1 d_K_count_74 rfl (lv_at hl 1 rfl) ?_
        refine lv_bipush (v := 30) X.1 X.2.1 d_K_count_75 (by decide) ?_
        refine lv_isub X.1 X.2.1 d_K_count_77 ?_
        refine lv_istore_n (lv' := [(2, .int ((q) - (30))), (0, .ref (ad 0 0)), (1, .int q)]) X.1 X.2.1 d_K_count_78 rfl hl (by decide) rfl (fun ls hl => ?_)
        refine lv_iload_n X.1 X.2.1 d_K_count_79 rfl (lv_at hl 0 rfl) ?_
        refine lv_aload_n X.1 X.2.1 d_K_count_80 rfl (lv_at hl 1 rfl) ?_
        refine r_geti X hM rfl hk0 f_K_38 rfl d_K_count_81 ?_
        refine lv_icmp_ge (tgt := 99) X.1 X.2.1 d_K_count_84 (by decide) (fun h84 => ?_) (fun h84 => ?_)
        · skip
          refine lv_iconst (v := (-1)) X.1 X.2.1 d_K_count_99 (by decide) ?_
          refine vx_ret ?_
          exact m_iret X hr hlk hM d_K_count_100 ⟨Nat.le_of_ble_eq_true rfl, Nat.le_of_ble_eq_true rfl⟩ (mExt_rf _ _) ⟨Or.inr (Or.inr (Or.inl (bn0 h71))), congrArg (fun z => some (Value.int z)) (Eq.symm (by unfold ctV; rw [if_neg (be0 h8), if_neg (be0 h35), if_pos (bn0 h71), if_neg (Int32.not_lt.mpr h84)])), rfl, rfl⟩
        · skip
          have hN := w_nrl hw
          have hj5 : j < nRg M := by have z := Int32.not_le.mp h84; rw [hxj, w_nr hw] at z; exact (nI_ltI (by omega) (by omega)).mp z
          refine lv_aload_n X.1 X.2.1 d_K_count_87 rfl (lv_at hl 1 rfl) ?_
          refine r_gets (q := 0) X hM rfl hk0 f_K_34 rfl (w_0_5 hw) d_K_count_88 (fun hv7 => ?_)
          refine lv_iload_n X.1 X.2.1 d_K_count_91 rfl (lv_at hl 0 rfl) ?_
          refine r_aalds (q := (rgx M j)) X hM rfl hv7 a_regs (fun _ => rfl) (j := j) hxj (by omega) (w_rg hw hj5) d_K_count_92 (fun hv8 => ?_)
          refine r_geti X hM rfl hv8 f_K_274 rfl d_K_count_93 ?_
          refine lv_goto (tgt := 100) X.1 X.2.1 d_K_count_96 (by decide) ?_
          refine vx_ret ?_
          exact m_iret X hr hlk hM d_K_count_100 ⟨Nat.le_of_ble_eq_true rfl, Nat.le_of_ble_eq_true rfl⟩ (mExt_rf _ _) ⟨Or.inr (Or.inr (Or.inl (bn0 h71))), congrArg (fun z => some (Value.int z)) (Eq.symm (by unfold ctV; rw [if_neg (be0 h8), if_neg (be0 h35), if_pos (bn0 h71), if_pos (Int32.not_le.mp h84), hcl])), rfl, rfl⟩
    · skip
      obtain ⟨j, hj, hxj, -⟩ : ∃ j : Nat, j < 8 ∧ q - 20 = nI j ∧ q = nI (20 + j) := sub_ix (x := q) (a := 20) (n := 8) (bn0 h35).1 (Int32.not_le.mpr (bn0 h35).2) (by omega)
      have hcl : (q - 20).toNatClampNeg = j := by rw [hxj]; exact nI_clamp (by omega)
      refine lv_aload_n X.1 X.2.1 d_K_count_38 rfl (lv_at hl 0 rfl) ?_
      refine r_gets (q := 0) X hM rfl hk0 f_K_43 rfl (w_0_7 hw) d_K_count_39 (fun hv9 => ?_)
      refine lv_iload_n X.1 X.2.1 d_K_count_42 rfl (lv_at hl 1 rfl) ?_
      refine lv_bipush (v := 20) X.1 X.2.1 d_K_count_43 (by decide) ?_
      refine lv_isub X.1 X.2.1 d_K_count_45 ?_
      refine r_aalds (q := j) X hM rfl hv9 a_clients (fun _ => rfl) (j := j) hxj (by omega) (w_cl hw hj) d_K_count_46 (fun hv10 => ?_)
      refine lv_astore_n (lv' := [(2, .ref (ad 2 j)), (0, .ref (ad 0 0)), (1, .int q)]) X.1 X.2.1 d_K_count_47 rfl hl (by decide) rfl (fun ls hl => ?_)
      refine lv_aload_n X.1 X.2.1 d_K_count_48 rfl (lv_at hl 0 rfl) ?_
      refine r_geti X hM rfl hv10 f_K_163 rfl d_K_count_49 ?_
      refine lv_if_eq (tgt := 62) X.1 X.2.1 d_K_count_52 (by decide) (fun h52 => ?_) (fun h52 => ?_)
      · skip
        refine lv_iconst (v := (-1)) X.1 X.2.1 d_K_count_62 (by decide) ?_
        refine vx_ret ?_
        exact m_iret X hr hlk hM d_K_count_63 ⟨Nat.le_of_ble_eq_true rfl, Nat.le_of_ble_eq_true rfl⟩ (mExt_rf _ _) ⟨Or.inr (Or.inl (bn0 h35)), congrArg (fun z => some (Value.int z)) (Eq.symm (by unfold ctV; rw [if_neg (be0 h8), if_pos (bn0 h35), hcl, if_pos h52])), rfl, rfl⟩
      · skip
        refine lv_aload_n X.1 X.2.1 d_K_count_55 rfl (lv_at hl 0 rfl) ?_
        refine r_geti X hM rfl hv10 f_K_166 rfl d_K_count_56 ?_
        refine lv_goto (tgt := 63) X.1 X.2.1 d_K_count_59 (by decide) ?_
        refine vx_ret ?_
        exact m_iret X hr hlk hM d_K_count_63 ⟨Nat.le_of_ble_eq_true rfl, Nat.le_of_ble_eq_true rfl⟩ (mExt_rf _ _) ⟨Or.inr (Or.inl (bn0 h35)), congrArg (fun z => some (Value.int z)) (Eq.symm (by unfold ctV; rw [if_neg (be0 h8), if_pos (bn0 h35), hcl, if_neg h52])), rfl, rfl⟩
  · skip
    obtain ⟨j, hj, hxj, -⟩ : ∃ j : Nat, j < 8 ∧ q - 10 = nI j ∧ q = nI (10 + j) := sub_ix (x := q) (a := 10) (n := 8) (bn0 h8).1 (Int32.not_le.mpr (bn0 h8).2) (by omega)
    have hcl : (q - 10).toNatClampNeg = j := by rw [hxj]; exact nI_clamp (by omega)
    refine lv_aload_n X.1 X.2.1 d_K_count_11 rfl (lv_at hl 0 rfl) ?_
    refine r_gets (q := 0) X hM rfl hk0 f_K_43 rfl (w_0_7 hw) d_K_count_12 (fun hv11 => ?_)
    refine lv_iload_n X.1 X.2.1 d_K_count_15 rfl (lv_at hl 1 rfl) ?_
    refine lv_bipush (v := 10) X.1 X.2.1 d_K_count_16 (by decide) ?_
    refine lv_isub X.1 X.2.1 d_K_count_18 ?_
    refine r_aalds (q := j) X hM rfl hv11 a_clients (fun _ => rfl) (j := j) hxj (by omega) (w_cl hw hj) d_K_count_19 (fun hv12 => ?_)
    refine r_getr X hM rfl hv12 f_K_173 rfl d_K_count_20 (fun hv13 => ?_)
    refine r_cS (As := [rfv ad 7 (gr M 2 j 2)]) (rest := []) X hml hl.1 hM (k_K_numberOf l D dA base M ad (gr M 2 j 2) hv13) c_K_183 v_K_numberOf rfl (Nat.le_of_ble_eq_true rfl) ⟨rfl, rfl, Nat.le_of_ble_eq_true rfl, Nat.le_of_ble_eq_true rfl⟩ ⟨Nat.le_of_ble_eq_true rfl, Nat.le_of_ble_eq_true rfl⟩ d_K_count_23 ?_
    intro rv M1 ad1 H locs hP hM hE
    obtain ⟨e1, e2, e3⟩ := hP
    subst rv; subst M1; subst ad1
    show W _ _ _ _ _ _ _ _ _ _ _ _ _ _ _ (F0 m 26 ls [.int (num M (gr M 2 j 2))])
    refine vx_ret ?_
    exact m_iret X hr hlk hM d_K_count_26 ⟨Nat.le_of_ble_eq_true rfl, Nat.le_of_ble_eq_true rfl⟩ (mExt_rf _ _) ⟨Or.inl (bn0 h8), congrArg (fun z => some (Value.int z)) (Eq.symm (by unfold ctV; rw [if_pos (bn0 h8), hcl])), rfl, rfl⟩
