set_option maxHeartbeats 4000000 in
set_option maxRecDepth 100000 in
theorem lc_serve {p : Program} {l : Launch} {e : Env} {s : State} {m : MethodId} {below : List Frame} {meth : Method} {c : Code} {H : Heap} {locs : List Loc} {cells slots : Nat} {Q : State → Prop} {ls : Array Slot} {D : va_G} {dA : Nat → ClassId} {base : Nat} {M : mM} {ad : Nat → Nat → Nat} {b L i B : Nat} {xs : Nat → Int32}
    (X : mCx D dA base p s m #[Value.ref b] c code "ScopeKeeperLaw") (hst : l.stackTraces = false) (hml : c.maxLocals = 7) (hN : mN s) (hXs : va_X b L xs s s.heap) (hbl : b < s.heap.size) (hbA : ¬ base ≤ b) (hL : L < 2 ^ 31) (hi6 : i + 6 ≤ L)
    (hM : mSt D dA base M ad s.heap H locs) (hLI : LI M B) (hB : B + 300 < 1000000) (hcs : cells + 8 ≤ 601024 ∧ slots + 40 ≤ 7293034)
    (hl : lv_has ls 7 [(4, .int (nI i)), (3, .ref (ad 17 0)), (2, .ref (ad 18 0)), (1, .ref (ad 0 0)), (0, .ref b)])
    (kk : ∀ (M' : mM) (ad' : Nat → Nat → Nat) (H' : Heap) (locs' : List Loc) (ls' : Array Slot), mSt D dA base M' ad' s.heap H' locs' → LI M' (B + 100) → mExt M ad M' ad' → lv_has ls' 7 [(4, .int (nI i)), (3, .ref (ad 17 0)), (2, .ref (ad 18 0)), (1, .ref (ad 0 0)), (0, .ref b)] → W p l e room_1 s m #[Value.ref b] below meth c H' locs' (cells + 8) (slots + 40) Q (F0 m 981 ls' [])) :
    W p l e room_1 s m #[Value.ref b] below meth c H locs cells slots Q (F0 m 112 ls []) := by
  refine lv_aload_n X.1 X.2.1 d_Lw_law_112 rfl (lv_at hl 3 rfl) ?_
  refine lv_aload_n X.1 X.2.1 d_Lw_law_113 rfl (lv_at hl 4 rfl) ?_
  refine lv_iload X.1 X.2.1 d_Lw_law_114 (lv_at hl 0 rfl) ?_
  refine lv_iconst (v := 1) X.1 X.2.1 d_Lw_law_116 (by decide) ?_
  refine lv_iadd X.1 X.2.1 d_Lw_law_117 ?_
  refine r_sld X hM hXs hbl hbA hL (nI_add i 1) (show i + 1 < L by omega) d_Lw_law_118 ?_
  refine lv_aload_n X.1 X.2.1 d_Lw_law_119 rfl (lv_at hl 4 rfl) ?_
  refine lv_iload X.1 X.2.1 d_Lw_law_120 (lv_at hl 0 rfl) ?_
  refine lv_iconst (v := 2) X.1 X.2.1 d_Lw_law_122 (by decide) ?_
  refine lv_iadd X.1 X.2.1 d_Lw_law_123 ?_
  refine r_sld X hM hXs hbl hbA hL (nI_add i 2) (show i + 2 < L by omega) d_Lw_law_124 ?_
  refine lv_aload_n X.1 X.2.1 d_Lw_law_125 rfl (lv_at hl 4 rfl) ?_
  refine lv_iload X.1 X.2.1 d_Lw_law_126 (lv_at hl 0 rfl) ?_
  refine lv_iconst (v := 3) X.1 X.2.1 d_Lw_law_128 (by decide) ?_
  refine lv_iadd X.1 X.2.1 d_Lw_law_129 ?_
  refine r_sld X hM hXs hbl hbA hL (nI_add i 3) (show i + 3 < L by omega) d_Lw_law_130 ?_
  refine lv_aload_n X.1 X.2.1 d_Lw_law_131 rfl (lv_at hl 4 rfl) ?_
  refine lv_iload X.1 X.2.1 d_Lw_law_132 (lv_at hl 0 rfl) ?_
  refine lv_iconst (v := 4) X.1 X.2.1 d_Lw_law_134 (by decide) ?_
  refine lv_iadd X.1 X.2.1 d_Lw_law_135 ?_
  refine r_sld X hM hXs hbl hbA hL (nI_add i 4) (show i + 4 < L by omega) d_Lw_law_136 ?_
  refine lv_aload_n X.1 X.2.1 d_Lw_law_137 rfl (lv_at hl 4 rfl) ?_
  refine lv_iload X.1 X.2.1 d_Lw_law_138 (lv_at hl 0 rfl) ?_
  refine lv_iconst (v := 5) X.1 X.2.1 d_Lw_law_140 (by decide) ?_
  refine lv_iadd X.1 X.2.1 d_Lw_law_141 ?_
  refine r_sld X hM hXs hbl hbA hL (nI_add i 5) (show i + 5 < L by omega) d_Lw_law_142 ?_
  refine q_serve (a := xs (i + 1)) (k := xs (i + 2)) (b := xs (i + 3)) (f := xs (i + 4)) (d := xs (i + 5)) X hst hml hl.1 hM hN hLI.1 hLI.2.2.2.2 (Nat.le_of_ble_eq_true rfl) ⟨by decide, by decide⟩ ⟨(by dsimp only [room_1]; omega), (by dsimp only [room_1]; omega)⟩ d_Lw_law_143 (fun ad1 H locs hM hE1 => ?_)
  have hg : 0 < gn ((fSv M (xs (i + 1)) (xs (i + 2)) (xs (i + 3)) (xs (i + 4)) (xs (i + 5))).2.2) 17 := Nat.lt_of_lt_of_le hLI.2.2.2.2 (hE1.2 17)
  obtain ⟨ok, hLI1, hR1, hrq, hth⟩ := pl_serve hLI (xs (i + 1)) (xs (i + 2)) (xs (i + 3)) (xs (i + 4)) (xs (i + 5)) hg
  have e18 : ad1 18 0 = ad 18 0 := hE1.1 18 0 hLI.2.2.2.1.1
  have hM : mSt D dA base (rs ((fSv M (xs (i + 1)) (xs (i + 2)) (xs (i + 3)) (xs (i + 4)) (xs (i + 5))).2.2) (rq M)) ad1 s.heap H locs := by rw [← hrq, rs_rq]; exact hM
  refine lv_istore (lv' := [(5, .int (nI (fSv M (xs (i + 1)) (xs (i + 2)) (xs (i + 3)) (xs (i + 4)) (xs (i + 5))).1)), (4, .int (nI i)), (3, .ref (ad 17 0)), (2, .ref (ad 18 0)), (1, .ref (ad 0 0)), (0, .ref b)]) X.1 X.2.1 d_Lw_law_146 hl (by decide) rfl (fun ls hl => ?_)
  refine lv_aload_n X.1 X.2.1 d_Lw_law_148 rfl (lv_at hl 3 rfl) ?_
  refine lv_aload_n X.1 X.2.1 d_Lw_law_149 rfl (lv_at hl 5 rfl) ?_
  refine lv_iload X.1 X.2.1 d_Lw_law_150 (lv_at hl 1 rfl) ?_
  refine lv_iconst (v := 1) X.1 X.2.1 d_Lw_law_152 (by decide) ?_
  refine lv_iadd X.1 X.2.1 d_Lw_law_153 ?_
  refine r_sld X hM hXs hbl hbA hL (nI_add i 1) (show i + 1 < L by omega) d_Lw_law_154 ?_
  refine lv_aload_n X.1 X.2.1 d_Lw_law_155 rfl (lv_at hl 5 rfl) ?_
  refine lv_iload X.1 X.2.1 d_Lw_law_156 (lv_at hl 1 rfl) ?_
  refine lv_iconst (v := 2) X.1 X.2.1 d_Lw_law_158 (by decide) ?_
  refine lv_iadd X.1 X.2.1 d_Lw_law_159 ?_
  refine r_sld X hM hXs hbl hbA hL (nI_add i 2) (show i + 2 < L by omega) d_Lw_law_160 ?_
  refine lv_aload_n X.1 X.2.1 d_Lw_law_161 rfl (lv_at hl 5 rfl) ?_
  refine lv_iload X.1 X.2.1 d_Lw_law_162 (lv_at hl 1 rfl) ?_
  refine lv_iconst (v := 3) X.1 X.2.1 d_Lw_law_164 (by decide) ?_
  refine lv_iadd X.1 X.2.1 d_Lw_law_165 ?_
  refine r_sld X hM hXs hbl hbA hL (nI_add i 3) (show i + 3 < L by omega) d_Lw_law_166 ?_
  refine lv_aload_n X.1 X.2.1 d_Lw_law_167 rfl (lv_at hl 5 rfl) ?_
  refine lv_iload X.1 X.2.1 d_Lw_law_168 (lv_at hl 1 rfl) ?_
  refine lv_iconst (v := 4) X.1 X.2.1 d_Lw_law_170 (by decide) ?_
  refine lv_iadd X.1 X.2.1 d_Lw_law_171 ?_
  refine r_sld X hM hXs hbl hbA hL (nI_add i 4) (show i + 4 < L by omega) d_Lw_law_172 ?_
  refine lv_aload_n X.1 X.2.1 d_Lw_law_173 rfl (lv_at hl 5 rfl) ?_
  refine lv_iload X.1 X.2.1 d_Lw_law_174 (lv_at hl 1 rfl) ?_
  refine lv_iconst (v := 5) X.1 X.2.1 d_Lw_law_176 (by decide) ?_
  refine lv_iadd X.1 X.2.1 d_Lw_law_177 ?_
  refine r_sld X hM hXs hbl hbA hL (nI_add i 5) (show i + 5 < L by omega) d_Lw_law_178 ?_
  have hC9 := k_Md_serve l D dA base ((fSv M (xs (i + 1)) (xs (i + 2)) (xs (i + 3)) (xs (i + 4)) (xs (i + 5))).2.2) ad1 hR1 (rq M) (xs (i + 1)) (xs (i + 2)) (xs (i + 3)) (xs (i + 4)) (xs (i + 5)) ok
  rw [e18] at hC9
  refine r_cV (As := [.int (xs (i + 1)), .int (xs (i + 2)), .int (xs (i + 3)), .int (xs (i + 4)), .int (xs (i + 5))]) (rest := []) X hml hl.1 hM hC9 c_Lw_71 v_Md_serve kc_Md e18 hR1.1 rfl (Nat.le_of_ble_eq_true rfl) ⟨rfl, rfl, Nat.le_of_ble_eq_true rfl, Nat.le_of_ble_eq_true rfl⟩ ⟨(by dsimp only [room_1]; omega), (by dsimp only [room_1]; omega)⟩ d_Lw_law_179 ?_
  intro rv M9 ad9 H locs hP hM hE9
  obtain ⟨e1, e2, e3⟩ := hP
  subst rv; subst M9; subst ad9
  show W _ _ _ _ _ _ _ _ _ _ _ _ _ _ _ (F0 m 182 ls [])
  refine lv_aload_n X.1 X.2.1 d_Lw_law_182 rfl (lv_at hl 3 rfl) ?_
  have hC9 := k_Md_thrown l D dA base ((fSv M (xs (i + 1)) (xs (i + 2)) (xs (i + 3)) (xs (i + 4)) (xs (i + 5))).2.2) ad1 hR1 (m_serve (rq M) (xs (i + 1)) (xs (i + 2)) (xs (i + 3)) (xs (i + 4)) (xs (i + 5)))
  rw [e18] at hC9
  refine r_cV (As := []) (rest := []) X hml hl.1 hM hC9 c_Lw_72 v_Md_thrown kc_Md e18 hR1.1 rfl (Nat.le_of_ble_eq_true rfl) ⟨rfl, rfl, Nat.le_of_ble_eq_true rfl, Nat.le_of_ble_eq_true rfl⟩ ⟨(by dsimp only [room_1]; omega), (by dsimp only [room_1]; omega)⟩ d_Lw_law_183 ?_
  intro rv M9 ad9 H locs hP hM hE9
  obtain ⟨e1, e2, e3⟩ := hP
  subst rv; subst M9; subst ad9
  show W _ _ _ _ _ _ _ _ _ _ _ _ _ _ _ (F0 m 186 ls [.int (m_thrown (m_serve (rq M) (xs (i + 1)) (xs (i + 2)) (xs (i + 3)) (xs (i + 4)) (xs (i + 5))))])
  refine lv_iload X.1 X.2.1 d_Lw_law_186 (lv_at hl 0 rfl) ?_
  refine lv_icmp_eq (tgt := 193) X.1 X.2.1 d_Lw_law_188 (by decide) (fun hc1 => ?_) (fun hc1 => absurd hth hc1)
  refine lv_goto (tgt := 981) X.1 X.2.1 d_Lw_law_193 (by decide) ?_
  exact kk _ ad1 _ _ ls hM hLI1 ⟨hE1.1, fun a => hE1.2 a⟩ (lv_sub hl [1, 2, 3, 4, 5] rfl)
set_option maxHeartbeats 4000000 in
set_option maxRecDepth 100000 in
theorem lc_network {p : Program} {l : Launch} {e : Env} {s : State} {m : MethodId} {below : List Frame} {meth : Method} {c : Code} {H : Heap} {locs : List Loc} {cells slots : Nat} {Q : State → Prop} {ls : Array Slot} {D : va_G} {dA : Nat → ClassId} {base : Nat} {M : mM} {ad : Nat → Nat → Nat} {b L i B : Nat} {xs : Nat → Int32}
    (X : mCx D dA base p s m #[Value.ref b] c code "ScopeKeeperLaw") (hst : l.stackTraces = false) (hml : c.maxLocals = 7) (hN : mN s) (hXs : va_X b L xs s s.heap) (hbl : b < s.heap.size) (hbA : ¬ base ≤ b) (hL : L < 2 ^ 31) (hi6 : i + 6 ≤ L)
    (hM : mSt D dA base M ad s.heap H locs) (hLI : LI M B) (hB : B + 300 < 1000000) (hcs : cells + 8 ≤ 601024 ∧ slots + 40 ≤ 7293034)
    (hl : lv_has ls 7 [(4, .int (nI i)), (3, .ref (ad 17 0)), (2, .ref (ad 18 0)), (1, .ref (ad 0 0)), (0, .ref b)])
    (kk : ∀ (M' : mM) (ad' : Nat → Nat → Nat) (H' : Heap) (locs' : List Loc) (ls' : Array Slot), mSt D dA base M' ad' s.heap H' locs' → LI M' (B + 100) → mExt M ad M' ad' → lv_has ls' 7 [(4, .int (nI i)), (3, .ref (ad 17 0)), (2, .ref (ad 18 0)), (1, .ref (ad 0 0)), (0, .ref b)] → W p l e room_1 s m #[Value.ref b] below meth c H' locs' (cells + 8) (slots + 40) Q (F0 m 981 ls' [])) :
    W p l e room_1 s m #[Value.ref b] below meth c H locs cells slots Q (F0 m 196 ls []) := by
  refine lv_aload_n X.1 X.2.1 d_Lw_law_196 rfl (lv_at hl 3 rfl) ?_
  refine lv_aload_n X.1 X.2.1 d_Lw_law_197 rfl (lv_at hl 4 rfl) ?_
  refine lv_iload X.1 X.2.1 d_Lw_law_198 (lv_at hl 0 rfl) ?_
  refine lv_iconst (v := 1) X.1 X.2.1 d_Lw_law_200 (by decide) ?_
  refine lv_iadd X.1 X.2.1 d_Lw_law_201 ?_
  refine r_sld X hM hXs hbl hbA hL (nI_add i 1) (show i + 1 < L by omega) d_Lw_law_202 ?_
  have hw1 := hLI.1.2.2.2.2.2.2
  refine lv_if_eq (tgt := 210) X.1 X.2.1 d_Lw_law_203 (by decide) (fun hu => ?_) (fun hu => ?_)
  · skip
    refine lv_iconst (v := 0) X.1 X.2.1 d_Lw_law_210 (by decide) ?_
    refine lv_aload_n X.1 X.2.1 d_Lw_law_211 rfl (lv_at hl 4 rfl) ?_
    refine lv_iload X.1 X.2.1 d_Lw_law_212 (lv_at hl 0 rfl) ?_
    refine lv_iconst (v := 2) X.1 X.2.1 d_Lw_law_214 (by decide) ?_
    refine lv_iadd X.1 X.2.1 d_Lw_law_215 ?_
    refine r_sld X hM hXs hbl hbA hL (nI_add i 2) (show i + 2 < L by omega) d_Lw_law_216 ?_
    refine r_cV (As := [.int 0, .int (xs (i + 2))]) (rest := []) X hml hl.1 hM (k_K_network l D dA base M ad hLI.1.1 0 (xs (i + 2)) (Or.inl rfl) hLI.1.2.2.2.2.2.2) c_Lw_76 v_K_network kc_K rfl (w_k hLI.1.1) rfl (Nat.le_of_ble_eq_true rfl) ⟨rfl, rfl, Nat.le_of_ble_eq_true rfl, Nat.le_of_ble_eq_true rfl⟩ ⟨(by dsimp only [room_1]; omega), (by dsimp only [room_1]; omega)⟩ d_Lw_law_217 ?_
    intro rv M9 ad9 H locs hP hM hE9
    obtain ⟨e1, e2, e3⟩ := hP
    subst rv; subst M9; subst ad9
    show W _ _ _ _ _ _ _ _ _ _ _ _ _ _ _ (F0 m 220 ls [.int (gi M 0 0 1)])
    obtain ⟨hv, hLI1, hrq⟩ := pl_network hLI 0 (xs (i + 2)) (Or.inl rfl)
    have hR1 : wR (si (si M 0 0 1 0) 0 0 2 (xs (i + 2))) := hLI.2.2.2.1
    have e18 : ad 18 0 = ad 18 0 := rfl
    have hM : mSt D dA base (rs (si (si M 0 0 1 0) 0 0 2 (xs (i + 2))) (rq M)) ad s.heap H locs := by rw [← hrq, rs_rq]; exact hM
    refine lv_aload_n X.1 X.2.1 d_Lw_law_220 rfl (lv_at hl 2 rfl) ?_
    refine lv_aload_n X.1 X.2.1 d_Lw_law_221 rfl (lv_at hl 4 rfl) ?_
    refine lv_iload X.1 X.2.1 d_Lw_law_222 (lv_at hl 0 rfl) ?_
    refine lv_iconst (v := 1) X.1 X.2.1 d_Lw_law_224 (by decide) ?_
    refine lv_iadd X.1 X.2.1 d_Lw_law_225 ?_
    refine r_sld X hM hXs hbl hbA hL (nI_add i 1) (show i + 1 < L by omega) d_Lw_law_226 ?_
    refine lv_if_eq (tgt := 234) X.1 X.2.1 d_Lw_law_227 (by decide) (fun hu2 => ?_) (fun hu2 => absurd hu hu2)
    refine lv_iconst (v := 0) X.1 X.2.1 d_Lw_law_234 (by decide) ?_
    refine lv_aload_n X.1 X.2.1 d_Lw_law_235 rfl (lv_at hl 4 rfl) ?_
    refine lv_iload X.1 X.2.1 d_Lw_law_236 (lv_at hl 0 rfl) ?_
    refine lv_iconst (v := 2) X.1 X.2.1 d_Lw_law_238 (by decide) ?_
    refine lv_iadd X.1 X.2.1 d_Lw_law_239 ?_
    refine r_sld X hM hXs hbl hbA hL (nI_add i 2) (show i + 2 < L by omega) d_Lw_law_240 ?_
    refine r_cV (As := [.int 0, .int (xs (i + 2))]) (rest := [.int (gi M 0 0 1)]) X hml hl.1 hM (k_Md_network l D dA base (si (si M 0 0 1 0) 0 0 2 (xs (i + 2))) ad hR1 (rq M) 0 (xs (i + 2))) c_Lw_80 v_Md_network kc_Md rfl hR1.1 rfl (Nat.le_of_ble_eq_true rfl) ⟨rfl, rfl, Nat.le_of_ble_eq_true rfl, Nat.le_of_ble_eq_true rfl⟩ ⟨(by dsimp only [room_1]; omega), (by dsimp only [room_1]; omega)⟩ d_Lw_law_241 ?_
    intro rv M9 ad9 H locs hP hM hE9
    obtain ⟨e1, e2, e3⟩ := hP
    subst rv; subst M9; subst ad9
    show W _ _ _ _ _ _ _ _ _ _ _ _ _ _ _ (F0 m 244 ls [.int (m_network (rq M) 0 (xs (i + 2))).1, .int (gi M 0 0 1)])
    refine lv_icmp_eq (tgt := 981) X.1 X.2.1 d_Lw_law_244 (by decide) (fun hc1 => ?_) (fun hc1 => absurd hv.symm hc1)
    exact W.widen (by omega) (by omega) (kk _ ad _ _ ls hM hLI1 ⟨fun _ _ _ => rfl, fun _ => Nat.le_refl _⟩ hl)
  · skip
    refine lv_iconst (v := 1) X.1 X.2.1 d_Lw_law_206 (by decide) ?_
    refine lv_goto (tgt := 211) X.1 X.2.1 d_Lw_law_207 (by decide) ?_
    refine lv_aload_n X.1 X.2.1 d_Lw_law_211 rfl (lv_at hl 4 rfl) ?_
    refine lv_iload X.1 X.2.1 d_Lw_law_212 (lv_at hl 0 rfl) ?_
    refine lv_iconst (v := 2) X.1 X.2.1 d_Lw_law_214 (by decide) ?_
    refine lv_iadd X.1 X.2.1 d_Lw_law_215 ?_
    refine r_sld X hM hXs hbl hbA hL (nI_add i 2) (show i + 2 < L by omega) d_Lw_law_216 ?_
    refine r_cV (As := [.int 1, .int (xs (i + 2))]) (rest := []) X hml hl.1 hM (k_K_network l D dA base M ad hLI.1.1 1 (xs (i + 2)) (Or.inr rfl) hLI.1.2.2.2.2.2.2) c_Lw_76 v_K_network kc_K rfl (w_k hLI.1.1) rfl (Nat.le_of_ble_eq_true rfl) ⟨rfl, rfl, Nat.le_of_ble_eq_true rfl, Nat.le_of_ble_eq_true rfl⟩ ⟨(by dsimp only [room_1]; omega), (by dsimp only [room_1]; omega)⟩ d_Lw_law_217 ?_
    intro rv M9 ad9 H locs hP hM hE9
    obtain ⟨e1, e2, e3⟩ := hP
    subst rv; subst M9; subst ad9
    show W _ _ _ _ _ _ _ _ _ _ _ _ _ _ _ (F0 m 220 ls [.int (gi M 0 0 1)])
    obtain ⟨hv, hLI1, hrq⟩ := pl_network hLI 1 (xs (i + 2)) (Or.inr rfl)
    have hR1 : wR (si (si M 0 0 1 1) 0 0 2 (xs (i + 2))) := hLI.2.2.2.1
    have e18 : ad 18 0 = ad 18 0 := rfl
    have hM : mSt D dA base (rs (si (si M 0 0 1 1) 0 0 2 (xs (i + 2))) (rq M)) ad s.heap H locs := by rw [← hrq, rs_rq]; exact hM
    refine lv_aload_n X.1 X.2.1 d_Lw_law_220 rfl (lv_at hl 2 rfl) ?_
    refine lv_aload_n X.1 X.2.1 d_Lw_law_221 rfl (lv_at hl 4 rfl) ?_
    refine lv_iload X.1 X.2.1 d_Lw_law_222 (lv_at hl 0 rfl) ?_
    refine lv_iconst (v := 1) X.1 X.2.1 d_Lw_law_224 (by decide) ?_
    refine lv_iadd X.1 X.2.1 d_Lw_law_225 ?_
    refine r_sld X hM hXs hbl hbA hL (nI_add i 1) (show i + 1 < L by omega) d_Lw_law_226 ?_
    refine lv_if_eq (tgt := 234) X.1 X.2.1 d_Lw_law_227 (by decide) (fun hu2 => absurd hu2 hu) (fun hu2 => ?_)
    refine lv_iconst (v := 1) X.1 X.2.1 d_Lw_law_230 (by decide) ?_
    refine lv_goto (tgt := 235) X.1 X.2.1 d_Lw_law_231 (by decide) ?_
    refine lv_aload_n X.1 X.2.1 d_Lw_law_235 rfl (lv_at hl 4 rfl) ?_
    refine lv_iload X.1 X.2.1 d_Lw_law_236 (lv_at hl 0 rfl) ?_
    refine lv_iconst (v := 2) X.1 X.2.1 d_Lw_law_238 (by decide) ?_
    refine lv_iadd X.1 X.2.1 d_Lw_law_239 ?_
    refine r_sld X hM hXs hbl hbA hL (nI_add i 2) (show i + 2 < L by omega) d_Lw_law_240 ?_
    refine r_cV (As := [.int 1, .int (xs (i + 2))]) (rest := [.int (gi M 0 0 1)]) X hml hl.1 hM (k_Md_network l D dA base (si (si M 0 0 1 1) 0 0 2 (xs (i + 2))) ad hR1 (rq M) 1 (xs (i + 2))) c_Lw_80 v_Md_network kc_Md rfl hR1.1 rfl (Nat.le_of_ble_eq_true rfl) ⟨rfl, rfl, Nat.le_of_ble_eq_true rfl, Nat.le_of_ble_eq_true rfl⟩ ⟨(by dsimp only [room_1]; omega), (by dsimp only [room_1]; omega)⟩ d_Lw_law_241 ?_
    intro rv M9 ad9 H locs hP hM hE9
    obtain ⟨e1, e2, e3⟩ := hP
    subst rv; subst M9; subst ad9
    show W _ _ _ _ _ _ _ _ _ _ _ _ _ _ _ (F0 m 244 ls [.int (m_network (rq M) 1 (xs (i + 2))).1, .int (gi M 0 0 1)])
    refine lv_icmp_eq (tgt := 981) X.1 X.2.1 d_Lw_law_244 (by decide) (fun hc1 => ?_) (fun hc1 => absurd hv.symm hc1)
    exact W.widen (by omega) (by omega) (kk _ ad _ _ ls hM hLI1 ⟨fun _ _ _ => rfl, fun _ => Nat.le_refl _⟩ hl)
set_option maxHeartbeats 4000000 in
set_option maxRecDepth 100000 in
theorem lc_job {p : Program} {l : Launch} {e : Env} {s : State} {m : MethodId} {below : List Frame} {meth : Method} {c : Code} {H : Heap} {locs : List Loc} {cells slots : Nat} {Q : State → Prop} {ls : Array Slot} {D : va_G} {dA : Nat → ClassId} {base : Nat} {M : mM} {ad : Nat → Nat → Nat} {b L i B : Nat} {xs : Nat → Int32}
    (X : mCx D dA base p s m #[Value.ref b] c code "ScopeKeeperLaw") (hst : l.stackTraces = false) (hml : c.maxLocals = 7) (hN : mN s) (hXs : va_X b L xs s s.heap) (hbl : b < s.heap.size) (hbA : ¬ base ≤ b) (hL : L < 2 ^ 31) (hi6 : i + 6 ≤ L)
    (hM : mSt D dA base M ad s.heap H locs) (hLI : LI M B) (hB : B + 300 < 1000000) (hcs : cells + 8 ≤ 601024 ∧ slots + 40 ≤ 7293034)
    (hl : lv_has ls 7 [(4, .int (nI i)), (3, .ref (ad 17 0)), (2, .ref (ad 18 0)), (1, .ref (ad 0 0)), (0, .ref b)])
    (kk : ∀ (M' : mM) (ad' : Nat → Nat → Nat) (H' : Heap) (locs' : List Loc) (ls' : Array Slot), mSt D dA base M' ad' s.heap H' locs' → LI M' (B + 100) → mExt M ad M' ad' → lv_has ls' 7 [(4, .int (nI i)), (3, .ref (ad 17 0)), (2, .ref (ad 18 0)), (1, .ref (ad 0 0)), (0, .ref b)] → W p l e room_1 s m #[Value.ref b] below meth c H' locs' (cells + 8) (slots + 40) Q (F0 m 981 ls' [])) :
    W p l e room_1 s m #[Value.ref b] below meth c H locs cells slots Q (F0 m 249 ls []) := by
  refine lv_aload_n X.1 X.2.1 d_Lw_law_249 rfl (lv_at hl 3 rfl) ?_
  refine lv_aload_n X.1 X.2.1 d_Lw_law_250 rfl (lv_at hl 4 rfl) ?_
  refine lv_iload X.1 X.2.1 d_Lw_law_251 (lv_at hl 0 rfl) ?_
  refine lv_iconst (v := 1) X.1 X.2.1 d_Lw_law_253 (by decide) ?_
  refine lv_iadd X.1 X.2.1 d_Lw_law_254 ?_
  refine r_sld X hM hXs hbl hbA hL (nI_add i 1) (show i + 1 < L by omega) d_Lw_law_255 ?_
  refine lv_aload_n X.1 X.2.1 d_Lw_law_256 rfl (lv_at hl 4 rfl) ?_
  refine lv_iload X.1 X.2.1 d_Lw_law_257 (lv_at hl 0 rfl) ?_
  refine lv_iconst (v := 2) X.1 X.2.1 d_Lw_law_259 (by decide) ?_
  refine lv_iadd X.1 X.2.1 d_Lw_law_260 ?_
  refine r_sld X hM hXs hbl hbA hL (nI_add i 2) (show i + 2 < L by omega) d_Lw_law_261 ?_
  refine lv_aload_n X.1 X.2.1 d_Lw_law_262 rfl (lv_at hl 4 rfl) ?_
  refine lv_iload X.1 X.2.1 d_Lw_law_263 (lv_at hl 0 rfl) ?_
  refine lv_iconst (v := 3) X.1 X.2.1 d_Lw_law_265 (by decide) ?_
  refine lv_iadd X.1 X.2.1 d_Lw_law_266 ?_
  refine r_sld X hM hXs hbl hbA hL (nI_add i 3) (show i + 3 < L by omega) d_Lw_law_267 ?_
  refine lv_aload_n X.1 X.2.1 d_Lw_law_268 rfl (lv_at hl 1 rfl) ?_
  refine q_job (kd := xs (i + 1)) (x := xs (i + 2)) (s0 := xs (i + 3)) X hst hml hl.1 hM hN hLI.1 hLI.2.2.2.2 (Nat.le_of_ble_eq_true rfl) ⟨by decide, by decide⟩ ⟨(by dsimp only [room_1]; omega), (by dsimp only [room_1]; omega)⟩ d_Lw_law_269 (fun ad1 H locs hM hE1 => ?_)
  have hg : 0 < gn (outM M (fJb M (xs (i + 1)) (xs (i + 2)) (xs (i + 3)))) 17 := Nat.lt_of_lt_of_le hLI.2.2.2.2 (hE1.2 17)
  obtain ⟨ok, hv, hLI1, hR1, hrq, hth⟩ := pl_job hLI hB (xs (i + 1)) (xs (i + 2)) (xs (i + 3)) hg
  have e18 : ad1 18 0 = ad 18 0 := hE1.1 18 0 hLI.2.2.2.1.1
  have hM : mSt D dA base (rs (outM M (fJb M (xs (i + 1)) (xs (i + 2)) (xs (i + 3)))) (rq M)) ad1 s.heap H locs := by rw [← hrq, rs_rq]; exact hM
  refine lv_istore (lv' := [(5, .int (nI (fJb M (xs (i + 1)) (xs (i + 2)) (xs (i + 3))).1)), (4, .int (nI i)), (3, .ref (ad 17 0)), (2, .ref (ad 18 0)), (1, .ref (ad 0 0)), (0, .ref b)]) X.1 X.2.1 d_Lw_law_272 hl (by decide) rfl (fun ls hl => ?_)
  refine lv_aload_n X.1 X.2.1 d_Lw_law_274 rfl (lv_at hl 3 rfl) ?_
  refine lv_aload_n X.1 X.2.1 d_Lw_law_275 rfl (lv_at hl 5 rfl) ?_
  refine lv_iload X.1 X.2.1 d_Lw_law_276 (lv_at hl 1 rfl) ?_
  refine lv_iconst (v := 1) X.1 X.2.1 d_Lw_law_278 (by decide) ?_
  refine lv_iadd X.1 X.2.1 d_Lw_law_279 ?_
  refine r_sld X hM hXs hbl hbA hL (nI_add i 1) (show i + 1 < L by omega) d_Lw_law_280 ?_
  refine lv_aload_n X.1 X.2.1 d_Lw_law_281 rfl (lv_at hl 5 rfl) ?_
  refine lv_iload X.1 X.2.1 d_Lw_law_282 (lv_at hl 1 rfl) ?_
  refine lv_iconst (v := 2) X.1 X.2.1 d_Lw_law_284 (by decide) ?_
  refine lv_iadd X.1 X.2.1 d_Lw_law_285 ?_
  refine r_sld X hM hXs hbl hbA hL (nI_add i 2) (show i + 2 < L by omega) d_Lw_law_286 ?_
  refine lv_aload_n X.1 X.2.1 d_Lw_law_287 rfl (lv_at hl 5 rfl) ?_
  refine lv_iload X.1 X.2.1 d_Lw_law_288 (lv_at hl 1 rfl) ?_
  refine lv_iconst (v := 3) X.1 X.2.1 d_Lw_law_290 (by decide) ?_
  refine lv_iadd X.1 X.2.1 d_Lw_law_291 ?_
  refine r_sld X hM hXs hbl hbA hL (nI_add i 3) (show i + 3 < L by omega) d_Lw_law_292 ?_
  have hC9 := k_Md_job l D dA base (outM M (fJb M (xs (i + 1)) (xs (i + 2)) (xs (i + 3)))) ad1 hR1 (rq M) (xs (i + 1)) (xs (i + 2)) (xs (i + 3)) ok
  rw [e18] at hC9
  refine r_cV (As := [.int (xs (i + 1)), .int (xs (i + 2)), .int (xs (i + 3))]) (rest := []) X hml hl.1 hM hC9 c_Lw_84 v_Md_job kc_Md e18 hR1.1 rfl (Nat.le_of_ble_eq_true rfl) ⟨rfl, rfl, Nat.le_of_ble_eq_true rfl, Nat.le_of_ble_eq_true rfl⟩ ⟨(by dsimp only [room_1]; omega), (by dsimp only [room_1]; omega)⟩ d_Lw_law_293 ?_
  intro rv M9 ad9 H locs hP hM hE9
  obtain ⟨e1, e2, e3⟩ := hP
  subst rv; subst M9; subst ad9
  show W _ _ _ _ _ _ _ _ _ _ _ _ _ _ _ (F0 m 296 ls [.int (m_job (rq M) (xs (i + 1)) (xs (i + 2)) (xs (i + 3))).1])
  refine lv_istore (lv' := [(6, .int (m_job (rq M) (xs (i + 1)) (xs (i + 2)) (xs (i + 3))).1), (5, .int (nI (fJb M (xs (i + 1)) (xs (i + 2)) (xs (i + 3))).1)), (4, .int (nI i)), (3, .ref (ad 17 0)), (2, .ref (ad 18 0)), (1, .ref (ad 0 0)), (0, .ref b)]) X.1 X.2.1 d_Lw_law_296 hl (by decide) rfl (fun ls hl => ?_)
  refine lv_aload_n X.1 X.2.1 d_Lw_law_298 rfl (lv_at hl 4 rfl) ?_
  have hC9 := k_Md_thrown l D dA base (outM M (fJb M (xs (i + 1)) (xs (i + 2)) (xs (i + 3)))) ad1 hR1 ((m_job (rq M) (xs (i + 1)) (xs (i + 2)) (xs (i + 3))).2)
  rw [e18] at hC9
  refine r_cV (As := []) (rest := []) X hml hl.1 hM hC9 c_Lw_72 v_Md_thrown kc_Md e18 hR1.1 rfl (Nat.le_of_ble_eq_true rfl) ⟨rfl, rfl, Nat.le_of_ble_eq_true rfl, Nat.le_of_ble_eq_true rfl⟩ ⟨(by dsimp only [room_1]; omega), (by dsimp only [room_1]; omega)⟩ d_Lw_law_299 ?_
  intro rv M9 ad9 H locs hP hM hE9
  obtain ⟨e1, e2, e3⟩ := hP
  subst rv; subst M9; subst ad9
  show W _ _ _ _ _ _ _ _ _ _ _ _ _ _ _ (F0 m 302 ls [.int (m_thrown ((m_job (rq M) (xs (i + 1)) (xs (i + 2)) (xs (i + 3))).2))])
  refine lv_iload X.1 X.2.1 d_Lw_law_302 (lv_at hl 1 rfl) ?_
  refine lv_icmp_eq (tgt := 309) X.1 X.2.1 d_Lw_law_304 (by decide) (fun hc1 => ?_) (fun hc1 => absurd hth hc1)
  refine lv_iload X.1 X.2.1 d_Lw_law_309 (lv_at hl 1 rfl) ?_
  refine lv_if_ne (tgt := 326) X.1 X.2.1 d_Lw_law_311 (by decide) (fun hc2 => ?_) (fun hc2 => ?_)
  · skip
    refine lv_goto (tgt := 981) X.1 X.2.1 d_Lw_law_326 (by decide) ?_
    exact kk _ ad1 _ _ ls hM hLI1 ⟨hE1.1, fun a => hE1.2 a⟩ (lv_sub hl [2, 3, 4, 5, 6] rfl)
  · have hF0 : (fJb M (xs (i + 1)) (xs (i + 2)) (xs (i + 3))).1 = 0 := (nI_eq (b := 0) (Nat.lt_trans (fJb_b M _ _ _) (by decide)) (by decide)).mp hc2
    refine lv_aload_n X.1 X.2.1 d_Lw_law_314 rfl (lv_at hl 3 rfl) ?_
    refine lv_iconst (v := 0) X.1 X.2.1 d_Lw_law_315 (by decide) ?_
    refine r_lald X hM (hE1.1 17 0 hLI.2.2.2.2) hg a_out (fun _ => rfl) (j := 0) rfl (by decide) d_Lw_law_316 ?_
    refine lv_iload X.1 X.2.1 d_Lw_law_317 (lv_at hl 0 rfl) ?_
    refine lv_i2l X.1 X.2.1 d_Lw_law_319 rfl ?_
    refine W.lcmp X.1 X.2.1 d_Lw_law_320 ?_
    refine lv_if_eq (tgt := 326) X.1 X.2.1 d_Lw_law_321 (by decide) (fun hc3 => ?_) (fun hc3 => absurd ((lg_cmp_eq _ _).mpr (by rw [out_gl hF0, hv hF0])) hc3)
    refine lv_goto (tgt := 981) X.1 X.2.1 d_Lw_law_326 (by decide) ?_
    exact kk _ ad1 _ _ ls hM hLI1 ⟨hE1.1, fun a => hE1.2 a⟩ (lv_sub hl [2, 3, 4, 5, 6] rfl)
