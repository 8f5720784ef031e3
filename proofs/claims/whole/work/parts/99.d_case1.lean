set_option maxHeartbeats 4000000 in
set_option maxRecDepth 100000 in
theorem lc_step {p : Program} {l : Launch} {e : Env} {s : State} {m : MethodId} {below : List Frame} {meth : Method} {c : Code} {H : Heap} {locs : List Loc} {cells slots : Nat} {Q : State → Prop} {ls : Array Slot} {D : va_G} {dA : Nat → ClassId} {base : Nat} {M : mM} {ad : Nat → Nat → Nat} {b L i B : Nat} {xs : Nat → Int32}
    (X : mCx D dA base p s m #[Value.ref b] c code "ScopeKeeperLaw") (hst : l.stackTraces = false) (hml : c.maxLocals = 7) (hN : mN s) (hXs : va_X b L xs s s.heap) (hbl : b < s.heap.size) (hbA : ¬ base ≤ b) (hL : L < 2 ^ 31) (hi6 : i + 6 ≤ L)
    (hM : mSt D dA base M ad s.heap H locs) (hLI : LI M B) (hB : B + 300 < 1000000) (hcs : cells + 8 ≤ 601024 ∧ slots + 40 ≤ 7293034)
    (hl : lv_has ls 7 [(4, .int (nI i)), (3, .ref (ad 17 0)), (2, .ref (ad 18 0)), (1, .ref (ad 0 0)), (0, .ref b)])
    (kk : ∀ (M' : mM) (ad' : Nat → Nat → Nat) (H' : Heap) (locs' : List Loc) (ls' : Array Slot), mSt D dA base M' ad' s.heap H' locs' → LI M' (B + 100) → mExt M ad M' ad' → lv_has ls' 7 [(4, .int (nI i)), (3, .ref (ad 17 0)), (2, .ref (ad 18 0)), (1, .ref (ad 0 0)), (0, .ref b)] → W p l e room_1 s m #[Value.ref b] below meth c H' locs' (cells + 8) (slots + 40) Q (F0 m 981 ls' [])) :
    W p l e room_1 s m #[Value.ref b] below meth c H locs cells slots Q (F0 m 329 ls []) := by
  refine lv_aload_n X.1 X.2.1 d_Lw_law_329 rfl (lv_at hl 3 rfl) ?_
  refine lv_aload_n X.1 X.2.1 d_Lw_law_330 rfl (lv_at hl 4 rfl) ?_
  refine lv_iload X.1 X.2.1 d_Lw_law_331 (lv_at hl 0 rfl) ?_
  refine lv_iconst (v := 1) X.1 X.2.1 d_Lw_law_333 (by decide) ?_
  refine lv_iadd X.1 X.2.1 d_Lw_law_334 ?_
  refine r_sld X hM hXs hbl hbA hL (nI_add i 1) (show i + 1 < L by omega) d_Lw_law_335 ?_
  refine lv_aload_n X.1 X.2.1 d_Lw_law_336 rfl (lv_at hl 1 rfl) ?_
  refine q_step (x := xs (i + 1)) X hst hml hl.1 hM hN hLI.1 hLI.2.2.2.2 (Nat.le_of_ble_eq_true rfl) ⟨by decide, by decide⟩ ⟨(by dsimp only [room_1]; omega), (by dsimp only [room_1]; omega)⟩ d_Lw_law_337 (fun ad1 H locs hM hE1 => ?_)
  have hg : 0 < gn (outM M (fSp M (xs (i + 1)))) 17 := Nat.lt_of_lt_of_le hLI.2.2.2.2 (hE1.2 17)
  obtain ⟨ok, hv, hLI1, hR1, hrq, hth⟩ := pl_step hLI hB (xs (i + 1)) hg
  have e18 : ad1 18 0 = ad 18 0 := hE1.1 18 0 hLI.2.2.2.1.1
  have hM : mSt D dA base (rs (outM M (fSp M (xs (i + 1)))) (rq M)) ad1 s.heap H locs := by rw [← hrq, rs_rq]; exact hM
  refine lv_istore (lv' := [(5, .int (nI (fSp M (xs (i + 1))).1)), (4, .int (nI i)), (3, .ref (ad 17 0)), (2, .ref (ad 18 0)), (1, .ref (ad 0 0)), (0, .ref b)]) X.1 X.2.1 d_Lw_law_340 hl (by decide) rfl (fun ls hl => ?_)
  refine lv_aload_n X.1 X.2.1 d_Lw_law_342 rfl (lv_at hl 3 rfl) ?_
  refine lv_aload_n X.1 X.2.1 d_Lw_law_343 rfl (lv_at hl 5 rfl) ?_
  refine lv_iload X.1 X.2.1 d_Lw_law_344 (lv_at hl 1 rfl) ?_
  refine lv_iconst (v := 1) X.1 X.2.1 d_Lw_law_346 (by decide) ?_
  refine lv_iadd X.1 X.2.1 d_Lw_law_347 ?_
  refine r_sld X hM hXs hbl hbA hL (nI_add i 1) (show i + 1 < L by omega) d_Lw_law_348 ?_
  have hC9 := k_Md_step l D dA base (outM M (fSp M (xs (i + 1)))) ad1 hR1 (rq M) (xs (i + 1)) ok
  rw [e18] at hC9
  refine r_cV (As := [.int (xs (i + 1))]) (rest := []) X hml hl.1 hM hC9 c_Lw_88 v_Md_step kc_Md e18 hR1.1 rfl (Nat.le_of_ble_eq_true rfl) ⟨rfl, rfl, Nat.le_of_ble_eq_true rfl, Nat.le_of_ble_eq_true rfl⟩ ⟨(by dsimp only [room_1]; omega), (by dsimp only [room_1]; omega)⟩ d_Lw_law_349 ?_
  intro rv M9 ad9 H locs hP hM hE9
  obtain ⟨e1, e2, e3⟩ := hP
  subst rv; subst M9; subst ad9
  show W _ _ _ _ _ _ _ _ _ _ _ _ _ _ _ (F0 m 352 ls [.int (m_step (rq M) (xs (i + 1))).1])
  refine lv_istore (lv' := [(6, .int (m_step (rq M) (xs (i + 1))).1), (5, .int (nI (fSp M (xs (i + 1))).1)), (4, .int (nI i)), (3, .ref (ad 17 0)), (2, .ref (ad 18 0)), (1, .ref (ad 0 0)), (0, .ref b)]) X.1 X.2.1 d_Lw_law_352 hl (by decide) rfl (fun ls hl => ?_)
  refine lv_aload_n X.1 X.2.1 d_Lw_law_354 rfl (lv_at hl 4 rfl) ?_
  have hC9 := k_Md_thrown l D dA base (outM M (fSp M (xs (i + 1)))) ad1 hR1 ((m_step (rq M) (xs (i + 1))).2)
  rw [e18] at hC9
  refine r_cV (As := []) (rest := []) X hml hl.1 hM hC9 c_Lw_72 v_Md_thrown kc_Md e18 hR1.1 rfl (Nat.le_of_ble_eq_true rfl) ⟨rfl, rfl, Nat.le_of_ble_eq_true rfl, Nat.le_of_ble_eq_true rfl⟩ ⟨(by dsimp only [room_1]; omega), (by dsimp only [room_1]; omega)⟩ d_Lw_law_355 ?_
  intro rv M9 ad9 H locs hP hM hE9
  obtain ⟨e1, e2, e3⟩ := hP
  subst rv; subst M9; subst ad9
  show W _ _ _ _ _ _ _ _ _ _ _ _ _ _ _ (F0 m 358 ls [.int (m_thrown ((m_step (rq M) (xs (i + 1))).2))])
  refine lv_iload X.1 X.2.1 d_Lw_law_358 (lv_at hl 1 rfl) ?_
  refine lv_icmp_eq (tgt := 365) X.1 X.2.1 d_Lw_law_360 (by decide) (fun hc1 => ?_) (fun hc1 => absurd hth hc1)
  refine lv_iload X.1 X.2.1 d_Lw_law_365 (lv_at hl 1 rfl) ?_
  refine lv_if_ne (tgt := 382) X.1 X.2.1 d_Lw_law_367 (by decide) (fun hc2 => ?_) (fun hc2 => ?_)
  · skip
    refine lv_goto (tgt := 981) X.1 X.2.1 d_Lw_law_382 (by decide) ?_
    exact kk _ ad1 _ _ ls hM hLI1 ⟨hE1.1, fun a => hE1.2 a⟩ (lv_sub hl [2, 3, 4, 5, 6] rfl)
  · have hF0 : (fSp M (xs (i + 1))).1 = 0 := (nI_eq (b := 0) (Nat.lt_trans (fSp_b M _) (by decide)) (by decide)).mp hc2
    refine lv_aload_n X.1 X.2.1 d_Lw_law_370 rfl (lv_at hl 3 rfl) ?_
    refine lv_iconst (v := 0) X.1 X.2.1 d_Lw_law_371 (by decide) ?_
    refine r_lald X hM (hE1.1 17 0 hLI.2.2.2.2) hg a_out (fun _ => rfl) (j := 0) rfl (by decide) d_Lw_law_372 ?_
    refine lv_iload X.1 X.2.1 d_Lw_law_373 (lv_at hl 0 rfl) ?_
    refine lv_i2l X.1 X.2.1 d_Lw_law_375 rfl ?_
    refine W.lcmp X.1 X.2.1 d_Lw_law_376 ?_
    refine lv_if_eq (tgt := 382) X.1 X.2.1 d_Lw_law_377 (by decide) (fun hc3 => ?_) (fun hc3 => absurd ((lg_cmp_eq _ _).mpr (by rw [out_gl hF0, hv hF0])) hc3)
    refine lv_goto (tgt := 981) X.1 X.2.1 d_Lw_law_382 (by decide) ?_
    exact kk _ ad1 _ _ ls hM hLI1 ⟨hE1.1, fun a => hE1.2 a⟩ (lv_sub hl [2, 3, 4, 5, 6] rfl)
set_option maxHeartbeats 4000000 in
set_option maxRecDepth 100000 in
theorem lc_open {p : Program} {l : Launch} {e : Env} {s : State} {m : MethodId} {below : List Frame} {meth : Method} {c : Code} {H : Heap} {locs : List Loc} {cells slots : Nat} {Q : State → Prop} {ls : Array Slot} {D : va_G} {dA : Nat → ClassId} {base : Nat} {M : mM} {ad : Nat → Nat → Nat} {b L i B : Nat} {xs : Nat → Int32}
    (X : mCx D dA base p s m #[Value.ref b] c code "ScopeKeeperLaw") (hst : l.stackTraces = false) (hml : c.maxLocals = 7) (hN : mN s) (hXs : va_X b L xs s s.heap) (hbl : b < s.heap.size) (hbA : ¬ base ≤ b) (hL : L < 2 ^ 31) (hi6 : i + 6 ≤ L)
    (hM : mSt D dA base M ad s.heap H locs) (hLI : LI M B) (hB : B + 300 < 1000000) (hcs : cells + 8 ≤ 601024 ∧ slots + 40 ≤ 7293034)
    (hl : lv_has ls 7 [(4, .int (nI i)), (3, .ref (ad 17 0)), (2, .ref (ad 18 0)), (1, .ref (ad 0 0)), (0, .ref b)])
    (kk : ∀ (M' : mM) (ad' : Nat → Nat → Nat) (H' : Heap) (locs' : List Loc) (ls' : Array Slot), mSt D dA base M' ad' s.heap H' locs' → LI M' (B + 100) → mExt M ad M' ad' → lv_has ls' 7 [(4, .int (nI i)), (3, .ref (ad 17 0)), (2, .ref (ad 18 0)), (1, .ref (ad 0 0)), (0, .ref b)] → W p l e room_1 s m #[Value.ref b] below meth c H' locs' (cells + 8) (slots + 40) Q (F0 m 981 ls' [])) :
    W p l e room_1 s m #[Value.ref b] below meth c H locs cells slots Q (F0 m 385 ls []) := by
  refine lv_aload_n X.1 X.2.1 d_Lw_law_385 rfl (lv_at hl 3 rfl) ?_
  refine lv_aload_n X.1 X.2.1 d_Lw_law_386 rfl (lv_at hl 4 rfl) ?_
  refine lv_iload X.1 X.2.1 d_Lw_law_387 (lv_at hl 0 rfl) ?_
  refine lv_iconst (v := 1) X.1 X.2.1 d_Lw_law_389 (by decide) ?_
  refine lv_iadd X.1 X.2.1 d_Lw_law_390 ?_
  refine r_sld X hM hXs hbl hbA hL (nI_add i 1) (show i + 1 < L by omega) d_Lw_law_391 ?_
  refine lv_aload_n X.1 X.2.1 d_Lw_law_392 rfl (lv_at hl 1 rfl) ?_
  refine q_open (x := xs (i + 1)) X hst hml hl.1 hM hN hLI.1 hLI.2.2.2.2 (Nat.le_of_ble_eq_true rfl) ⟨by decide, by decide⟩ ⟨(by dsimp only [room_1]; omega), (by dsimp only [room_1]; omega)⟩ d_Lw_law_393 (fun ad1 H locs hM hE1 => ?_)
  have hg : 0 < gn (outM M (fOp M (xs (i + 1)))) 17 := Nat.lt_of_lt_of_le hLI.2.2.2.2 (hE1.2 17)
  obtain ⟨ok, hv, hLI1, hR1, hrq, hth⟩ := pl_open hLI hB (xs (i + 1)) hg
  have e18 : ad1 18 0 = ad 18 0 := hE1.1 18 0 hLI.2.2.2.1.1
  have hM : mSt D dA base (rs (outM M (fOp M (xs (i + 1)))) (rq M)) ad1 s.heap H locs := by rw [← hrq, rs_rq]; exact hM
  refine lv_istore (lv' := [(5, .int (nI (fOp M (xs (i + 1))).1)), (4, .int (nI i)), (3, .ref (ad 17 0)), (2, .ref (ad 18 0)), (1, .ref (ad 0 0)), (0, .ref b)]) X.1 X.2.1 d_Lw_law_396 hl (by decide) rfl (fun ls hl => ?_)
  refine lv_aload_n X.1 X.2.1 d_Lw_law_398 rfl (lv_at hl 3 rfl) ?_
  refine lv_aload_n X.1 X.2.1 d_Lw_law_399 rfl (lv_at hl 5 rfl) ?_
  refine lv_iload X.1 X.2.1 d_Lw_law_400 (lv_at hl 1 rfl) ?_
  refine lv_iconst (v := 1) X.1 X.2.1 d_Lw_law_402 (by decide) ?_
  refine lv_iadd X.1 X.2.1 d_Lw_law_403 ?_
  refine r_sld X hM hXs hbl hbA hL (nI_add i 1) (show i + 1 < L by omega) d_Lw_law_404 ?_
  have hC9 := k_Md_open l D dA base (outM M (fOp M (xs (i + 1)))) ad1 hR1 (rq M) (xs (i + 1)) ok
  rw [e18] at hC9
  refine r_cV (As := [.int (xs (i + 1))]) (rest := []) X hml hl.1 hM hC9 c_Lw_91 v_Md_open kc_Md e18 hR1.1 rfl (Nat.le_of_ble_eq_true rfl) ⟨rfl, rfl, Nat.le_of_ble_eq_true rfl, Nat.le_of_ble_eq_true rfl⟩ ⟨(by dsimp only [room_1]; omega), (by dsimp only [room_1]; omega)⟩ d_Lw_law_405 ?_
  intro rv M9 ad9 H locs hP hM hE9
  obtain ⟨e1, e2, e3⟩ := hP
  subst rv; subst M9; subst ad9
  show W _ _ _ _ _ _ _ _ _ _ _ _ _ _ _ (F0 m 408 ls [.int (m_open (rq M) (xs (i + 1))).1])
  refine lv_istore (lv' := [(6, .int (m_open (rq M) (xs (i + 1))).1), (5, .int (nI (fOp M (xs (i + 1))).1)), (4, .int (nI i)), (3, .ref (ad 17 0)), (2, .ref (ad 18 0)), (1, .ref (ad 0 0)), (0, .ref b)]) X.1 X.2.1 d_Lw_law_408 hl (by decide) rfl (fun ls hl => ?_)
  refine lv_aload_n X.1 X.2.1 d_Lw_law_410 rfl (lv_at hl 4 rfl) ?_
  have hC9 := k_Md_thrown l D dA base (outM M (fOp M (xs (i + 1)))) ad1 hR1 ((m_open (rq M) (xs (i + 1))).2)
  rw [e18] at hC9
  refine r_cV (As := []) (rest := []) X hml hl.1 hM hC9 c_Lw_72 v_Md_thrown kc_Md e18 hR1.1 rfl (Nat.le_of_ble_eq_true rfl) ⟨rfl, rfl, Nat.le_of_ble_eq_true rfl, Nat.le_of_ble_eq_true rfl⟩ ⟨(by dsimp only [room_1]; omega), (by dsimp only [room_1]; omega)⟩ d_Lw_law_411 ?_
  intro rv M9 ad9 H locs hP hM hE9
  obtain ⟨e1, e2, e3⟩ := hP
  subst rv; subst M9; subst ad9
  show W _ _ _ _ _ _ _ _ _ _ _ _ _ _ _ (F0 m 414 ls [.int (m_thrown ((m_open (rq M) (xs (i + 1))).2))])
  refine lv_iload X.1 X.2.1 d_Lw_law_414 (lv_at hl 1 rfl) ?_
  refine lv_icmp_eq (tgt := 421) X.1 X.2.1 d_Lw_law_416 (by decide) (fun hc1 => ?_) (fun hc1 => absurd hth hc1)
  refine lv_iload X.1 X.2.1 d_Lw_law_421 (lv_at hl 1 rfl) ?_
  refine lv_if_ne (tgt := 438) X.1 X.2.1 d_Lw_law_423 (by decide) (fun hc2 => ?_) (fun hc2 => ?_)
  · skip
    refine lv_goto (tgt := 981) X.1 X.2.1 d_Lw_law_438 (by decide) ?_
    exact kk _ ad1 _ _ ls hM hLI1 ⟨hE1.1, fun a => hE1.2 a⟩ (lv_sub hl [2, 3, 4, 5, 6] rfl)
  · have hF0 : (fOp M (xs (i + 1))).1 = 0 := (nI_eq (b := 0) (Nat.lt_trans (fOp_b M _) (by decide)) (by decide)).mp hc2
    refine lv_aload_n X.1 X.2.1 d_Lw_law_426 rfl (lv_at hl 3 rfl) ?_
    refine lv_iconst (v := 0) X.1 X.2.1 d_Lw_law_427 (by decide) ?_
    refine r_lald X hM (hE1.1 17 0 hLI.2.2.2.2) hg a_out (fun _ => rfl) (j := 0) rfl (by decide) d_Lw_law_428 ?_
    refine lv_iload X.1 X.2.1 d_Lw_law_429 (lv_at hl 0 rfl) ?_
    refine lv_i2l X.1 X.2.1 d_Lw_law_431 rfl ?_
    refine W.lcmp X.1 X.2.1 d_Lw_law_432 ?_
    refine lv_if_eq (tgt := 438) X.1 X.2.1 d_Lw_law_433 (by decide) (fun hc3 => ?_) (fun hc3 => absurd ((lg_cmp_eq _ _).mpr (by rw [out_gl hF0, hv hF0])) hc3)
    refine lv_goto (tgt := 981) X.1 X.2.1 d_Lw_law_438 (by decide) ?_
    exact kk _ ad1 _ _ ls hM hLI1 ⟨hE1.1, fun a => hE1.2 a⟩ (lv_sub hl [2, 3, 4, 5, 6] rfl)
set_option maxHeartbeats 4000000 in
set_option maxRecDepth 100000 in
theorem lc_close {p : Program} {l : Launch} {e : Env} {s : State} {m : MethodId} {below : List Frame} {meth : Method} {c : Code} {H : Heap} {locs : List Loc} {cells slots : Nat} {Q : State → Prop} {ls : Array Slot} {D : va_G} {dA : Nat → ClassId} {base : Nat} {M : mM} {ad : Nat → Nat → Nat} {b L i B : Nat} {xs : Nat → Int32}
    (X : mCx D dA base p s m #[Value.ref b] c code "ScopeKeeperLaw") (hst : l.stackTraces = false) (hml : c.maxLocals = 7) (hN : mN s) (hXs : va_X b L xs s s.heap) (hbl : b < s.heap.size) (hbA : ¬ base ≤ b) (hL : L < 2 ^ 31) (hi6 : i + 6 ≤ L)
    (hM : mSt D dA base M ad s.heap H locs) (hLI : LI M B) (hB : B + 300 < 1000000) (hcs : cells + 8 ≤ 601024 ∧ slots + 40 ≤ 7293034)
    (hl : lv_has ls 7 [(4, .int (nI i)), (3, .ref (ad 17 0)), (2, .ref (ad 18 0)), (1, .ref (ad 0 0)), (0, .ref b)])
    (kk : ∀ (M' : mM) (ad' : Nat → Nat → Nat) (H' : Heap) (locs' : List Loc) (ls' : Array Slot), mSt D dA base M' ad' s.heap H' locs' → LI M' (B + 100) → mExt M ad M' ad' → lv_has ls' 7 [(4, .int (nI i)), (3, .ref (ad 17 0)), (2, .ref (ad 18 0)), (1, .ref (ad 0 0)), (0, .ref b)] → W p l e room_1 s m #[Value.ref b] below meth c H' locs' (cells + 8) (slots + 40) Q (F0 m 981 ls' [])) :
    W p l e room_1 s m #[Value.ref b] below meth c H locs cells slots Q (F0 m 441 ls []) := by
  refine lv_aload_n X.1 X.2.1 d_Lw_law_441 rfl (lv_at hl 3 rfl) ?_
  refine lv_aload_n X.1 X.2.1 d_Lw_law_442 rfl (lv_at hl 4 rfl) ?_
  refine lv_iload X.1 X.2.1 d_Lw_law_443 (lv_at hl 0 rfl) ?_
  refine lv_iconst (v := 1) X.1 X.2.1 d_Lw_law_445 (by decide) ?_
  refine lv_iadd X.1 X.2.1 d_Lw_law_446 ?_
  refine r_sld X hM hXs hbl hbA hL (nI_add i 1) (show i + 1 < L by omega) d_Lw_law_447 ?_
  refine lv_aload_n X.1 X.2.1 d_Lw_law_448 rfl (lv_at hl 1 rfl) ?_
  refine q_close (k := xs (i + 1)) X hst hml hl.1 hM hN hLI.1 hLI.2.2.2.2 (Nat.le_of_ble_eq_true rfl) ⟨by decide, by decide⟩ ⟨(by dsimp only [room_1]; omega), (by dsimp only [room_1]; omega)⟩ d_Lw_law_449 (fun ad1 H locs hM hE1 => ?_)
  have hg : 0 < gn (outM M (fCl M (xs (i + 1)))) 17 := Nat.lt_of_lt_of_le hLI.2.2.2.2 (hE1.2 17)
  obtain ⟨ok, hv, hLI1, hR1, hrq, hth⟩ := pl_close hLI hB (xs (i + 1)) hg
  have e18 : ad1 18 0 = ad 18 0 := hE1.1 18 0 hLI.2.2.2.1.1
  have hM : mSt D dA base (rs (outM M (fCl M (xs (i + 1)))) (rq M)) ad1 s.heap H locs := by rw [← hrq, rs_rq]; exact hM
  refine lv_istore (lv' := [(5, .int (nI (fCl M (xs (i + 1))).1)), (4, .int (nI i)), (3, .ref (ad 17 0)), (2, .ref (ad 18 0)), (1, .ref (ad 0 0)), (0, .ref b)]) X.1 X.2.1 d_Lw_law_452 hl (by decide) rfl (fun ls hl => ?_)
  refine lv_aload_n X.1 X.2.1 d_Lw_law_454 rfl (lv_at hl 3 rfl) ?_
  refine lv_aload_n X.1 X.2.1 d_Lw_law_455 rfl (lv_at hl 5 rfl) ?_
  refine lv_iload X.1 X.2.1 d_Lw_law_456 (lv_at hl 1 rfl) ?_
  refine lv_iconst (v := 1) X.1 X.2.1 d_Lw_law_458 (by decide) ?_
  refine lv_iadd X.1 X.2.1 d_Lw_law_459 ?_
  refine r_sld X hM hXs hbl hbA hL (nI_add i 1) (show i + 1 < L by omega) d_Lw_law_460 ?_
  have hC9 := k_Md_close l D dA base (outM M (fCl M (xs (i + 1)))) ad1 hR1 (rq M) (xs (i + 1)) ok
  rw [e18] at hC9
  refine r_cV (As := [.int (xs (i + 1))]) (rest := []) X hml hl.1 hM hC9 c_Lw_94 v_Md_close kc_Md e18 hR1.1 rfl (Nat.le_of_ble_eq_true rfl) ⟨rfl, rfl, Nat.le_of_ble_eq_true rfl, Nat.le_of_ble_eq_true rfl⟩ ⟨(by dsimp only [room_1]; omega), (by dsimp only [room_1]; omega)⟩ d_Lw_law_461 ?_
  intro rv M9 ad9 H locs hP hM hE9
  obtain ⟨e1, e2, e3⟩ := hP
  subst rv; subst M9; subst ad9
  show W _ _ _ _ _ _ _ _ _ _ _ _ _ _ _ (F0 m 464 ls [.int (m_close (rq M) (xs (i + 1))).1])
  refine lv_istore (lv' := [(6, .int (m_close (rq M) (xs (i + 1))).1), (5, .int (nI (fCl M (xs (i + 1))).1)), (4, .int (nI i)), (3, .ref (ad 17 0)), (2, .ref (ad 18 0)), (1, .ref (ad 0 0)), (0, .ref b)]) X.1 X.2.1 d_Lw_law_464 hl (by decide) rfl (fun ls hl => ?_)
  refine lv_aload_n X.1 X.2.1 d_Lw_law_466 rfl (lv_at hl 4 rfl) ?_
  have hC9 := k_Md_thrown l D dA base (outM M (fCl M (xs (i + 1)))) ad1 hR1 ((m_close (rq M) (xs (i + 1))).2)
  rw [e18] at hC9
  refine r_cV (As := []) (rest := []) X hml hl.1 hM hC9 c_Lw_72 v_Md_thrown kc_Md e18 hR1.1 rfl (Nat.le_of_ble_eq_true rfl) ⟨rfl, rfl, Nat.le_of_ble_eq_true rfl, Nat.le_of_ble_eq_true rfl⟩ ⟨(by dsimp only [room_1]; omega), (by dsimp only [room_1]; omega)⟩ d_Lw_law_467 ?_
  intro rv M9 ad9 H locs hP hM hE9
  obtain ⟨e1, e2, e3⟩ := hP
  subst rv; subst M9; subst ad9
  show W _ _ _ _ _ _ _ _ _ _ _ _ _ _ _ (F0 m 470 ls [.int (m_thrown ((m_close (rq M) (xs (i + 1))).2))])
  refine lv_iload X.1 X.2.1 d_Lw_law_470 (lv_at hl 1 rfl) ?_
  refine lv_icmp_eq (tgt := 477) X.1 X.2.1 d_Lw_law_472 (by decide) (fun hc1 => ?_) (fun hc1 => absurd hth hc1)
  refine lv_iload X.1 X.2.1 d_Lw_law_477 (lv_at hl 1 rfl) ?_
  refine lv_if_ne (tgt := 494) X.1 X.2.1 d_Lw_law_479 (by decide) (fun hc2 => ?_) (fun hc2 => ?_)
  · skip
    refine lv_goto (tgt := 981) X.1 X.2.1 d_Lw_law_494 (by decide) ?_
    exact kk _ ad1 _ _ ls hM hLI1 ⟨hE1.1, fun a => hE1.2 a⟩ (lv_sub hl [2, 3, 4, 5, 6] rfl)
  · have hF0 : (fCl M (xs (i + 1))).1 = 0 := (nI_eq (b := 0) (Nat.lt_trans (fCl_b M _) (by decide)) (by decide)).mp hc2
    refine lv_aload_n X.1 X.2.1 d_Lw_law_482 rfl (lv_at hl 3 rfl) ?_
    refine lv_iconst (v := 0) X.1 X.2.1 d_Lw_law_483 (by decide) ?_
    refine r_lald X hM (hE1.1 17 0 hLI.2.2.2.2) hg a_out (fun _ => rfl) (j := 0) rfl (by decide) d_Lw_law_484 ?_
    refine lv_iload X.1 X.2.1 d_Lw_law_485 (lv_at hl 0 rfl) ?_
    refine lv_i2l X.1 X.2.1 d_Lw_law_487 rfl ?_
    refine W.lcmp X.1 X.2.1 d_Lw_law_488 ?_
    refine lv_if_eq (tgt := 494) X.1 X.2.1 d_Lw_law_489 (by decide) (fun hc3 => ?_) (fun hc3 => absurd ((lg_cmp_eq _ _).mpr (by rw [out_gl hF0, hv hF0])) hc3)
    refine lv_goto (tgt := 981) X.1 X.2.1 d_Lw_law_494 (by decide) ?_
    exact kk _ ad1 _ _ ls hM hLI1 ⟨hE1.1, fun a => hE1.2 a⟩ (lv_sub hl [2, 3, 4, 5, 6] rfl)
set_option maxHeartbeats 4000000 in
set_option maxRecDepth 100000 in
theorem lc_claim {p : Program} {l : Launch} {e : Env} {s : State} {m : MethodId} {below : List Frame} {meth : Method} {c : Code} {H : Heap} {locs : List Loc} {cells slots : Nat} {Q : State → Prop} {ls : Array Slot} {D : va_G} {dA : Nat → ClassId} {base : Nat} {M : mM} {ad : Nat → Nat → Nat} {b L i B : Nat} {xs : Nat → Int32}
    (X : mCx D dA base p s m #[Value.ref b] c code "ScopeKeeperLaw") (hst : l.stackTraces = false) (hml : c.maxLocals = 7) (hN : mN s) (hXs : va_X b L xs s s.heap) (hbl : b < s.heap.size) (hbA : ¬ base ≤ b) (hL : L < 2 ^ 31) (hi6 : i + 6 ≤ L)
    (hM : mSt D dA base M ad s.heap H locs) (hLI : LI M B) (hB : B + 300 < 1000000) (hcs : cells + 8 ≤ 601024 ∧ slots + 40 ≤ 7293034)
    (hl : lv_has ls 7 [(4, .int (nI i)), (3, .ref (ad 17 0)), (2, .ref (ad 18 0)), (1, .ref (ad 0 0)), (0, .ref b)])
    (kk : ∀ (M' : mM) (ad' : Nat → Nat → Nat) (H' : Heap) (locs' : List Loc) (ls' : Array Slot), mSt D dA base M' ad' s.heap H' locs' → LI M' (B + 100) → mExt M ad M' ad' → lv_has ls' 7 [(4, .int (nI i)), (3, .ref (ad 17 0)), (2, .ref (ad 18 0)), (1, .ref (ad 0 0)), (0, .ref b)] → W p l e room_1 s m #[Value.ref b] below meth c H' locs' (cells + 8) (slots + 40) Q (F0 m 981 ls' [])) :
    W p l e room_1 s m #[Value.ref b] below meth c H locs cells slots Q (F0 m 497 ls []) := by
  refine lv_aload_n X.1 X.2.1 d_Lw_law_497 rfl (lv_at hl 3 rfl) ?_
  refine lv_aload_n X.1 X.2.1 d_Lw_law_498 rfl (lv_at hl 4 rfl) ?_
  refine lv_iload X.1 X.2.1 d_Lw_law_499 (lv_at hl 0 rfl) ?_
  refine lv_iconst (v := 1) X.1 X.2.1 d_Lw_law_501 (by decide) ?_
  refine lv_iadd X.1 X.2.1 d_Lw_law_502 ?_
  refine r_sld X hM hXs hbl hbA hL (nI_add i 1) (show i + 1 < L by omega) d_Lw_law_503 ?_
  refine lv_aload_n X.1 X.2.1 d_Lw_law_504 rfl (lv_at hl 1 rfl) ?_
  refine q_claim (x := xs (i + 1)) X hst hml hl.1 hM hN hLI.1 hLI.2.2.2.2 (Nat.le_of_ble_eq_true rfl) ⟨by decide, by decide⟩ ⟨(by dsimp only [room_1]; omega), (by dsimp only [room_1]; omega)⟩ d_Lw_law_505 (fun ad1 H locs hM hE1 => ?_)
  have hg : 0 < gn (outM M (fCm M (xs (i + 1)))) 17 := Nat.lt_of_lt_of_le hLI.2.2.2.2 (hE1.2 17)
  obtain ⟨ok, hv, hLI1, hR1, hrq, hth⟩ := pl_claim hLI hB (xs (i + 1)) hg
  have e18 : ad1 18 0 = ad 18 0 := hE1.1 18 0 hLI.2.2.2.1.1
  have hM : mSt D dA base (rs (outM M (fCm M (xs (i + 1)))) (rq M)) ad1 s.heap H locs := by rw [← hrq, rs_rq]; exact hM
  refine lv_istore (lv' := [(5, .int (nI (fCm M (xs (i + 1))).1)), (4, .int (nI i)), (3, .ref (ad 17 0)), (2, .ref (ad 18 0)), (1, .ref (ad 0 0)), (0, .ref b)]) X.1 X.2.1 d_Lw_law_508 hl (by decide) rfl (fun ls hl => ?_)
  refine lv_aload_n X.1 X.2.1 d_Lw_law_510 rfl (lv_at hl 3 rfl) ?_
  refine lv_aload_n X.1 X.2.1 d_Lw_law_511 rfl (lv_at hl 5 rfl) ?_
  refine lv_iload X.1 X.2.1 d_Lw_law_512 (lv_at hl 1 rfl) ?_
  refine lv_iconst (v := 1) X.1 X.2.1 d_Lw_law_514 (by decide) ?_
  refine lv_iadd X.1 X.2.1 d_Lw_law_515 ?_
  refine r_sld X hM hXs hbl hbA hL (nI_add i 1) (show i + 1 < L by omega) d_Lw_law_516 ?_
  have hC9 := k_Md_claim l D dA base (outM M (fCm M (xs (i + 1)))) ad1 hR1 (rq M) (xs (i + 1)) ok
  rw [e18] at hC9
  refine r_cV (As := [.int (xs (i + 1))]) (rest := []) X hml hl.1 hM hC9 c_Lw_97 v_Md_claim kc_Md e18 hR1.1 rfl (Nat.le_of_ble_eq_true rfl) ⟨rfl, rfl, Nat.le_of_ble_eq_true rfl, Nat.le_of_ble_eq_true rfl⟩ ⟨(by dsimp only [room_1]; omega), (by dsimp only [room_1]; omega)⟩ d_Lw_law_517 ?_
  intro rv M9 ad9 H locs hP hM hE9
  obtain ⟨e1, e2, e3⟩ := hP
  subst rv; subst M9; subst ad9
  show W _ _ _ _ _ _ _ _ _ _ _ _ _ _ _ (F0 m 520 ls [.int (m_claim (rq M) (xs (i + 1))).1])
  refine lv_istore (lv' := [(6, .int (m_claim (rq M) (xs (i + 1))).1), (5, .int (nI (fCm M (xs (i + 1))).1)), (4, .int (nI i)), (3, .ref (ad 17 0)), (2, .ref (ad 18 0)), (1, .ref (ad 0 0)), (0, .ref b)]) X.1 X.2.1 d_Lw_law_520 hl (by decide) rfl (fun ls hl => ?_)
  refine lv_aload_n X.1 X.2.1 d_Lw_law_522 rfl (lv_at hl 4 rfl) ?_
  have hC9 := k_Md_thrown l D dA base (outM M (fCm M (xs (i + 1)))) ad1 hR1 ((m_claim (rq M) (xs (i + 1))).2)
  rw [e18] at hC9
  refine r_cV (As := []) (rest := []) X hml hl.1 hM hC9 c_Lw_72 v_Md_thrown kc_Md e18 hR1.1 rfl (Nat.le_of_ble_eq_true rfl) ⟨rfl, rfl, Nat.le_of_ble_eq_true rfl, Nat.le_of_ble_eq_true rfl⟩ ⟨(by dsimp only [room_1]; omega), (by dsimp only [room_1]; omega)⟩ d_Lw_law_523 ?_
  intro rv M9 ad9 H locs hP hM hE9
  obtain ⟨e1, e2, e3⟩ := hP
  subst rv; subst M9; subst ad9
  show W _ _ _ _ _ _ _ _ _ _ _ _ _ _ _ (F0 m 526 ls [.int (m_thrown ((m_claim (rq M) (xs (i + 1))).2))])
  refine lv_iload X.1 X.2.1 d_Lw_law_526 (lv_at hl 1 rfl) ?_
  refine lv_icmp_eq (tgt := 533) X.1 X.2.1 d_Lw_law_528 (by decide) (fun hc1 => ?_) (fun hc1 => absurd hth hc1)
  refine lv_iload X.1 X.2.1 d_Lw_law_533 (lv_at hl 1 rfl) ?_
  refine lv_if_ne (tgt := 550) X.1 X.2.1 d_Lw_law_535 (by decide) (fun hc2 => ?_) (fun hc2 => ?_)
  · skip
    refine lv_goto (tgt := 981) X.1 X.2.1 d_Lw_law_550 (by decide) ?_
    exact kk _ ad1 _ _ ls hM hLI1 ⟨hE1.1, fun a => hE1.2 a⟩ (lv_sub hl [2, 3, 4, 5, 6] rfl)
  · have hF0 : (fCm M (xs (i + 1))).1 = 0 := (nI_eq (b := 0) (Nat.lt_trans (fCm_b M _) (by decide)) (by decide)).mp hc2
    refine lv_aload_n X.1 X.2.1 d_Lw_law_538 rfl (lv_at hl 3 rfl) ?_
    refine lv_iconst (v := 0) X.1 X.2.1 d_Lw_law_539 (by decide) ?_
    refine r_lald X hM (hE1.1 17 0 hLI.2.2.2.2) hg a_out (fun _ => rfl) (j := 0) rfl (by decide) d_Lw_law_540 ?_
    refine lv_iload X.1 X.2.1 d_Lw_law_541 (lv_at hl 0 rfl) ?_
    refine lv_i2l X.1 X.2.1 d_Lw_law_543 rfl ?_
    refine W.lcmp X.1 X.2.1 d_Lw_law_544 ?_
    refine lv_if_eq (tgt := 550) X.1 X.2.1 d_Lw_law_545 (by decide) (fun hc3 => ?_) (fun hc3 => absurd ((lg_cmp_eq _ _).mpr (by rw [out_gl hF0, hv hF0])) hc3)
    refine lv_goto (tgt := 981) X.1 X.2.1 d_Lw_law_550 (by decide) ?_
    exact kk _ ad1 _ _ ls hM hLI1 ⟨hE1.1, fun a => hE1.2 a⟩ (lv_sub hl [2, 3, 4, 5, 6] rfl)
