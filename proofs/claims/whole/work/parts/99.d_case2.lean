set_option maxHeartbeats 4000000 in
set_option maxRecDepth 100000 in
theorem lc_skip {p : Program} {l : Launch} {e : Env} {s : State} {m : MethodId} {below : List Frame} {meth : Method} {c : Code} {H : Heap} {locs : List Loc} {cells slots : Nat} {Q : State → Prop} {ls : Array Slot} {D : va_G} {dA : Nat → ClassId} {base : Nat} {M : mM} {ad : Nat → Nat → Nat} {b L i B : Nat} {xs : Nat → Int32}
    (X : mCx D dA base p s m #[Value.ref b] c code "ScopeKeeperLaw") (hst : l.stackTraces = false) (hml : c.maxLocals = 7) (hN : mN s) (hXs : va_X b L xs s s.heap) (hbl : b < s.heap.size) (hbA : ¬ base ≤ b) (hL : L < 2 ^ 31) (hi6 : i + 6 ≤ L)
    (hM : mSt D dA base M ad s.heap H locs) (hLI : LI M B) (hB : B + 300 < 1000000) (hcs : cells + 8 ≤ 601024 ∧ slots + 40 ≤ 7293034)
    (hl : lv_has ls 7 [(4, .int (nI i)), (3, .ref (ad 17 0)), (2, .ref (ad 18 0)), (1, .ref (ad 0 0)), (0, .ref b)])
    (kk : ∀ (M' : mM) (ad' : Nat → Nat → Nat) (H' : Heap) (locs' : List Loc) (ls' : Array Slot), mSt D dA base M' ad' s.heap H' locs' → LI M' (B + 100) → mExt M ad M' ad' → lv_has ls' 7 [(4, .int (nI i)), (3, .ref (ad 17 0)), (2, .ref (ad 18 0)), (1, .ref (ad 0 0)), (0, .ref b)] → W p l e room_1 s m #[Value.ref b] below meth c H' locs' (cells + 8) (slots + 40) Q (F0 m 981 ls' [])) :
    W p l e room_1 s m #[Value.ref b] below meth c H locs cells slots Q (F0 m 553 ls []) := by
  refine lv_aload_n X.1 X.2.1 d_Lw_law_553 rfl (lv_at hl 3 rfl) ?_
  refine lv_aload_n X.1 X.2.1 d_Lw_law_554 rfl (lv_at hl 4 rfl) ?_
  refine lv_iload X.1 X.2.1 d_Lw_law_555 (lv_at hl 0 rfl) ?_
  refine lv_iconst (v := 1) X.1 X.2.1 d_Lw_law_557 (by decide) ?_
  refine lv_iadd X.1 X.2.1 d_Lw_law_558 ?_
  refine r_sld X hM hXs hbl hbA hL (nI_add i 1) (show i + 1 < L by omega) d_Lw_law_559 ?_
  refine lv_aload_n X.1 X.2.1 d_Lw_law_560 rfl (lv_at hl 1 rfl) ?_
  refine q_skip (x := xs (i + 1)) X hst hml hl.1 hM hN hLI.1 hLI.2.2.2.2 (Nat.le_of_ble_eq_true rfl) ⟨by decide, by decide⟩ ⟨(by dsimp only [room_1]; omega), (by dsimp only [room_1]; omega)⟩ d_Lw_law_561 (fun ad1 H locs hM hE1 => ?_)
  have hg : 0 < gn (outM M (fSk M (xs (i + 1)))) 17 := Nat.lt_of_lt_of_le hLI.2.2.2.2 (hE1.2 17)
  obtain ⟨ok, hv, hLI1, hR1, hrq, hth⟩ := pl_skip hLI hB (xs (i + 1)) hg
  have e18 : ad1 18 0 = ad 18 0 := hE1.1 18 0 hLI.2.2.2.1.1
  have hM : mSt D dA base (rs (outM M (fSk M (xs (i + 1)))) (rq M)) ad1 s.heap H locs := by rw [← hrq, rs_rq]; exact hM
  refine lv_istore (lv' := [(5, .int (nI (fSk M (xs (i + 1))).1)), (4, .int (nI i)), (3, .ref (ad 17 0)), (2, .ref (ad 18 0)), (1, .ref (ad 0 0)), (0, .ref b)]) X.1 X.2.1 d_Lw_law_564 hl (by decide) rfl (fun ls hl => ?_)
  refine lv_aload_n X.1 X.2.1 d_Lw_law_566 rfl (lv_at hl 3 rfl) ?_
  refine lv_aload_n X.1 X.2.1 d_Lw_law_567 rfl (lv_at hl 5 rfl) ?_
  refine lv_iload X.1 X.2.1 d_Lw_law_568 (lv_at hl 1 rfl) ?_
  refine lv_iconst (v := 1) X.1 X.2.1 d_Lw_law_570 (by decide) ?_
  refine lv_iadd X.1 X.2.1 d_Lw_law_571 ?_
  refine r_sld X hM hXs hbl hbA hL (nI_add i 1) (show i + 1 < L by omega) d_Lw_law_572 ?_
  have hC9 := k_Md_skip l D dA base (outM M (fSk M (xs (i + 1)))) ad1 hR1 (rq M) (xs (i + 1)) ok
  rw [e18] at hC9
  refine r_cV (As := [.int (xs (i + 1))]) (rest := []) X hml hl.1 hM hC9 c_Lw_100 v_Md_skip kc_Md e18 hR1.1 rfl (Nat.le_of_ble_eq_true rfl) ⟨rfl, rfl, Nat.le_of_ble_eq_true rfl, Nat.le_of_ble_eq_true rfl⟩ ⟨(by dsimp only [room_1]; omega), (by dsimp only [room_1]; omega)⟩ d_Lw_law_573 ?_
  intro rv M9 ad9 H locs hP hM hE9
  obtain ⟨e1, e2, e3⟩ := hP
  subst rv; subst M9; subst ad9
  show W _ _ _ _ _ _ _ _ _ _ _ _ _ _ _ (F0 m 576 ls [.int (m_skip (rq M) (xs (i + 1))).1])
  refine lv_istore (lv' := [(6, .int (m_skip (rq M) (xs (i + 1))).1), (5, .int (nI (fSk M (xs (i + 1))).1)), (4, .int (nI i)), (3, .ref (ad 17 0)), (2, .ref (ad 18 0)), (1, .ref (ad 0 0)), (0, .ref b)]) X.1 X.2.1 d_Lw_law_576 hl (by decide) rfl (fun ls hl => ?_)
  refine lv_aload_n X.1 X.2.1 d_Lw_law_578 rfl (lv_at hl 4 rfl) ?_
  have hC9 := k_Md_thrown l D dA base (outM M (fSk M (xs (i + 1)))) ad1 hR1 ((m_skip (rq M) (xs (i + 1))).2)
  rw [e18] at hC9
  refine r_cV (As := []) (rest := []) X hml hl.1 hM hC9 c_Lw_72 v_Md_thrown kc_Md e18 hR1.1 rfl (Nat.le_of_ble_eq_true rfl) ⟨rfl, rfl, Nat.le_of_ble_eq_true rfl, Nat.le_of_ble_eq_true rfl⟩ ⟨(by dsimp only [room_1]; omega), (by dsimp only [room_1]; omega)⟩ d_Lw_law_579 ?_
  intro rv M9 ad9 H locs hP hM hE9
  obtain ⟨e1, e2, e3⟩ := hP
  subst rv; subst M9; subst ad9
  show W _ _ _ _ _ _ _ _ _ _ _ _ _ _ _ (F0 m 582 ls [.int (m_thrown ((m_skip (rq M) (xs (i + 1))).2))])
  refine lv_iload X.1 X.2.1 d_Lw_law_582 (lv_at hl 1 rfl) ?_
  refine lv_icmp_eq (tgt := 589) X.1 X.2.1 d_Lw_law_584 (by decide) (fun hc1 => ?_) (fun hc1 => absurd hth hc1)
  refine lv_iload X.1 X.2.1 d_Lw_law_589 (lv_at hl 1 rfl) ?_
  refine lv_if_ne (tgt := 606) X.1 X.2.1 d_Lw_law_591 (by decide) (fun hc2 => ?_) (fun hc2 => ?_)
  · skip
    refine lv_goto (tgt := 981) X.1 X.2.1 d_Lw_law_606 (by decide) ?_
    exact kk _ ad1 _ _ ls hM hLI1 ⟨hE1.1, fun a => hE1.2 a⟩ (lv_sub hl [2, 3, 4, 5, 6] rfl)
  · have hF0 : (fSk M (xs (i + 1))).1 = 0 := (nI_eq (b := 0) (Nat.lt_trans (fSk_b M _) (by decide)) (by decide)).mp hc2
    refine lv_aload_n X.1 X.2.1 d_Lw_law_594 rfl (lv_at hl 3 rfl) ?_
    refine lv_iconst (v := 0) X.1 X.2.1 d_Lw_law_595 (by decide) ?_
    refine r_lald X hM (hE1.1 17 0 hLI.2.2.2.2) hg a_out (fun _ => rfl) (j := 0) rfl (by decide) d_Lw_law_596 ?_
    refine lv_iload X.1 X.2.1 d_Lw_law_597 (lv_at hl 0 rfl) ?_
    refine lv_i2l X.1 X.2.1 d_Lw_law_599 rfl ?_
    refine W.lcmp X.1 X.2.1 d_Lw_law_600 ?_
    refine lv_if_eq (tgt := 606) X.1 X.2.1 d_Lw_law_601 (by decide) (fun hc3 => ?_) (fun hc3 => absurd ((lg_cmp_eq _ _).mpr (by rw [out_gl hF0, hv hF0])) hc3)
    refine lv_goto (tgt := 981) X.1 X.2.1 d_Lw_law_606 (by decide) ?_
    exact kk _ ad1 _ _ ls hM hLI1 ⟨hE1.1, fun a => hE1.2 a⟩ (lv_sub hl [2, 3, 4, 5, 6] rfl)
set_option maxHeartbeats 4000000 in
set_option maxRecDepth 100000 in
theorem lc_fetch {p : Program} {l : Launch} {e : Env} {s : State} {m : MethodId} {below : List Frame} {meth : Method} {c : Code} {H : Heap} {locs : List Loc} {cells slots : Nat} {Q : State → Prop} {ls : Array Slot} {D : va_G} {dA : Nat → ClassId} {base : Nat} {M : mM} {ad : Nat → Nat → Nat} {b L i B : Nat} {xs : Nat → Int32}
    (X : mCx D dA base p s m #[Value.ref b] c code "ScopeKeeperLaw") (hst : l.stackTraces = false) (hml : c.maxLocals = 7) (hN : mN s) (hXs : va_X b L xs s s.heap) (hbl : b < s.heap.size) (hbA : ¬ base ≤ b) (hL : L < 2 ^ 31) (hi6 : i + 6 ≤ L)
    (hM : mSt D dA base M ad s.heap H locs) (hLI : LI M B) (hB : B + 300 < 1000000) (hcs : cells + 8 ≤ 601024 ∧ slots + 40 ≤ 7293034)
    (hl : lv_has ls 7 [(4, .int (nI i)), (3, .ref (ad 17 0)), (2, .ref (ad 18 0)), (1, .ref (ad 0 0)), (0, .ref b)])
    (kk : ∀ (M' : mM) (ad' : Nat → Nat → Nat) (H' : Heap) (locs' : List Loc) (ls' : Array Slot), mSt D dA base M' ad' s.heap H' locs' → LI M' (B + 100) → mExt M ad M' ad' → lv_has ls' 7 [(4, .int (nI i)), (3, .ref (ad 17 0)), (2, .ref (ad 18 0)), (1, .ref (ad 0 0)), (0, .ref b)] → W p l e room_1 s m #[Value.ref b] below meth c H' locs' (cells + 8) (slots + 40) Q (F0 m 981 ls' [])) :
    W p l e room_1 s m #[Value.ref b] below meth c H locs cells slots Q (F0 m 609 ls []) := by
  refine lv_aload_n X.1 X.2.1 d_Lw_law_609 rfl (lv_at hl 3 rfl) ?_
  refine lv_aload_n X.1 X.2.1 d_Lw_law_610 rfl (lv_at hl 4 rfl) ?_
  refine lv_iload X.1 X.2.1 d_Lw_law_611 (lv_at hl 0 rfl) ?_
  refine lv_iconst (v := 1) X.1 X.2.1 d_Lw_law_613 (by decide) ?_
  refine lv_iadd X.1 X.2.1 d_Lw_law_614 ?_
  refine r_sld X hM hXs hbl hbA hL (nI_add i 1) (show i + 1 < L by omega) d_Lw_law_615 ?_
  refine lv_aload_n X.1 X.2.1 d_Lw_law_616 rfl (lv_at hl 4 rfl) ?_
  refine lv_iload X.1 X.2.1 d_Lw_law_617 (lv_at hl 0 rfl) ?_
  refine lv_iconst (v := 2) X.1 X.2.1 d_Lw_law_619 (by decide) ?_
  refine lv_iadd X.1 X.2.1 d_Lw_law_620 ?_
  refine r_sld X hM hXs hbl hbA hL (nI_add i 2) (show i + 2 < L by omega) d_Lw_law_621 ?_
  refine lv_aload_n X.1 X.2.1 d_Lw_law_622 rfl (lv_at hl 1 rfl) ?_
  refine q_fetch (k := xs (i + 1)) (x := xs (i + 2)) X hst hml hl.1 hM hN hLI.1 hLI.2.2.2.2 (Nat.le_of_ble_eq_true rfl) ⟨by decide, by decide⟩ ⟨(by dsimp only [room_1]; omega), (by dsimp only [room_1]; omega)⟩ d_Lw_law_623 (fun ad1 H locs hM hE1 => ?_)
  have hg : 0 < gn (outM M (ftF M (xs (i + 1)) (xs (i + 2)))) 17 := Nat.lt_of_lt_of_le hLI.2.2.2.2 (hE1.2 17)
  obtain ⟨ok, hv, hLI1, hR1, hrq, hth⟩ := pl_fetch hLI hB (xs (i + 1)) (xs (i + 2)) hg
  have e18 : ad1 18 0 = ad 18 0 := hE1.1 18 0 hLI.2.2.2.1.1
  have hM : mSt D dA base (rs (outM M (ftF M (xs (i + 1)) (xs (i + 2)))) (rq M)) ad1 s.heap H locs := by rw [← hrq, rs_rq]; exact hM
  refine lv_istore (lv' := [(5, .int (nI (ftF M (xs (i + 1)) (xs (i + 2))).1)), (4, .int (nI i)), (3, .ref (ad 17 0)), (2, .ref (ad 18 0)), (1, .ref (ad 0 0)), (0, .ref b)]) X.1 X.2.1 d_Lw_law_626 hl (by decide) rfl (fun ls hl => ?_)
  refine lv_aload_n X.1 X.2.1 d_Lw_law_628 rfl (lv_at hl 3 rfl) ?_
  refine lv_aload_n X.1 X.2.1 d_Lw_law_629 rfl (lv_at hl 5 rfl) ?_
  refine lv_iload X.1 X.2.1 d_Lw_law_630 (lv_at hl 1 rfl) ?_
  refine lv_iconst (v := 1) X.1 X.2.1 d_Lw_law_632 (by decide) ?_
  refine lv_iadd X.1 X.2.1 d_Lw_law_633 ?_
  refine r_sld X hM hXs hbl hbA hL (nI_add i 1) (show i + 1 < L by omega) d_Lw_law_634 ?_
  refine lv_aload_n X.1 X.2.1 d_Lw_law_635 rfl (lv_at hl 5 rfl) ?_
  refine lv_iload X.1 X.2.1 d_Lw_law_636 (lv_at hl 1 rfl) ?_
  refine lv_iconst (v := 2) X.1 X.2.1 d_Lw_law_638 (by decide) ?_
  refine lv_iadd X.1 X.2.1 d_Lw_law_639 ?_
  refine r_sld X hM hXs hbl hbA hL (nI_add i 2) (show i + 2 < L by omega) d_Lw_law_640 ?_
  have hC9 := k_Md_fetch l D dA base (outM M (ftF M (xs (i + 1)) (xs (i + 2)))) ad1 hR1 (rq M) (xs (i + 1)) (xs (i + 2)) ok
  rw [e18] at hC9
  refine r_cV (As := [.int (xs (i + 1)), .int (xs (i + 2))]) (rest := []) X hml hl.1 hM hC9 c_Lw_104 v_Md_fetch kc_Md e18 hR1.1 rfl (Nat.le_of_ble_eq_true rfl) ⟨rfl, rfl, Nat.le_of_ble_eq_true rfl, Nat.le_of_ble_eq_true rfl⟩ ⟨(by dsimp only [room_1]; omega), (by dsimp only [room_1]; omega)⟩ d_Lw_law_641 ?_
  intro rv M9 ad9 H locs hP hM hE9
  obtain ⟨e1, e2, e3⟩ := hP
  subst rv; subst M9; subst ad9
  show W _ _ _ _ _ _ _ _ _ _ _ _ _ _ _ (F0 m 644 ls [.int (m_fetch (rq M) (xs (i + 1)) (xs (i + 2))).1])
  refine lv_istore (lv' := [(6, .int (m_fetch (rq M) (xs (i + 1)) (xs (i + 2))).1), (5, .int (nI (ftF M (xs (i + 1)) (xs (i + 2))).1)), (4, .int (nI i)), (3, .ref (ad 17 0)), (2, .ref (ad 18 0)), (1, .ref (ad 0 0)), (0, .ref b)]) X.1 X.2.1 d_Lw_law_644 hl (by decide) rfl (fun ls hl => ?_)
  refine lv_aload_n X.1 X.2.1 d_Lw_law_646 rfl (lv_at hl 4 rfl) ?_
  have hC9 := k_Md_thrown l D dA base (outM M (ftF M (xs (i + 1)) (xs (i + 2)))) ad1 hR1 ((m_fetch (rq M) (xs (i + 1)) (xs (i + 2))).2)
  rw [e18] at hC9
  refine r_cV (As := []) (rest := []) X hml hl.1 hM hC9 c_Lw_72 v_Md_thrown kc_Md e18 hR1.1 rfl (Nat.le_of_ble_eq_true rfl) ⟨rfl, rfl, Nat.le_of_ble_eq_true rfl, Nat.le_of_ble_eq_true rfl⟩ ⟨(by dsimp only [room_1]; omega), (by dsimp only [room_1]; omega)⟩ d_Lw_law_647 ?_
  intro rv M9 ad9 H locs hP hM hE9
  obtain ⟨e1, e2, e3⟩ := hP
  subst rv; subst M9; subst ad9
  show W _ _ _ _ _ _ _ _ _ _ _ _ _ _ _ (F0 m 650 ls [.int (m_thrown ((m_fetch (rq M) (xs (i + 1)) (xs (i + 2))).2))])
  refine lv_iload X.1 X.2.1 d_Lw_law_650 (lv_at hl 1 rfl) ?_
  refine lv_icmp_eq (tgt := 657) X.1 X.2.1 d_Lw_law_652 (by decide) (fun hc1 => ?_) (fun hc1 => absurd hth hc1)
  refine lv_iload X.1 X.2.1 d_Lw_law_657 (lv_at hl 1 rfl) ?_
  refine lv_if_ne (tgt := 674) X.1 X.2.1 d_Lw_law_659 (by decide) (fun hc2 => ?_) (fun hc2 => ?_)
  · skip
    refine lv_goto (tgt := 981) X.1 X.2.1 d_Lw_law_674 (by decide) ?_
    exact kk _ ad1 _ _ ls hM hLI1 ⟨hE1.1, fun a => hE1.2 a⟩ (lv_sub hl [2, 3, 4, 5, 6] rfl)
  · have hF0 : (ftF M (xs (i + 1)) (xs (i + 2))).1 = 0 := (nI_eq (b := 0) (Nat.lt_trans (ftF_b M _ _) (by decide)) (by decide)).mp hc2
    refine lv_aload_n X.1 X.2.1 d_Lw_law_662 rfl (lv_at hl 3 rfl) ?_
    refine lv_iconst (v := 0) X.1 X.2.1 d_Lw_law_663 (by decide) ?_
    refine r_lald X hM (hE1.1 17 0 hLI.2.2.2.2) hg a_out (fun _ => rfl) (j := 0) rfl (by decide) d_Lw_law_664 ?_
    refine lv_iload X.1 X.2.1 d_Lw_law_665 (lv_at hl 0 rfl) ?_
    refine lv_i2l X.1 X.2.1 d_Lw_law_667 rfl ?_
    refine W.lcmp X.1 X.2.1 d_Lw_law_668 ?_
    refine lv_if_eq (tgt := 674) X.1 X.2.1 d_Lw_law_669 (by decide) (fun hc3 => ?_) (fun hc3 => absurd ((lg_cmp_eq _ _).mpr (by rw [out_gl hF0, hv hF0])) hc3)
    refine lv_goto (tgt := 981) X.1 X.2.1 d_Lw_law_674 (by decide) ?_
    exact kk _ ad1 _ _ ls hM hLI1 ⟨hE1.1, fun a => hE1.2 a⟩ (lv_sub hl [2, 3, 4, 5, 6] rfl)
set_option maxHeartbeats 4000000 in
set_option maxRecDepth 100000 in
theorem lc_registration {p : Program} {l : Launch} {e : Env} {s : State} {m : MethodId} {below : List Frame} {meth : Method} {c : Code} {H : Heap} {locs : List Loc} {cells slots : Nat} {Q : State → Prop} {ls : Array Slot} {D : va_G} {dA : Nat → ClassId} {base : Nat} {M : mM} {ad : Nat → Nat → Nat} {b L i B : Nat} {xs : Nat → Int32}
    (X : mCx D dA base p s m #[Value.ref b] c code "ScopeKeeperLaw") (hst : l.stackTraces = false) (hml : c.maxLocals = 7) (hN : mN s) (hXs : va_X b L xs s s.heap) (hbl : b < s.heap.size) (hbA : ¬ base ≤ b) (hL : L < 2 ^ 31) (hi6 : i + 6 ≤ L)
    (hM : mSt D dA base M ad s.heap H locs) (hLI : LI M B) (hB : B + 300 < 1000000) (hcs : cells + 8 ≤ 601024 ∧ slots + 40 ≤ 7293034)
    (hl : lv_has ls 7 [(4, .int (nI i)), (3, .ref (ad 17 0)), (2, .ref (ad 18 0)), (1, .ref (ad 0 0)), (0, .ref b)])
    (kk : ∀ (M' : mM) (ad' : Nat → Nat → Nat) (H' : Heap) (locs' : List Loc) (ls' : Array Slot), mSt D dA base M' ad' s.heap H' locs' → LI M' (B + 100) → mExt M ad M' ad' → lv_has ls' 7 [(4, .int (nI i)), (3, .ref (ad 17 0)), (2, .ref (ad 18 0)), (1, .ref (ad 0 0)), (0, .ref b)] → W p l e room_1 s m #[Value.ref b] below meth c H' locs' (cells + 8) (slots + 40) Q (F0 m 981 ls' [])) :
    W p l e room_1 s m #[Value.ref b] below meth c H locs cells slots Q (F0 m 677 ls []) := by
  refine lv_aload_n X.1 X.2.1 d_Lw_law_677 rfl (lv_at hl 3 rfl) ?_
  refine lv_aload_n X.1 X.2.1 d_Lw_law_678 rfl (lv_at hl 4 rfl) ?_
  refine lv_iload X.1 X.2.1 d_Lw_law_679 (lv_at hl 0 rfl) ?_
  refine lv_iconst (v := 1) X.1 X.2.1 d_Lw_law_681 (by decide) ?_
  refine lv_iadd X.1 X.2.1 d_Lw_law_682 ?_
  refine r_sld X hM hXs hbl hbA hL (nI_add i 1) (show i + 1 < L by omega) d_Lw_law_683 ?_
  refine lv_aload_n X.1 X.2.1 d_Lw_law_684 rfl (lv_at hl 4 rfl) ?_
  refine lv_iload X.1 X.2.1 d_Lw_law_685 (lv_at hl 0 rfl) ?_
  refine lv_iconst (v := 2) X.1 X.2.1 d_Lw_law_687 (by decide) ?_
  refine lv_iadd X.1 X.2.1 d_Lw_law_688 ?_
  refine r_sld X hM hXs hbl hbA hL (nI_add i 2) (show i + 2 < L by omega) d_Lw_law_689 ?_
  refine lv_aload_n X.1 X.2.1 d_Lw_law_690 rfl (lv_at hl 1 rfl) ?_
  refine q_registration (x := xs (i + 1)) (w := xs (i + 2)) X hst hml hl.1 hM hN hLI.1 hLI.2.2.2.2 (Nat.le_of_ble_eq_true rfl) ⟨by decide, by decide⟩ ⟨(by dsimp only [room_1]; omega), (by dsimp only [room_1]; omega)⟩ d_Lw_law_691 (fun ad1 H locs hM hE1 => ?_)
  have hg : 0 < gn (outM M (fRg M (xs (i + 1)) (xs (i + 2)))) 17 := Nat.lt_of_lt_of_le hLI.2.2.2.2 (hE1.2 17)
  obtain ⟨ok, hv, hLI1, hR1, hrq, hth⟩ := pl_registration hLI hB (xs (i + 1)) (xs (i + 2)) hg
  have e18 : ad1 18 0 = ad 18 0 := hE1.1 18 0 hLI.2.2.2.1.1
  have hM : mSt D dA base (rs (outM M (fRg M (xs (i + 1)) (xs (i + 2)))) (rq M)) ad1 s.heap H locs := by rw [← hrq, rs_rq]; exact hM
  refine lv_istore (lv' := [(5, .int (nI (fRg M (xs (i + 1)) (xs (i + 2))).1)), (4, .int (nI i)), (3, .ref (ad 17 0)), (2, .ref (ad 18 0)), (1, .ref (ad 0 0)), (0, .ref b)]) X.1 X.2.1 d_Lw_law_694 hl (by decide) rfl (fun ls hl => ?_)
  refine lv_aload_n X.1 X.2.1 d_Lw_law_696 rfl (lv_at hl 3 rfl) ?_
  refine lv_aload_n X.1 X.2.1 d_Lw_law_697 rfl (lv_at hl 5 rfl) ?_
  refine lv_iload X.1 X.2.1 d_Lw_law_698 (lv_at hl 1 rfl) ?_
  refine lv_iconst (v := 1) X.1 X.2.1 d_Lw_law_700 (by decide) ?_
  refine lv_iadd X.1 X.2.1 d_Lw_law_701 ?_
  refine r_sld X hM hXs hbl hbA hL (nI_add i 1) (show i + 1 < L by omega) d_Lw_law_702 ?_
  refine lv_aload_n X.1 X.2.1 d_Lw_law_703 rfl (lv_at hl 5 rfl) ?_
  refine lv_iload X.1 X.2.1 d_Lw_law_704 (lv_at hl 1 rfl) ?_
  refine lv_iconst (v := 2) X.1 X.2.1 d_Lw_law_706 (by decide) ?_
  refine lv_iadd X.1 X.2.1 d_Lw_law_707 ?_
  refine r_sld X hM hXs hbl hbA hL (nI_add i 2) (show i + 2 < L by omega) d_Lw_law_708 ?_
  have hC9 := k_Md_registration l D dA base (outM M (fRg M (xs (i + 1)) (xs (i + 2)))) ad1 hR1 (rq M) (xs (i + 1)) (xs (i + 2)) ok
  rw [e18] at hC9
  refine r_cV (As := [.int (xs (i + 1)), .int (xs (i + 2))]) (rest := []) X hml hl.1 hM hC9 c_Lw_107 v_Md_registration kc_Md e18 hR1.1 rfl (Nat.le_of_ble_eq_true rfl) ⟨rfl, rfl, Nat.le_of_ble_eq_true rfl, Nat.le_of_ble_eq_true rfl⟩ ⟨(by dsimp only [room_1]; omega), (by dsimp only [room_1]; omega)⟩ d_Lw_law_709 ?_
  intro rv M9 ad9 H locs hP hM hE9
  obtain ⟨e1, e2, e3⟩ := hP
  subst rv; subst M9; subst ad9
  show W _ _ _ _ _ _ _ _ _ _ _ _ _ _ _ (F0 m 712 ls [.int (m_registration (rq M) (xs (i + 1)) (xs (i + 2))).1])
  refine lv_istore (lv' := [(6, .int (m_registration (rq M) (xs (i + 1)) (xs (i + 2))).1), (5, .int (nI (fRg M (xs (i + 1)) (xs (i + 2))).1)), (4, .int (nI i)), (3, .ref (ad 17 0)), (2, .ref (ad 18 0)), (1, .ref (ad 0 0)), (0, .ref b)]) X.1 X.2.1 d_Lw_law_712 hl (by decide) rfl (fun ls hl => ?_)
  refine lv_aload_n X.1 X.2.1 d_Lw_law_714 rfl (lv_at hl 4 rfl) ?_
  have hC9 := k_Md_thrown l D dA base (outM M (fRg M (xs (i + 1)) (xs (i + 2)))) ad1 hR1 ((m_registration (rq M) (xs (i + 1)) (xs (i + 2))).2)
  rw [e18] at hC9
  refine r_cV (As := []) (rest := []) X hml hl.1 hM hC9 c_Lw_72 v_Md_thrown kc_Md e18 hR1.1 rfl (Nat.le_of_ble_eq_true rfl) ⟨rfl, rfl, Nat.le_of_ble_eq_true rfl, Nat.le_of_ble_eq_true rfl⟩ ⟨(by dsimp only [room_1]; omega), (by dsimp only [room_1]; omega)⟩ d_Lw_law_715 ?_
  intro rv M9 ad9 H locs hP hM hE9
  obtain ⟨e1, e2, e3⟩ := hP
  subst rv; subst M9; subst ad9
  show W _ _ _ _ _ _ _ _ _ _ _ _ _ _ _ (F0 m 718 ls [.int (m_thrown ((m_registration (rq M) (xs (i + 1)) (xs (i + 2))).2))])
  refine lv_iload X.1 X.2.1 d_Lw_law_718 (lv_at hl 1 rfl) ?_
  refine lv_icmp_eq (tgt := 725) X.1 X.2.1 d_Lw_law_720 (by decide) (fun hc1 => ?_) (fun hc1 => absurd hth hc1)
  refine lv_iload X.1 X.2.1 d_Lw_law_725 (lv_at hl 1 rfl) ?_
  refine lv_if_ne (tgt := 742) X.1 X.2.1 d_Lw_law_727 (by decide) (fun hc2 => ?_) (fun hc2 => ?_)
  · skip
    refine lv_goto (tgt := 981) X.1 X.2.1 d_Lw_law_742 (by decide) ?_
    exact kk _ ad1 _ _ ls hM hLI1 ⟨hE1.1, fun a => hE1.2 a⟩ (lv_sub hl [2, 3, 4, 5, 6] rfl)
  · have hF0 : (fRg M (xs (i + 1)) (xs (i + 2))).1 = 0 := (nI_eq (b := 0) (Nat.lt_trans (fRg_b M _ _) (by decide)) (by decide)).mp hc2
    refine lv_aload_n X.1 X.2.1 d_Lw_law_730 rfl (lv_at hl 3 rfl) ?_
    refine lv_iconst (v := 0) X.1 X.2.1 d_Lw_law_731 (by decide) ?_
    refine r_lald X hM (hE1.1 17 0 hLI.2.2.2.2) hg a_out (fun _ => rfl) (j := 0) rfl (by decide) d_Lw_law_732 ?_
    refine lv_iload X.1 X.2.1 d_Lw_law_733 (lv_at hl 0 rfl) ?_
    refine lv_i2l X.1 X.2.1 d_Lw_law_735 rfl ?_
    refine W.lcmp X.1 X.2.1 d_Lw_law_736 ?_
    refine lv_if_eq (tgt := 742) X.1 X.2.1 d_Lw_law_737 (by decide) (fun hc3 => ?_) (fun hc3 => absurd ((lg_cmp_eq _ _).mpr (by rw [out_gl hF0, hv hF0])) hc3)
    refine lv_goto (tgt := 981) X.1 X.2.1 d_Lw_law_742 (by decide) ?_
    exact kk _ ad1 _ _ ls hM hLI1 ⟨hE1.1, fun a => hE1.2 a⟩ (lv_sub hl [2, 3, 4, 5, 6] rfl)
