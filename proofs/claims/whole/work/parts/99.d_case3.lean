set_option maxHeartbeats 4000000 in
set_option maxRecDepth 100000 in
theorem lc_worker {p : Program} {l : Launch} {e : Env} {s : State} {m : MethodId} {below : List Frame} {meth : Method} {c : Code} {H : Heap} {locs : List Loc} {cells slots : Nat} {Q : State → Prop} {ls : Array Slot} {D : va_G} {dA : Nat → ClassId} {base : Nat} {M : mM} {ad : Nat → Nat → Nat} {b L i B : Nat} {xs : Nat → Int32}
    (X : mCx D dA base p s m #[Value.ref b] c code "ScopeKeeperLaw") (hst : l.stackTraces = false) (hml : c.maxLocals = 7) (hN : mN s) (hXs : va_X b L xs s s.heap) (hbl : b < s.heap.size) (hbA : ¬ base ≤ b) (hL : L < 2 ^ 31) (hi6 : i + 6 ≤ L)
    (hM : mSt D dA base M ad s.heap H locs) (hLI : LI M B) (hB : B + 300 < 1000000) (hcs : cells + 8 ≤ 601024 ∧ slots + 40 ≤ 7293034)
    (hl : lv_has ls 7 [(4, .int (nI i)), (3, .ref (ad 17 0)), (2, .ref (ad 18 0)), (1, .ref (ad 0 0)), (0, .ref b)])
    (kk : ∀ (M' : mM) (ad' : Nat → Nat → Nat) (H' : Heap) (locs' : List Loc) (ls' : Array Slot), mSt D dA base M' ad' s.heap H' locs' → LI M' (B + 100) → mExt M ad M' ad' → lv_has ls' 7 [(4, .int (nI i)), (3, .ref (ad 17 0)), (2, .ref (ad 18 0)), (1, .ref (ad 0 0)), (0, .ref b)] → W p l e room_1 s m #[Value.ref b] below meth c H' locs' (cells + 8) (slots + 40) Q (F0 m 981 ls' [])) :
    W p l e room_1 s m #[Value.ref b] below meth c H locs cells slots Q (F0 m 745 ls []) := by
  refine lv_aload_n X.1 X.2.1 d_Lw_law_745 rfl (lv_at hl 3 rfl) ?_
  refine lv_aload_n X.1 X.2.1 d_Lw_law_746 rfl (lv_at hl 4 rfl) ?_
  refine lv_iload X.1 X.2.1 d_Lw_law_747 (lv_at hl 0 rfl) ?_
  refine lv_iconst (v := 1) X.1 X.2.1 d_Lw_law_749 (by decide) ?_
  refine lv_iadd X.1 X.2.1 d_Lw_law_750 ?_
  refine r_sld X hM hXs hbl hbA hL (nI_add i 1) (show i + 1 < L by omega) d_Lw_law_751 ?_
  refine lv_aload_n X.1 X.2.1 d_Lw_law_752 rfl (lv_at hl 4 rfl) ?_
  refine lv_iload X.1 X.2.1 d_Lw_law_753 (lv_at hl 0 rfl) ?_
  refine lv_iconst (v := 2) X.1 X.2.1 d_Lw_law_755 (by decide) ?_
  refine lv_iadd X.1 X.2.1 d_Lw_law_756 ?_
  refine r_sld X hM hXs hbl hbA hL (nI_add i 2) (show i + 2 < L by omega) d_Lw_law_757 ?_
  refine lv_aload_n X.1 X.2.1 d_Lw_law_758 rfl (lv_at hl 1 rfl) ?_
  refine q_worker (w := xs (i + 1)) (q := xs (i + 2)) X hst hml hl.1 hM hN hLI.1 hLI.2.2.2.2 (Nat.le_of_ble_eq_true rfl) ⟨by decide, by decide⟩ ⟨(by dsimp only [room_1]; omega), (by dsimp only [room_1]; omega)⟩ d_Lw_law_759 (fun ad1 H locs hM hE1 => ?_)
  have hg : 0 < gn (outM M (fWk M (xs (i + 1)) (xs (i + 2)))) 17 := Nat.lt_of_lt_of_le hLI.2.2.2.2 (hE1.2 17)
  obtain ⟨ok, hv, hLI1, hR1, hrq, hth⟩ := pl_worker hLI hB (xs (i + 1)) (xs (i + 2)) hg
  have e18 : ad1 18 0 = ad 18 0 := hE1.1 18 0 hLI.2.2.2.1.1
  have hM : mSt D dA base (rs (outM M (fWk M (xs (i + 1)) (xs (i + 2)))) (rq M)) ad1 s.heap H locs := by rw [← hrq, rs_rq]; exact hM
  refine lv_istore (lv' := [(5, .int (nI (fWk M (xs (i + 1)) (xs (i + 2))).1)), (4, .int (nI i)), (3, .ref (ad 17 0)), (2, .ref (ad 18 0)), (1, .ref (ad 0 0)), (0, .ref b)]) X.1 X.2.1 d_Lw_law_762 hl (by decide) rfl (fun ls hl => ?_)
  refine lv_aload_n X.1 X.2.1 d_Lw_law_764 rfl (lv_at hl 3 rfl) ?_
  refine lv_aload_n X.1 X.2.1 d_Lw_law_765 rfl (lv_at hl 5 rfl) ?_
  refine lv_iload X.1 X.2.1 d_Lw_law_766 (lv_at hl 1 rfl) ?_
  refine lv_iconst (v := 1) X.1 X.2.1 d_Lw_law_768 (by decide) ?_
  refine lv_iadd X.1 X.2.1 d_Lw_law_769 ?_
  refine r_sld X hM hXs hbl hbA hL (nI_add i 1) (show i + 1 < L by omega) d_Lw_law_770 ?_
  refine lv_aload_n X.1 X.2.1 d_Lw_law_771 rfl (lv_at hl 5 rfl) ?_
  refine lv_iload X.1 X.2.1 d_Lw_law_772 (lv_at hl 1 rfl) ?_
  refine lv_iconst (v := 2) X.1 X.2.1 d_Lw_law_774 (by decide) ?_
  refine lv_iadd X.1 X.2.1 d_Lw_law_775 ?_
  refine r_sld X hM hXs hbl hbA hL (nI_add i 2) (show i + 2 < L by omega) d_Lw_law_776 ?_
  have hC9 := k_Md_worker l D dA base (outM M (fWk M (xs (i + 1)) (xs (i + 2)))) ad1 hR1 (rq M) (xs (i + 1)) (xs (i + 2)) ok
  rw [e18] at hC9
  refine r_cV (As := [.int (xs (i + 1)), .int (xs (i + 2))]) (rest := []) X hml hl.1 hM hC9 c_Lw_110 v_Md_worker kc_Md e18 hR1.1 rfl (Nat.le_of_ble_eq_true rfl) ⟨rfl, rfl, Nat.le_of_ble_eq_true rfl, Nat.le_of_ble_eq_true rfl⟩ ⟨(by dsimp only [room_1]; omega), (by dsimp only [room_1]; omega)⟩ d_Lw_law_777 ?_
  intro rv M9 ad9 H locs hP hM hE9
  obtain ⟨e1, e2, e3⟩ := hP
  subst rv; subst M9; subst ad9
  show W _ _ _ _ _ _ _ _ _ _ _ _ _ _ _ (F0 m 780 ls [.int (m_worker (rq M) (xs (i + 1)) (xs (i + 2))).1])
  refine lv_istore (lv' := [(6, .int (m_worker (rq M) (xs (i + 1)) (xs (i + 2))).1), (5, .int (nI (fWk M (xs (i + 1)) (xs (i + 2))).1)), (4, .int (nI i)), (3, .ref (ad 17 0)), (2, .ref (ad 18 0)), (1, .ref (ad 0 0)), (0, .ref b)]) X.1 X.2.1 d_Lw_law_780 hl (by decide) rfl (fun ls hl => ?_)
  refine lv_aload_n X.1 X.2.1 d_Lw_law_782 rfl (lv_at hl 4 rfl) ?_
  have hC9 := k_Md_thrown l D dA base (outM M (fWk M (xs (i + 1)) (xs (i + 2)))) ad1 hR1 ((m_worker (rq M) (xs (i + 1)) (xs (i + 2))).2)
  rw [e18] at hC9
  refine r_cV (As := []) (rest := []) X hml hl.1 hM hC9 c_Lw_72 v_Md_thrown kc_Md e18 hR1.1 rfl (Nat.le_of_ble_eq_true rfl) ⟨rfl, rfl, Nat.le_of_ble_eq_true rfl, Nat.le_of_ble_eq_true rfl⟩ ⟨(by dsimp only [room_1]; omega), (by dsimp only [room_1]; omega)⟩ d_Lw_law_783 ?_
  intro rv M9 ad9 H locs hP hM hE9
  obtain ⟨e1, e2, e3⟩ := hP
  subst rv; subst M9; subst ad9
  show W _ _ _ _ _ _ _ _ _ _ _ _ _ _ _ (F0 m 786 ls [.int (m_thrown ((m_worker (rq M) (xs (i + 1)) (xs (i + 2))).2))])
  refine lv_iload X.1 X.2.1 d_Lw_law_786 (lv_at hl 1 rfl) ?_
  refine lv_icmp_eq (tgt := 793) X.1 X.2.1 d_Lw_law_788 (by decide) (fun hc1 => ?_) (fun hc1 => absurd hth hc1)
  refine lv_iload X.1 X.2.1 d_Lw_law_793 (lv_at hl 1 rfl) ?_
  refine lv_if_ne (tgt := 810) X.1 X.2.1 d_Lw_law_795 (by decide) (fun hc2 => ?_) (fun hc2 => ?_)
  · skip
    refine lv_goto (tgt := 981) X.1 X.2.1 d_Lw_law_810 (by decide) ?_
    exact kk _ ad1 _ _ ls hM hLI1 ⟨hE1.1, fun a => hE1.2 a⟩ (lv_sub hl [2, 3, 4, 5, 6] rfl)
  · have hF0 : (fWk M (xs (i + 1)) (xs (i + 2))).1 = 0 := (nI_eq (b := 0) (Nat.lt_trans (fWk_b M _ _) (by decide)) (by decide)).mp hc2
    refine lv_aload_n X.1 X.2.1 d_Lw_law_798 rfl (lv_at hl 3 rfl) ?_
    refine lv_iconst (v := 0) X.1 X.2.1 d_Lw_law_799 (by decide) ?_
    refine r_lald X hM (hE1.1 17 0 hLI.2.2.2.2) hg a_out (fun _ => rfl) (j := 0) rfl (by decide) d_Lw_law_800 ?_
    refine lv_iload X.1 X.2.1 d_Lw_law_801 (lv_at hl 0 rfl) ?_
    refine lv_i2l X.1 X.2.1 d_Lw_law_803 rfl ?_
    refine W.lcmp X.1 X.2.1 d_Lw_law_804 ?_
    refine lv_if_eq (tgt := 810) X.1 X.2.1 d_Lw_law_805 (by decide) (fun hc3 => ?_) (fun hc3 => absurd ((lg_cmp_eq _ _).mpr (by rw [out_gl hF0, hv hF0])) hc3)
    refine lv_goto (tgt := 981) X.1 X.2.1 d_Lw_law_810 (by decide) ?_
    exact kk _ ad1 _ _ ls hM hLI1 ⟨hE1.1, fun a => hE1.2 a⟩ (lv_sub hl [2, 3, 4, 5, 6] rfl)
set_option maxHeartbeats 4000000 in
set_option maxRecDepth 100000 in
theorem lc_outcome {p : Program} {l : Launch} {e : Env} {s : State} {m : MethodId} {below : List Frame} {meth : Method} {c : Code} {H : Heap} {locs : List Loc} {cells slots : Nat} {Q : State → Prop} {ls : Array Slot} {D : va_G} {dA : Nat → ClassId} {base : Nat} {M : mM} {ad : Nat → Nat → Nat} {b L i B : Nat} {xs : Nat → Int32}
    (X : mCx D dA base p s m #[Value.ref b] c code "ScopeKeeperLaw") (hst : l.stackTraces = false) (hml : c.maxLocals = 7) (hN : mN s) (hXs : va_X b L xs s s.heap) (hbl : b < s.heap.size) (hbA : ¬ base ≤ b) (hL : L < 2 ^ 31) (hi6 : i + 6 ≤ L)
    (hM : mSt D dA base M ad s.heap H locs) (hLI : LI M B) (hB : B + 300 < 1000000) (hcs : cells + 8 ≤ 601024 ∧ slots + 40 ≤ 7293034)
    (hl : lv_has ls 7 [(4, .int (nI i)), (3, .ref (ad 17 0)), (2, .ref (ad 18 0)), (1, .ref (ad 0 0)), (0, .ref b)])
    (kk : ∀ (M' : mM) (ad' : Nat → Nat → Nat) (H' : Heap) (locs' : List Loc) (ls' : Array Slot), mSt D dA base M' ad' s.heap H' locs' → LI M' (B + 100) → mExt M ad M' ad' → lv_has ls' 7 [(4, .int (nI i)), (3, .ref (ad 17 0)), (2, .ref (ad 18 0)), (1, .ref (ad 0 0)), (0, .ref b)] → W p l e room_1 s m #[Value.ref b] below meth c H' locs' (cells + 8) (slots + 40) Q (F0 m 981 ls' [])) :
    W p l e room_1 s m #[Value.ref b] below meth c H locs cells slots Q (F0 m 813 ls []) := by
  refine lv_aload_n X.1 X.2.1 d_Lw_law_813 rfl (lv_at hl 3 rfl) ?_
  refine lv_aload_n X.1 X.2.1 d_Lw_law_814 rfl (lv_at hl 4 rfl) ?_
  refine lv_iload X.1 X.2.1 d_Lw_law_815 (lv_at hl 0 rfl) ?_
  refine lv_iconst (v := 1) X.1 X.2.1 d_Lw_law_817 (by decide) ?_
  refine lv_iadd X.1 X.2.1 d_Lw_law_818 ?_
  refine r_sld X hM hXs hbl hbA hL (nI_add i 1) (show i + 1 < L by omega) d_Lw_law_819 ?_
  refine lv_aload_n X.1 X.2.1 d_Lw_law_820 rfl (lv_at hl 1 rfl) ?_
  refine q_outcome (x := xs (i + 1)) X hst hml hl.1 hM hN hLI.1 hLI.2.2.2.2 (Nat.le_of_ble_eq_true rfl) ⟨by decide, by decide⟩ ⟨(by dsimp only [room_1]; omega), (by dsimp only [room_1]; omega)⟩ d_Lw_law_821 (fun ad1 H locs hM hE1 => ?_)
  have hg : 0 < gn (outM M (fOc M (xs (i + 1)))) 17 := Nat.lt_of_lt_of_le hLI.2.2.2.2 (hE1.2 17)
  obtain ⟨ok, hv, hLI1, hR1, hrq, hth⟩ := pl_outcome hLI hB (xs (i + 1)) hg
  have e18 : ad1 18 0 = ad 18 0 := hE1.1 18 0 hLI.2.2.2.1.1
  have hM : mSt D dA base (rs (outM M (fOc M (xs (i + 1)))) (rq M)) ad1 s.heap H locs := by rw [← hrq, rs_rq]; exact hM
  refine lv_istore (lv' := [(5, .int (nI (fOc M (xs (i + 1))).1)), (4, .int (nI i)), (3, .ref (ad 17 0)), (2, .ref (ad 18 0)), (1, .ref (ad 0 0)), (0, .ref b)]) X.1 X.2.1 d_Lw_law_824 hl (by decide) rfl (fun ls hl => ?_)
  refine lv_aload_n X.1 X.2.1 d_Lw_law_826 rfl (lv_at hl 3 rfl) ?_
  refine lv_aload_n X.1 X.2.1 d_Lw_law_827 rfl (lv_at hl 5 rfl) ?_
  refine lv_iload X.1 X.2.1 d_Lw_law_828 (lv_at hl 1 rfl) ?_
  refine lv_iconst (v := 1) X.1 X.2.1 d_Lw_law_830 (by decide) ?_
  refine lv_iadd X.1 X.2.1 d_Lw_law_831 ?_
  refine r_sld X hM hXs hbl hbA hL (nI_add i 1) (show i + 1 < L by omega) d_Lw_law_832 ?_
  have hC9 := k_Md_outcome l D dA base (outM M (fOc M (xs (i + 1)))) ad1 hR1 (rq M) (xs (i + 1)) ok
  rw [e18] at hC9
  refine r_cV (As := [.int (xs (i + 1))]) (rest := []) X hml hl.1 hM hC9 c_Lw_113 v_Md_outcome kc_Md e18 hR1.1 rfl (Nat.le_of_ble_eq_true rfl) ⟨rfl, rfl, Nat.le_of_ble_eq_true rfl, Nat.le_of_ble_eq_true rfl⟩ ⟨(by dsimp only [room_1]; omega), (by dsimp only [room_1]; omega)⟩ d_Lw_law_833 ?_
  intro rv M9 ad9 H locs hP hM hE9
  obtain ⟨e1, e2, e3⟩ := hP
  subst rv; subst M9; subst ad9
  show W _ _ _ _ _ _ _ _ _ _ _ _ _ _ _ (F0 m 836 ls [.int (m_outcome (rq M) (xs (i + 1))).1])
  refine lv_istore (lv' := [(6, .int (m_outcome (rq M) (xs (i + 1))).1), (5, .int (nI (fOc M (xs (i + 1))).1)), (4, .int (nI i)), (3, .ref (ad 17 0)), (2, .ref (ad 18 0)), (1, .ref (ad 0 0)), (0, .ref b)]) X.1 X.2.1 d_Lw_law_836 hl (by decide) rfl (fun ls hl => ?_)
  refine lv_aload_n X.1 X.2.1 d_Lw_law_838 rfl (lv_at hl 4 rfl) ?_
  have hC9 := k_Md_thrown l D dA base (outM M (fOc M (xs (i + 1)))) ad1 hR1 ((m_outcome (rq M) (xs (i + 1))).2)
  rw [e18] at hC9
  refine r_cV (As := []) (rest := []) X hml hl.1 hM hC9 c_Lw_72 v_Md_thrown kc_Md e18 hR1.1 rfl (Nat.le_of_ble_eq_true rfl) ⟨rfl, rfl, Nat.le_of_ble_eq_true rfl, Nat.le_of_ble_eq_true rfl⟩ ⟨(by dsimp only [room_1]; omega), (by dsimp only [room_1]; omega)⟩ d_Lw_law_839 ?_
  intro rv M9 ad9 H locs hP hM hE9
  obtain ⟨e1, e2, e3⟩ := hP
  subst rv; subst M9; subst ad9
  show W _ _ _ _ _ _ _ _ _ _ _ _ _ _ _ (F0 m 842 ls [.int (m_thrown ((m_outcome (rq M) (xs (i + 1))).2))])
  refine lv_iload X.1 X.2.1 d_Lw_law_842 (lv_at hl 1 rfl) ?_
  refine lv_icmp_eq (tgt := 849) X.1 X.2.1 d_Lw_law_844 (by decide) (fun hc1 => ?_) (fun hc1 => absurd hth hc1)
  refine lv_iload X.1 X.2.1 d_Lw_law_849 (lv_at hl 1 rfl) ?_
  refine lv_if_ne (tgt := 866) X.1 X.2.1 d_Lw_law_851 (by decide) (fun hc2 => ?_) (fun hc2 => ?_)
  · skip
    refine lv_goto (tgt := 981) X.1 X.2.1 d_Lw_law_866 (by decide) ?_
    exact kk _ ad1 _ _ ls hM hLI1 ⟨hE1.1, fun a => hE1.2 a⟩ (lv_sub hl [2, 3, 4, 5, 6] rfl)
  · have hF0 : (fOc M (xs (i + 1))).1 = 0 := (nI_eq (b := 0) (Nat.lt_trans (fOc_b M _) (by decide)) (by decide)).mp hc2
    refine lv_aload_n X.1 X.2.1 d_Lw_law_854 rfl (lv_at hl 3 rfl) ?_
    refine lv_iconst (v := 0) X.1 X.2.1 d_Lw_law_855 (by decide) ?_
    refine r_lald X hM (hE1.1 17 0 hLI.2.2.2.2) hg a_out (fun _ => rfl) (j := 0) rfl (by decide) d_Lw_law_856 ?_
    refine lv_iload X.1 X.2.1 d_Lw_law_857 (lv_at hl 0 rfl) ?_
    refine lv_i2l X.1 X.2.1 d_Lw_law_859 rfl ?_
    refine W.lcmp X.1 X.2.1 d_Lw_law_860 ?_
    refine lv_if_eq (tgt := 866) X.1 X.2.1 d_Lw_law_861 (by decide) (fun hc3 => ?_) (fun hc3 => absurd ((lg_cmp_eq _ _).mpr (by rw [out_gl hF0, hv hF0])) hc3)
    refine lv_goto (tgt := 981) X.1 X.2.1 d_Lw_law_866 (by decide) ?_
    exact kk _ ad1 _ _ ls hM hLI1 ⟨hE1.1, fun a => hE1.2 a⟩ (lv_sub hl [2, 3, 4, 5, 6] rfl)
set_option maxHeartbeats 4000000 in
set_option maxRecDepth 100000 in
theorem lc_trace {p : Program} {l : Launch} {e : Env} {s : State} {m : MethodId} {below : List Frame} {meth : Method} {c : Code} {H : Heap} {locs : List Loc} {cells slots : Nat} {Q : State → Prop} {ls : Array Slot} {D : va_G} {dA : Nat → ClassId} {base : Nat} {M : mM} {ad : Nat → Nat → Nat} {b L i B : Nat} {xs : Nat → Int32}
    (X : mCx D dA base p s m #[Value.ref b] c code "ScopeKeeperLaw") (hst : l.stackTraces = false) (hml : c.maxLocals = 7) (hN : mN s) (hXs : va_X b L xs s s.heap) (hbl : b < s.heap.size) (hbA : ¬ base ≤ b) (hL : L < 2 ^ 31) (hi6 : i + 6 ≤ L)
    (hM : mSt D dA base M ad s.heap H locs) (hLI : LI M B) (hB : B + 300 < 1000000) (hcs : cells + 8 ≤ 601024 ∧ slots + 40 ≤ 7293034)
    (hl : lv_has ls 7 [(4, .int (nI i)), (3, .ref (ad 17 0)), (2, .ref (ad 18 0)), (1, .ref (ad 0 0)), (0, .ref b)])
    (kk : ∀ (M' : mM) (ad' : Nat → Nat → Nat) (H' : Heap) (locs' : List Loc) (ls' : Array Slot), mSt D dA base M' ad' s.heap H' locs' → LI M' (B + 100) → mExt M ad M' ad' → lv_has ls' 7 [(4, .int (nI i)), (3, .ref (ad 17 0)), (2, .ref (ad 18 0)), (1, .ref (ad 0 0)), (0, .ref b)] → W p l e room_1 s m #[Value.ref b] below meth c H' locs' (cells + 8) (slots + 40) Q (F0 m 981 ls' [])) :
    W p l e room_1 s m #[Value.ref b] below meth c H locs cells slots Q (F0 m 869 ls []) := by
  refine lv_aload_n X.1 X.2.1 d_Lw_law_869 rfl (lv_at hl 3 rfl) ?_
  refine lv_aload_n X.1 X.2.1 d_Lw_law_870 rfl (lv_at hl 4 rfl) ?_
  refine lv_iload X.1 X.2.1 d_Lw_law_871 (lv_at hl 0 rfl) ?_
  refine lv_iconst (v := 1) X.1 X.2.1 d_Lw_law_873 (by decide) ?_
  refine lv_iadd X.1 X.2.1 d_Lw_law_874 ?_
  refine r_sld X hM hXs hbl hbA hL (nI_add i 1) (show i + 1 < L by omega) d_Lw_law_875 ?_
  refine lv_aload_n X.1 X.2.1 d_Lw_law_876 rfl (lv_at hl 1 rfl) ?_
  refine q_trace (x := xs (i + 1)) X hst hml hl.1 hM hN hLI.1 hLI.2.2.2.2 (Nat.le_of_ble_eq_true rfl) ⟨by decide, by decide⟩ ⟨(by dsimp only [room_1]; omega), (by dsimp only [room_1]; omega)⟩ d_Lw_law_877 (fun ad1 H locs hM hE1 => ?_)
  have hg : 0 < gn (outM M (fTr M (xs (i + 1)))) 17 := Nat.lt_of_lt_of_le hLI.2.2.2.2 (hE1.2 17)
  obtain ⟨ok, hv, hLI1, hR1, hrq, hth⟩ := pl_trace hLI hB (xs (i + 1)) hg
  have e18 : ad1 18 0 = ad 18 0 := hE1.1 18 0 hLI.2.2.2.1.1
  have hM : mSt D dA base (rs (outM M (fTr M (xs (i + 1)))) (rq M)) ad1 s.heap H locs := by rw [← hrq, rs_rq]; exact hM
  refine lv_istore (lv' := [(5, .int (nI (fTr M (xs (i + 1))).1)), (4, .int (nI i)), (3, .ref (ad 17 0)), (2, .ref (ad 18 0)), (1, .ref (ad 0 0)), (0, .ref b)]) X.1 X.2.1 d_Lw_law_880 hl (by decide) rfl (fun ls hl => ?_)
  refine lv_aload_n X.1 X.2.1 d_Lw_law_882 rfl (lv_at hl 3 rfl) ?_
  refine lv_aload_n X.1 X.2.1 d_Lw_law_883 rfl (lv_at hl 5 rfl) ?_
  refine lv_iload X.1 X.2.1 d_Lw_law_884 (lv_at hl 1 rfl) ?_
  refine lv_iconst (v := 1) X.1 X.2.1 d_Lw_law_886 (by decide) ?_
  refine lv_iadd X.1 X.2.1 d_Lw_law_887 ?_
  refine r_sld X hM hXs hbl hbA hL (nI_add i 1) (show i + 1 < L by omega) d_Lw_law_888 ?_
  have hC9 := k_Md_trace l D dA base (outM M (fTr M (xs (i + 1)))) ad1 hR1 (rq M) (xs (i + 1)) ok
  rw [e18] at hC9
  refine r_cV (As := [.int (xs (i + 1))]) (rest := []) X hml hl.1 hM hC9 c_Lw_116 v_Md_trace kc_Md e18 hR1.1 rfl (Nat.le_of_ble_eq_true rfl) ⟨rfl, rfl, Nat.le_of_ble_eq_true rfl, Nat.le_of_ble_eq_true rfl⟩ ⟨(by dsimp only [room_1]; omega), (by dsimp only [room_1]; omega)⟩ d_Lw_law_889 ?_
  intro rv M9 ad9 H locs hP hM hE9
  obtain ⟨e1, e2, e3⟩ := hP
  subst rv; subst M9; subst ad9
  show W _ _ _ _ _ _ _ _ _ _ _ _ _ _ _ (F0 m 892 ls [.int (m_trace (rq M) (xs (i + 1))).1])
  refine lv_istore (lv' := [(6, .int (m_trace (rq M) (xs (i + 1))).1), (5, .int (nI (fTr M (xs (i + 1))).1)), (4, .int (nI i)), (3, .ref (ad 17 0)), (2, .ref (ad 18 0)), (1, .ref (ad 0 0)), (0, .ref b)]) X.1 X.2.1 d_Lw_law_892 hl (by decide) rfl (fun ls hl => ?_)
  refine lv_aload_n X.1 X.2.1 d_Lw_law_894 rfl (lv_at hl 4 rfl) ?_
  have hC9 := k_Md_thrown l D dA base (outM M (fTr M (xs (i + 1)))) ad1 hR1 ((m_trace (rq M) (xs (i + 1))).2)
  rw [e18] at hC9
  refine r_cV (As := []) (rest := []) X hml hl.1 hM hC9 c_Lw_72 v_Md_thrown kc_Md e18 hR1.1 rfl (Nat.le_of_ble_eq_true rfl) ⟨rfl, rfl, Nat.le_of_ble_eq_true rfl, Nat.le_of_ble_eq_true rfl⟩ ⟨(by dsimp only [room_1]; omega), (by dsimp only [room_1]; omega)⟩ d_Lw_law_895 ?_
  intro rv M9 ad9 H locs hP hM hE9
  obtain ⟨e1, e2, e3⟩ := hP
  subst rv; subst M9; subst ad9
  show W _ _ _ _ _ _ _ _ _ _ _ _ _ _ _ (F0 m 898 ls [.int (m_thrown ((m_trace (rq M) (xs (i + 1))).2))])
  refine lv_iload X.1 X.2.1 d_Lw_law_898 (lv_at hl 1 rfl) ?_
  refine lv_icmp_eq (tgt := 905) X.1 X.2.1 d_Lw_law_900 (by decide) (fun hc1 => ?_) (fun hc1 => absurd hth hc1)
  refine lv_iload X.1 X.2.1 d_Lw_law_905 (lv_at hl 1 rfl) ?_
  refine lv_if_ne (tgt := 922) X.1 X.2.1 d_Lw_law_907 (by decide) (fun hc2 => ?_) (fun hc2 => ?_)
  · skip
    refine lv_goto (tgt := 981) X.1 X.2.1 d_Lw_law_922 (by decide) ?_
    exact kk _ ad1 _ _ ls hM hLI1 ⟨hE1.1, fun a => hE1.2 a⟩ (lv_sub hl [2, 3, 4, 5, 6] rfl)
  · have hF0 : (fTr M (xs (i + 1))).1 = 0 := (nI_eq (b := 0) (Nat.lt_trans (fTr_b M _) (by decide)) (by decide)).mp hc2
    refine lv_aload_n X.1 X.2.1 d_Lw_law_910 rfl (lv_at hl 3 rfl) ?_
    refine lv_iconst (v := 0) X.1 X.2.1 d_Lw_law_911 (by decide) ?_
    refine r_lald X hM (hE1.1 17 0 hLI.2.2.2.2) hg a_out (fun _ => rfl) (j := 0) rfl (by decide) d_Lw_law_912 ?_
    refine lv_iload X.1 X.2.1 d_Lw_law_913 (lv_at hl 0 rfl) ?_
    refine lv_i2l X.1 X.2.1 d_Lw_law_915 rfl ?_
    refine W.lcmp X.1 X.2.1 d_Lw_law_916 ?_
    refine lv_if_eq (tgt := 922) X.1 X.2.1 d_Lw_law_917 (by decide) (fun hc3 => ?_) (fun hc3 => absurd ((lg_cmp_eq _ _).mpr (by rw [out_gl hF0, hv hF0])) hc3)
    refine lv_goto (tgt := 981) X.1 X.2.1 d_Lw_law_922 (by decide) ?_
    exact kk _ ad1 _ _ ls hM hLI1 ⟨hE1.1, fun a => hE1.2 a⟩ (lv_sub hl [2, 3, 4, 5, 6] rfl)
set_option maxHeartbeats 4000000 in
set_option maxRecDepth 100000 in
theorem lc_count {p : Program} {l : Launch} {e : Env} {s : State} {m : MethodId} {below : List Frame} {meth : Method} {c : Code} {H : Heap} {locs : List Loc} {cells slots : Nat} {Q : State → Prop} {ls : Array Slot} {D : va_G} {dA : Nat → ClassId} {base : Nat} {M : mM} {ad : Nat → Nat → Nat} {b L i B : Nat} {xs : Nat → Int32}
    (X : mCx D dA base p s m #[Value.ref b] c code "ScopeKeeperLaw") (hst : l.stackTraces = false) (hml : c.maxLocals = 7) (hN : mN s) (hXs : va_X b L xs s s.heap) (hbl : b < s.heap.size) (hbA : ¬ base ≤ b) (hL : L < 2 ^ 31) (hi6 : i + 6 ≤ L)
    (hM : mSt D dA base M ad s.heap H locs) (hLI : LI M B) (hB : B + 300 < 1000000) (hcs : cells + 8 ≤ 601024 ∧ slots + 40 ≤ 7293034)
    (hl : lv_has ls 7 [(4, .int (nI i)), (3, .ref (ad 17 0)), (2, .ref (ad 18 0)), (1, .ref (ad 0 0)), (0, .ref b)])
    (kk : ∀ (M' : mM) (ad' : Nat → Nat → Nat) (H' : Heap) (locs' : List Loc) (ls' : Array Slot), mSt D dA base M' ad' s.heap H' locs' → LI M' (B + 100) → mExt M ad M' ad' → lv_has ls' 7 [(4, .int (nI i)), (3, .ref (ad 17 0)), (2, .ref (ad 18 0)), (1, .ref (ad 0 0)), (0, .ref b)] → W p l e room_1 s m #[Value.ref b] below meth c H' locs' (cells + 8) (slots + 40) Q (F0 m 981 ls' [])) :
    W p l e room_1 s m #[Value.ref b] below meth c H locs cells slots Q (F0 m 925 ls []) := by
  refine lv_aload_n X.1 X.2.1 d_Lw_law_925 rfl (lv_at hl 3 rfl) ?_
  refine lv_aload_n X.1 X.2.1 d_Lw_law_926 rfl (lv_at hl 4 rfl) ?_
  refine lv_iload X.1 X.2.1 d_Lw_law_927 (lv_at hl 0 rfl) ?_
  refine lv_iconst (v := 1) X.1 X.2.1 d_Lw_law_929 (by decide) ?_
  refine lv_iadd X.1 X.2.1 d_Lw_law_930 ?_
  refine r_sld X hM hXs hbl hbA hL (nI_add i 1) (show i + 1 < L by omega) d_Lw_law_931 ?_
  refine lv_aload_n X.1 X.2.1 d_Lw_law_932 rfl (lv_at hl 1 rfl) ?_
  refine q_count (q := xs (i + 1)) X hst hml hl.1 hM hN hLI.1 hLI.2.2.2.2 (Nat.le_of_ble_eq_true rfl) ⟨by decide, by decide⟩ ⟨(by dsimp only [room_1]; omega), (by dsimp only [room_1]; omega)⟩ d_Lw_law_933 (fun ad1 H locs hM hE1 => ?_)
  have hg : 0 < gn (outM M (fCt M (xs (i + 1)))) 17 := Nat.lt_of_lt_of_le hLI.2.2.2.2 (hE1.2 17)
  obtain ⟨ok, hv, hLI1, hR1, hrq, hth⟩ := pl_count hLI hB (xs (i + 1)) hg
  have e18 : ad1 18 0 = ad 18 0 := hE1.1 18 0 hLI.2.2.2.1.1
  have hM : mSt D dA base (rs (outM M (fCt M (xs (i + 1)))) (rq M)) ad1 s.heap H locs := by rw [← hrq, rs_rq]; exact hM
  refine lv_istore (lv' := [(5, .int (nI (fCt M (xs (i + 1))).1)), (4, .int (nI i)), (3, .ref (ad 17 0)), (2, .ref (ad 18 0)), (1, .ref (ad 0 0)), (0, .ref b)]) X.1 X.2.1 d_Lw_law_936 hl (by decide) rfl (fun ls hl => ?_)
  refine lv_aload_n X.1 X.2.1 d_Lw_law_938 rfl (lv_at hl 3 rfl) ?_
  refine lv_aload_n X.1 X.2.1 d_Lw_law_939 rfl (lv_at hl 5 rfl) ?_
  refine lv_iload X.1 X.2.1 d_Lw_law_940 (lv_at hl 1 rfl) ?_
  refine lv_iconst (v := 1) X.1 X.2.1 d_Lw_law_942 (by decide) ?_
  refine lv_iadd X.1 X.2.1 d_Lw_law_943 ?_
  refine r_sld X hM hXs hbl hbA hL (nI_add i 1) (show i + 1 < L by omega) d_Lw_law_944 ?_
  have hC9 := k_Md_count l D dA base (outM M (fCt M (xs (i + 1)))) ad1 hR1 (rq M) (xs (i + 1)) ok
  rw [e18] at hC9
  refine r_cV (As := [.int (xs (i + 1))]) (rest := []) X hml hl.1 hM hC9 c_Lw_119 v_Md_count kc_Md e18 hR1.1 rfl (Nat.le_of_ble_eq_true rfl) ⟨rfl, rfl, Nat.le_of_ble_eq_true rfl, Nat.le_of_ble_eq_true rfl⟩ ⟨(by dsimp only [room_1]; omega), (by dsimp only [room_1]; omega)⟩ d_Lw_law_945 ?_
  intro rv M9 ad9 H locs hP hM hE9
  obtain ⟨e1, e2, e3⟩ := hP
  subst rv; subst M9; subst ad9
  show W _ _ _ _ _ _ _ _ _ _ _ _ _ _ _ (F0 m 948 ls [.int (m_count (rq M) (xs (i + 1))).1])
  refine lv_istore (lv' := [(6, .int (m_count (rq M) (xs (i + 1))).1), (5, .int (nI (fCt M (xs (i + 1))).1)), (4, .int (nI i)), (3, .ref (ad 17 0)), (2, .ref (ad 18 0)), (1, .ref (ad 0 0)), (0, .ref b)]) X.1 X.2.1 d_Lw_law_948 hl (by decide) rfl (fun ls hl => ?_)
  refine lv_aload_n X.1 X.2.1 d_Lw_law_950 rfl (lv_at hl 4 rfl) ?_
  have hC9 := k_Md_thrown l D dA base (outM M (fCt M (xs (i + 1)))) ad1 hR1 ((m_count (rq M) (xs (i + 1))).2)
  rw [e18] at hC9
  refine r_cV (As := []) (rest := []) X hml hl.1 hM hC9 c_Lw_72 v_Md_thrown kc_Md e18 hR1.1 rfl (Nat.le_of_ble_eq_true rfl) ⟨rfl, rfl, Nat.le_of_ble_eq_true rfl, Nat.le_of_ble_eq_true rfl⟩ ⟨(by dsimp only [room_1]; omega), (by dsimp only [room_1]; omega)⟩ d_Lw_law_951 ?_
  intro rv M9 ad9 H locs hP hM hE9
  obtain ⟨e1, e2, e3⟩ := hP
  subst rv; subst M9; subst ad9
  show W _ _ _ _ _ _ _ _ _ _ _ _ _ _ _ (F0 m 954 ls [.int (m_thrown ((m_count (rq M) (xs (i + 1))).2))])
  refine lv_iload X.1 X.2.1 d_Lw_law_954 (lv_at hl 1 rfl) ?_
  refine lv_icmp_eq (tgt := 961) X.1 X.2.1 d_Lw_law_956 (by decide) (fun hc1 => ?_) (fun hc1 => absurd hth hc1)
  refine lv_iload X.1 X.2.1 d_Lw_law_961 (lv_at hl 1 rfl) ?_
  refine lv_if_ne (tgt := 978) X.1 X.2.1 d_Lw_law_963 (by decide) (fun hc2 => ?_) (fun hc2 => ?_)
  · skip
    refine lv_goto (tgt := 981) X.1 X.2.1 d_Lw_law_978 (by decide) ?_
    exact kk _ ad1 _ _ ls hM hLI1 ⟨hE1.1, fun a => hE1.2 a⟩ (lv_sub hl [2, 3, 4, 5, 6] rfl)
  · have hF0 : (fCt M (xs (i + 1))).1 = 0 := (nI_eq (b := 0) (Nat.lt_trans (fCt_b M _) (by decide)) (by decide)).mp hc2
    refine lv_aload_n X.1 X.2.1 d_Lw_law_966 rfl (lv_at hl 3 rfl) ?_
    refine lv_iconst (v := 0) X.1 X.2.1 d_Lw_law_967 (by decide) ?_
    refine r_lald X hM (hE1.1 17 0 hLI.2.2.2.2) hg a_out (fun _ => rfl) (j := 0) rfl (by decide) d_Lw_law_968 ?_
    refine lv_iload X.1 X.2.1 d_Lw_law_969 (lv_at hl 0 rfl) ?_
    refine lv_i2l X.1 X.2.1 d_Lw_law_971 rfl ?_
    refine W.lcmp X.1 X.2.1 d_Lw_law_972 ?_
    refine lv_if_eq (tgt := 978) X.1 X.2.1 d_Lw_law_973 (by decide) (fun hc3 => ?_) (fun hc3 => absurd ((lg_cmp_eq _ _).mpr (by rw [out_gl hF0, hv hF0])) hc3)
    refine lv_goto (tgt := 981) X.1 X.2.1 d_Lw_law_978 (by decide) ?_
    exact kk _ ad1 _ _ ls hM hLI1 ⟨hE1.1, fun a => hE1.2 a⟩ (lv_sub hl [2, 3, 4, 5, 6] rfl)
