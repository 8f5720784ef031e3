theorem lt_six {L i : Nat} (hL : L < 2 ^ 30) (hi : i < 2 ^ 30) (h : L < i + 6) : nI L - 6 < nI i := by
  rw [Int32.lt_iff_toInt_lt, show (6 : Int32) = nI 6 from rfl, pk_sub_toInt hL (by omega), nI_toInt (by omega)]; omega
set_option maxHeartbeats 4000000 in
set_option maxRecDepth 100000 in
/-- THE LAW'S LOOP: at its head, t calls made -/
theorem law_loop {p : Program} {l : Launch} {e : Env} {s : State} {m : MethodId} {below : List Frame} {meth : Method} {c : Code} {D : va_G} {dA : Nat → ClassId} {b L : Nat} {xs : Nat → Int32}
    (X : mCx D dA s.heap.size p s m #[Value.ref b] c code "ScopeKeeperLaw") (hst : l.stackTraces = false) (hml : c.maxLocals = 7) (hN : mN s) (hXs : va_X b L xs s s.heap) (hbl : b < s.heap.size) (hL : L ≤ 3072) (hr : meth.sig.returnType = ret) (hlocks : meth.locks = false) :
    ∀ (n t : Nat) (M : mM) (ad : Nat → Nat → Nat) (H : Heap) (locs : List Loc) (ls : Array Slot) (cells slots : Nat), 6 * t ≤ L + 6 → L < 6 * t + 6 * n → mSt D dA s.heap.size M ad s.heap H locs → LI M (100 * t) → cells ≤ 100 + 8 * t → slots ≤ 2000 + 40 * t → lv_has ls 7 [(4, .int (nI (6 * t))), (3, .ref (ad 17 0)), (2, .ref (ad 18 0)), (1, .ref (ad 0 0)), (0, .ref b)] → W p l e room_1 s m #[Value.ref b] below meth c H locs cells slots (lw_Z below #[Value.ref b] s) (F0 m 23 ls []) := by
  have hbA : ¬ s.heap.size ≤ b := Nat.not_le.mpr hbl
  have hL31 : L < 2 ^ 31 := by omega
  intro n
  induction n with
  | zero =>
    intro t M ad H locs ls cells slots ht hn hM hLI hce hsl hl
    refine lv_iload X.1 X.2.1 d_Lw_law_23 (lv_at hl 0 rfl) ?_
    refine lv_aload_n X.1 X.2.1 d_Lw_law_25 rfl (lv_at hl 4 rfl) ?_
    refine r_slen X hM hXs hbl hbA d_Lw_law_26 ?_
    refine lv_bipush (v := 6) X.1 X.2.1 d_Lw_law_27 (by decide) ?_
    refine lv_isub X.1 X.2.1 d_Lw_law_29 ?_
    refine lv_icmp_gt (tgt := 987) X.1 X.2.1 d_Lw_law_30 (by decide) (fun hc => ?_) (fun hc => ?_)
    · refine lv_iconst (v := 1) X.1 X.2.1 d_Lw_law_987 (by decide) ?_
      refine va_forget (fun q hq => hM.2.1.2.2 q hq) ?_
      refine W.widen (k := 601024) (n := 7293034) (by omega) (by omega) ?_
      exact lw_ret X.1 X.2.1 hr hlocks d_Lw_law_988
    · exact absurd (lt_six (show L < 2 ^ 30 by omega) (show 6 * t < 2 ^ 30 by omega) (by omega)) hc
  | succ n ih =>
    intro t M ad H locs ls cells slots ht hn hM hLI hce hsl hl
    refine lv_iload X.1 X.2.1 d_Lw_law_23 (lv_at hl 0 rfl) ?_
    refine lv_aload_n X.1 X.2.1 d_Lw_law_25 rfl (lv_at hl 4 rfl) ?_
    refine r_slen X hM hXs hbl hbA d_Lw_law_26 ?_
    refine lv_bipush (v := 6) X.1 X.2.1 d_Lw_law_27 (by decide) ?_
    refine lv_isub X.1 X.2.1 d_Lw_law_29 ?_
    refine lv_icmp_gt (tgt := 987) X.1 X.2.1 d_Lw_law_30 (by decide) (fun hc => ?_) (fun hc => ?_)
    · refine lv_iconst (v := 1) X.1 X.2.1 d_Lw_law_987 (by decide) ?_
      refine va_forget (fun q hq => hM.2.1.2.2 q hq) ?_
      refine W.widen (k := 601024) (n := 7293034) (by omega) (by omega) ?_
      exact lw_ret X.1 X.2.1 hr hlocks d_Lw_law_988
    · have hi6 : 6 * t + 6 ≤ L := by
        rcases Nat.lt_or_ge L (6 * t + 6) with z | z
        · exact absurd (lt_six (show L < 2 ^ 30 by omega) (show 6 * t < 2 ^ 30 by omega) z) hc
        · exact z
      have KK : ∀ (M' : mM) (ad' : Nat → Nat → Nat) (H' : Heap) (locs' : List Loc) (ls' : Array Slot), mSt D dA s.heap.size M' ad' s.heap H' locs' → LI M' (100 * t + 100) → mExt M ad M' ad' → lv_has ls' 7 [(4, .int (nI (6 * t))), (3, .ref (ad 17 0)), (2, .ref (ad 18 0)), (1, .ref (ad 0 0)), (0, .ref b)] → W p l e room_1 s m #[Value.ref b] below meth c H' locs' (cells + 8) (slots + 40) (lw_Z below #[Value.ref b] s) (F0 m 981 ls' []) := by
        intro M' ad' H' locs' ls' hM' hLI' hE hl'
        refine lv_iinc (v := nI (6 * (t + 1))) (lv' := [(4, .int (nI (6 * (t + 1)))), (3, .ref (ad 17 0)), (2, .ref (ad 18 0)), (1, .ref (ad 0 0)), (0, .ref b)]) X.1 X.2.1 d_Lw_law_981 hl' (k := 0) rfl (by rw [show 6 * (t + 1) = 6 * t + 6 by omega]; exact nI_add (6 * t) 6) (by decide) rfl (fun ls hl => ?_)
        refine lv_goto (tgt := 23) X.1 X.2.1 d_Lw_law_984 (by decide) ?_
        rw [← hE.1 17 0 hLI.2.2.2.2, ← hE.1 18 0 hLI.2.2.2.1.1, ← hE.1 0 0 (w_k hLI.1.1)] at hl
        exact ih (t + 1) M' ad' H' locs' ls (cells + 8) (slots + 40) (by omega) (by omega) hM' (by rw [show 100 * (t + 1) = 100 * t + 100 by omega]; exact hLI') (by omega) (by omega) hl
      have hB : 100 * t + 300 < 1000000 := by omega
      have hcs : cells + 8 ≤ 601024 ∧ slots + 40 ≤ 7293034 := by omega
      refine lv_aload_n X.1 X.2.1 d_Lw_law_33 rfl (lv_at hl 4 rfl) ?_
      refine lv_iload X.1 X.2.1 d_Lw_law_34 (lv_at hl 0 rfl) ?_
      refine r_sld X hM hXs hbl hbA hL31 rfl (show 6 * t < L by omega) d_Lw_law_36 ?_
      refine lv_bipush (v := 15) X.1 X.2.1 d_Lw_law_37 (by decide) ?_
      refine lv_iand X.1 X.2.1 d_Lw_law_39 ?_
      by_cases hs_0 : xs (6 * t) &&& 15 = 0
      · refine W.eq (g2 := F0 m 40 ls [.int 0]) (by rw [hs_0]) ?_
        refine lv_tableIn (tgt := 112) X.1 X.2.1 d_Lw_law_40 (by decide) (by decide) rfl (by decide) ?_
        exact lc_serve X hst hml hN hXs hbl hbA hL31 hi6 hM hLI hB hcs hl KK
      by_cases hs_1 : xs (6 * t) &&& 15 = 1
      · refine W.eq (g2 := F0 m 40 ls [.int 1]) (by rw [hs_1]) ?_
        refine lv_tableIn (tgt := 196) X.1 X.2.1 d_Lw_law_40 (by decide) (by decide) rfl (by decide) ?_
        exact lc_network X hst hml hN hXs hbl hbA hL31 hi6 hM hLI hB hcs hl KK
      by_cases hs_2 : xs (6 * t) &&& 15 = 2
      · refine W.eq (g2 := F0 m 40 ls [.int 2]) (by rw [hs_2]) ?_
        refine lv_tableIn (tgt := 249) X.1 X.2.1 d_Lw_law_40 (by decide) (by decide) rfl (by decide) ?_
        exact lc_job X hst hml hN hXs hbl hbA hL31 hi6 hM hLI hB hcs hl KK
      by_cases hs_3 : xs (6 * t) &&& 15 = 3
      · refine W.eq (g2 := F0 m 40 ls [.int 3]) (by rw [hs_3]) ?_
        refine lv_tableIn (tgt := 329) X.1 X.2.1 d_Lw_law_40 (by decide) (by decide) rfl (by decide) ?_
        exact lc_step X hst hml hN hXs hbl hbA hL31 hi6 hM hLI hB hcs hl KK
      by_cases hs_4 : xs (6 * t) &&& 15 = 4
      · refine W.eq (g2 := F0 m 40 ls [.int 4]) (by rw [hs_4]) ?_
        refine lv_tableIn (tgt := 385) X.1 X.2.1 d_Lw_law_40 (by decide) (by decide) rfl (by decide) ?_
        exact lc_open X hst hml hN hXs hbl hbA hL31 hi6 hM hLI hB hcs hl KK
      by_cases hs_5 : xs (6 * t) &&& 15 = 5
      · refine W.eq (g2 := F0 m 40 ls [.int 5]) (by rw [hs_5]) ?_
        refine lv_tableIn (tgt := 441) X.1 X.2.1 d_Lw_law_40 (by decide) (by decide) rfl (by decide) ?_
        exact lc_close X hst hml hN hXs hbl hbA hL31 hi6 hM hLI hB hcs hl KK
      by_cases hs_6 : xs (6 * t) &&& 15 = 6
      · refine W.eq (g2 := F0 m 40 ls [.int 6]) (by rw [hs_6]) ?_
        refine lv_tableIn (tgt := 497) X.1 X.2.1 d_Lw_law_40 (by decide) (by decide) rfl (by decide) ?_
        exact lc_claim X hst hml hN hXs hbl hbA hL31 hi6 hM hLI hB hcs hl KK
      by_cases hs_7 : xs (6 * t) &&& 15 = 7
      · refine W.eq (g2 := F0 m 40 ls [.int 7]) (by rw [hs_7]) ?_
        refine lv_tableIn (tgt := 553) X.1 X.2.1 d_Lw_law_40 (by decide) (by decide) rfl (by decide) ?_
        exact lc_skip X hst hml hN hXs hbl hbA hL31 hi6 hM hLI hB hcs hl KK
      by_cases hs_8 : xs (6 * t) &&& 15 = 8
      · refine W.eq (g2 := F0 m 40 ls [.int 8]) (by rw [hs_8]) ?_
        refine lv_tableIn (tgt := 609) X.1 X.2.1 d_Lw_law_40 (by decide) (by decide) rfl (by decide) ?_
        exact lc_fetch X hst hml hN hXs hbl hbA hL31 hi6 hM hLI hB hcs hl KK
      by_cases hs_9 : xs (6 * t) &&& 15 = 9
      · refine W.eq (g2 := F0 m 40 ls [.int 9]) (by rw [hs_9]) ?_
        refine lv_tableIn (tgt := 677) X.1 X.2.1 d_Lw_law_40 (by decide) (by decide) rfl (by decide) ?_
        exact lc_registration X hst hml hN hXs hbl hbA hL31 hi6 hM hLI hB hcs hl KK
      by_cases hs_10 : xs (6 * t) &&& 15 = 10
      · refine W.eq (g2 := F0 m 40 ls [.int 10]) (by rw [hs_10]) ?_
        refine lv_tableIn (tgt := 745) X.1 X.2.1 d_Lw_law_40 (by decide) (by decide) rfl (by decide) ?_
        exact lc_worker X hst hml hN hXs hbl hbA hL31 hi6 hM hLI hB hcs hl KK
      by_cases hs_11 : xs (6 * t) &&& 15 = 11
      · refine W.eq (g2 := F0 m 40 ls [.int 11]) (by rw [hs_11]) ?_
        refine lv_tableIn (tgt := 813) X.1 X.2.1 d_Lw_law_40 (by decide) (by decide) rfl (by decide) ?_
        exact lc_outcome X hst hml hN hXs hbl hbA hL31 hi6 hM hLI hB hcs hl KK
      by_cases hs_12 : xs (6 * t) &&& 15 = 12
      · refine W.eq (g2 := F0 m 40 ls [.int 12]) (by rw [hs_12]) ?_
        refine lv_tableIn (tgt := 869) X.1 X.2.1 d_Lw_law_40 (by decide) (by decide) rfl (by decide) ?_
        exact lc_trace X hst hml hN hXs hbl hbA hL31 hi6 hM hLI hB hcs hl KK
      by_cases hs_13 : xs (6 * t) &&& 15 = 13
      · refine W.eq (g2 := F0 m 40 ls [.int 13]) (by rw [hs_13]) ?_
        refine lv_tableIn (tgt := 925) X.1 X.2.1 d_Lw_law_40 (by decide) (by decide) rfl (by decide) ?_
        exact lc_count X hst hml hN hXs hbl hbA hL31 hi6 hM hLI hB hcs hl KK
      refine lv_tableOut (tgt := 981) X.1 X.2.1 d_Lw_law_40 (by have a0 := lv_neT hs_0 (a := 0) rfl; have a1 := lv_neT hs_1 (a := 1) rfl; have a2 := lv_neT hs_2 (a := 2) rfl; have a3 := lv_neT hs_3 (a := 3) rfl; have a4 := lv_neT hs_4 (a := 4) rfl; have a5 := lv_neT hs_5 (a := 5) rfl; have a6 := lv_neT hs_6 (a := 6) rfl; have a7 := lv_neT hs_7 (a := 7) rfl; have a8 := lv_neT hs_8 (a := 8) rfl; have a9 := lv_neT hs_9 (a := 9) rfl; have a10 := lv_neT hs_10 (a := 10) rfl; have a11 := lv_neT hs_11 (a := 11) rfl; have a12 := lv_neT hs_12 (a := 12) rfl; have a13 := lv_neT hs_13 (a := 13) rfl; omega) (by decide) ?_
      exact W.widen (by omega) (by omega) (KK M ad H locs ls hM (LI_up hLI (by omega)) (mExt_rf M ad) hl)
