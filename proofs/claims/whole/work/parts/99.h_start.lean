theorem arr_p {args : Array Value} {s : State} {t : FieldType} (h : (Cond.arrayClass t).before args s = true) : ∃ cA : ClassId, ArrOfT s cA t ∧ s.vm.findClass ("[" ++ t.toString) = some cA := by
  obtain ⟨cA, kA, comp, h1, h2, h3⟩ := Cond.arrayClass_spec h
  exact ⟨cA, fun n z => ⟨fun k h => (by cases h), kA, h2, comp, h3⟩, h1⟩
theorem arr_o {args : Array Value} {s : State} {C : String} (h : (Cond.arrayOver (.object C)).before args s = true) : ∃ cA : ClassId, ArrOfT s cA (.object C) ∧ va_RA s cA (.object C) := by
  obtain ⟨comp, cA, kA, h1, h2, h3, h4, h5⟩ := Cond.arrayOver_spec h
  exact ⟨cA, fun n z => ⟨fun k h => (by cases h), kA, h3, comp, h4⟩, kA, comp, h3, h4, h1, h5⟩
theorem txs_own : ∀ x ∈ txs, x.1 = "ScopeKeeper" := by decide +kernel
theorem txs_in : ∀ x ∈ txs, Cond.stringRef x.1 x.2.1 x.2.2 ∈ lw_tbl := by decide +kernel
theorem ni_in : ∀ a ∈ xcs, ∀ b ∈ xcs, a ≠ b → Cond.not (.castable a b) ∈ flatC (Jvm.Cond.and given_1 narrow_1) := by decide +kernel
set_option maxHeartbeats 4000000 in
set_option maxRecDepth 100000 in
/-- THE LAW, from its entry -/
theorem whole_start {p : Program} {e : Env} {s : State} {m : MethodId} {below : List Frame} {meth : Method} {c : Code} (l : Launch) (hst : l.stackTraces = false) {b L : Nat} {xs : Nat → Int32} (hL : L ≤ 3072) (C0 : lw_At p s m meth c b L xs) : W p l e room_1 s m #[Value.ref b] below meth c s.heap [] 0 0 (lw_Z below #[Value.ref b] s) (entryFrame m ([Value.ref b] : List Value).toArray 7) := by
  obtain ⟨hx, hb, hr, hml, hown, hts, hX, hbl, hlocks, hgv⟩ := C0
  have hgw : ∀ w ∈ gw, w.before #[Value.ref b] s = true := fun w h => hts w (List.mem_filter.mp h).1
  obtain ⟨c0, i0, hK0⟩ := u_known (C := "ScopeKeeper") (T := T_K) (N := 12) (n := 12) hgw ws_K (hts (.instantiable "ScopeKeeper" 12) (by decide +kernel))
  obtain ⟨c1, i1, hK1⟩ := u_known (C := "ScopeKeeper$Script") (T := T_Sc) (N := 4) (n := 4) hgw ws_Sc (hts (.instantiable "ScopeKeeper$Script" 4) (by decide +kernel))
  obtain ⟨c2, i2, hK2⟩ := u_known (C := "ScopeKeeper$Client") (T := T_Cl) (N := 3) (n := 3) hgw ws_Cl (hts (.instantiable "ScopeKeeper$Client" 3) (by decide +kernel))
  obtain ⟨c3, i3, hK3⟩ := u_known (C := "ScopeKeeper$Trace") (T := T_Tr) (N := 3) (n := 3) hgw ws_Tr (hts (.instantiable "ScopeKeeper$Trace" 3) (by decide +kernel))
  obtain ⟨c4, i4, hK4⟩ := u_known (C := "ScopeKeeper$Job") (T := T_Jb) (N := 6) (n := 6) hgw ws_Jb (hts (.instantiable "ScopeKeeper$Job" 6) (by decide +kernel))
  obtain ⟨c5, i5, hK5⟩ := u_known (C := "ScopeKeeper$Registration") (T := T_Rg) (N := 6) (n := 6) hgw ws_Rg (hts (.instantiable "ScopeKeeper$Registration" 6) (by decide +kernel))
  obtain ⟨c6, i6, hK6⟩ := u_known (C := "ScopeKeeper$Cache") (T := T_Ca) (N := 3) (n := 3) hgw ws_Ca (hts (.instantiable "ScopeKeeper$Cache" 3) (by decide +kernel))
  obtain ⟨c7, i7, hK7⟩ := u_known (C := "ScopeKeeper$Worker") (T := T_Wk) (N := 7) (n := 7) hgw ws_Wk (hts (.instantiable "ScopeKeeper$Worker" 7) (by decide +kernel))
  obtain ⟨c8, i8, hK8⟩ := u_known (C := "ScopeKeeperModel") (T := T_Md) (N := 36) (n := 36) hgw ws_Md (hts (.instantiable "ScopeKeeperModel" 36) (by decide +kernel))
  obtain ⟨a0, p0, q0⟩ := arr_p (hgw _ gw_int)
  obtain ⟨a1, p1, q1⟩ := arr_o (hgw _ ao_8)
  obtain ⟨a2, p2, q2⟩ := arr_o (hgw _ ao_9)
  obtain ⟨a3, p3, q3⟩ := arr_o (hgw _ ao_10)
  obtain ⟨a4, p4, q4⟩ := arr_o (hgw _ ao_11)
  obtain ⟨a5, p5, q5⟩ := arr_o (hgw _ ao_13)
  obtain ⟨a6, p6, q6⟩ := arr_p (hgw _ gw_long)
  obtain ⟨a7, p7, q7⟩ := arr_p (hgw _ gw_bool)
  obtain ⟨D, dA, hK⟩ : ∃ (D : va_G) (dA : Nat → ClassId), mK D dA s := by
    refine ⟨(fun k => if k = 0 then c0 else if k = 1 then c1 else if k = 2 then c2 else if k = 3 then c3 else if k = 4 then c4 else if k = 5 then c5 else if k = 6 then c6 else if k = 7 then c7 else c8, fun k => if k = 0 then i0 else if k = 1 then i1 else if k = 2 then i2 else if k = 3 then i3 else if k = 4 then i4 else if k = 5 then i5 else if k = 6 then i6 else if k = 7 then i7 else i8), fun k => if k = 0 then a0 else if k = 1 then a1 else if k = 2 then a2 else if k = 3 then a3 else if k = 4 then a4 else if k = 5 then a5 else if k = 6 then a6 else a7, fun k q hq => ?_, fun k q hq => ?_⟩
    · match k, hq with
      | 0, hq => cases hq; exact hK0
      | 1, hq => cases hq; exact hK1
      | 2, hq => cases hq; exact hK2
      | 3, hq => cases hq; exact hK3
      | 4, hq => cases hq; exact hK4
      | 5, hq => cases hq; exact hK5
      | 6, hq => cases hq; exact hK6
      | 7, hq => cases hq; exact hK7
      | 8, hq => cases hq; exact hK8
      | k + 9, hq => simp [classes] at hq
    · match k, hq with
      | 0, hq => cases hq; exact ⟨p0, q0⟩
      | 1, hq => cases hq; exact ⟨p1, q1⟩
      | 2, hq => cases hq; exact ⟨p2, q2⟩
      | 3, hq => cases hq; exact ⟨p3, q3⟩
      | 4, hq => cases hq; exact ⟨p4, q4⟩
      | 5, hq => cases hq; exact ⟨p5, q5⟩
      | 6, hq => cases hq; exact ⟨p6, q6⟩
      | 7, hq => cases hq; exact ⟨p7, q7⟩
      | k + 8, hq => simp [atl] at hq
  have hfl := flat_of_before _ hgv
  have hA9 : ∀ a : Nat, a < s.heap.size → ¬ s.heap.size ≤ a := fun a h => Nat.not_le.mpr h
  have hZ : mZ s.heap.size s := by
    refine ⟨vx_Zqof (hts (.laysStatic Bundle.tN "UNASSIGNED_STACK" Bundle.steD) (by decide +kernel)) (hts (.initialized Bundle.tN) (by decide +kernel)) (hfl (.isRef (.static Bundle.tN "UNASSIGNED_STACK" Bundle.steD)) (by decide +kernel)) hA9, vx_Zqof (hts (.laysStatic Bundle.tN "SUPPRESSED_SENTINEL" Bundle.listD) (by decide +kernel)) (hts (.initialized Bundle.tN) (by decide +kernel)) (hfl (.isRef (.static Bundle.tN "SUPPRESSED_SENTINEL" Bundle.listD)) (by decide +kernel)) hA9, fun x hx9 => ?_⟩
    have h1 := hts _ (txs_in x hx9)
    have hcur : s.vm.findClass x.1 = some c0 := by rw [txs_own x hx9]; exact hK0.2.1
    obtain ⟨-, -, -, sa, -, -, -, -, -, hev⟩ := Cond.stringRef_spec hcur h1
    exact ⟨sa, vk_R.of h1 hev⟩
  have hN : mN s := fun a ha b9 hb9 hn => va_Nc.of (hfl _ (ni_in a ha b9 hb9 hn))
  have X : mCx D dA s.heap.size p s m #[Value.ref b] c code "ScopeKeeperLaw" := ⟨hx, hb, hown, hgw, hK, hZ⟩
  have hM : mSt D dA s.heap.size M00 (fun _ _ => 0) s.heap s.heap [] := ⟨⟨fun k i h => absurd h (Nat.not_lt_zero _), fun k i k' i' h => absurd h (Nat.not_lt_zero _), fun k i j t q h => absurd h (Nat.not_lt_zero _)⟩, va_S.rf, Nat.le_refl _⟩
  have hl := lv_entry ([.ref b]) (n := 7) (Nat.le_of_ble_eq_true rfl)
  rw [lg_entry_eq]
  generalize (lg_sl ([.ref b]) ++ List.replicate (7 - (lg_sl ([.ref b])).length) Slot.unset).toArray = ls at hl ⊢
  have hl : lv_has ls 7 [(0, .ref b)] := hl
  refine r_new (k := 0) X hM n_Lw_8 (Nat.le_of_ble_eq_true rfl) (Nat.le_of_ble_eq_true rfl) d_Lw_law_0 (fun k1 H ad1 hM hE1 hk1 => ?_)
  have hk1 : ad1 0 0 = k1 := hk1
  subst hk1
  refine lv_dup X.1 X.2.1 d_Lw_law_3 rfl ?_
  refine r_cI (As := []) (rest := [.ref (ad1 0 0)]) X hml hl.1 hM (k_K_init l D dA s.heap.size M01 ad1 M01_0 kz16) c_Lw_62 v_K_init rfl (Nat.le_of_ble_eq_true rfl) ⟨rfl, rfl, Nat.le_of_ble_eq_true rfl, Nat.le_of_ble_eq_true rfl⟩ ⟨Nat.le_of_ble_eq_true rfl, Nat.le_of_ble_eq_true rfl⟩ d_Lw_law_4 ?_
  intro rv Mx ad2 H locs hP hM hE2
  obtain ⟨e1, e2⟩ := hP
  subst rv; subst Mx
  have hM : mSt D dA s.heap.size M02 ad2 s.heap H locs := hM
  show W _ _ _ _ _ _ _ _ _ _ _ _ _ _ _ (F0 m 7 ls [.ref (ad1 0 0)])
  refine lv_astore_n (lv' := [(1, .ref (ad1 0 0)), (0, .ref b)]) X.1 X.2.1 d_Lw_law_7 rfl hl (by decide) rfl (fun ls hl => ?_)
  refine r_new (k := 18) X hM n_Lw_63 (Nat.le_of_ble_eq_true rfl) (Nat.le_of_ble_eq_true rfl) d_Lw_law_8 (fun k3 H ad3 hM hE3 hk3 => ?_)
  rw [M02_18] at hk3
  subst hk3
  refine lv_dup X.1 X.2.1 d_Lw_law_11 rfl ?_
  refine r_cI (As := []) (rest := [.ref (ad3 18 0)]) X hml hl.1 hM (k_Md_init l D dA s.heap.size (sn M02 18) ad3 M02_h18 M02_hz) c_Lw_65 v_Md_init rfl (Nat.le_of_ble_eq_true rfl) ⟨rfl, rfl, Nat.le_of_ble_eq_true rfl, Nat.le_of_ble_eq_true rfl⟩ ⟨Nat.le_of_ble_eq_true rfl, Nat.le_of_ble_eq_true rfl⟩ d_Lw_law_12 ?_
  intro rv Mx ad4 H locs hP hM hE4
  obtain ⟨e1, e2⟩ := hP
  subst rv; subst Mx
  have hM : mSt D dA s.heap.size M03 ad4 s.heap H locs := hM
  show W _ _ _ _ _ _ _ _ _ _ _ _ _ _ _ (F0 m 15 ls [.ref (ad3 18 0)])
  refine lv_astore_n (lv' := [(2, .ref (ad3 18 0)), (1, .ref (ad1 0 0)), (0, .ref b)]) X.1 X.2.1 d_Lw_law_15 rfl hl (by decide) rfl (fun ls hl => ?_)
  refine lv_iconst (v := 1) X.1 X.2.1 d_Lw_law_16 (by decide) ?_
  refine r_newl (k := 17) X hM a_out (fun _ => rfl) gw_long rfl (by decide) (Nat.le_of_ble_eq_true rfl) (Nat.le_of_ble_eq_true rfl) d_Lw_law_17 (fun k5 H ad5 hM hE5 hk5 => ?_)
  rw [M03_17] at hk5
  subst hk5
  refine lv_astore_n (lv' := [(3, .ref (ad5 17 0)), (2, .ref (ad3 18 0)), (1, .ref (ad1 0 0)), (0, .ref b)]) X.1 X.2.1 d_Lw_law_19 rfl hl (by decide) rfl (fun ls hl => ?_)
  refine lv_iconst (v := 0) X.1 X.2.1 d_Lw_law_20 (by decide) ?_
  refine lv_istore (lv' := [(4, .int 0), (3, .ref (ad5 17 0)), (2, .ref (ad3 18 0)), (1, .ref (ad1 0 0)), (0, .ref b)]) X.1 X.2.1 d_Lw_law_21 hl (by decide) rfl (fun ls hl => ?_)
  have g0 : 0 < gn M01 0 := by rw [M01_0]; omega
  have g02 : 0 < gn M02 0 := Nat.lt_of_lt_of_le g0 (hE2.2 0)
  have f0 : ad5 0 0 = ad1 0 0 := by
    have x2 : ad2 0 0 = ad1 0 0 := hE2.1 0 0 g0
    have x3 : ad3 0 0 = ad2 0 0 := hE3 0 0 g02
    have g03 : 0 < gn (sn M02 18) 0 := sn_up g02
    have x4 : ad4 0 0 = ad3 0 0 := hE4.1 0 0 g03
    have x5 : ad5 0 0 = ad4 0 0 := hE5 0 0 (Nat.lt_of_lt_of_le g03 (hE4.2 0))
    rw [x5, x4, x3, x2]
  have f18 : ad5 18 0 = ad3 18 0 := by
    have x4 : ad4 18 0 = ad3 18 0 := hE4.1 18 0 M02_h18
    have x5 : ad5 18 0 = ad4 18 0 := hE5 18 0 (Nat.lt_of_lt_of_le M02_h18 (hE4.2 18))
    rw [x5, x4]
  rw [← f0, ← f18] at hl
  exact law_loop X hst hml hN hX hbl hL hr hlocks 513 0 M04 ad5 H locs ls _ _ (by omega) (by omega) hM M04_LI (Nat.le_of_ble_eq_true rfl) (Nat.le_of_ble_eq_true rfl) hl
